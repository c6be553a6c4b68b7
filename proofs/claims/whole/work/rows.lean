section
/-- a private method of a class that the tables say can be made, by its rows of tables_1 -/
def lw_okq (q : MethodName × Nat) : Prop := (q.1.cls ≠ "java/lang/invoke/MethodHandle" ∧ q.1.cls ≠ "java/lang/invoke/VarHandle") ∧ Cond.instantiable q.1.cls q.2 ∈ tables_1 ∧ Cond.privateMethod q.1 ∈ tables_1 ∧ Cond.instanceMethod q.1 ∈ tables_1
theorem lw_p0 : lw_okq (⟨"ProcessRoom", "isMade", "(I)Z"⟩, 12) := ⟨⟨by decide +kernel, by decide +kernel⟩, List.mem_of_getElem? (i := 4) (by decide +kernel), List.mem_of_getElem? (i := 57) (by decide +kernel), List.mem_of_getElem? (i := 58) (by decide +kernel)⟩
theorem lw_p1 : lw_okq (⟨"ProcessRoom", "wake", "(I)V"⟩, 12) := ⟨⟨by decide +kernel, by decide +kernel⟩, List.mem_of_getElem? (i := 4) (by decide +kernel), List.mem_of_getElem? (i := 72) (by decide +kernel), List.mem_of_getElem? (i := 73) (by decide +kernel)⟩
theorem lw_p2 : lw_okq (⟨"ProcessRoom", "enter", "(II)V"⟩, 12) := ⟨⟨by decide +kernel, by decide +kernel⟩, List.mem_of_getElem? (i := 4) (by decide +kernel), List.mem_of_getElem? (i := 80) (by decide +kernel), List.mem_of_getElem? (i := 81) (by decide +kernel)⟩
theorem lw_p3 : lw_okq (⟨"ProcessRoom", "want", "(I)V"⟩, 12) := ⟨⟨by decide +kernel, by decide +kernel⟩, List.mem_of_getElem? (i := 4) (by decide +kernel), List.mem_of_getElem? (i := 84) (by decide +kernel), List.mem_of_getElem? (i := 85) (by decide +kernel)⟩
theorem lw_p4 : lw_okq (⟨"ProcessRoom", "putAside", "()V"⟩, 12) := ⟨⟨by decide +kernel, by decide +kernel⟩, List.mem_of_getElem? (i := 4) (by decide +kernel), List.mem_of_getElem? (i := 92) (by decide +kernel), List.mem_of_getElem? (i := 93) (by decide +kernel)⟩
theorem lw_p5 : lw_okq (⟨"ProcessRoom", "firstReady", "()I"⟩, 12) := ⟨⟨by decide +kernel, by decide +kernel⟩, List.mem_of_getElem? (i := 4) (by decide +kernel), List.mem_of_getElem? (i := 96) (by decide +kernel), List.mem_of_getElem? (i := 97) (by decide +kernel)⟩
theorem lw_p6 : lw_okq (⟨"ProcessRoom", "leave", "(I)V"⟩, 12) := ⟨⟨by decide +kernel, by decide +kernel⟩, List.mem_of_getElem? (i := 4) (by decide +kernel), List.mem_of_getElem? (i := 104) (by decide +kernel), List.mem_of_getElem? (i := 105) (by decide +kernel)⟩
theorem lw_p7 : lw_okq (⟨"ProcessRoom", "signalPosted", "()V"⟩, 12) := ⟨⟨by decide +kernel, by decide +kernel⟩, List.mem_of_getElem? (i := 4) (by decide +kernel), List.mem_of_getElem? (i := 131) (by decide +kernel), List.mem_of_getElem? (i := 132) (by decide +kernel)⟩
theorem lw_p8 : lw_okq (⟨"ProcessRoom", "change", "()V"⟩, 12) := ⟨⟨by decide +kernel, by decide +kernel⟩, List.mem_of_getElem? (i := 4) (by decide +kernel), List.mem_of_getElem? (i := 136) (by decide +kernel), List.mem_of_getElem? (i := 137) (by decide +kernel)⟩
theorem lw_p9 : lw_okq (⟨"ProcessRoomModel", "isMade", "(I)Z"⟩, 13) := ⟨⟨by decide +kernel, by decide +kernel⟩, List.mem_of_getElem? (i := 188) (by decide +kernel), List.mem_of_getElem? (i := 250) (by decide +kernel), List.mem_of_getElem? (i := 251) (by decide +kernel)⟩
theorem lw_p10 : lw_okq (⟨"ProcessRoomModel", "presentOne", "()I"⟩, 13) := ⟨⟨by decide +kernel, by decide +kernel⟩, List.mem_of_getElem? (i := 188) (by decide +kernel), List.mem_of_getElem? (i := 254) (by decide +kernel), List.mem_of_getElem? (i := 255) (by decide +kernel)⟩
theorem lw_p11 : lw_okq (⟨"ProcessRoomModel", "wake", "(I)V"⟩, 13) := ⟨⟨by decide +kernel, by decide +kernel⟩, List.mem_of_getElem? (i := 188) (by decide +kernel), List.mem_of_getElem? (i := 258) (by decide +kernel), List.mem_of_getElem? (i := 259) (by decide +kernel)⟩
theorem lw_p12 : lw_okq (⟨"ProcessRoomModel", "enter", "(II)V"⟩, 13) := ⟨⟨by decide +kernel, by decide +kernel⟩, List.mem_of_getElem? (i := 188) (by decide +kernel), List.mem_of_getElem? (i := 262) (by decide +kernel), List.mem_of_getElem? (i := 263) (by decide +kernel)⟩
theorem lw_p13 : lw_okq (⟨"ProcessRoomModel", "want", "(I)V"⟩, 13) := ⟨⟨by decide +kernel, by decide +kernel⟩, List.mem_of_getElem? (i := 188) (by decide +kernel), List.mem_of_getElem? (i := 266) (by decide +kernel), List.mem_of_getElem? (i := 267) (by decide +kernel)⟩
theorem lw_p14 : lw_okq (⟨"ProcessRoomModel", "putAside", "()V"⟩, 13) := ⟨⟨by decide +kernel, by decide +kernel⟩, List.mem_of_getElem? (i := 188) (by decide +kernel), List.mem_of_getElem? (i := 274) (by decide +kernel), List.mem_of_getElem? (i := 275) (by decide +kernel)⟩
theorem lw_p15 : lw_okq (⟨"ProcessRoomModel", "find", "(II)I"⟩, 13) := ⟨⟨by decide +kernel, by decide +kernel⟩, List.mem_of_getElem? (i := 188) (by decide +kernel), List.mem_of_getElem? (i := 278) (by decide +kernel), List.mem_of_getElem? (i := 279) (by decide +kernel)⟩
def lw_privs_1 : List (MethodName × Nat) := [(⟨"ProcessRoom", "isMade", "(I)Z"⟩, 12), (⟨"ProcessRoom", "wake", "(I)V"⟩, 12), (⟨"ProcessRoom", "enter", "(II)V"⟩, 12), (⟨"ProcessRoom", "want", "(I)V"⟩, 12), (⟨"ProcessRoom", "putAside", "()V"⟩, 12), (⟨"ProcessRoom", "firstReady", "()I"⟩, 12), (⟨"ProcessRoom", "leave", "(I)V"⟩, 12), (⟨"ProcessRoom", "signalPosted", "()V"⟩, 12), (⟨"ProcessRoom", "change", "()V"⟩, 12), (⟨"ProcessRoomModel", "isMade", "(I)Z"⟩, 13), (⟨"ProcessRoomModel", "presentOne", "()I"⟩, 13), (⟨"ProcessRoomModel", "wake", "(I)V"⟩, 13), (⟨"ProcessRoomModel", "enter", "(II)V"⟩, 13), (⟨"ProcessRoomModel", "want", "(I)V"⟩, 13), (⟨"ProcessRoomModel", "putAside", "()V"⟩, 13), (⟨"ProcessRoomModel", "find", "(II)I"⟩, 13)]
theorem lw_r1 : ∀ q ∈ lw_privs_1, lw_okq q := List.forall_mem_cons.mpr ⟨lw_p0, List.forall_mem_cons.mpr ⟨lw_p1, List.forall_mem_cons.mpr ⟨lw_p2, List.forall_mem_cons.mpr ⟨lw_p3, List.forall_mem_cons.mpr ⟨lw_p4, List.forall_mem_cons.mpr ⟨lw_p5, List.forall_mem_cons.mpr ⟨lw_p6, List.forall_mem_cons.mpr ⟨lw_p7, List.forall_mem_cons.mpr ⟨lw_p8, List.forall_mem_cons.mpr ⟨lw_p9, List.forall_mem_cons.mpr ⟨lw_p10, List.forall_mem_cons.mpr ⟨lw_p11, List.forall_mem_cons.mpr ⟨lw_p12, List.forall_mem_cons.mpr ⟨lw_p13, List.forall_mem_cons.mpr ⟨lw_p14, List.forall_mem_cons.mpr ⟨lw_p15, fun _ h => absurd h List.not_mem_nil⟩⟩⟩⟩⟩⟩⟩⟩⟩⟩⟩⟩⟩⟩⟩⟩
theorem lw_p16 : lw_okq (⟨"ProcessRoomModel", "give", "(I)V"⟩, 13) := ⟨⟨by decide +kernel, by decide +kernel⟩, List.mem_of_getElem? (i := 188) (by decide +kernel), List.mem_of_getElem? (i := 297) (by decide +kernel), List.mem_of_getElem? (i := 298) (by decide +kernel)⟩
def lw_privs_2 : List (MethodName × Nat) := [(⟨"ProcessRoomModel", "give", "(I)V"⟩, 13)]
theorem lw_r2 : ∀ q ∈ lw_privs_2, lw_okq q := List.forall_mem_cons.mpr ⟨lw_p16, fun _ h => absurd h List.not_mem_nil⟩
def lw_privs : List (MethodName × Nat) := lw_privs_1 ++ (lw_privs_2)
def lw_tbl : List Cond := k2_sels lw_privs ++ tables_1
theorem lw_privs_ok : ∀ q ∈ lw_privs, lw_okq q := by
  show ∀ q ∈ lw_privs_1 ++ (lw_privs_2), lw_okq q
  exact List.forall_mem_append.mpr ⟨lw_r1, lw_r2⟩
/-! ===== BEGIN words of one list among another's, by their places ===== -/
theorem goodIn_r {big : List Cond} (ws : List Cond) (ps : List Nat) (hp : ws = ps.filterMap (fun i => big[i]?)) (h : ws.all goodWord = true) : GoodIn big ws := by
  intro w hw
  have h1 := List.all_eq_true.mp h w hw
  rw [hp] at hw
  obtain ⟨i, -, hi⟩ := List.mem_filterMap.mp hw
  have hm : w ∈ big := by first | exact List.mem_of_getElem? hi | exact List.getElem?_mem hi
  exact ⟨hm, good_of_word h1⟩
theorem goodIn_app {big a b : List Cond} (ha : GoodIn big a) (hb : GoodIn big b) : GoodIn big (a ++ b) := fun w h => (List.mem_append.mp h).elim (ha w) (hb w)
theorem goodIn_ca {big a b : List Cond} {c : Cond} (ha : GoodIn big (c :: a)) (hb : GoodIn big b) : GoodIn big (c :: (a ++ b)) := fun w h => (List.mem_cons.mp h).elim (fun e => ha w (List.mem_cons.mpr (Or.inl e))) (fun h => (List.mem_append.mp h).elim (fun h => ha w (List.mem_cons.mpr (Or.inr h))) (hb w))
theorem goodIn_sub {big ws : List Cond} (hm : ∀ w ∈ ws, w ∈ big) (h : ws.all goodWord = true) : GoodIn big ws := fun w hw => ⟨hm w hw, good_of_word (List.all_eq_true.mp h w hw)⟩
/-! ===== END ===== -/

/-! ===== BEGIN printed: names, fields, word lists, decode rows ===== -/
def RX0 : String := "ProcessRoom"
def TX0 : u_T := fun k => match k with
  | 0 => ("ProcessRoom", "priorities", "[I", true)
  | 1 => ("ProcessRoom", "places", "[I", true)
  | 2 => ("ProcessRoom", "rows", "[I", true)
  | 3 => ("ProcessRoom", "line", "[I", true)
  | 4 => ("ProcessRoom", "lineLength", "I", false)
  | 5 => ("ProcessRoom", "extras", "[I", true)
  | 6 => ("ProcessRoom", "posts", "[I", true)
  | 7 => ("ProcessRoom", "postCount", "I", false)
  | 8 => ("ProcessRoom", "active", "I", false)
  | 9 => ("ProcessRoom", "here", "I", false)
  | 10 => ("ProcessRoom", "wanted", "Z", false)
  | _ => ("ProcessRoom", "wantedOne", "I", false)
def tyX0 : Nat → FieldType := fun k => match k with
  | 0 => .array .int
  | 1 => .array .int
  | 2 => .array .int
  | 3 => .array .int
  | 4 => .int
  | 5 => .array .int
  | 6 => .array .int
  | 7 => .int
  | 8 => .int
  | 9 => .int
  | 10 => .boolean
  | _ => .int
abbrev wsX00 : List Cond := u_ws RX0 TX0 12
theorem nmX0 : ∀ a, a < 12 → ∀ b, b < 12 → a ≠ b → (TX0 a).2.1 ≠ (TX0 b).2.1 := by decide +kernel
theorem tyX0_ok : ∀ k, k < 12 → parseFieldDescriptor (TX0 k).2.2.1 = some (tyX0 k) := by decide +kernel
abbrev cX0_init : ByteArray := prog_1_method_1_code
def yX0_init : MethodName := ⟨RX0, "<init>", "()V"⟩
abbrev cX0_make : ByteArray := prog_1_method_2_code
def yX0_make : MethodName := ⟨RX0, "make", "(III)Z"⟩
abbrev cX0_resume : ByteArray := prog_1_method_3_code
def yX0_resume : MethodName := ⟨RX0, "resume", "(I)Z"⟩
abbrev cX0_suspend : ByteArray := prog_1_method_4_code
def yX0_suspend : MethodName := ⟨RX0, "suspend", "()I"⟩
abbrev cX0_end : ByteArray := prog_1_method_5_code
def yX0_end : MethodName := ⟨RX0, "end", "()I"⟩
abbrev cX0_await : ByteArray := prog_1_method_6_code
def yX0_await : MethodName := ⟨RX0, "await", "(I)I"⟩
abbrev cX0_signal : ByteArray := prog_1_method_7_code
def yX0_signal : MethodName := ⟨RX0, "signal", "(I)Z"⟩
abbrev cX0_post : ByteArray := prog_1_method_8_code
def yX0_post : MethodName := ⟨RX0, "post", "(I)I"⟩
abbrev cX0_step : ByteArray := prog_1_method_9_code
def yX0_step : MethodName := ⟨RX0, "step", "()I"⟩
abbrev cX0_work : ByteArray := prog_1_method_10_code
def yX0_work : MethodName := ⟨RX0, "work", "(I)Z"⟩
abbrev cX0_take : ByteArray := prog_1_method_11_code
def yX0_take : MethodName := ⟨RX0, "take", "(I)Z"⟩
abbrev cX0_rate : ByteArray := prog_1_method_12_code
def yX0_rate : MethodName := ⟨RX0, "rate", "(II)I"⟩
abbrev cX0_yield : ByteArray := prog_1_method_13_code
def yX0_yield : MethodName := ⟨RX0, "yield", "()Z"⟩
abbrev cX0_active : ByteArray := prog_1_method_14_code
def yX0_active : MethodName := ⟨RX0, "active", "()I"⟩
abbrev cX0_present : ByteArray := prog_1_method_15_code
def yX0_present : MethodName := ⟨RX0, "present", "()I"⟩
abbrev cX0_wanted : ByteArray := prog_1_method_16_code
def yX0_wanted : MethodName := ⟨RX0, "wanted", "()Z"⟩
abbrev cX0_here : ByteArray := prog_1_method_17_code
def yX0_here : MethodName := ⟨RX0, "here", "()I"⟩
abbrev cX0_place : ByteArray := prog_1_method_18_code
def yX0_place : MethodName := ⟨RX0, "place", "(I)I"⟩
abbrev cX0_priority : ByteArray := prog_1_method_19_code
def yX0_priority : MethodName := ⟨RX0, "priority", "(I)I"⟩
abbrev cX0_row : ByteArray := prog_1_method_20_code
def yX0_row : MethodName := ⟨RX0, "row", "(I)I"⟩
abbrev cX0_at : ByteArray := prog_1_method_21_code
def yX0_at : MethodName := ⟨RX0, "at", "(II)I"⟩
abbrev cX0_extra : ByteArray := prog_1_method_22_code
def yX0_extra : MethodName := ⟨RX0, "extra", "(I)I"⟩
abbrev cX0_posted : ByteArray := prog_1_method_23_code
def yX0_posted : MethodName := ⟨RX0, "posted", "(I)I"⟩
abbrev cX0_isProcess : ByteArray := prog_1_method_24_code
def yX0_isProcess : MethodName := ⟨RX0, "isProcess", "(I)Z"⟩
abbrev cX0_isSemaphore : ByteArray := prog_1_method_25_code
def yX0_isSemaphore : MethodName := ⟨RX0, "isSemaphore", "(I)Z"⟩
abbrev cX0_isPriority : ByteArray := prog_1_method_26_code
def yX0_isPriority : MethodName := ⟨RX0, "isPriority", "(I)Z"⟩
abbrev cX0_isMade : ByteArray := prog_1_method_27_code
def yX0_isMade : MethodName := ⟨RX0, "isMade", "(I)Z"⟩
abbrev cX0_wake : ByteArray := prog_1_method_28_code
def yX0_wake : MethodName := ⟨RX0, "wake", "(I)V"⟩
abbrev cX0_putAside : ByteArray := prog_1_method_29_code
def yX0_putAside : MethodName := ⟨RX0, "putAside", "()V"⟩
abbrev cX0_want : ByteArray := prog_1_method_30_code
def yX0_want : MethodName := ⟨RX0, "want", "(I)V"⟩
abbrev cX0_firstReady : ByteArray := prog_1_method_31_code
def yX0_firstReady : MethodName := ⟨RX0, "firstReady", "()I"⟩
abbrev cX0_enter : ByteArray := prog_1_method_32_code
def yX0_enter : MethodName := ⟨RX0, "enter", "(II)V"⟩
abbrev cX0_leave : ByteArray := prog_1_method_33_code
def yX0_leave : MethodName := ⟨RX0, "leave", "(I)V"⟩
abbrev cX0_signalPosted : ByteArray := prog_1_method_34_code
def yX0_signalPosted : MethodName := ⟨RX0, "signalPosted", "()V"⟩
abbrev cX0_change : ByteArray := prog_1_method_35_code
def yX0_change : MethodName := ⟨RX0, "change", "()V"⟩
def RX1 : String := "ProcessRoomModel"
def TX1 : u_T := fun k => match k with
  | 0 => ("ProcessRoomModel", "made", "[Z", true)
  | 1 => ("ProcessRoomModel", "priorities", "[I", true)
  | 2 => ("ProcessRoomModel", "places", "[I", true)
  | 3 => ("ProcessRoomModel", "rows", "[I", true)
  | 4 => ("ProcessRoomModel", "when", "[J", true)
  | 5 => ("ProcessRoomModel", "now", "J", false)
  | 6 => ("ProcessRoomModel", "extras", "[I", true)
  | 7 => ("ProcessRoomModel", "posts", "I", false)
  | 8 => ("ProcessRoomModel", "posted", "[I", true)
  | 9 => ("ProcessRoomModel", "active", "I", false)
  | 10 => ("ProcessRoomModel", "here", "I", false)
  | 11 => ("ProcessRoomModel", "wanted", "Z", false)
  | _ => ("ProcessRoomModel", "change", "I", false)
def tyX1 : Nat → FieldType := fun k => match k with
  | 0 => .array .boolean
  | 1 => .array .int
  | 2 => .array .int
  | 3 => .array .int
  | 4 => .array .long
  | 5 => .long
  | 6 => .array .int
  | 7 => .int
  | 8 => .array .int
  | 9 => .int
  | 10 => .int
  | 11 => .boolean
  | _ => .int
abbrev wsX10 : List Cond := u_ws RX1 TX1 13
theorem nmX1 : ∀ a, a < 13 → ∀ b, b < 13 → a ≠ b → (TX1 a).2.1 ≠ (TX1 b).2.1 := by decide +kernel
theorem tyX1_ok : ∀ k, k < 13 → parseFieldDescriptor (TX1 k).2.2.1 = some (tyX1 k) := by decide +kernel
abbrev cX1_init : ByteArray := prog_3_method_1_code
def yX1_init : MethodName := ⟨RX1, "<init>", "()V"⟩
abbrev cX1_make : ByteArray := prog_3_method_13_code
def yX1_make : MethodName := ⟨RX1, "make", "(III)Z"⟩
def RL : String := "ProcessRoomLaw"
abbrev cL_law : ByteArray := code
def yL_law : MethodName := ⟨RL, "law", "([I)Z"⟩
def wsX0_init : List Cond := .code yX0_init cX0_init 1 none :: ([.methodLink RX0 1 objectInit, .instanceMethod objectInit, .code objectInit ⟨#[0xb1]⟩ 1 none, .arrayClass .int, .fieldLink RX0 9 "ProcessRoom" "priorities" "[I", .fieldLink RX0 13 "ProcessRoom" "places" "[I", .fieldLink RX0 16 "ProcessRoom" "rows" "[I", .fieldLink RX0 19 "ProcessRoom" "line" "[I", .fieldLink RX0 22 "ProcessRoom" "lineLength" "I", .fieldLink RX0 26 "ProcessRoom" "extras" "[I", .fieldLink RX0 29 "ProcessRoom" "posts" "[I", .fieldLink RX0 32 "ProcessRoom" "postCount" "I", .fieldLink RX0 35 "ProcessRoom" "active" "I", .fieldLink RX0 38 "ProcessRoom" "here" "I", .fieldLink RX0 41 "ProcessRoom" "wanted" "Z", .fieldLink RX0 45 "ProcessRoom" "wantedOne" "I"] ++ wsX00)
def wsX0_isProcess : List Cond := .code yX0_isProcess cX0_isProcess 1 (some .boolean) :: ([])
def wsX0_isMade : List Cond := .code yX0_isMade cX0_isMade 2 (some .boolean) :: ([.fieldLink RX0 9 "ProcessRoom" "priorities" "[I", .methodLink RX0 48 yX0_isProcess, .static yX0_isProcess, .initialized RX0, .code yX0_isProcess cX0_isProcess 1 (some .boolean)] ++ wsX00)
def wsX0_isPriority : List Cond := .code yX0_isPriority cX0_isPriority 1 (some .boolean) :: ([])
def wsX0_make : List Cond := .code yX0_make cX0_make 4 (some .boolean) :: ([.fieldLink RX0 9 "ProcessRoom" "priorities" "[I", .fieldLink RX0 13 "ProcessRoom" "places" "[I", .methodLink RX0 48 yX0_isProcess, .static yX0_isProcess, .initialized RX0, .code yX0_isProcess cX0_isProcess 1 (some .boolean), .methodLink RX0 52 yX0_isMade, .instanceMethod yX0_isMade, .selects RX0 yX0_isMade yX0_isMade, .code yX0_isMade cX0_isMade 2 (some .boolean), .methodLink RX0 55 yX0_isPriority, .static yX0_isPriority, .code yX0_isPriority cX0_isPriority 1 (some .boolean)] ++ wsX00)
def wsX0_present : List Cond := .code yX0_present cX0_present 1 (some .int) :: ([.fieldLink RX0 41 "ProcessRoom" "wanted" "Z", .fieldLink RX0 45 "ProcessRoom" "wantedOne" "I", .fieldLink RX0 35 "ProcessRoom" "active" "I"] ++ wsX00)
def wsX0_priority : List Cond := .code yX0_priority cX0_priority 2 (some .int) :: ([.fieldLink RX0 9 "ProcessRoom" "priorities" "[I", .methodLink RX0 52 yX0_isMade, .instanceMethod yX0_isMade, .selects RX0 yX0_isMade yX0_isMade, .initialized RX0, .code yX0_isMade cX0_isMade 2 (some .boolean), .methodLink RX0 48 yX0_isProcess, .static yX0_isProcess, .code yX0_isProcess cX0_isProcess 1 (some .boolean)] ++ wsX00)
def wsX0_enter : List Cond := .code yX0_enter cX0_enter 3 none :: ([.fieldLink RX0 22 "ProcessRoom" "lineLength" "I", .fieldLink RX0 16 "ProcessRoom" "rows" "[I", .fieldLink RX0 19 "ProcessRoom" "line" "[I", .methodLink RX0 48 yX0_isProcess, .static yX0_isProcess, .initialized RX0, .code yX0_isProcess cX0_isProcess 1 (some .boolean)] ++ wsX00)
def wsX0_want : List Cond := .code yX0_want cX0_want 2 none :: ([.fieldLink RX0 41 "ProcessRoom" "wanted" "Z", .fieldLink RX0 45 "ProcessRoom" "wantedOne" "I"] ++ wsX00)
def wsX0_wake_r1 : List Cond := [Cond.methodLink RX0 58 yX0_present, Cond.instanceMethod yX0_present, Cond.selects RX0 yX0_present yX0_present, Cond.initialized RX0, Cond.code yX0_present cX0_present 1 (some .int), Cond.fieldLink RX0 41 "ProcessRoom" "wanted" "Z", Cond.fieldLink RX0 45 "ProcessRoom" "wantedOne" "I", Cond.fieldLink RX0 35 "ProcessRoom" "active" "I", Cond.methodLink RX0 89 yX0_priority, Cond.instanceMethod yX0_priority, Cond.selects RX0 yX0_priority yX0_priority, Cond.code yX0_priority cX0_priority 2 (some .int), Cond.fieldLink RX0 9 "ProcessRoom" "priorities" "[I", Cond.methodLink RX0 52 yX0_isMade, Cond.instanceMethod yX0_isMade, Cond.selects RX0 yX0_isMade yX0_isMade, Cond.code yX0_isMade cX0_isMade 2 (some .boolean), Cond.methodLink RX0 48 yX0_isProcess, Cond.static yX0_isProcess, Cond.code yX0_isProcess cX0_isProcess 1 (some .boolean), Cond.methodLink RX0 72 yX0_enter, Cond.instanceMethod yX0_enter, Cond.selects RX0 yX0_enter yX0_enter, Cond.code yX0_enter cX0_enter 3 none]
def wsX0_wake_r2 : List Cond := [Cond.fieldLink RX0 22 "ProcessRoom" "lineLength" "I", Cond.fieldLink RX0 16 "ProcessRoom" "rows" "[I", Cond.fieldLink RX0 19 "ProcessRoom" "line" "[I", Cond.methodLink RX0 93 yX0_want, Cond.instanceMethod yX0_want, Cond.selects RX0 yX0_want yX0_want, Cond.code yX0_want cX0_want 2 none]
def wsX0_wake : List Cond := .code yX0_wake cX0_wake 3 none :: ((wsX0_wake_r1 ++ wsX0_wake_r2) ++ wsX00)
def wsX0_resume_r1 : List Cond := [Cond.fieldLink RX0 16 "ProcessRoom" "rows" "[I", Cond.fieldLink RX0 35 "ProcessRoom" "active" "I", Cond.methodLink RX0 52 yX0_isMade, Cond.instanceMethod yX0_isMade, Cond.selects RX0 yX0_isMade yX0_isMade, Cond.initialized RX0, Cond.code yX0_isMade cX0_isMade 2 (some .boolean), Cond.fieldLink RX0 9 "ProcessRoom" "priorities" "[I", Cond.methodLink RX0 48 yX0_isProcess, Cond.static yX0_isProcess, Cond.code yX0_isProcess cX0_isProcess 1 (some .boolean), Cond.methodLink RX0 58 yX0_present, Cond.instanceMethod yX0_present, Cond.selects RX0 yX0_present yX0_present, Cond.code yX0_present cX0_present 1 (some .int), Cond.fieldLink RX0 41 "ProcessRoom" "wanted" "Z", Cond.fieldLink RX0 45 "ProcessRoom" "wantedOne" "I", Cond.methodLink RX0 62 yX0_wake, Cond.instanceMethod yX0_wake, Cond.selects RX0 yX0_wake yX0_wake, Cond.code yX0_wake cX0_wake 3 none, Cond.methodLink RX0 89 yX0_priority, Cond.instanceMethod yX0_priority, Cond.selects RX0 yX0_priority yX0_priority]
def wsX0_resume_r2 : List Cond := [Cond.code yX0_priority cX0_priority 2 (some .int), Cond.methodLink RX0 72 yX0_enter, Cond.instanceMethod yX0_enter, Cond.selects RX0 yX0_enter yX0_enter, Cond.code yX0_enter cX0_enter 3 none, Cond.fieldLink RX0 22 "ProcessRoom" "lineLength" "I", Cond.fieldLink RX0 19 "ProcessRoom" "line" "[I", Cond.methodLink RX0 93 yX0_want, Cond.instanceMethod yX0_want, Cond.selects RX0 yX0_want yX0_want, Cond.code yX0_want cX0_want 2 none]
def wsX0_resume : List Cond := .code yX0_resume cX0_resume 2 (some .boolean) :: ((wsX0_resume_r1 ++ wsX0_resume_r2) ++ wsX00)
def wsX0_at : List Cond := .code yX0_at cX0_at 6 (some .int) :: ([.fieldLink RX0 22 "ProcessRoom" "lineLength" "I", .fieldLink RX0 19 "ProcessRoom" "line" "[I", .fieldLink RX0 16 "ProcessRoom" "rows" "[I", .methodLink RX0 48 yX0_isProcess, .static yX0_isProcess, .initialized RX0, .code yX0_isProcess cX0_isProcess 1 (some .boolean)] ++ wsX00)
def wsX0_firstReady : List Cond := .code yX0_firstReady cX0_firstReady 3 (some .int) :: ([.methodLink RX0 76 yX0_at, .instanceMethod yX0_at, .selects RX0 yX0_at yX0_at, .initialized RX0, .code yX0_at cX0_at 6 (some .int), .fieldLink RX0 22 "ProcessRoom" "lineLength" "I", .fieldLink RX0 19 "ProcessRoom" "line" "[I", .fieldLink RX0 16 "ProcessRoom" "rows" "[I", .methodLink RX0 48 yX0_isProcess, .static yX0_isProcess, .code yX0_isProcess cX0_isProcess 1 (some .boolean)] ++ wsX00)
def wsX0_leave : List Cond := .code yX0_leave cX0_leave 4 none :: ([.fieldLink RX0 16 "ProcessRoom" "rows" "[I", .fieldLink RX0 22 "ProcessRoom" "lineLength" "I", .fieldLink RX0 19 "ProcessRoom" "line" "[I", .methodLink RX0 48 yX0_isProcess, .static yX0_isProcess, .initialized RX0, .code yX0_isProcess cX0_isProcess 1 (some .boolean)] ++ wsX00)
def wsX0_putAside_r1 : List Cond := [Cond.methodLink RX0 96 yX0_firstReady, Cond.instanceMethod yX0_firstReady, Cond.selects RX0 yX0_firstReady yX0_firstReady, Cond.initialized RX0, Cond.code yX0_firstReady cX0_firstReady 3 (some .int), Cond.methodLink RX0 76 yX0_at, Cond.instanceMethod yX0_at, Cond.selects RX0 yX0_at yX0_at, Cond.code yX0_at cX0_at 6 (some .int), Cond.fieldLink RX0 22 "ProcessRoom" "lineLength" "I", Cond.fieldLink RX0 19 "ProcessRoom" "line" "[I", Cond.fieldLink RX0 16 "ProcessRoom" "rows" "[I", Cond.methodLink RX0 48 yX0_isProcess, Cond.static yX0_isProcess, Cond.code yX0_isProcess cX0_isProcess 1 (some .boolean), Cond.methodLink RX0 80 yX0_leave, Cond.instanceMethod yX0_leave, Cond.selects RX0 yX0_leave yX0_leave, Cond.code yX0_leave cX0_leave 4 none, Cond.methodLink RX0 93 yX0_want, Cond.instanceMethod yX0_want, Cond.selects RX0 yX0_want yX0_want, Cond.code yX0_want cX0_want 2 none, Cond.fieldLink RX0 41 "ProcessRoom" "wanted" "Z"]
def wsX0_putAside_r2 : List Cond := [Cond.fieldLink RX0 45 "ProcessRoom" "wantedOne" "I"]
def wsX0_putAside : List Cond := .code yX0_putAside cX0_putAside 2 none :: ((wsX0_putAside_r1 ++ wsX0_putAside_r2) ++ wsX00)
def wsX0_suspend_r1 : List Cond := [Cond.methodLink RX0 58 yX0_present, Cond.instanceMethod yX0_present, Cond.selects RX0 yX0_present yX0_present, Cond.initialized RX0, Cond.code yX0_present cX0_present 1 (some .int), Cond.fieldLink RX0 41 "ProcessRoom" "wanted" "Z", Cond.fieldLink RX0 45 "ProcessRoom" "wantedOne" "I", Cond.fieldLink RX0 35 "ProcessRoom" "active" "I", Cond.methodLink RX0 66 yX0_putAside, Cond.instanceMethod yX0_putAside, Cond.selects RX0 yX0_putAside yX0_putAside, Cond.code yX0_putAside cX0_putAside 2 none, Cond.methodLink RX0 96 yX0_firstReady, Cond.instanceMethod yX0_firstReady, Cond.selects RX0 yX0_firstReady yX0_firstReady, Cond.code yX0_firstReady cX0_firstReady 3 (some .int), Cond.methodLink RX0 76 yX0_at, Cond.instanceMethod yX0_at, Cond.selects RX0 yX0_at yX0_at, Cond.code yX0_at cX0_at 6 (some .int), Cond.fieldLink RX0 22 "ProcessRoom" "lineLength" "I", Cond.fieldLink RX0 19 "ProcessRoom" "line" "[I", Cond.fieldLink RX0 16 "ProcessRoom" "rows" "[I", Cond.methodLink RX0 48 yX0_isProcess]
def wsX0_suspend_r2 : List Cond := [Cond.static yX0_isProcess, Cond.code yX0_isProcess cX0_isProcess 1 (some .boolean), Cond.methodLink RX0 80 yX0_leave, Cond.instanceMethod yX0_leave, Cond.selects RX0 yX0_leave yX0_leave, Cond.code yX0_leave cX0_leave 4 none, Cond.methodLink RX0 93 yX0_want, Cond.instanceMethod yX0_want, Cond.selects RX0 yX0_want yX0_want, Cond.code yX0_want cX0_want 2 none]
def wsX0_suspend : List Cond := .code yX0_suspend cX0_suspend 2 (some .int) :: ((wsX0_suspend_r1 ++ wsX0_suspend_r2) ++ wsX00)
def wsX0_end_r1 : List Cond := [Cond.fieldLink RX0 9 "ProcessRoom" "priorities" "[I", Cond.fieldLink RX0 35 "ProcessRoom" "active" "I", Cond.methodLink RX0 58 yX0_present, Cond.instanceMethod yX0_present, Cond.selects RX0 yX0_present yX0_present, Cond.initialized RX0, Cond.code yX0_present cX0_present 1 (some .int), Cond.fieldLink RX0 41 "ProcessRoom" "wanted" "Z", Cond.fieldLink RX0 45 "ProcessRoom" "wantedOne" "I", Cond.methodLink RX0 52 yX0_isMade, Cond.instanceMethod yX0_isMade, Cond.selects RX0 yX0_isMade yX0_isMade, Cond.code yX0_isMade cX0_isMade 2 (some .boolean), Cond.methodLink RX0 48 yX0_isProcess, Cond.static yX0_isProcess, Cond.code yX0_isProcess cX0_isProcess 1 (some .boolean), Cond.methodLink RX0 66 yX0_putAside, Cond.instanceMethod yX0_putAside, Cond.selects RX0 yX0_putAside yX0_putAside, Cond.code yX0_putAside cX0_putAside 2 none, Cond.methodLink RX0 96 yX0_firstReady, Cond.instanceMethod yX0_firstReady, Cond.selects RX0 yX0_firstReady yX0_firstReady, Cond.code yX0_firstReady cX0_firstReady 3 (some .int)]
def wsX0_end_r2 : List Cond := [Cond.methodLink RX0 76 yX0_at, Cond.instanceMethod yX0_at, Cond.selects RX0 yX0_at yX0_at, Cond.code yX0_at cX0_at 6 (some .int), Cond.fieldLink RX0 22 "ProcessRoom" "lineLength" "I", Cond.fieldLink RX0 19 "ProcessRoom" "line" "[I", Cond.fieldLink RX0 16 "ProcessRoom" "rows" "[I", Cond.methodLink RX0 80 yX0_leave, Cond.instanceMethod yX0_leave, Cond.selects RX0 yX0_leave yX0_leave, Cond.code yX0_leave cX0_leave 4 none, Cond.methodLink RX0 93 yX0_want, Cond.instanceMethod yX0_want, Cond.selects RX0 yX0_want yX0_want, Cond.code yX0_want cX0_want 2 none]
def wsX0_end : List Cond := .code yX0_end cX0_end 2 (some .int) :: ((wsX0_end_r1 ++ wsX0_end_r2) ++ wsX00)
def wsX0_isSemaphore : List Cond := .code yX0_isSemaphore cX0_isSemaphore 1 (some .boolean) :: ([])
def wsX0_await_r1 : List Cond := [Cond.fieldLink RX0 26 "ProcessRoom" "extras" "[I", Cond.methodLink RX0 58 yX0_present, Cond.instanceMethod yX0_present, Cond.selects RX0 yX0_present yX0_present, Cond.initialized RX0, Cond.code yX0_present cX0_present 1 (some .int), Cond.fieldLink RX0 41 "ProcessRoom" "wanted" "Z", Cond.fieldLink RX0 45 "ProcessRoom" "wantedOne" "I", Cond.fieldLink RX0 35 "ProcessRoom" "active" "I", Cond.methodLink RX0 69 yX0_isSemaphore, Cond.static yX0_isSemaphore, Cond.code yX0_isSemaphore cX0_isSemaphore 1 (some .boolean), Cond.methodLink RX0 72 yX0_enter, Cond.instanceMethod yX0_enter, Cond.selects RX0 yX0_enter yX0_enter, Cond.code yX0_enter cX0_enter 3 none, Cond.fieldLink RX0 22 "ProcessRoom" "lineLength" "I", Cond.fieldLink RX0 16 "ProcessRoom" "rows" "[I", Cond.fieldLink RX0 19 "ProcessRoom" "line" "[I", Cond.methodLink RX0 48 yX0_isProcess, Cond.static yX0_isProcess, Cond.code yX0_isProcess cX0_isProcess 1 (some .boolean), Cond.methodLink RX0 66 yX0_putAside, Cond.instanceMethod yX0_putAside]
def wsX0_await_r2 : List Cond := [Cond.selects RX0 yX0_putAside yX0_putAside, Cond.code yX0_putAside cX0_putAside 2 none, Cond.methodLink RX0 96 yX0_firstReady, Cond.instanceMethod yX0_firstReady, Cond.selects RX0 yX0_firstReady yX0_firstReady, Cond.code yX0_firstReady cX0_firstReady 3 (some .int), Cond.methodLink RX0 76 yX0_at, Cond.instanceMethod yX0_at, Cond.selects RX0 yX0_at yX0_at, Cond.code yX0_at cX0_at 6 (some .int), Cond.methodLink RX0 80 yX0_leave, Cond.instanceMethod yX0_leave, Cond.selects RX0 yX0_leave yX0_leave, Cond.code yX0_leave cX0_leave 4 none, Cond.methodLink RX0 93 yX0_want, Cond.instanceMethod yX0_want, Cond.selects RX0 yX0_want yX0_want, Cond.code yX0_want cX0_want 2 none]
def wsX0_await : List Cond := .code yX0_await cX0_await 3 (some .int) :: ((wsX0_await_r1 ++ wsX0_await_r2) ++ wsX00)
def wsX0_signal_r1 : List Cond := [Cond.fieldLink RX0 26 "ProcessRoom" "extras" "[I", Cond.methodLink RX0 69 yX0_isSemaphore, Cond.static yX0_isSemaphore, Cond.initialized RX0, Cond.code yX0_isSemaphore cX0_isSemaphore 1 (some .boolean), Cond.methodLink RX0 76 yX0_at, Cond.instanceMethod yX0_at, Cond.selects RX0 yX0_at yX0_at, Cond.code yX0_at cX0_at 6 (some .int), Cond.fieldLink RX0 22 "ProcessRoom" "lineLength" "I", Cond.fieldLink RX0 19 "ProcessRoom" "line" "[I", Cond.fieldLink RX0 16 "ProcessRoom" "rows" "[I", Cond.methodLink RX0 48 yX0_isProcess, Cond.static yX0_isProcess, Cond.code yX0_isProcess cX0_isProcess 1 (some .boolean), Cond.methodLink RX0 80 yX0_leave, Cond.instanceMethod yX0_leave, Cond.selects RX0 yX0_leave yX0_leave, Cond.code yX0_leave cX0_leave 4 none, Cond.methodLink RX0 62 yX0_wake, Cond.instanceMethod yX0_wake, Cond.selects RX0 yX0_wake yX0_wake, Cond.code yX0_wake cX0_wake 3 none, Cond.methodLink RX0 58 yX0_present]
def wsX0_signal_r2 : List Cond := [Cond.instanceMethod yX0_present, Cond.selects RX0 yX0_present yX0_present, Cond.code yX0_present cX0_present 1 (some .int), Cond.fieldLink RX0 41 "ProcessRoom" "wanted" "Z", Cond.fieldLink RX0 45 "ProcessRoom" "wantedOne" "I", Cond.fieldLink RX0 35 "ProcessRoom" "active" "I", Cond.methodLink RX0 89 yX0_priority, Cond.instanceMethod yX0_priority, Cond.selects RX0 yX0_priority yX0_priority, Cond.code yX0_priority cX0_priority 2 (some .int), Cond.fieldLink RX0 9 "ProcessRoom" "priorities" "[I", Cond.methodLink RX0 52 yX0_isMade, Cond.instanceMethod yX0_isMade, Cond.selects RX0 yX0_isMade yX0_isMade, Cond.code yX0_isMade cX0_isMade 2 (some .boolean), Cond.methodLink RX0 72 yX0_enter, Cond.instanceMethod yX0_enter, Cond.selects RX0 yX0_enter yX0_enter, Cond.code yX0_enter cX0_enter 3 none, Cond.methodLink RX0 93 yX0_want, Cond.instanceMethod yX0_want, Cond.selects RX0 yX0_want yX0_want, Cond.code yX0_want cX0_want 2 none]
def wsX0_signal : List Cond := .code yX0_signal cX0_signal 3 (some .boolean) :: ((wsX0_signal_r1 ++ wsX0_signal_r2) ++ wsX00)
def wsX0_post : List Cond := .code yX0_post cX0_post 2 (some .int) :: ([.fieldLink RX0 32 "ProcessRoom" "postCount" "I", .fieldLink RX0 29 "ProcessRoom" "posts" "[I", .methodLink RX0 69 yX0_isSemaphore, .static yX0_isSemaphore, .initialized RX0, .code yX0_isSemaphore cX0_isSemaphore 1 (some .boolean)] ++ wsX00)
def wsX0_signalPosted_r1 : List Cond := [Cond.fieldLink RX0 32 "ProcessRoom" "postCount" "I", Cond.fieldLink RX0 29 "ProcessRoom" "posts" "[I", Cond.methodLink RX0 99 yX0_signal, Cond.instanceMethod yX0_signal, Cond.selects RX0 yX0_signal yX0_signal, Cond.initialized RX0, Cond.code yX0_signal cX0_signal 3 (some .boolean), Cond.fieldLink RX0 26 "ProcessRoom" "extras" "[I", Cond.methodLink RX0 69 yX0_isSemaphore, Cond.static yX0_isSemaphore, Cond.code yX0_isSemaphore cX0_isSemaphore 1 (some .boolean), Cond.methodLink RX0 76 yX0_at, Cond.instanceMethod yX0_at, Cond.selects RX0 yX0_at yX0_at, Cond.code yX0_at cX0_at 6 (some .int), Cond.fieldLink RX0 22 "ProcessRoom" "lineLength" "I", Cond.fieldLink RX0 19 "ProcessRoom" "line" "[I", Cond.fieldLink RX0 16 "ProcessRoom" "rows" "[I", Cond.methodLink RX0 48 yX0_isProcess, Cond.static yX0_isProcess, Cond.code yX0_isProcess cX0_isProcess 1 (some .boolean), Cond.methodLink RX0 80 yX0_leave, Cond.instanceMethod yX0_leave, Cond.selects RX0 yX0_leave yX0_leave]
def wsX0_signalPosted_r2 : List Cond := [Cond.code yX0_leave cX0_leave 4 none, Cond.methodLink RX0 62 yX0_wake, Cond.instanceMethod yX0_wake, Cond.selects RX0 yX0_wake yX0_wake, Cond.code yX0_wake cX0_wake 3 none, Cond.methodLink RX0 58 yX0_present, Cond.instanceMethod yX0_present, Cond.selects RX0 yX0_present yX0_present, Cond.code yX0_present cX0_present 1 (some .int), Cond.fieldLink RX0 41 "ProcessRoom" "wanted" "Z", Cond.fieldLink RX0 45 "ProcessRoom" "wantedOne" "I", Cond.fieldLink RX0 35 "ProcessRoom" "active" "I", Cond.methodLink RX0 89 yX0_priority, Cond.instanceMethod yX0_priority, Cond.selects RX0 yX0_priority yX0_priority, Cond.code yX0_priority cX0_priority 2 (some .int), Cond.fieldLink RX0 9 "ProcessRoom" "priorities" "[I", Cond.methodLink RX0 52 yX0_isMade, Cond.instanceMethod yX0_isMade, Cond.selects RX0 yX0_isMade yX0_isMade, Cond.code yX0_isMade cX0_isMade 2 (some .boolean), Cond.methodLink RX0 72 yX0_enter, Cond.instanceMethod yX0_enter, Cond.selects RX0 yX0_enter yX0_enter]
def wsX0_signalPosted_r3 : List Cond := [Cond.code yX0_enter cX0_enter 3 none, Cond.methodLink RX0 93 yX0_want, Cond.instanceMethod yX0_want, Cond.selects RX0 yX0_want yX0_want, Cond.code yX0_want cX0_want 2 none]
def wsX0_signalPosted : List Cond := .code yX0_signalPosted cX0_signalPosted 2 none :: ((wsX0_signalPosted_r1 ++ (wsX0_signalPosted_r2 ++ wsX0_signalPosted_r3)) ++ wsX00)
def wsX0_place : List Cond := .code yX0_place cX0_place 2 (some .int) :: ([.fieldLink RX0 13 "ProcessRoom" "places" "[I", .methodLink RX0 52 yX0_isMade, .instanceMethod yX0_isMade, .selects RX0 yX0_isMade yX0_isMade, .initialized RX0, .code yX0_isMade cX0_isMade 2 (some .boolean), .fieldLink RX0 9 "ProcessRoom" "priorities" "[I", .methodLink RX0 48 yX0_isProcess, .static yX0_isProcess, .code yX0_isProcess cX0_isProcess 1 (some .boolean)] ++ wsX00)
def wsX0_change : List Cond := .code yX0_change cX0_change 1 none :: ([.fieldLink RX0 35 "ProcessRoom" "active" "I", .fieldLink RX0 13 "ProcessRoom" "places" "[I", .fieldLink RX0 38 "ProcessRoom" "here" "I", .fieldLink RX0 45 "ProcessRoom" "wantedOne" "I", .fieldLink RX0 41 "ProcessRoom" "wanted" "Z", .methodLink RX0 48 yX0_isProcess, .static yX0_isProcess, .initialized RX0, .code yX0_isProcess cX0_isProcess 1 (some .boolean), .methodLink RX0 102 yX0_place, .instanceMethod yX0_place, .selects RX0 yX0_place yX0_place, .code yX0_place cX0_place 2 (some .int), .methodLink RX0 52 yX0_isMade, .instanceMethod yX0_isMade, .selects RX0 yX0_isMade yX0_isMade, .code yX0_isMade cX0_isMade 2 (some .boolean), .fieldLink RX0 9 "ProcessRoom" "priorities" "[I"] ++ wsX00)
def wsX0_step_r1 : List Cond := [Cond.fieldLink RX0 41 "ProcessRoom" "wanted" "Z", Cond.fieldLink RX0 35 "ProcessRoom" "active" "I", Cond.methodLink RX0 83 yX0_signalPosted, Cond.instanceMethod yX0_signalPosted, Cond.selects RX0 yX0_signalPosted yX0_signalPosted, Cond.initialized RX0, Cond.code yX0_signalPosted cX0_signalPosted 2 none, Cond.fieldLink RX0 32 "ProcessRoom" "postCount" "I", Cond.fieldLink RX0 29 "ProcessRoom" "posts" "[I", Cond.methodLink RX0 99 yX0_signal, Cond.instanceMethod yX0_signal, Cond.selects RX0 yX0_signal yX0_signal, Cond.code yX0_signal cX0_signal 3 (some .boolean), Cond.fieldLink RX0 26 "ProcessRoom" "extras" "[I", Cond.methodLink RX0 69 yX0_isSemaphore, Cond.static yX0_isSemaphore, Cond.code yX0_isSemaphore cX0_isSemaphore 1 (some .boolean), Cond.methodLink RX0 76 yX0_at, Cond.instanceMethod yX0_at, Cond.selects RX0 yX0_at yX0_at, Cond.code yX0_at cX0_at 6 (some .int), Cond.fieldLink RX0 22 "ProcessRoom" "lineLength" "I", Cond.fieldLink RX0 19 "ProcessRoom" "line" "[I", Cond.fieldLink RX0 16 "ProcessRoom" "rows" "[I"]
def wsX0_step_r2 : List Cond := [Cond.methodLink RX0 48 yX0_isProcess, Cond.static yX0_isProcess, Cond.code yX0_isProcess cX0_isProcess 1 (some .boolean), Cond.methodLink RX0 80 yX0_leave, Cond.instanceMethod yX0_leave, Cond.selects RX0 yX0_leave yX0_leave, Cond.code yX0_leave cX0_leave 4 none, Cond.methodLink RX0 62 yX0_wake, Cond.instanceMethod yX0_wake, Cond.selects RX0 yX0_wake yX0_wake, Cond.code yX0_wake cX0_wake 3 none, Cond.methodLink RX0 58 yX0_present, Cond.instanceMethod yX0_present, Cond.selects RX0 yX0_present yX0_present, Cond.code yX0_present cX0_present 1 (some .int), Cond.fieldLink RX0 45 "ProcessRoom" "wantedOne" "I", Cond.methodLink RX0 89 yX0_priority, Cond.instanceMethod yX0_priority, Cond.selects RX0 yX0_priority yX0_priority, Cond.code yX0_priority cX0_priority 2 (some .int), Cond.fieldLink RX0 9 "ProcessRoom" "priorities" "[I", Cond.methodLink RX0 52 yX0_isMade, Cond.instanceMethod yX0_isMade, Cond.selects RX0 yX0_isMade yX0_isMade]
def wsX0_step_r3 : List Cond := [Cond.code yX0_isMade cX0_isMade 2 (some .boolean), Cond.methodLink RX0 72 yX0_enter, Cond.instanceMethod yX0_enter, Cond.selects RX0 yX0_enter yX0_enter, Cond.code yX0_enter cX0_enter 3 none, Cond.methodLink RX0 93 yX0_want, Cond.instanceMethod yX0_want, Cond.selects RX0 yX0_want yX0_want, Cond.code yX0_want cX0_want 2 none, Cond.methodLink RX0 86 yX0_change, Cond.instanceMethod yX0_change, Cond.selects RX0 yX0_change yX0_change, Cond.code yX0_change cX0_change 1 none, Cond.fieldLink RX0 13 "ProcessRoom" "places" "[I", Cond.fieldLink RX0 38 "ProcessRoom" "here" "I", Cond.methodLink RX0 102 yX0_place, Cond.instanceMethod yX0_place, Cond.selects RX0 yX0_place yX0_place, Cond.code yX0_place cX0_place 2 (some .int)]
def wsX0_step : List Cond := .code yX0_step cX0_step 1 (some .int) :: ((wsX0_step_r1 ++ (wsX0_step_r2 ++ wsX0_step_r3)) ++ wsX00)
def wsX0_work : List Cond := .code yX0_work cX0_work 2 (some .boolean) :: ([.fieldLink RX0 35 "ProcessRoom" "active" "I", .fieldLink RX0 41 "ProcessRoom" "wanted" "Z", .fieldLink RX0 38 "ProcessRoom" "here" "I"] ++ wsX00)
def wsX0_take : List Cond := .code yX0_take cX0_take 2 (some .boolean) :: ([.fieldLink RX0 16 "ProcessRoom" "rows" "[I", .methodLink RX0 48 yX0_isProcess, .static yX0_isProcess, .initialized RX0, .code yX0_isProcess cX0_isProcess 1 (some .boolean), .methodLink RX0 80 yX0_leave, .instanceMethod yX0_leave, .selects RX0 yX0_leave yX0_leave, .code yX0_leave cX0_leave 4 none, .fieldLink RX0 22 "ProcessRoom" "lineLength" "I", .fieldLink RX0 19 "ProcessRoom" "line" "[I"] ++ wsX00)
def wsX0_rate : List Cond := .code yX0_rate cX0_rate 4 (some .int) :: ([.fieldLink RX0 9 "ProcessRoom" "priorities" "[I", .methodLink RX0 52 yX0_isMade, .instanceMethod yX0_isMade, .selects RX0 yX0_isMade yX0_isMade, .initialized RX0, .code yX0_isMade cX0_isMade 2 (some .boolean), .methodLink RX0 48 yX0_isProcess, .static yX0_isProcess, .code yX0_isProcess cX0_isProcess 1 (some .boolean), .methodLink RX0 55 yX0_isPriority, .static yX0_isPriority, .code yX0_isPriority cX0_isPriority 1 (some .boolean)] ++ wsX00)
def wsX0_yield_r1 : List Cond := [Cond.fieldLink RX0 9 "ProcessRoom" "priorities" "[I", Cond.methodLink RX0 58 yX0_present, Cond.instanceMethod yX0_present, Cond.selects RX0 yX0_present yX0_present, Cond.initialized RX0, Cond.code yX0_present cX0_present 1 (some .int), Cond.fieldLink RX0 41 "ProcessRoom" "wanted" "Z", Cond.fieldLink RX0 45 "ProcessRoom" "wantedOne" "I", Cond.fieldLink RX0 35 "ProcessRoom" "active" "I", Cond.methodLink RX0 52 yX0_isMade, Cond.instanceMethod yX0_isMade, Cond.selects RX0 yX0_isMade yX0_isMade, Cond.code yX0_isMade cX0_isMade 2 (some .boolean), Cond.methodLink RX0 48 yX0_isProcess, Cond.static yX0_isProcess, Cond.code yX0_isProcess cX0_isProcess 1 (some .boolean), Cond.methodLink RX0 76 yX0_at, Cond.instanceMethod yX0_at, Cond.selects RX0 yX0_at yX0_at, Cond.code yX0_at cX0_at 6 (some .int), Cond.fieldLink RX0 22 "ProcessRoom" "lineLength" "I", Cond.fieldLink RX0 19 "ProcessRoom" "line" "[I", Cond.fieldLink RX0 16 "ProcessRoom" "rows" "[I", Cond.methodLink RX0 72 yX0_enter]
def wsX0_yield_r2 : List Cond := [Cond.instanceMethod yX0_enter, Cond.selects RX0 yX0_enter yX0_enter, Cond.code yX0_enter cX0_enter 3 none, Cond.methodLink RX0 66 yX0_putAside, Cond.instanceMethod yX0_putAside, Cond.selects RX0 yX0_putAside yX0_putAside, Cond.code yX0_putAside cX0_putAside 2 none, Cond.methodLink RX0 96 yX0_firstReady, Cond.instanceMethod yX0_firstReady, Cond.selects RX0 yX0_firstReady yX0_firstReady, Cond.code yX0_firstReady cX0_firstReady 3 (some .int), Cond.methodLink RX0 80 yX0_leave, Cond.instanceMethod yX0_leave, Cond.selects RX0 yX0_leave yX0_leave, Cond.code yX0_leave cX0_leave 4 none, Cond.methodLink RX0 93 yX0_want, Cond.instanceMethod yX0_want, Cond.selects RX0 yX0_want yX0_want, Cond.code yX0_want cX0_want 2 none]
def wsX0_yield : List Cond := .code yX0_yield cX0_yield 2 (some .boolean) :: ((wsX0_yield_r1 ++ wsX0_yield_r2) ++ wsX00)
def wsX0_active : List Cond := .code yX0_active cX0_active 1 (some .int) :: ([.fieldLink RX0 35 "ProcessRoom" "active" "I"] ++ wsX00)
def wsX0_wanted : List Cond := .code yX0_wanted cX0_wanted 1 (some .boolean) :: ([.fieldLink RX0 41 "ProcessRoom" "wanted" "Z"] ++ wsX00)
def wsX0_here : List Cond := .code yX0_here cX0_here 1 (some .int) :: ([.fieldLink RX0 38 "ProcessRoom" "here" "I"] ++ wsX00)
def wsX0_row : List Cond := .code yX0_row cX0_row 2 (some .int) :: ([.fieldLink RX0 16 "ProcessRoom" "rows" "[I", .methodLink RX0 52 yX0_isMade, .instanceMethod yX0_isMade, .selects RX0 yX0_isMade yX0_isMade, .initialized RX0, .code yX0_isMade cX0_isMade 2 (some .boolean), .fieldLink RX0 9 "ProcessRoom" "priorities" "[I", .methodLink RX0 48 yX0_isProcess, .static yX0_isProcess, .code yX0_isProcess cX0_isProcess 1 (some .boolean)] ++ wsX00)
def wsX0_extra : List Cond := .code yX0_extra cX0_extra 2 (some .int) :: ([.fieldLink RX0 26 "ProcessRoom" "extras" "[I", .methodLink RX0 69 yX0_isSemaphore, .static yX0_isSemaphore, .initialized RX0, .code yX0_isSemaphore cX0_isSemaphore 1 (some .boolean)] ++ wsX00)
def wsX0_posted : List Cond := .code yX0_posted cX0_posted 2 (some .int) :: ([.fieldLink RX0 32 "ProcessRoom" "postCount" "I", .fieldLink RX0 29 "ProcessRoom" "posts" "[I"] ++ wsX00)
def wsX1_init : List Cond := .code yX1_init cX1_init 1 none :: ([.methodLink RX1 1 objectInit, .instanceMethod objectInit, .code objectInit ⟨#[0xb1]⟩ 1 none, .arrayClass .boolean, .fieldLink RX1 7 "ProcessRoomModel" "made" "[Z", .arrayClass .int, .fieldLink RX1 13 "ProcessRoomModel" "priorities" "[I", .fieldLink RX1 17 "ProcessRoomModel" "places" "[I", .fieldLink RX1 20 "ProcessRoomModel" "rows" "[I", .arrayClass .long, .fieldLink RX1 23 "ProcessRoomModel" "when" "[J", .fieldLink RX1 27 "ProcessRoomModel" "extras" "[I", .fieldLink RX1 30 "ProcessRoomModel" "posted" "[I", .fieldLink RX1 33 "ProcessRoomModel" "active" "I", .fieldLink RX1 37 "ProcessRoomModel" "change" "I"] ++ wsX10)
def wsX1_make : List Cond := .code yX1_make cX1_make 4 (some .boolean) :: ([.fieldLink RX1 7 "ProcessRoomModel" "made" "[Z", .fieldLink RX1 13 "ProcessRoomModel" "priorities" "[I", .fieldLink RX1 17 "ProcessRoomModel" "places" "[I", .fieldLink RX1 20 "ProcessRoomModel" "rows" "[I"] ++ wsX10)
def wsL_law_r1 : List Cond := [Cond.classLink RL 7 RX0, Cond.instantiable RX0 12, Cond.initialized RX0, Cond.classLink RL 10 RX1, Cond.instantiable RX1 13, Cond.initialized RX1, Cond.methodLink RL 9 yX0_init, Cond.instanceMethod yX0_init, Cond.code yX0_init cX0_init 1 none, Cond.methodLink RX0 1 objectInit, Cond.instanceMethod objectInit, Cond.code objectInit ⟨#[0xb1]⟩ 1 none, Cond.arrayClass .int, Cond.fieldLink RX0 9 "ProcessRoom" "priorities" "[I", Cond.fieldLink RX0 13 "ProcessRoom" "places" "[I", Cond.fieldLink RX0 16 "ProcessRoom" "rows" "[I", Cond.fieldLink RX0 19 "ProcessRoom" "line" "[I", Cond.fieldLink RX0 22 "ProcessRoom" "lineLength" "I", Cond.fieldLink RX0 26 "ProcessRoom" "extras" "[I", Cond.fieldLink RX0 29 "ProcessRoom" "posts" "[I", Cond.fieldLink RX0 32 "ProcessRoom" "postCount" "I", Cond.fieldLink RX0 35 "ProcessRoom" "active" "I", Cond.fieldLink RX0 38 "ProcessRoom" "here" "I", Cond.fieldLink RX0 41 "ProcessRoom" "wanted" "Z"]
def wsL_law_r2 : List Cond := [Cond.fieldLink RX0 45 "ProcessRoom" "wantedOne" "I", Cond.methodLink RL 12 yX1_init, Cond.instanceMethod yX1_init, Cond.code yX1_init cX1_init 1 none, Cond.methodLink RX1 1 objectInit, Cond.arrayClass .boolean, Cond.fieldLink RX1 7 "ProcessRoomModel" "made" "[Z", Cond.fieldLink RX1 13 "ProcessRoomModel" "priorities" "[I", Cond.fieldLink RX1 17 "ProcessRoomModel" "places" "[I", Cond.fieldLink RX1 20 "ProcessRoomModel" "rows" "[I", Cond.arrayClass .long, Cond.fieldLink RX1 23 "ProcessRoomModel" "when" "[J", Cond.fieldLink RX1 27 "ProcessRoomModel" "extras" "[I", Cond.fieldLink RX1 30 "ProcessRoomModel" "posted" "[I", Cond.fieldLink RX1 33 "ProcessRoomModel" "active" "I", Cond.fieldLink RX1 37 "ProcessRoomModel" "change" "I", Cond.methodLink RL 13 yX0_make, Cond.instanceMethod yX0_make, Cond.selects RX0 yX0_make yX0_make, Cond.code yX0_make cX0_make 4 (some .boolean), Cond.methodLink RX0 48 yX0_isProcess, Cond.static yX0_isProcess, Cond.code yX0_isProcess cX0_isProcess 1 (some .boolean), Cond.methodLink RX0 52 yX0_isMade]
def wsL_law_r3 : List Cond := [Cond.instanceMethod yX0_isMade, Cond.selects RX0 yX0_isMade yX0_isMade, Cond.code yX0_isMade cX0_isMade 2 (some .boolean), Cond.methodLink RX0 55 yX0_isPriority, Cond.static yX0_isPriority, Cond.code yX0_isPriority cX0_isPriority 1 (some .boolean), Cond.methodLink RL 17 yX1_make, Cond.instanceMethod yX1_make, Cond.selects RX1 yX1_make yX1_make, Cond.code yX1_make cX1_make 4 (some .boolean), Cond.methodLink RL 18 yX0_resume, Cond.instanceMethod yX0_resume, Cond.selects RX0 yX0_resume yX0_resume, Cond.code yX0_resume cX0_resume 2 (some .boolean), Cond.methodLink RX0 58 yX0_present, Cond.instanceMethod yX0_present, Cond.selects RX0 yX0_present yX0_present, Cond.code yX0_present cX0_present 1 (some .int), Cond.methodLink RX0 62 yX0_wake, Cond.instanceMethod yX0_wake, Cond.selects RX0 yX0_wake yX0_wake, Cond.code yX0_wake cX0_wake 3 none, Cond.methodLink RX0 89 yX0_priority, Cond.instanceMethod yX0_priority]
def wsL_law_r4 : List Cond := [Cond.selects RX0 yX0_priority yX0_priority, Cond.code yX0_priority cX0_priority 2 (some .int), Cond.methodLink RX0 72 yX0_enter, Cond.instanceMethod yX0_enter, Cond.selects RX0 yX0_enter yX0_enter, Cond.code yX0_enter cX0_enter 3 none, Cond.methodLink RX0 93 yX0_want, Cond.instanceMethod yX0_want, Cond.selects RX0 yX0_want yX0_want, Cond.code yX0_want cX0_want 2 none, Cond.methodLink RL 23 yX0_suspend, Cond.instanceMethod yX0_suspend, Cond.selects RX0 yX0_suspend yX0_suspend, Cond.code yX0_suspend cX0_suspend 2 (some .int), Cond.methodLink RX0 66 yX0_putAside, Cond.instanceMethod yX0_putAside, Cond.selects RX0 yX0_putAside yX0_putAside, Cond.code yX0_putAside cX0_putAside 2 none, Cond.methodLink RX0 96 yX0_firstReady, Cond.instanceMethod yX0_firstReady, Cond.selects RX0 yX0_firstReady yX0_firstReady, Cond.code yX0_firstReady cX0_firstReady 3 (some .int), Cond.methodLink RX0 76 yX0_at, Cond.instanceMethod yX0_at]
def wsL_law_r5 : List Cond := [Cond.selects RX0 yX0_at yX0_at, Cond.code yX0_at cX0_at 6 (some .int), Cond.methodLink RX0 80 yX0_leave, Cond.instanceMethod yX0_leave, Cond.selects RX0 yX0_leave yX0_leave, Cond.code yX0_leave cX0_leave 4 none, Cond.methodLink RL 28 yX0_end, Cond.instanceMethod yX0_end, Cond.selects RX0 yX0_end yX0_end, Cond.code yX0_end cX0_end 2 (some .int), Cond.methodLink RL 32 yX0_await, Cond.instanceMethod yX0_await, Cond.selects RX0 yX0_await yX0_await, Cond.code yX0_await cX0_await 3 (some .int), Cond.methodLink RX0 69 yX0_isSemaphore, Cond.static yX0_isSemaphore, Cond.code yX0_isSemaphore cX0_isSemaphore 1 (some .boolean), Cond.methodLink RL 37 yX0_signal, Cond.instanceMethod yX0_signal, Cond.selects RX0 yX0_signal yX0_signal, Cond.code yX0_signal cX0_signal 3 (some .boolean), Cond.methodLink RL 41 yX0_post, Cond.instanceMethod yX0_post, Cond.selects RX0 yX0_post yX0_post]
def wsL_law_r6 : List Cond := [Cond.code yX0_post cX0_post 2 (some .int), Cond.methodLink RL 45 yX0_step, Cond.instanceMethod yX0_step, Cond.selects RX0 yX0_step yX0_step, Cond.code yX0_step cX0_step 1 (some .int), Cond.methodLink RX0 83 yX0_signalPosted, Cond.instanceMethod yX0_signalPosted, Cond.selects RX0 yX0_signalPosted yX0_signalPosted, Cond.code yX0_signalPosted cX0_signalPosted 2 none, Cond.methodLink RX0 99 yX0_signal, Cond.methodLink RX0 86 yX0_change, Cond.instanceMethod yX0_change, Cond.selects RX0 yX0_change yX0_change, Cond.code yX0_change cX0_change 1 none, Cond.methodLink RX0 102 yX0_place, Cond.instanceMethod yX0_place, Cond.selects RX0 yX0_place yX0_place, Cond.code yX0_place cX0_place 2 (some .int), Cond.methodLink RL 49 yX0_work, Cond.instanceMethod yX0_work, Cond.selects RX0 yX0_work yX0_work, Cond.code yX0_work cX0_work 2 (some .boolean), Cond.methodLink RL 53 yX0_take, Cond.instanceMethod yX0_take]
def wsL_law_r7 : List Cond := [Cond.selects RX0 yX0_take yX0_take, Cond.code yX0_take cX0_take 2 (some .boolean), Cond.methodLink RL 57 yX0_rate, Cond.instanceMethod yX0_rate, Cond.selects RX0 yX0_rate yX0_rate, Cond.code yX0_rate cX0_rate 4 (some .int), Cond.methodLink RL 62 yX0_yield, Cond.instanceMethod yX0_yield, Cond.selects RX0 yX0_yield yX0_yield, Cond.code yX0_yield cX0_yield 2 (some .boolean), Cond.methodLink RL 67 yX0_active, Cond.instanceMethod yX0_active, Cond.selects RX0 yX0_active yX0_active, Cond.code yX0_active cX0_active 1 (some .int), Cond.methodLink RL 71 yX0_present, Cond.methodLink RL 75 yX0_wanted, Cond.instanceMethod yX0_wanted, Cond.selects RX0 yX0_wanted yX0_wanted, Cond.code yX0_wanted cX0_wanted 1 (some .boolean), Cond.methodLink RL 79 yX0_here, Cond.instanceMethod yX0_here, Cond.selects RX0 yX0_here yX0_here, Cond.code yX0_here cX0_here 1 (some .int), Cond.methodLink RL 83 yX0_place]
def wsL_law_r8 : List Cond := [Cond.methodLink RL 87 yX0_priority, Cond.methodLink RL 91 yX0_row, Cond.instanceMethod yX0_row, Cond.selects RX0 yX0_row yX0_row, Cond.code yX0_row cX0_row 2 (some .int), Cond.methodLink RL 95 yX0_at, Cond.methodLink RL 99 yX0_extra, Cond.instanceMethod yX0_extra, Cond.selects RX0 yX0_extra yX0_extra, Cond.code yX0_extra cX0_extra 2 (some .int), Cond.methodLink RL 103 yX0_posted, Cond.instanceMethod yX0_posted, Cond.selects RX0 yX0_posted yX0_posted, Cond.code yX0_posted cX0_posted 2 (some .int)]
def wsL_law : List Cond := (wsL_law_r1 ++ (wsL_law_r2 ++ (wsL_law_r3 ++ (wsL_law_r4 ++ (wsL_law_r5 ++ (wsL_law_r6 ++ (wsL_law_r7 ++ wsL_law_r8))))))) ++ wsX00 ++ wsX10 ++ ([] : List Cond)
set_option maxRecDepth 20000 in
theorem wsL_law_in : ∀ w ∈ wsL_law, w ∈ lw_tbl := fun w h => (goodIn_p wsL_law [24, 27, 208, 69, 72, 76, 79, 255, 83, 87, 91, 95, 99, 103, 107, 111, 115, 119, 123, 127, 131, 134, 138, 142, 146, 150, 155, 159, 163, 167, 171, 175, 179, 184, 188, 194, 199, 203] (by decide +kernel) (by decide +kernel) w h).1
theorem inlX0 : ∀ w ∈ wsX00, w ∈ wsL_law := fun _ h => List.mem_append_left _ (List.mem_append_left _ (List.mem_append_right _ h))
theorem inX0 : ∀ w ∈ wsX00, w ∈ lw_tbl := fun w h => wsL_law_in w (inlX0 w h)
theorem inlX1 : ∀ w ∈ wsX10, w ∈ wsL_law := fun _ h => List.mem_append_left _ (List.mem_append_right _ h)
theorem inX1 : ∀ w ∈ wsX10, w ∈ lw_tbl := fun w h => wsL_law_in w (inlX1 w h)
theorem dX0_init_0 : decode cX0_init 0 = .ok (.aload_n 0, 1) := by decide +kernel
theorem dX0_init_1 : decode cX0_init 1 = .ok (.invokespecial 1, 3) := by decide +kernel
theorem dX0_init_4 : decode cX0_init 4 = .ok (.aload_n 0, 1) := by decide +kernel
theorem dX0_init_5 : decode cX0_init 5 = .ok (.bipush 32, 2) := by decide +kernel
theorem dX0_init_7 : decode cX0_init 7 = .ok (.newarray .int, 2) := by decide +kernel
theorem dX0_init_9 : decode cX0_init 9 = .ok (.putfield 9, 3) := by decide +kernel
theorem dX0_init_12 : decode cX0_init 12 = .ok (.aload_n 0, 1) := by decide +kernel
theorem dX0_init_13 : decode cX0_init 13 = .ok (.bipush 32, 2) := by decide +kernel
theorem dX0_init_15 : decode cX0_init 15 = .ok (.newarray .int, 2) := by decide +kernel
theorem dX0_init_17 : decode cX0_init 17 = .ok (.putfield 13, 3) := by decide +kernel
theorem dX0_init_20 : decode cX0_init 20 = .ok (.aload_n 0, 1) := by decide +kernel
theorem dX0_init_21 : decode cX0_init 21 = .ok (.bipush 32, 2) := by decide +kernel
theorem dX0_init_23 : decode cX0_init 23 = .ok (.newarray .int, 2) := by decide +kernel
theorem dX0_init_25 : decode cX0_init 25 = .ok (.putfield 16, 3) := by decide +kernel
theorem dX0_init_28 : decode cX0_init 28 = .ok (.aload_n 0, 1) := by decide +kernel
theorem dX0_init_29 : decode cX0_init 29 = .ok (.bipush 32, 2) := by decide +kernel
theorem dX0_init_31 : decode cX0_init 31 = .ok (.newarray .int, 2) := by decide +kernel
theorem dX0_init_33 : decode cX0_init 33 = .ok (.putfield 19, 3) := by decide +kernel
theorem dX0_init_36 : decode cX0_init 36 = .ok (.aload_n 0, 1) := by decide +kernel
theorem dX0_init_37 : decode cX0_init 37 = .ok (.iconst 0, 1) := by decide +kernel
theorem dX0_init_38 : decode cX0_init 38 = .ok (.putfield 22, 3) := by decide +kernel
theorem dX0_init_41 : decode cX0_init 41 = .ok (.aload_n 0, 1) := by decide +kernel
theorem dX0_init_42 : decode cX0_init 42 = .ok (.bipush 16, 2) := by decide +kernel
theorem dX0_init_44 : decode cX0_init 44 = .ok (.newarray .int, 2) := by decide +kernel
theorem dX0_init_46 : decode cX0_init 46 = .ok (.putfield 26, 3) := by decide +kernel
theorem dX0_init_49 : decode cX0_init 49 = .ok (.aload_n 0, 1) := by decide +kernel
theorem dX0_init_50 : decode cX0_init 50 = .ok (.bipush 40, 2) := by decide +kernel
theorem dX0_init_52 : decode cX0_init 52 = .ok (.newarray .int, 2) := by decide +kernel
theorem dX0_init_54 : decode cX0_init 54 = .ok (.putfield 29, 3) := by decide +kernel
theorem dX0_init_57 : decode cX0_init 57 = .ok (.aload_n 0, 1) := by decide +kernel
theorem dX0_init_58 : decode cX0_init 58 = .ok (.iconst 0, 1) := by decide +kernel
theorem dX0_init_59 : decode cX0_init 59 = .ok (.putfield 32, 3) := by decide +kernel
theorem dX0_init_62 : decode cX0_init 62 = .ok (.aload_n 0, 1) := by decide +kernel
theorem dX0_init_63 : decode cX0_init 63 = .ok (.iconst (-1), 1) := by decide +kernel
theorem dX0_init_64 : decode cX0_init 64 = .ok (.putfield 35, 3) := by decide +kernel
theorem dX0_init_67 : decode cX0_init 67 = .ok (.aload_n 0, 1) := by decide +kernel
theorem dX0_init_68 : decode cX0_init 68 = .ok (.iconst 0, 1) := by decide +kernel
theorem dX0_init_69 : decode cX0_init 69 = .ok (.putfield 38, 3) := by decide +kernel
theorem dX0_init_72 : decode cX0_init 72 = .ok (.aload_n 0, 1) := by decide +kernel
theorem dX0_init_73 : decode cX0_init 73 = .ok (.iconst 0, 1) := by decide +kernel
theorem dX0_init_74 : decode cX0_init 74 = .ok (.putfield 41, 3) := by decide +kernel
theorem dX0_init_77 : decode cX0_init 77 = .ok (.aload_n 0, 1) := by decide +kernel
theorem dX0_init_78 : decode cX0_init 78 = .ok (.iconst (-1), 1) := by decide +kernel
theorem dX0_init_79 : decode cX0_init 79 = .ok (.putfield 45, 3) := by decide +kernel
theorem dX0_init_82 : decode cX0_init 82 = .ok (.return_, 1) := by decide +kernel
set_option maxRecDepth 20000 in
theorem ggX0_make_X0_isProcess : GoodIn wsX0_make wsX0_isProcess := goodIn_r _ [6] (by decide +kernel) (by decide +kernel)
set_option maxRecDepth 20000 in
theorem gX0_make_X0_isProcess : GoodIn wsX0_make (va_wsS RX0 48 yX0_isProcess wsX0_isProcess) := goodIn_app (goodIn_of _ (by decide +kernel)) ggX0_make_X0_isProcess
set_option maxRecDepth 20000 in
theorem ggX0_make_X0_isMade : GoodIn wsX0_make wsX0_isMade := goodIn_r _ [10, 1, 3, 4, 5, 6, 14, 15, 16, 17, 18, 19, 20, 21, 22, 23, 24, 25] (by decide +kernel) (by decide +kernel)
set_option maxRecDepth 20000 in
theorem gX0_make_X0_isMade : GoodIn wsX0_make (wsV RX0 52 RX0 yX0_isMade wsX0_isMade) := goodIn_app (goodIn_of _ (by decide +kernel)) ggX0_make_X0_isMade
set_option maxRecDepth 20000 in
theorem ggX0_make_X0_isPriority : GoodIn wsX0_make wsX0_isPriority := goodIn_r _ [13] (by decide +kernel) (by decide +kernel)
set_option maxRecDepth 20000 in
theorem gX0_make_X0_isPriority : GoodIn wsX0_make (va_wsS RX0 55 yX0_isPriority wsX0_isPriority) := goodIn_app (goodIn_of _ (by decide +kernel)) ggX0_make_X0_isPriority
theorem dX0_make_0 : decode cX0_make 0 = .ok (.iload_n 1, 1) := by decide +kernel
theorem dX0_make_1 : decode cX0_make 1 = .ok (.invokestatic 48, 3) := by decide +kernel
theorem dX0_make_4 : decode cX0_make 4 = .ok (.ifCond .eq 18, 3) := by decide +kernel
theorem dX0_make_7 : decode cX0_make 7 = .ok (.aload_n 0, 1) := by decide +kernel
theorem dX0_make_8 : decode cX0_make 8 = .ok (.iload_n 1, 1) := by decide +kernel
theorem dX0_make_9 : decode cX0_make 9 = .ok (.invokevirtual 52, 3) := by decide +kernel
theorem dX0_make_12 : decode cX0_make 12 = .ok (.ifCond .ne 10, 3) := by decide +kernel
theorem dX0_make_15 : decode cX0_make 15 = .ok (.iload_n 2, 1) := by decide +kernel
theorem dX0_make_16 : decode cX0_make 16 = .ok (.invokestatic 55, 3) := by decide +kernel
theorem dX0_make_19 : decode cX0_make 19 = .ok (.ifCond .ne 5, 3) := by decide +kernel
theorem dX0_make_22 : decode cX0_make 22 = .ok (.iconst 0, 1) := by decide +kernel
theorem dX0_make_23 : decode cX0_make 23 = .ok (.ireturn, 1) := by decide +kernel
theorem dX0_make_24 : decode cX0_make 24 = .ok (.aload_n 0, 1) := by decide +kernel
theorem dX0_make_25 : decode cX0_make 25 = .ok (.getfield 9, 3) := by decide +kernel
theorem dX0_make_28 : decode cX0_make 28 = .ok (.iload_n 1, 1) := by decide +kernel
theorem dX0_make_29 : decode cX0_make 29 = .ok (.iload_n 2, 1) := by decide +kernel
theorem dX0_make_30 : decode cX0_make 30 = .ok (.iastore, 1) := by decide +kernel
theorem dX0_make_31 : decode cX0_make 31 = .ok (.aload_n 0, 1) := by decide +kernel
theorem dX0_make_32 : decode cX0_make 32 = .ok (.getfield 13, 3) := by decide +kernel
theorem dX0_make_35 : decode cX0_make 35 = .ok (.iload_n 1, 1) := by decide +kernel
theorem dX0_make_36 : decode cX0_make 36 = .ok (.iload_n 3, 1) := by decide +kernel
theorem dX0_make_37 : decode cX0_make 37 = .ok (.iastore, 1) := by decide +kernel
theorem dX0_make_38 : decode cX0_make 38 = .ok (.iconst 1, 1) := by decide +kernel
theorem dX0_make_39 : decode cX0_make 39 = .ok (.ireturn, 1) := by decide +kernel
set_option maxRecDepth 20000 in
theorem ggX0_resume_X0_isMade : GoodIn wsX0_resume wsX0_isMade := goodIn_r _ [7, 8, 9, 10, 6, 11, 36, 37, 38, 39, 40, 41, 42, 43, 44, 45, 46, 47] (by decide +kernel) (by decide +kernel)
set_option maxRecDepth 20000 in
theorem gX0_resume_X0_isMade : GoodIn wsX0_resume (wsV RX0 52 RX0 yX0_isMade wsX0_isMade) := goodIn_app (goodIn_of _ (by decide +kernel)) ggX0_resume_X0_isMade
set_option maxRecDepth 20000 in
theorem ggX0_resume_X0_present : GoodIn wsX0_resume wsX0_present := goodIn_r _ [15, 16, 17, 2, 36, 37, 38, 39, 40, 41, 42, 43, 44, 45, 46, 47] (by decide +kernel) (by decide +kernel)
set_option maxRecDepth 20000 in
theorem gX0_resume_X0_present : GoodIn wsX0_resume (wsV RX0 58 RX0 yX0_present wsX0_present) := goodIn_app (goodIn_of _ (by decide +kernel)) ggX0_resume_X0_present
set_option maxRecDepth 20000 in
theorem ggX0_resume_X0_wake : GoodIn wsX0_resume wsX0_wake := goodIn_r _ [21, 12, 13, 14, 6, 15, 16, 17, 2, 22, 23, 24, 25, 8, 3, 4, 5, 7, 9, 10, 11, 26, 27, 28, 29, 30, 1, 31, 32, 33, 34, 35, 36, 37, 38, 39, 40, 41, 42, 43, 44, 45, 46, 47] (by decide +kernel) (by decide +kernel)
set_option maxRecDepth 20000 in
theorem gX0_resume_X0_wake : GoodIn wsX0_resume (wsV RX0 62 RX0 yX0_wake wsX0_wake) := goodIn_app (goodIn_of _ (by decide +kernel)) ggX0_resume_X0_wake
theorem dX0_resume_0 : decode cX0_resume 0 = .ok (.aload_n 0, 1) := by decide +kernel
theorem dX0_resume_1 : decode cX0_resume 1 = .ok (.iload_n 1, 1) := by decide +kernel
theorem dX0_resume_2 : decode cX0_resume 2 = .ok (.invokevirtual 52, 3) := by decide +kernel
theorem dX0_resume_5 : decode cX0_resume 5 = .ok (.ifCond .eq 28, 3) := by decide +kernel
theorem dX0_resume_8 : decode cX0_resume 8 = .ok (.aload_n 0, 1) := by decide +kernel
theorem dX0_resume_9 : decode cX0_resume 9 = .ok (.getfield 16, 3) := by decide +kernel
theorem dX0_resume_12 : decode cX0_resume 12 = .ok (.iload_n 1, 1) := by decide +kernel
theorem dX0_resume_13 : decode cX0_resume 13 = .ok (.iaload, 1) := by decide +kernel
theorem dX0_resume_14 : decode cX0_resume 14 = .ok (.ifCond .ne 19, 3) := by decide +kernel
theorem dX0_resume_17 : decode cX0_resume 17 = .ok (.iload_n 1, 1) := by decide +kernel
theorem dX0_resume_18 : decode cX0_resume 18 = .ok (.aload_n 0, 1) := by decide +kernel
theorem dX0_resume_19 : decode cX0_resume 19 = .ok (.invokevirtual 58, 3) := by decide +kernel
theorem dX0_resume_22 : decode cX0_resume 22 = .ok (.if_icmp .eq 11, 3) := by decide +kernel
theorem dX0_resume_25 : decode cX0_resume 25 = .ok (.iload_n 1, 1) := by decide +kernel
theorem dX0_resume_26 : decode cX0_resume 26 = .ok (.aload_n 0, 1) := by decide +kernel
theorem dX0_resume_27 : decode cX0_resume 27 = .ok (.getfield 35, 3) := by decide +kernel
theorem dX0_resume_30 : decode cX0_resume 30 = .ok (.if_icmp .ne 5, 3) := by decide +kernel
theorem dX0_resume_33 : decode cX0_resume 33 = .ok (.iconst 0, 1) := by decide +kernel
theorem dX0_resume_34 : decode cX0_resume 34 = .ok (.ireturn, 1) := by decide +kernel
theorem dX0_resume_35 : decode cX0_resume 35 = .ok (.aload_n 0, 1) := by decide +kernel
theorem dX0_resume_36 : decode cX0_resume 36 = .ok (.iload_n 1, 1) := by decide +kernel
theorem dX0_resume_37 : decode cX0_resume 37 = .ok (.invokevirtual 62, 3) := by decide +kernel
theorem dX0_resume_40 : decode cX0_resume 40 = .ok (.iconst 1, 1) := by decide +kernel
theorem dX0_resume_41 : decode cX0_resume 41 = .ok (.ireturn, 1) := by decide +kernel
set_option maxRecDepth 20000 in
theorem ggX0_suspend_X0_present : GoodIn wsX0_suspend wsX0_present := goodIn_r _ [5, 6, 7, 8, 35, 36, 37, 38, 39, 40, 41, 42, 43, 44, 45, 46] (by decide +kernel) (by decide +kernel)
set_option maxRecDepth 20000 in
theorem gX0_suspend_X0_present : GoodIn wsX0_suspend (wsV RX0 58 RX0 yX0_present wsX0_present) := goodIn_app (goodIn_of _ (by decide +kernel)) ggX0_suspend_X0_present
set_option maxRecDepth 20000 in
theorem ggX0_suspend_X0_putAside : GoodIn wsX0_suspend wsX0_putAside := goodIn_r _ [12, 13, 14, 15, 4, 16, 17, 18, 19, 20, 21, 22, 23, 24, 25, 26, 27, 28, 29, 30, 31, 32, 33, 34, 6, 7, 35, 36, 37, 38, 39, 40, 41, 42, 43, 44, 45, 46] (by decide +kernel) (by decide +kernel)
set_option maxRecDepth 20000 in
theorem gX0_suspend_X0_putAside : GoodIn wsX0_suspend (wsV RX0 66 RX0 yX0_putAside wsX0_putAside) := goodIn_app (goodIn_of _ (by decide +kernel)) ggX0_suspend_X0_putAside
theorem dX0_suspend_0 : decode cX0_suspend 0 = .ok (.aload_n 0, 1) := by decide +kernel
theorem dX0_suspend_1 : decode cX0_suspend 1 = .ok (.invokevirtual 58, 3) := by decide +kernel
theorem dX0_suspend_4 : decode cX0_suspend 4 = .ok (.istore_n 1, 1) := by decide +kernel
theorem dX0_suspend_5 : decode cX0_suspend 5 = .ok (.iload_n 1, 1) := by decide +kernel
theorem dX0_suspend_6 : decode cX0_suspend 6 = .ok (.iconst (-1), 1) := by decide +kernel
theorem dX0_suspend_7 : decode cX0_suspend 7 = .ok (.if_icmp .eq 7, 3) := by decide +kernel
theorem dX0_suspend_10 : decode cX0_suspend 10 = .ok (.aload_n 0, 1) := by decide +kernel
theorem dX0_suspend_11 : decode cX0_suspend 11 = .ok (.invokevirtual 66, 3) := by decide +kernel
theorem dX0_suspend_14 : decode cX0_suspend 14 = .ok (.iload_n 1, 1) := by decide +kernel
theorem dX0_suspend_15 : decode cX0_suspend 15 = .ok (.ireturn, 1) := by decide +kernel
set_option maxRecDepth 20000 in
theorem ggX0_end_X0_present : GoodIn wsX0_end wsX0_present := goodIn_r _ [7, 8, 9, 2, 40, 41, 42, 43, 44, 45, 46, 47, 48, 49, 50, 51] (by decide +kernel) (by decide +kernel)
set_option maxRecDepth 20000 in
theorem gX0_end_X0_present : GoodIn wsX0_end (wsV RX0 58 RX0 yX0_present wsX0_present) := goodIn_app (goodIn_of _ (by decide +kernel)) ggX0_end_X0_present
set_option maxRecDepth 20000 in
theorem ggX0_end_X0_isMade : GoodIn wsX0_end wsX0_isMade := goodIn_r _ [13, 1, 14, 15, 6, 16, 40, 41, 42, 43, 44, 45, 46, 47, 48, 49, 50, 51] (by decide +kernel) (by decide +kernel)
set_option maxRecDepth 20000 in
theorem gX0_end_X0_isMade : GoodIn wsX0_end (wsV RX0 52 RX0 yX0_isMade wsX0_isMade) := goodIn_app (goodIn_of _ (by decide +kernel)) ggX0_end_X0_isMade
set_option maxRecDepth 20000 in
theorem ggX0_end_X0_putAside : GoodIn wsX0_end wsX0_putAside := goodIn_r _ [20, 21, 22, 23, 6, 24, 25, 26, 27, 28, 29, 30, 31, 14, 15, 16, 32, 33, 34, 35, 36, 37, 38, 39, 8, 9, 40, 41, 42, 43, 44, 45, 46, 47, 48, 49, 50, 51] (by decide +kernel) (by decide +kernel)
set_option maxRecDepth 20000 in
theorem gX0_end_X0_putAside : GoodIn wsX0_end (wsV RX0 66 RX0 yX0_putAside wsX0_putAside) := goodIn_app (goodIn_of _ (by decide +kernel)) ggX0_end_X0_putAside
theorem dX0_end_0 : decode cX0_end 0 = .ok (.aload_n 0, 1) := by decide +kernel
theorem dX0_end_1 : decode cX0_end 1 = .ok (.invokevirtual 58, 3) := by decide +kernel
theorem dX0_end_4 : decode cX0_end 4 = .ok (.istore_n 1, 1) := by decide +kernel
theorem dX0_end_5 : decode cX0_end 5 = .ok (.aload_n 0, 1) := by decide +kernel
theorem dX0_end_6 : decode cX0_end 6 = .ok (.iload_n 1, 1) := by decide +kernel
theorem dX0_end_7 : decode cX0_end 7 = .ok (.invokevirtual 52, 3) := by decide +kernel
theorem dX0_end_10 : decode cX0_end 10 = .ok (.ifCond .ne 5, 3) := by decide +kernel
theorem dX0_end_13 : decode cX0_end 13 = .ok (.iconst (-1), 1) := by decide +kernel
theorem dX0_end_14 : decode cX0_end 14 = .ok (.ireturn, 1) := by decide +kernel
theorem dX0_end_15 : decode cX0_end 15 = .ok (.aload_n 0, 1) := by decide +kernel
theorem dX0_end_16 : decode cX0_end 16 = .ok (.getfield 9, 3) := by decide +kernel
theorem dX0_end_19 : decode cX0_end 19 = .ok (.iload_n 1, 1) := by decide +kernel
theorem dX0_end_20 : decode cX0_end 20 = .ok (.iconst 0, 1) := by decide +kernel
theorem dX0_end_21 : decode cX0_end 21 = .ok (.iastore, 1) := by decide +kernel
theorem dX0_end_22 : decode cX0_end 22 = .ok (.iload_n 1, 1) := by decide +kernel
theorem dX0_end_23 : decode cX0_end 23 = .ok (.aload_n 0, 1) := by decide +kernel
theorem dX0_end_24 : decode cX0_end 24 = .ok (.getfield 35, 3) := by decide +kernel
theorem dX0_end_27 : decode cX0_end 27 = .ok (.if_icmp .ne 8, 3) := by decide +kernel
theorem dX0_end_30 : decode cX0_end 30 = .ok (.aload_n 0, 1) := by decide +kernel
theorem dX0_end_31 : decode cX0_end 31 = .ok (.iconst (-1), 1) := by decide +kernel
theorem dX0_end_32 : decode cX0_end 32 = .ok (.putfield 35, 3) := by decide +kernel
theorem dX0_end_35 : decode cX0_end 35 = .ok (.aload_n 0, 1) := by decide +kernel
theorem dX0_end_36 : decode cX0_end 36 = .ok (.invokevirtual 66, 3) := by decide +kernel
theorem dX0_end_39 : decode cX0_end 39 = .ok (.iload_n 1, 1) := by decide +kernel
theorem dX0_end_40 : decode cX0_end 40 = .ok (.ireturn, 1) := by decide +kernel
set_option maxRecDepth 20000 in
theorem ggX0_await_X0_present : GoodIn wsX0_await wsX0_present := goodIn_r _ [6, 7, 8, 9, 43, 44, 45, 46, 47, 48, 49, 50, 51, 52, 53, 54] (by decide +kernel) (by decide +kernel)
set_option maxRecDepth 20000 in
theorem gX0_await_X0_present : GoodIn wsX0_await (wsV RX0 58 RX0 yX0_present wsX0_present) := goodIn_app (goodIn_of _ (by decide +kernel)) ggX0_await_X0_present
set_option maxRecDepth 20000 in
theorem ggX0_await_X0_isSemaphore : GoodIn wsX0_await wsX0_isSemaphore := goodIn_r _ [12] (by decide +kernel) (by decide +kernel)
set_option maxRecDepth 20000 in
theorem gX0_await_X0_isSemaphore : GoodIn wsX0_await (va_wsS RX0 69 yX0_isSemaphore wsX0_isSemaphore) := goodIn_app (goodIn_of _ (by decide +kernel)) ggX0_await_X0_isSemaphore
set_option maxRecDepth 20000 in
theorem ggX0_await_X0_enter : GoodIn wsX0_await wsX0_enter := goodIn_r _ [16, 17, 18, 19, 20, 21, 5, 22, 43, 44, 45, 46, 47, 48, 49, 50, 51, 52, 53, 54] (by decide +kernel) (by decide +kernel)
set_option maxRecDepth 20000 in
theorem gX0_await_X0_enter : GoodIn wsX0_await (wsV RX0 72 RX0 yX0_enter wsX0_enter) := goodIn_app (goodIn_of _ (by decide +kernel)) ggX0_await_X0_enter
set_option maxRecDepth 20000 in
theorem ggX0_await_X0_putAside : GoodIn wsX0_await wsX0_putAside := goodIn_r _ [26, 27, 28, 29, 5, 30, 31, 32, 33, 34, 17, 19, 18, 20, 21, 22, 35, 36, 37, 38, 39, 40, 41, 42, 7, 8, 43, 44, 45, 46, 47, 48, 49, 50, 51, 52, 53, 54] (by decide +kernel) (by decide +kernel)
set_option maxRecDepth 20000 in
theorem gX0_await_X0_putAside : GoodIn wsX0_await (wsV RX0 66 RX0 yX0_putAside wsX0_putAside) := goodIn_app (goodIn_of _ (by decide +kernel)) ggX0_await_X0_putAside
theorem dX0_await_0 : decode cX0_await 0 = .ok (.aload_n 0, 1) := by decide +kernel
theorem dX0_await_1 : decode cX0_await 1 = .ok (.invokevirtual 58, 3) := by decide +kernel
theorem dX0_await_4 : decode cX0_await 4 = .ok (.istore_n 2, 1) := by decide +kernel
theorem dX0_await_5 : decode cX0_await 5 = .ok (.iload_n 1, 1) := by decide +kernel
theorem dX0_await_6 : decode cX0_await 6 = .ok (.invokestatic 69, 3) := by decide +kernel
theorem dX0_await_9 : decode cX0_await 9 = .ok (.ifCond .eq 8, 3) := by decide +kernel
theorem dX0_await_12 : decode cX0_await 12 = .ok (.iload_n 2, 1) := by decide +kernel
theorem dX0_await_13 : decode cX0_await 13 = .ok (.iconst (-1), 1) := by decide +kernel
theorem dX0_await_14 : decode cX0_await 14 = .ok (.if_icmp .ne 5, 3) := by decide +kernel
theorem dX0_await_17 : decode cX0_await 17 = .ok (.iconst (-1), 1) := by decide +kernel
theorem dX0_await_18 : decode cX0_await 18 = .ok (.ireturn, 1) := by decide +kernel
theorem dX0_await_19 : decode cX0_await 19 = .ok (.aload_n 0, 1) := by decide +kernel
theorem dX0_await_20 : decode cX0_await 20 = .ok (.getfield 26, 3) := by decide +kernel
theorem dX0_await_23 : decode cX0_await 23 = .ok (.iload_n 1, 1) := by decide +kernel
theorem dX0_await_24 : decode cX0_await 24 = .ok (.iaload, 1) := by decide +kernel
theorem dX0_await_25 : decode cX0_await 25 = .ok (.ifCond .le 15, 3) := by decide +kernel
theorem dX0_await_28 : decode cX0_await 28 = .ok (.aload_n 0, 1) := by decide +kernel
theorem dX0_await_29 : decode cX0_await 29 = .ok (.getfield 26, 3) := by decide +kernel
theorem dX0_await_32 : decode cX0_await 32 = .ok (.iload_n 1, 1) := by decide +kernel
theorem dX0_await_33 : decode cX0_await 33 = .ok (.dup2, 1) := by decide +kernel
theorem dX0_await_34 : decode cX0_await 34 = .ok (.iaload, 1) := by decide +kernel
theorem dX0_await_35 : decode cX0_await 35 = .ok (.iconst 1, 1) := by decide +kernel
theorem dX0_await_36 : decode cX0_await 36 = .ok (.isub, 1) := by decide +kernel
theorem dX0_await_37 : decode cX0_await 37 = .ok (.iastore, 1) := by decide +kernel
theorem dX0_await_38 : decode cX0_await 38 = .ok (.iconst 1, 1) := by decide +kernel
theorem dX0_await_39 : decode cX0_await 39 = .ok (.ireturn, 1) := by decide +kernel
theorem dX0_await_40 : decode cX0_await 40 = .ok (.aload_n 0, 1) := by decide +kernel
theorem dX0_await_41 : decode cX0_await 41 = .ok (.iload_n 2, 1) := by decide +kernel
theorem dX0_await_42 : decode cX0_await 42 = .ok (.bipush 16, 2) := by decide +kernel
theorem dX0_await_44 : decode cX0_await 44 = .ok (.iload_n 1, 1) := by decide +kernel
theorem dX0_await_45 : decode cX0_await 45 = .ok (.iadd, 1) := by decide +kernel
theorem dX0_await_46 : decode cX0_await 46 = .ok (.invokevirtual 72, 3) := by decide +kernel
theorem dX0_await_49 : decode cX0_await 49 = .ok (.aload_n 0, 1) := by decide +kernel
theorem dX0_await_50 : decode cX0_await 50 = .ok (.invokevirtual 66, 3) := by decide +kernel
theorem dX0_await_53 : decode cX0_await 53 = .ok (.iconst 0, 1) := by decide +kernel
theorem dX0_await_54 : decode cX0_await 54 = .ok (.ireturn, 1) := by decide +kernel
set_option maxRecDepth 20000 in
theorem ggX0_signal_X0_isSemaphore : GoodIn wsX0_signal wsX0_isSemaphore := goodIn_r _ [5] (by decide +kernel) (by decide +kernel)
set_option maxRecDepth 20000 in
theorem gX0_signal_X0_isSemaphore : GoodIn wsX0_signal (va_wsS RX0 69 yX0_isSemaphore wsX0_isSemaphore) := goodIn_app (goodIn_of _ (by decide +kernel)) ggX0_signal_X0_isSemaphore
set_option maxRecDepth 20000 in
theorem ggX0_signal_X0_at : GoodIn wsX0_signal wsX0_at := goodIn_r _ [9, 10, 11, 12, 13, 14, 4, 15, 48, 49, 50, 51, 52, 53, 54, 55, 56, 57, 58, 59] (by decide +kernel) (by decide +kernel)
set_option maxRecDepth 20000 in
theorem gX0_signal_X0_at : GoodIn wsX0_signal (wsV RX0 76 RX0 yX0_at wsX0_at) := goodIn_app (goodIn_of _ (by decide +kernel)) ggX0_signal_X0_at
set_option maxRecDepth 20000 in
theorem ggX0_signal_X0_leave : GoodIn wsX0_signal wsX0_leave := goodIn_r _ [19, 12, 10, 11, 13, 14, 4, 15, 48, 49, 50, 51, 52, 53, 54, 55, 56, 57, 58, 59] (by decide +kernel) (by decide +kernel)
set_option maxRecDepth 20000 in
theorem gX0_signal_X0_leave : GoodIn wsX0_signal (wsV RX0 80 RX0 yX0_leave wsX0_leave) := goodIn_app (goodIn_of _ (by decide +kernel)) ggX0_signal_X0_leave
set_option maxRecDepth 20000 in
theorem ggX0_signal_X0_wake : GoodIn wsX0_signal wsX0_wake := goodIn_r _ [23, 24, 25, 26, 4, 27, 28, 29, 30, 31, 32, 33, 34, 35, 36, 37, 38, 39, 13, 14, 15, 40, 41, 42, 43, 10, 12, 11, 44, 45, 46, 47, 48, 49, 50, 51, 52, 53, 54, 55, 56, 57, 58, 59] (by decide +kernel) (by decide +kernel)
set_option maxRecDepth 20000 in
theorem gX0_signal_X0_wake : GoodIn wsX0_signal (wsV RX0 62 RX0 yX0_wake wsX0_wake) := goodIn_app (goodIn_of _ (by decide +kernel)) ggX0_signal_X0_wake
theorem dX0_signal_0 : decode cX0_signal 0 = .ok (.iload_n 1, 1) := by decide +kernel
theorem dX0_signal_1 : decode cX0_signal 1 = .ok (.invokestatic 69, 3) := by decide +kernel
theorem dX0_signal_4 : decode cX0_signal 4 = .ok (.ifCond .ne 5, 3) := by decide +kernel
theorem dX0_signal_7 : decode cX0_signal 7 = .ok (.iconst 0, 1) := by decide +kernel
theorem dX0_signal_8 : decode cX0_signal 8 = .ok (.ireturn, 1) := by decide +kernel
theorem dX0_signal_9 : decode cX0_signal 9 = .ok (.aload_n 0, 1) := by decide +kernel
theorem dX0_signal_10 : decode cX0_signal 10 = .ok (.bipush 16, 2) := by decide +kernel
theorem dX0_signal_12 : decode cX0_signal 12 = .ok (.iload_n 1, 1) := by decide +kernel
theorem dX0_signal_13 : decode cX0_signal 13 = .ok (.iadd, 1) := by decide +kernel
theorem dX0_signal_14 : decode cX0_signal 14 = .ok (.iconst 0, 1) := by decide +kernel
theorem dX0_signal_15 : decode cX0_signal 15 = .ok (.invokevirtual 76, 3) := by decide +kernel
theorem dX0_signal_18 : decode cX0_signal 18 = .ok (.istore_n 2, 1) := by decide +kernel
theorem dX0_signal_19 : decode cX0_signal 19 = .ok (.iload_n 2, 1) := by decide +kernel
theorem dX0_signal_20 : decode cX0_signal 20 = .ok (.iconst (-1), 1) := by decide +kernel
theorem dX0_signal_21 : decode cX0_signal 21 = .ok (.if_icmp .ne 16, 3) := by decide +kernel
theorem dX0_signal_24 : decode cX0_signal 24 = .ok (.aload_n 0, 1) := by decide +kernel
theorem dX0_signal_25 : decode cX0_signal 25 = .ok (.getfield 26, 3) := by decide +kernel
theorem dX0_signal_28 : decode cX0_signal 28 = .ok (.iload_n 1, 1) := by decide +kernel
theorem dX0_signal_29 : decode cX0_signal 29 = .ok (.dup2, 1) := by decide +kernel
theorem dX0_signal_30 : decode cX0_signal 30 = .ok (.iaload, 1) := by decide +kernel
theorem dX0_signal_31 : decode cX0_signal 31 = .ok (.iconst 1, 1) := by decide +kernel
theorem dX0_signal_32 : decode cX0_signal 32 = .ok (.iadd, 1) := by decide +kernel
theorem dX0_signal_33 : decode cX0_signal 33 = .ok (.iastore, 1) := by decide +kernel
theorem dX0_signal_34 : decode cX0_signal 34 = .ok (.goto 13, 3) := by decide +kernel
theorem dX0_signal_37 : decode cX0_signal 37 = .ok (.aload_n 0, 1) := by decide +kernel
theorem dX0_signal_38 : decode cX0_signal 38 = .ok (.iload_n 2, 1) := by decide +kernel
theorem dX0_signal_39 : decode cX0_signal 39 = .ok (.invokevirtual 80, 3) := by decide +kernel
theorem dX0_signal_42 : decode cX0_signal 42 = .ok (.aload_n 0, 1) := by decide +kernel
theorem dX0_signal_43 : decode cX0_signal 43 = .ok (.iload_n 2, 1) := by decide +kernel
theorem dX0_signal_44 : decode cX0_signal 44 = .ok (.invokevirtual 62, 3) := by decide +kernel
theorem dX0_signal_47 : decode cX0_signal 47 = .ok (.iconst 1, 1) := by decide +kernel
theorem dX0_signal_48 : decode cX0_signal 48 = .ok (.ireturn, 1) := by decide +kernel
set_option maxRecDepth 20000 in
theorem ggX0_post_X0_isSemaphore : GoodIn wsX0_post wsX0_isSemaphore := goodIn_r _ [6] (by decide +kernel) (by decide +kernel)
set_option maxRecDepth 20000 in
theorem gX0_post_X0_isSemaphore : GoodIn wsX0_post (va_wsS RX0 69 yX0_isSemaphore wsX0_isSemaphore) := goodIn_app (goodIn_of _ (by decide +kernel)) ggX0_post_X0_isSemaphore
theorem dX0_post_0 : decode cX0_post 0 = .ok (.iload_n 1, 1) := by decide +kernel
theorem dX0_post_1 : decode cX0_post 1 = .ok (.invokestatic 69, 3) := by decide +kernel
theorem dX0_post_4 : decode cX0_post 4 = .ok (.ifCond .eq 12, 3) := by decide +kernel
theorem dX0_post_7 : decode cX0_post 7 = .ok (.aload_n 0, 1) := by decide +kernel
theorem dX0_post_8 : decode cX0_post 8 = .ok (.getfield 32, 3) := by decide +kernel
theorem dX0_post_11 : decode cX0_post 11 = .ok (.bipush 40, 2) := by decide +kernel
theorem dX0_post_13 : decode cX0_post 13 = .ok (.if_icmp .lt 5, 3) := by decide +kernel
theorem dX0_post_16 : decode cX0_post 16 = .ok (.iconst (-1), 1) := by decide +kernel
theorem dX0_post_17 : decode cX0_post 17 = .ok (.ireturn, 1) := by decide +kernel
theorem dX0_post_18 : decode cX0_post 18 = .ok (.aload_n 0, 1) := by decide +kernel
theorem dX0_post_19 : decode cX0_post 19 = .ok (.getfield 29, 3) := by decide +kernel
theorem dX0_post_22 : decode cX0_post 22 = .ok (.aload_n 0, 1) := by decide +kernel
theorem dX0_post_23 : decode cX0_post 23 = .ok (.getfield 32, 3) := by decide +kernel
theorem dX0_post_26 : decode cX0_post 26 = .ok (.iload_n 1, 1) := by decide +kernel
theorem dX0_post_27 : decode cX0_post 27 = .ok (.iastore, 1) := by decide +kernel
theorem dX0_post_28 : decode cX0_post 28 = .ok (.aload_n 0, 1) := by decide +kernel
theorem dX0_post_29 : decode cX0_post 29 = .ok (.dup, 1) := by decide +kernel
theorem dX0_post_30 : decode cX0_post 30 = .ok (.getfield 32, 3) := by decide +kernel
theorem dX0_post_33 : decode cX0_post 33 = .ok (.iconst 1, 1) := by decide +kernel
theorem dX0_post_34 : decode cX0_post 34 = .ok (.iadd, 1) := by decide +kernel
theorem dX0_post_35 : decode cX0_post 35 = .ok (.putfield 32, 3) := by decide +kernel
theorem dX0_post_38 : decode cX0_post 38 = .ok (.aload_n 0, 1) := by decide +kernel
theorem dX0_post_39 : decode cX0_post 39 = .ok (.getfield 32, 3) := by decide +kernel
theorem dX0_post_42 : decode cX0_post 42 = .ok (.ireturn, 1) := by decide +kernel
set_option maxRecDepth 20000 in
theorem ggX0_step_X0_signalPosted : GoodIn wsX0_step wsX0_signalPosted := goodIn_r _ [7, 8, 9, 10, 11, 12, 6, 13, 14, 15, 16, 17, 18, 19, 20, 21, 22, 23, 24, 25, 26, 27, 28, 29, 30, 31, 32, 33, 34, 35, 36, 37, 38, 39, 1, 40, 2, 41, 42, 43, 44, 45, 46, 47, 48, 49, 50, 51, 52, 53, 54, 55, 56, 57, 68, 69, 70, 71, 72, 73, 74, 75, 76, 77, 78, 79] (by decide +kernel) (by decide +kernel)
set_option maxRecDepth 20000 in
theorem gX0_step_X0_signalPosted : GoodIn wsX0_step (wsV RX0 83 RX0 yX0_signalPosted wsX0_signalPosted) := goodIn_app (goodIn_of _ (by decide +kernel)) ggX0_step_X0_signalPosted
set_option maxRecDepth 20000 in
theorem ggX0_step_X0_change : GoodIn wsX0_step wsX0_change := goodIn_r _ [61, 2, 62, 63, 40, 1, 25, 26, 6, 27, 64, 65, 66, 67, 46, 47, 48, 49, 45, 68, 69, 70, 71, 72, 73, 74, 75, 76, 77, 78, 79] (by decide +kernel) (by decide +kernel)
set_option maxRecDepth 20000 in
theorem gX0_step_X0_change : GoodIn wsX0_step (wsV RX0 86 RX0 yX0_change wsX0_change) := goodIn_app (goodIn_of _ (by decide +kernel)) ggX0_step_X0_change
theorem dX0_step_0 : decode cX0_step 0 = .ok (.aload_n 0, 1) := by decide +kernel
theorem dX0_step_1 : decode cX0_step 1 = .ok (.invokevirtual 83, 3) := by decide +kernel
theorem dX0_step_4 : decode cX0_step 4 = .ok (.aload_n 0, 1) := by decide +kernel
theorem dX0_step_5 : decode cX0_step 5 = .ok (.getfield 41, 3) := by decide +kernel
theorem dX0_step_8 : decode cX0_step 8 = .ok (.ifCond .eq 7, 3) := by decide +kernel
theorem dX0_step_11 : decode cX0_step 11 = .ok (.aload_n 0, 1) := by decide +kernel
theorem dX0_step_12 : decode cX0_step 12 = .ok (.invokevirtual 86, 3) := by decide +kernel
theorem dX0_step_15 : decode cX0_step 15 = .ok (.aload_n 0, 1) := by decide +kernel
theorem dX0_step_16 : decode cX0_step 16 = .ok (.getfield 35, 3) := by decide +kernel
theorem dX0_step_19 : decode cX0_step 19 = .ok (.ireturn, 1) := by decide +kernel
theorem dX0_work_0 : decode cX0_work 0 = .ok (.iload_n 1, 1) := by decide +kernel
theorem dX0_work_1 : decode cX0_work 1 = .ok (.iconst 1, 1) := by decide +kernel
theorem dX0_work_2 : decode cX0_work 2 = .ok (.if_icmp .lt 25, 3) := by decide +kernel
theorem dX0_work_5 : decode cX0_work 5 = .ok (.iload_n 1, 1) := by decide +kernel
theorem dX0_work_6 : decode cX0_work 6 = .ok (.sipush 1000, 3) := by decide +kernel
theorem dX0_work_9 : decode cX0_work 9 = .ok (.if_icmp .gt 18, 3) := by decide +kernel
theorem dX0_work_12 : decode cX0_work 12 = .ok (.aload_n 0, 1) := by decide +kernel
theorem dX0_work_13 : decode cX0_work 13 = .ok (.getfield 35, 3) := by decide +kernel
theorem dX0_work_16 : decode cX0_work 16 = .ok (.iconst (-1), 1) := by decide +kernel
theorem dX0_work_17 : decode cX0_work 17 = .ok (.if_icmp .eq 10, 3) := by decide +kernel
theorem dX0_work_20 : decode cX0_work 20 = .ok (.aload_n 0, 1) := by decide +kernel
theorem dX0_work_21 : decode cX0_work 21 = .ok (.getfield 41, 3) := by decide +kernel
theorem dX0_work_24 : decode cX0_work 24 = .ok (.ifCond .eq 5, 3) := by decide +kernel
theorem dX0_work_27 : decode cX0_work 27 = .ok (.iconst 0, 1) := by decide +kernel
theorem dX0_work_28 : decode cX0_work 28 = .ok (.ireturn, 1) := by decide +kernel
theorem dX0_work_29 : decode cX0_work 29 = .ok (.aload_n 0, 1) := by decide +kernel
theorem dX0_work_30 : decode cX0_work 30 = .ok (.dup, 1) := by decide +kernel
theorem dX0_work_31 : decode cX0_work 31 = .ok (.getfield 38, 3) := by decide +kernel
theorem dX0_work_34 : decode cX0_work 34 = .ok (.iload_n 1, 1) := by decide +kernel
theorem dX0_work_35 : decode cX0_work 35 = .ok (.iadd, 1) := by decide +kernel
theorem dX0_work_36 : decode cX0_work 36 = .ok (.putfield 38, 3) := by decide +kernel
theorem dX0_work_39 : decode cX0_work 39 = .ok (.iconst 1, 1) := by decide +kernel
theorem dX0_work_40 : decode cX0_work 40 = .ok (.ireturn, 1) := by decide +kernel
set_option maxRecDepth 20000 in
theorem ggX0_take_X0_isProcess : GoodIn wsX0_take wsX0_isProcess := goodIn_r _ [5] (by decide +kernel) (by decide +kernel)
set_option maxRecDepth 20000 in
theorem gX0_take_X0_isProcess : GoodIn wsX0_take (va_wsS RX0 48 yX0_isProcess wsX0_isProcess) := goodIn_app (goodIn_of _ (by decide +kernel)) ggX0_take_X0_isProcess
set_option maxRecDepth 20000 in
theorem ggX0_take_X0_leave : GoodIn wsX0_take wsX0_leave := goodIn_r _ [9, 1, 10, 11, 2, 3, 4, 5, 12, 13, 14, 15, 16, 17, 18, 19, 20, 21, 22, 23] (by decide +kernel) (by decide +kernel)
set_option maxRecDepth 20000 in
theorem gX0_take_X0_leave : GoodIn wsX0_take (wsV RX0 80 RX0 yX0_leave wsX0_leave) := goodIn_app (goodIn_of _ (by decide +kernel)) ggX0_take_X0_leave
theorem dX0_take_0 : decode cX0_take 0 = .ok (.iload_n 1, 1) := by decide +kernel
theorem dX0_take_1 : decode cX0_take 1 = .ok (.invokestatic 48, 3) := by decide +kernel
theorem dX0_take_4 : decode cX0_take 4 = .ok (.ifCond .eq 12, 3) := by decide +kernel
theorem dX0_take_7 : decode cX0_take 7 = .ok (.aload_n 0, 1) := by decide +kernel
theorem dX0_take_8 : decode cX0_take 8 = .ok (.getfield 16, 3) := by decide +kernel
theorem dX0_take_11 : decode cX0_take 11 = .ok (.iload_n 1, 1) := by decide +kernel
theorem dX0_take_12 : decode cX0_take 12 = .ok (.iaload, 1) := by decide +kernel
theorem dX0_take_13 : decode cX0_take 13 = .ok (.ifCond .ne 5, 3) := by decide +kernel
theorem dX0_take_16 : decode cX0_take 16 = .ok (.iconst 0, 1) := by decide +kernel
theorem dX0_take_17 : decode cX0_take 17 = .ok (.ireturn, 1) := by decide +kernel
theorem dX0_take_18 : decode cX0_take 18 = .ok (.aload_n 0, 1) := by decide +kernel
theorem dX0_take_19 : decode cX0_take 19 = .ok (.iload_n 1, 1) := by decide +kernel
theorem dX0_take_20 : decode cX0_take 20 = .ok (.invokevirtual 80, 3) := by decide +kernel
theorem dX0_take_23 : decode cX0_take 23 = .ok (.iconst 1, 1) := by decide +kernel
theorem dX0_take_24 : decode cX0_take 24 = .ok (.ireturn, 1) := by decide +kernel
set_option maxRecDepth 20000 in
theorem ggX0_rate_X0_isMade : GoodIn wsX0_rate wsX0_isMade := goodIn_r _ [6, 1, 7, 8, 5, 9, 13, 14, 15, 16, 17, 18, 19, 20, 21, 22, 23, 24] (by decide +kernel) (by decide +kernel)
set_option maxRecDepth 20000 in
theorem gX0_rate_X0_isMade : GoodIn wsX0_rate (wsV RX0 52 RX0 yX0_isMade wsX0_isMade) := goodIn_app (goodIn_of _ (by decide +kernel)) ggX0_rate_X0_isMade
set_option maxRecDepth 20000 in
theorem ggX0_rate_X0_isPriority : GoodIn wsX0_rate wsX0_isPriority := goodIn_r _ [12] (by decide +kernel) (by decide +kernel)
set_option maxRecDepth 20000 in
theorem gX0_rate_X0_isPriority : GoodIn wsX0_rate (va_wsS RX0 55 yX0_isPriority wsX0_isPriority) := goodIn_app (goodIn_of _ (by decide +kernel)) ggX0_rate_X0_isPriority
theorem dX0_rate_0 : decode cX0_rate 0 = .ok (.aload_n 0, 1) := by decide +kernel
theorem dX0_rate_1 : decode cX0_rate 1 = .ok (.iload_n 1, 1) := by decide +kernel
theorem dX0_rate_2 : decode cX0_rate 2 = .ok (.invokevirtual 52, 3) := by decide +kernel
theorem dX0_rate_5 : decode cX0_rate 5 = .ok (.ifCond .eq 10, 3) := by decide +kernel
theorem dX0_rate_8 : decode cX0_rate 8 = .ok (.iload_n 2, 1) := by decide +kernel
theorem dX0_rate_9 : decode cX0_rate 9 = .ok (.invokestatic 55, 3) := by decide +kernel
theorem dX0_rate_12 : decode cX0_rate 12 = .ok (.ifCond .ne 5, 3) := by decide +kernel
theorem dX0_rate_15 : decode cX0_rate 15 = .ok (.iconst (-1), 1) := by decide +kernel
theorem dX0_rate_16 : decode cX0_rate 16 = .ok (.ireturn, 1) := by decide +kernel
theorem dX0_rate_17 : decode cX0_rate 17 = .ok (.aload_n 0, 1) := by decide +kernel
theorem dX0_rate_18 : decode cX0_rate 18 = .ok (.getfield 9, 3) := by decide +kernel
theorem dX0_rate_21 : decode cX0_rate 21 = .ok (.iload_n 1, 1) := by decide +kernel
theorem dX0_rate_22 : decode cX0_rate 22 = .ok (.iaload, 1) := by decide +kernel
theorem dX0_rate_23 : decode cX0_rate 23 = .ok (.istore_n 3, 1) := by decide +kernel
theorem dX0_rate_24 : decode cX0_rate 24 = .ok (.aload_n 0, 1) := by decide +kernel
theorem dX0_rate_25 : decode cX0_rate 25 = .ok (.getfield 9, 3) := by decide +kernel
theorem dX0_rate_28 : decode cX0_rate 28 = .ok (.iload_n 1, 1) := by decide +kernel
theorem dX0_rate_29 : decode cX0_rate 29 = .ok (.iload_n 2, 1) := by decide +kernel
theorem dX0_rate_30 : decode cX0_rate 30 = .ok (.iastore, 1) := by decide +kernel
theorem dX0_rate_31 : decode cX0_rate 31 = .ok (.iload_n 3, 1) := by decide +kernel
theorem dX0_rate_32 : decode cX0_rate 32 = .ok (.ireturn, 1) := by decide +kernel
set_option maxRecDepth 20000 in
theorem ggX0_yield_X0_present : GoodIn wsX0_yield wsX0_present := goodIn_r _ [6, 7, 8, 9, 44, 45, 46, 47, 48, 49, 50, 51, 52, 53, 54, 55] (by decide +kernel) (by decide +kernel)
set_option maxRecDepth 20000 in
theorem gX0_yield_X0_present : GoodIn wsX0_yield (wsV RX0 58 RX0 yX0_present wsX0_present) := goodIn_app (goodIn_of _ (by decide +kernel)) ggX0_yield_X0_present
set_option maxRecDepth 20000 in
theorem ggX0_yield_X0_isMade : GoodIn wsX0_yield wsX0_isMade := goodIn_r _ [13, 1, 14, 15, 5, 16, 44, 45, 46, 47, 48, 49, 50, 51, 52, 53, 54, 55] (by decide +kernel) (by decide +kernel)
set_option maxRecDepth 20000 in
theorem gX0_yield_X0_isMade : GoodIn wsX0_yield (wsV RX0 52 RX0 yX0_isMade wsX0_isMade) := goodIn_app (goodIn_of _ (by decide +kernel)) ggX0_yield_X0_isMade
set_option maxRecDepth 20000 in
theorem ggX0_yield_X0_at : GoodIn wsX0_yield wsX0_at := goodIn_r _ [20, 21, 22, 23, 14, 15, 5, 16, 44, 45, 46, 47, 48, 49, 50, 51, 52, 53, 54, 55] (by decide +kernel) (by decide +kernel)
set_option maxRecDepth 20000 in
theorem gX0_yield_X0_at : GoodIn wsX0_yield (wsV RX0 76 RX0 yX0_at wsX0_at) := goodIn_app (goodIn_of _ (by decide +kernel)) ggX0_yield_X0_at
set_option maxRecDepth 20000 in
theorem ggX0_yield_X0_enter : GoodIn wsX0_yield wsX0_enter := goodIn_r _ [27, 21, 23, 22, 14, 15, 5, 16, 44, 45, 46, 47, 48, 49, 50, 51, 52, 53, 54, 55] (by decide +kernel) (by decide +kernel)
set_option maxRecDepth 20000 in
theorem gX0_yield_X0_enter : GoodIn wsX0_yield (wsV RX0 72 RX0 yX0_enter wsX0_enter) := goodIn_app (goodIn_of _ (by decide +kernel)) ggX0_yield_X0_enter
set_option maxRecDepth 20000 in
theorem ggX0_yield_X0_putAside : GoodIn wsX0_yield wsX0_putAside := goodIn_r _ [31, 32, 33, 34, 5, 35, 17, 18, 19, 20, 21, 22, 23, 14, 15, 16, 36, 37, 38, 39, 40, 41, 42, 43, 7, 8, 44, 45, 46, 47, 48, 49, 50, 51, 52, 53, 54, 55] (by decide +kernel) (by decide +kernel)
set_option maxRecDepth 20000 in
theorem gX0_yield_X0_putAside : GoodIn wsX0_yield (wsV RX0 66 RX0 yX0_putAside wsX0_putAside) := goodIn_app (goodIn_of _ (by decide +kernel)) ggX0_yield_X0_putAside
theorem dX0_yield_0 : decode cX0_yield 0 = .ok (.aload_n 0, 1) := by decide +kernel
theorem dX0_yield_1 : decode cX0_yield 1 = .ok (.invokevirtual 58, 3) := by decide +kernel
theorem dX0_yield_4 : decode cX0_yield 4 = .ok (.istore_n 1, 1) := by decide +kernel
theorem dX0_yield_5 : decode cX0_yield 5 = .ok (.aload_n 0, 1) := by decide +kernel
theorem dX0_yield_6 : decode cX0_yield 6 = .ok (.iload_n 1, 1) := by decide +kernel
theorem dX0_yield_7 : decode cX0_yield 7 = .ok (.invokevirtual 52, 3) := by decide +kernel
theorem dX0_yield_10 : decode cX0_yield 10 = .ok (.ifCond .eq 18, 3) := by decide +kernel
theorem dX0_yield_13 : decode cX0_yield 13 = .ok (.aload_n 0, 1) := by decide +kernel
theorem dX0_yield_14 : decode cX0_yield 14 = .ok (.aload_n 0, 1) := by decide +kernel
theorem dX0_yield_15 : decode cX0_yield 15 = .ok (.getfield 9, 3) := by decide +kernel
theorem dX0_yield_18 : decode cX0_yield 18 = .ok (.iload_n 1, 1) := by decide +kernel
theorem dX0_yield_19 : decode cX0_yield 19 = .ok (.iaload, 1) := by decide +kernel
theorem dX0_yield_20 : decode cX0_yield 20 = .ok (.iconst 0, 1) := by decide +kernel
theorem dX0_yield_21 : decode cX0_yield 21 = .ok (.invokevirtual 76, 3) := by decide +kernel
theorem dX0_yield_24 : decode cX0_yield 24 = .ok (.iconst (-1), 1) := by decide +kernel
theorem dX0_yield_25 : decode cX0_yield 25 = .ok (.if_icmp .ne 5, 3) := by decide +kernel
theorem dX0_yield_28 : decode cX0_yield 28 = .ok (.iconst 0, 1) := by decide +kernel
theorem dX0_yield_29 : decode cX0_yield 29 = .ok (.ireturn, 1) := by decide +kernel
theorem dX0_yield_30 : decode cX0_yield 30 = .ok (.aload_n 0, 1) := by decide +kernel
theorem dX0_yield_31 : decode cX0_yield 31 = .ok (.iload_n 1, 1) := by decide +kernel
theorem dX0_yield_32 : decode cX0_yield 32 = .ok (.aload_n 0, 1) := by decide +kernel
theorem dX0_yield_33 : decode cX0_yield 33 = .ok (.getfield 9, 3) := by decide +kernel
theorem dX0_yield_36 : decode cX0_yield 36 = .ok (.iload_n 1, 1) := by decide +kernel
theorem dX0_yield_37 : decode cX0_yield 37 = .ok (.iaload, 1) := by decide +kernel
theorem dX0_yield_38 : decode cX0_yield 38 = .ok (.invokevirtual 72, 3) := by decide +kernel
theorem dX0_yield_41 : decode cX0_yield 41 = .ok (.aload_n 0, 1) := by decide +kernel
theorem dX0_yield_42 : decode cX0_yield 42 = .ok (.invokevirtual 66, 3) := by decide +kernel
theorem dX0_yield_45 : decode cX0_yield 45 = .ok (.iconst 1, 1) := by decide +kernel
theorem dX0_yield_46 : decode cX0_yield 46 = .ok (.ireturn, 1) := by decide +kernel
theorem dX0_active_0 : decode cX0_active 0 = .ok (.aload_n 0, 1) := by decide +kernel
theorem dX0_active_1 : decode cX0_active 1 = .ok (.getfield 35, 3) := by decide +kernel
theorem dX0_active_4 : decode cX0_active 4 = .ok (.ireturn, 1) := by decide +kernel
theorem dX0_present_0 : decode cX0_present 0 = .ok (.aload_n 0, 1) := by decide +kernel
theorem dX0_present_1 : decode cX0_present 1 = .ok (.getfield 41, 3) := by decide +kernel
theorem dX0_present_4 : decode cX0_present 4 = .ok (.ifCond .eq 10, 3) := by decide +kernel
theorem dX0_present_7 : decode cX0_present 7 = .ok (.aload_n 0, 1) := by decide +kernel
theorem dX0_present_8 : decode cX0_present 8 = .ok (.getfield 45, 3) := by decide +kernel
theorem dX0_present_11 : decode cX0_present 11 = .ok (.goto 7, 3) := by decide +kernel
theorem dX0_present_14 : decode cX0_present 14 = .ok (.aload_n 0, 1) := by decide +kernel
theorem dX0_present_15 : decode cX0_present 15 = .ok (.getfield 35, 3) := by decide +kernel
theorem dX0_present_18 : decode cX0_present 18 = .ok (.ireturn, 1) := by decide +kernel
theorem dX0_wanted_0 : decode cX0_wanted 0 = .ok (.aload_n 0, 1) := by decide +kernel
theorem dX0_wanted_1 : decode cX0_wanted 1 = .ok (.getfield 41, 3) := by decide +kernel
theorem dX0_wanted_4 : decode cX0_wanted 4 = .ok (.ireturn, 1) := by decide +kernel
theorem dX0_here_0 : decode cX0_here 0 = .ok (.aload_n 0, 1) := by decide +kernel
theorem dX0_here_1 : decode cX0_here 1 = .ok (.getfield 38, 3) := by decide +kernel
theorem dX0_here_4 : decode cX0_here 4 = .ok (.ireturn, 1) := by decide +kernel
set_option maxRecDepth 20000 in
theorem ggX0_place_X0_isMade : GoodIn wsX0_place wsX0_isMade := goodIn_r _ [6, 7, 8, 9, 5, 10, 11, 12, 13, 14, 15, 16, 17, 18, 19, 20, 21, 22] (by decide +kernel) (by decide +kernel)
set_option maxRecDepth 20000 in
theorem gX0_place_X0_isMade : GoodIn wsX0_place (wsV RX0 52 RX0 yX0_isMade wsX0_isMade) := goodIn_app (goodIn_of _ (by decide +kernel)) ggX0_place_X0_isMade
theorem dX0_place_0 : decode cX0_place 0 = .ok (.aload_n 0, 1) := by decide +kernel
theorem dX0_place_1 : decode cX0_place 1 = .ok (.iload_n 1, 1) := by decide +kernel
theorem dX0_place_2 : decode cX0_place 2 = .ok (.invokevirtual 52, 3) := by decide +kernel
theorem dX0_place_5 : decode cX0_place 5 = .ok (.ifCond .eq 12, 3) := by decide +kernel
theorem dX0_place_8 : decode cX0_place 8 = .ok (.aload_n 0, 1) := by decide +kernel
theorem dX0_place_9 : decode cX0_place 9 = .ok (.getfield 13, 3) := by decide +kernel
theorem dX0_place_12 : decode cX0_place 12 = .ok (.iload_n 1, 1) := by decide +kernel
theorem dX0_place_13 : decode cX0_place 13 = .ok (.iaload, 1) := by decide +kernel
theorem dX0_place_14 : decode cX0_place 14 = .ok (.goto 4, 3) := by decide +kernel
theorem dX0_place_17 : decode cX0_place 17 = .ok (.iconst 0, 1) := by decide +kernel
theorem dX0_place_18 : decode cX0_place 18 = .ok (.ireturn, 1) := by decide +kernel
set_option maxRecDepth 20000 in
theorem ggX0_priority_X0_isMade : GoodIn wsX0_priority wsX0_isMade := goodIn_r _ [6, 1, 7, 8, 5, 9, 10, 11, 12, 13, 14, 15, 16, 17, 18, 19, 20, 21] (by decide +kernel) (by decide +kernel)
set_option maxRecDepth 20000 in
theorem gX0_priority_X0_isMade : GoodIn wsX0_priority (wsV RX0 52 RX0 yX0_isMade wsX0_isMade) := goodIn_app (goodIn_of _ (by decide +kernel)) ggX0_priority_X0_isMade
theorem dX0_priority_0 : decode cX0_priority 0 = .ok (.aload_n 0, 1) := by decide +kernel
theorem dX0_priority_1 : decode cX0_priority 1 = .ok (.iload_n 1, 1) := by decide +kernel
theorem dX0_priority_2 : decode cX0_priority 2 = .ok (.invokevirtual 52, 3) := by decide +kernel
theorem dX0_priority_5 : decode cX0_priority 5 = .ok (.ifCond .eq 12, 3) := by decide +kernel
theorem dX0_priority_8 : decode cX0_priority 8 = .ok (.aload_n 0, 1) := by decide +kernel
theorem dX0_priority_9 : decode cX0_priority 9 = .ok (.getfield 9, 3) := by decide +kernel
theorem dX0_priority_12 : decode cX0_priority 12 = .ok (.iload_n 1, 1) := by decide +kernel
theorem dX0_priority_13 : decode cX0_priority 13 = .ok (.iaload, 1) := by decide +kernel
theorem dX0_priority_14 : decode cX0_priority 14 = .ok (.goto 4, 3) := by decide +kernel
theorem dX0_priority_17 : decode cX0_priority 17 = .ok (.iconst (-1), 1) := by decide +kernel
theorem dX0_priority_18 : decode cX0_priority 18 = .ok (.ireturn, 1) := by decide +kernel
set_option maxRecDepth 20000 in
theorem ggX0_row_X0_isMade : GoodIn wsX0_row wsX0_isMade := goodIn_r _ [6, 7, 8, 9, 5, 10, 11, 12, 13, 14, 15, 16, 17, 18, 19, 20, 21, 22] (by decide +kernel) (by decide +kernel)
set_option maxRecDepth 20000 in
theorem gX0_row_X0_isMade : GoodIn wsX0_row (wsV RX0 52 RX0 yX0_isMade wsX0_isMade) := goodIn_app (goodIn_of _ (by decide +kernel)) ggX0_row_X0_isMade
theorem dX0_row_0 : decode cX0_row 0 = .ok (.aload_n 0, 1) := by decide +kernel
theorem dX0_row_1 : decode cX0_row 1 = .ok (.iload_n 1, 1) := by decide +kernel
theorem dX0_row_2 : decode cX0_row 2 = .ok (.invokevirtual 52, 3) := by decide +kernel
theorem dX0_row_5 : decode cX0_row 5 = .ok (.ifCond .eq 12, 3) := by decide +kernel
theorem dX0_row_8 : decode cX0_row 8 = .ok (.aload_n 0, 1) := by decide +kernel
theorem dX0_row_9 : decode cX0_row 9 = .ok (.getfield 16, 3) := by decide +kernel
theorem dX0_row_12 : decode cX0_row 12 = .ok (.iload_n 1, 1) := by decide +kernel
theorem dX0_row_13 : decode cX0_row 13 = .ok (.iaload, 1) := by decide +kernel
theorem dX0_row_14 : decode cX0_row 14 = .ok (.goto 4, 3) := by decide +kernel
theorem dX0_row_17 : decode cX0_row 17 = .ok (.iconst (-1), 1) := by decide +kernel
theorem dX0_row_18 : decode cX0_row 18 = .ok (.ireturn, 1) := by decide +kernel
set_option maxRecDepth 20000 in
theorem ggX0_at_X0_isProcess : GoodIn wsX0_at wsX0_isProcess := goodIn_r _ [7] (by decide +kernel) (by decide +kernel)
set_option maxRecDepth 20000 in
theorem gX0_at_X0_isProcess : GoodIn wsX0_at (va_wsS RX0 48 yX0_isProcess wsX0_isProcess) := goodIn_app (goodIn_of _ (by decide +kernel)) ggX0_at_X0_isProcess
theorem dX0_at_0 : decode cX0_at 0 = .ok (.iconst 0, 1) := by decide +kernel
theorem dX0_at_1 : decode cX0_at 1 = .ok (.istore_n 3, 1) := by decide +kernel
theorem dX0_at_2 : decode cX0_at 2 = .ok (.iconst 0, 1) := by decide +kernel
theorem dX0_at_3 : decode cX0_at 3 = .ok (.istore 4, 2) := by decide +kernel
theorem dX0_at_5 : decode cX0_at 5 = .ok (.iload 4, 2) := by decide +kernel
theorem dX0_at_7 : decode cX0_at 7 = .ok (.aload_n 0, 1) := by decide +kernel
theorem dX0_at_8 : decode cX0_at 8 = .ok (.getfield 22, 3) := by decide +kernel
theorem dX0_at_11 : decode cX0_at 11 = .ok (.if_icmp .ge 55, 3) := by decide +kernel
theorem dX0_at_14 : decode cX0_at 14 = .ok (.iload 4, 2) := by decide +kernel
theorem dX0_at_16 : decode cX0_at 16 = .ok (.bipush 32, 2) := by decide +kernel
theorem dX0_at_18 : decode cX0_at 18 = .ok (.if_icmp .ge 48, 3) := by decide +kernel
theorem dX0_at_21 : decode cX0_at 21 = .ok (.aload_n 0, 1) := by decide +kernel
theorem dX0_at_22 : decode cX0_at 22 = .ok (.getfield 19, 3) := by decide +kernel
theorem dX0_at_25 : decode cX0_at 25 = .ok (.iload 4, 2) := by decide +kernel
theorem dX0_at_27 : decode cX0_at 27 = .ok (.iaload, 1) := by decide +kernel
theorem dX0_at_28 : decode cX0_at 28 = .ok (.istore 5, 2) := by decide +kernel
theorem dX0_at_30 : decode cX0_at 30 = .ok (.iload 5, 2) := by decide +kernel
theorem dX0_at_32 : decode cX0_at 32 = .ok (.invokestatic 48, 3) := by decide +kernel
theorem dX0_at_35 : decode cX0_at 35 = .ok (.ifCond .eq 25, 3) := by decide +kernel
theorem dX0_at_38 : decode cX0_at 38 = .ok (.aload_n 0, 1) := by decide +kernel
theorem dX0_at_39 : decode cX0_at 39 = .ok (.getfield 16, 3) := by decide +kernel
theorem dX0_at_42 : decode cX0_at 42 = .ok (.iload 5, 2) := by decide +kernel
theorem dX0_at_44 : decode cX0_at 44 = .ok (.iaload, 1) := by decide +kernel
theorem dX0_at_45 : decode cX0_at 45 = .ok (.iload_n 1, 1) := by decide +kernel
theorem dX0_at_46 : decode cX0_at 46 = .ok (.if_icmp .ne 14, 3) := by decide +kernel
theorem dX0_at_49 : decode cX0_at 49 = .ok (.iload_n 3, 1) := by decide +kernel
theorem dX0_at_50 : decode cX0_at 50 = .ok (.iload_n 2, 1) := by decide +kernel
theorem dX0_at_51 : decode cX0_at 51 = .ok (.if_icmp .ne 6, 3) := by decide +kernel
theorem dX0_at_54 : decode cX0_at 54 = .ok (.iload 5, 2) := by decide +kernel
theorem dX0_at_56 : decode cX0_at 56 = .ok (.ireturn, 1) := by decide +kernel
theorem dX0_at_57 : decode cX0_at 57 = .ok (.iinc 3 1, 3) := by decide +kernel
theorem dX0_at_60 : decode cX0_at 60 = .ok (.iinc 4 1, 3) := by decide +kernel
theorem dX0_at_63 : decode cX0_at 63 = .ok (.goto (-58), 3) := by decide +kernel
theorem dX0_at_66 : decode cX0_at 66 = .ok (.iconst (-1), 1) := by decide +kernel
theorem dX0_at_67 : decode cX0_at 67 = .ok (.ireturn, 1) := by decide +kernel
set_option maxRecDepth 20000 in
theorem ggX0_extra_X0_isSemaphore : GoodIn wsX0_extra wsX0_isSemaphore := goodIn_r _ [5] (by decide +kernel) (by decide +kernel)
set_option maxRecDepth 20000 in
theorem gX0_extra_X0_isSemaphore : GoodIn wsX0_extra (va_wsS RX0 69 yX0_isSemaphore wsX0_isSemaphore) := goodIn_app (goodIn_of _ (by decide +kernel)) ggX0_extra_X0_isSemaphore
theorem dX0_extra_0 : decode cX0_extra 0 = .ok (.iload_n 1, 1) := by decide +kernel
theorem dX0_extra_1 : decode cX0_extra 1 = .ok (.invokestatic 69, 3) := by decide +kernel
theorem dX0_extra_4 : decode cX0_extra 4 = .ok (.ifCond .eq 12, 3) := by decide +kernel
theorem dX0_extra_7 : decode cX0_extra 7 = .ok (.aload_n 0, 1) := by decide +kernel
theorem dX0_extra_8 : decode cX0_extra 8 = .ok (.getfield 26, 3) := by decide +kernel
theorem dX0_extra_11 : decode cX0_extra 11 = .ok (.iload_n 1, 1) := by decide +kernel
theorem dX0_extra_12 : decode cX0_extra 12 = .ok (.iaload, 1) := by decide +kernel
theorem dX0_extra_13 : decode cX0_extra 13 = .ok (.goto 4, 3) := by decide +kernel
theorem dX0_extra_16 : decode cX0_extra 16 = .ok (.iconst (-1), 1) := by decide +kernel
theorem dX0_extra_17 : decode cX0_extra 17 = .ok (.ireturn, 1) := by decide +kernel
theorem dX0_posted_0 : decode cX0_posted 0 = .ok (.iload_n 1, 1) := by decide +kernel
theorem dX0_posted_1 : decode cX0_posted 1 = .ok (.ifCond .lt 26, 3) := by decide +kernel
theorem dX0_posted_4 : decode cX0_posted 4 = .ok (.iload_n 1, 1) := by decide +kernel
theorem dX0_posted_5 : decode cX0_posted 5 = .ok (.aload_n 0, 1) := by decide +kernel
theorem dX0_posted_6 : decode cX0_posted 6 = .ok (.getfield 32, 3) := by decide +kernel
theorem dX0_posted_9 : decode cX0_posted 9 = .ok (.if_icmp .ge 18, 3) := by decide +kernel
theorem dX0_posted_12 : decode cX0_posted 12 = .ok (.iload_n 1, 1) := by decide +kernel
theorem dX0_posted_13 : decode cX0_posted 13 = .ok (.bipush 40, 2) := by decide +kernel
theorem dX0_posted_15 : decode cX0_posted 15 = .ok (.if_icmp .ge 12, 3) := by decide +kernel
theorem dX0_posted_18 : decode cX0_posted 18 = .ok (.aload_n 0, 1) := by decide +kernel
theorem dX0_posted_19 : decode cX0_posted 19 = .ok (.getfield 29, 3) := by decide +kernel
theorem dX0_posted_22 : decode cX0_posted 22 = .ok (.iload_n 1, 1) := by decide +kernel
theorem dX0_posted_23 : decode cX0_posted 23 = .ok (.iaload, 1) := by decide +kernel
theorem dX0_posted_24 : decode cX0_posted 24 = .ok (.goto 4, 3) := by decide +kernel
theorem dX0_posted_27 : decode cX0_posted 27 = .ok (.iconst (-1), 1) := by decide +kernel
theorem dX0_posted_28 : decode cX0_posted 28 = .ok (.ireturn, 1) := by decide +kernel
theorem dX0_isProcess_0 : decode cX0_isProcess 0 = .ok (.iload_n 0, 1) := by decide +kernel
theorem dX0_isProcess_1 : decode cX0_isProcess 1 = .ok (.ifCond .lt 13, 3) := by decide +kernel
theorem dX0_isProcess_4 : decode cX0_isProcess 4 = .ok (.iload_n 0, 1) := by decide +kernel
theorem dX0_isProcess_5 : decode cX0_isProcess 5 = .ok (.bipush 32, 2) := by decide +kernel
theorem dX0_isProcess_7 : decode cX0_isProcess 7 = .ok (.if_icmp .ge 7, 3) := by decide +kernel
theorem dX0_isProcess_10 : decode cX0_isProcess 10 = .ok (.iconst 1, 1) := by decide +kernel
theorem dX0_isProcess_11 : decode cX0_isProcess 11 = .ok (.goto 4, 3) := by decide +kernel
theorem dX0_isProcess_14 : decode cX0_isProcess 14 = .ok (.iconst 0, 1) := by decide +kernel
theorem dX0_isProcess_15 : decode cX0_isProcess 15 = .ok (.ireturn, 1) := by decide +kernel
theorem dX0_isSemaphore_0 : decode cX0_isSemaphore 0 = .ok (.iload_n 0, 1) := by decide +kernel
theorem dX0_isSemaphore_1 : decode cX0_isSemaphore 1 = .ok (.ifCond .lt 13, 3) := by decide +kernel
theorem dX0_isSemaphore_4 : decode cX0_isSemaphore 4 = .ok (.iload_n 0, 1) := by decide +kernel
theorem dX0_isSemaphore_5 : decode cX0_isSemaphore 5 = .ok (.bipush 16, 2) := by decide +kernel
theorem dX0_isSemaphore_7 : decode cX0_isSemaphore 7 = .ok (.if_icmp .ge 7, 3) := by decide +kernel
theorem dX0_isSemaphore_10 : decode cX0_isSemaphore 10 = .ok (.iconst 1, 1) := by decide +kernel
theorem dX0_isSemaphore_11 : decode cX0_isSemaphore 11 = .ok (.goto 4, 3) := by decide +kernel
theorem dX0_isSemaphore_14 : decode cX0_isSemaphore 14 = .ok (.iconst 0, 1) := by decide +kernel
theorem dX0_isSemaphore_15 : decode cX0_isSemaphore 15 = .ok (.ireturn, 1) := by decide +kernel
theorem dX0_isPriority_0 : decode cX0_isPriority 0 = .ok (.iload_n 0, 1) := by decide +kernel
theorem dX0_isPriority_1 : decode cX0_isPriority 1 = .ok (.iconst 1, 1) := by decide +kernel
theorem dX0_isPriority_2 : decode cX0_isPriority 2 = .ok (.if_icmp .lt 13, 3) := by decide +kernel
theorem dX0_isPriority_5 : decode cX0_isPriority 5 = .ok (.iload_n 0, 1) := by decide +kernel
theorem dX0_isPriority_6 : decode cX0_isPriority 6 = .ok (.bipush 8, 2) := by decide +kernel
theorem dX0_isPriority_8 : decode cX0_isPriority 8 = .ok (.if_icmp .gt 7, 3) := by decide +kernel
theorem dX0_isPriority_11 : decode cX0_isPriority 11 = .ok (.iconst 1, 1) := by decide +kernel
theorem dX0_isPriority_12 : decode cX0_isPriority 12 = .ok (.goto 4, 3) := by decide +kernel
theorem dX0_isPriority_15 : decode cX0_isPriority 15 = .ok (.iconst 0, 1) := by decide +kernel
theorem dX0_isPriority_16 : decode cX0_isPriority 16 = .ok (.ireturn, 1) := by decide +kernel
set_option maxRecDepth 20000 in
theorem ggX0_isMade_X0_isProcess : GoodIn wsX0_isMade wsX0_isProcess := goodIn_r _ [5] (by decide +kernel) (by decide +kernel)
set_option maxRecDepth 20000 in
theorem gX0_isMade_X0_isProcess : GoodIn wsX0_isMade (va_wsS RX0 48 yX0_isProcess wsX0_isProcess) := goodIn_app (goodIn_of _ (by decide +kernel)) ggX0_isMade_X0_isProcess
theorem dX0_isMade_0 : decode cX0_isMade 0 = .ok (.iload_n 1, 1) := by decide +kernel
theorem dX0_isMade_1 : decode cX0_isMade 1 = .ok (.invokestatic 48, 3) := by decide +kernel
theorem dX0_isMade_4 : decode cX0_isMade 4 = .ok (.ifCond .eq 16, 3) := by decide +kernel
theorem dX0_isMade_7 : decode cX0_isMade 7 = .ok (.aload_n 0, 1) := by decide +kernel
theorem dX0_isMade_8 : decode cX0_isMade 8 = .ok (.getfield 9, 3) := by decide +kernel
theorem dX0_isMade_11 : decode cX0_isMade 11 = .ok (.iload_n 1, 1) := by decide +kernel
theorem dX0_isMade_12 : decode cX0_isMade 12 = .ok (.iaload, 1) := by decide +kernel
theorem dX0_isMade_13 : decode cX0_isMade 13 = .ok (.ifCond .eq 7, 3) := by decide +kernel
theorem dX0_isMade_16 : decode cX0_isMade 16 = .ok (.iconst 1, 1) := by decide +kernel
theorem dX0_isMade_17 : decode cX0_isMade 17 = .ok (.goto 4, 3) := by decide +kernel
theorem dX0_isMade_20 : decode cX0_isMade 20 = .ok (.iconst 0, 1) := by decide +kernel
theorem dX0_isMade_21 : decode cX0_isMade 21 = .ok (.ireturn, 1) := by decide +kernel
set_option maxRecDepth 20000 in
theorem ggX0_wake_X0_present : GoodIn wsX0_wake wsX0_present := goodIn_r _ [5, 6, 7, 8, 32, 33, 34, 35, 36, 37, 38, 39, 40, 41, 42, 43] (by decide +kernel) (by decide +kernel)
set_option maxRecDepth 20000 in
theorem gX0_wake_X0_present : GoodIn wsX0_wake (wsV RX0 58 RX0 yX0_present wsX0_present) := goodIn_app (goodIn_of _ (by decide +kernel)) ggX0_wake_X0_present
set_option maxRecDepth 20000 in
theorem ggX0_wake_X0_priority : GoodIn wsX0_wake wsX0_priority := goodIn_r _ [12, 13, 14, 15, 16, 4, 17, 18, 19, 20, 32, 33, 34, 35, 36, 37, 38, 39, 40, 41, 42, 43] (by decide +kernel) (by decide +kernel)
set_option maxRecDepth 20000 in
theorem gX0_wake_X0_priority : GoodIn wsX0_wake (wsV RX0 89 RX0 yX0_priority wsX0_priority) := goodIn_app (goodIn_of _ (by decide +kernel)) ggX0_wake_X0_priority
set_option maxRecDepth 20000 in
theorem ggX0_wake_X0_enter : GoodIn wsX0_wake wsX0_enter := goodIn_r _ [24, 25, 26, 27, 18, 19, 4, 20, 32, 33, 34, 35, 36, 37, 38, 39, 40, 41, 42, 43] (by decide +kernel) (by decide +kernel)
set_option maxRecDepth 20000 in
theorem gX0_wake_X0_enter : GoodIn wsX0_wake (wsV RX0 72 RX0 yX0_enter wsX0_enter) := goodIn_app (goodIn_of _ (by decide +kernel)) ggX0_wake_X0_enter
set_option maxRecDepth 20000 in
theorem ggX0_wake_X0_want : GoodIn wsX0_wake wsX0_want := goodIn_r _ [31, 6, 7, 32, 33, 34, 35, 36, 37, 38, 39, 40, 41, 42, 43] (by decide +kernel) (by decide +kernel)
set_option maxRecDepth 20000 in
theorem gX0_wake_X0_want : GoodIn wsX0_wake (wsV RX0 93 RX0 yX0_want wsX0_want) := goodIn_app (goodIn_of _ (by decide +kernel)) ggX0_wake_X0_want
theorem dX0_wake_0 : decode cX0_wake 0 = .ok (.aload_n 0, 1) := by decide +kernel
theorem dX0_wake_1 : decode cX0_wake 1 = .ok (.invokevirtual 58, 3) := by decide +kernel
theorem dX0_wake_4 : decode cX0_wake 4 = .ok (.istore_n 2, 1) := by decide +kernel
theorem dX0_wake_5 : decode cX0_wake 5 = .ok (.iload_n 2, 1) := by decide +kernel
theorem dX0_wake_6 : decode cX0_wake 6 = .ok (.iconst (-1), 1) := by decide +kernel
theorem dX0_wake_7 : decode cX0_wake 7 = .ok (.if_icmp .eq 27, 3) := by decide +kernel
theorem dX0_wake_10 : decode cX0_wake 10 = .ok (.aload_n 0, 1) := by decide +kernel
theorem dX0_wake_11 : decode cX0_wake 11 = .ok (.iload_n 2, 1) := by decide +kernel
theorem dX0_wake_12 : decode cX0_wake 12 = .ok (.invokevirtual 89, 3) := by decide +kernel
theorem dX0_wake_15 : decode cX0_wake 15 = .ok (.aload_n 0, 1) := by decide +kernel
theorem dX0_wake_16 : decode cX0_wake 16 = .ok (.iload_n 1, 1) := by decide +kernel
theorem dX0_wake_17 : decode cX0_wake 17 = .ok (.invokevirtual 89, 3) := by decide +kernel
theorem dX0_wake_20 : decode cX0_wake 20 = .ok (.if_icmp .lt 14, 3) := by decide +kernel
theorem dX0_wake_23 : decode cX0_wake 23 = .ok (.aload_n 0, 1) := by decide +kernel
theorem dX0_wake_24 : decode cX0_wake 24 = .ok (.iload_n 1, 1) := by decide +kernel
theorem dX0_wake_25 : decode cX0_wake 25 = .ok (.aload_n 0, 1) := by decide +kernel
theorem dX0_wake_26 : decode cX0_wake 26 = .ok (.iload_n 1, 1) := by decide +kernel
theorem dX0_wake_27 : decode cX0_wake 27 = .ok (.invokevirtual 89, 3) := by decide +kernel
theorem dX0_wake_30 : decode cX0_wake 30 = .ok (.invokevirtual 72, 3) := by decide +kernel
theorem dX0_wake_33 : decode cX0_wake 33 = .ok (.return_, 1) := by decide +kernel
theorem dX0_wake_34 : decode cX0_wake 34 = .ok (.iload_n 2, 1) := by decide +kernel
theorem dX0_wake_35 : decode cX0_wake 35 = .ok (.iconst (-1), 1) := by decide +kernel
theorem dX0_wake_36 : decode cX0_wake 36 = .ok (.if_icmp .eq 13, 3) := by decide +kernel
theorem dX0_wake_39 : decode cX0_wake 39 = .ok (.aload_n 0, 1) := by decide +kernel
theorem dX0_wake_40 : decode cX0_wake 40 = .ok (.iload_n 2, 1) := by decide +kernel
theorem dX0_wake_41 : decode cX0_wake 41 = .ok (.aload_n 0, 1) := by decide +kernel
theorem dX0_wake_42 : decode cX0_wake 42 = .ok (.iload_n 2, 1) := by decide +kernel
theorem dX0_wake_43 : decode cX0_wake 43 = .ok (.invokevirtual 89, 3) := by decide +kernel
theorem dX0_wake_46 : decode cX0_wake 46 = .ok (.invokevirtual 72, 3) := by decide +kernel
theorem dX0_wake_49 : decode cX0_wake 49 = .ok (.aload_n 0, 1) := by decide +kernel
theorem dX0_wake_50 : decode cX0_wake 50 = .ok (.iload_n 1, 1) := by decide +kernel
theorem dX0_wake_51 : decode cX0_wake 51 = .ok (.invokevirtual 93, 3) := by decide +kernel
theorem dX0_wake_54 : decode cX0_wake 54 = .ok (.return_, 1) := by decide +kernel
set_option maxRecDepth 20000 in
theorem ggX0_putAside_X0_firstReady : GoodIn wsX0_putAside wsX0_firstReady := goodIn_r _ [5, 6, 7, 8, 4, 9, 10, 11, 12, 13, 14, 15, 26, 27, 28, 29, 30, 31, 32, 33, 34, 35, 36, 37] (by decide +kernel) (by decide +kernel)
set_option maxRecDepth 20000 in
theorem gX0_putAside_X0_firstReady : GoodIn wsX0_putAside (wsV RX0 96 RX0 yX0_firstReady wsX0_firstReady) := goodIn_app (goodIn_of _ (by decide +kernel)) ggX0_putAside_X0_firstReady
set_option maxRecDepth 20000 in
theorem ggX0_putAside_X0_leave : GoodIn wsX0_putAside wsX0_leave := goodIn_r _ [19, 12, 10, 11, 13, 14, 4, 15, 26, 27, 28, 29, 30, 31, 32, 33, 34, 35, 36, 37] (by decide +kernel) (by decide +kernel)
set_option maxRecDepth 20000 in
theorem gX0_putAside_X0_leave : GoodIn wsX0_putAside (wsV RX0 80 RX0 yX0_leave wsX0_leave) := goodIn_app (goodIn_of _ (by decide +kernel)) ggX0_putAside_X0_leave
set_option maxRecDepth 20000 in
theorem ggX0_putAside_X0_want : GoodIn wsX0_putAside wsX0_want := goodIn_r _ [23, 24, 25, 26, 27, 28, 29, 30, 31, 32, 33, 34, 35, 36, 37] (by decide +kernel) (by decide +kernel)
set_option maxRecDepth 20000 in
theorem gX0_putAside_X0_want : GoodIn wsX0_putAside (wsV RX0 93 RX0 yX0_want wsX0_want) := goodIn_app (goodIn_of _ (by decide +kernel)) ggX0_putAside_X0_want
theorem dX0_putAside_0 : decode cX0_putAside 0 = .ok (.aload_n 0, 1) := by decide +kernel
theorem dX0_putAside_1 : decode cX0_putAside 1 = .ok (.invokevirtual 96, 3) := by decide +kernel
theorem dX0_putAside_4 : decode cX0_putAside 4 = .ok (.istore_n 1, 1) := by decide +kernel
theorem dX0_putAside_5 : decode cX0_putAside 5 = .ok (.aload_n 0, 1) := by decide +kernel
theorem dX0_putAside_6 : decode cX0_putAside 6 = .ok (.iload_n 1, 1) := by decide +kernel
theorem dX0_putAside_7 : decode cX0_putAside 7 = .ok (.invokevirtual 80, 3) := by decide +kernel
theorem dX0_putAside_10 : decode cX0_putAside 10 = .ok (.aload_n 0, 1) := by decide +kernel
theorem dX0_putAside_11 : decode cX0_putAside 11 = .ok (.iload_n 1, 1) := by decide +kernel
theorem dX0_putAside_12 : decode cX0_putAside 12 = .ok (.invokevirtual 93, 3) := by decide +kernel
theorem dX0_putAside_15 : decode cX0_putAside 15 = .ok (.return_, 1) := by decide +kernel
theorem dX0_want_0 : decode cX0_want 0 = .ok (.aload_n 0, 1) := by decide +kernel
theorem dX0_want_1 : decode cX0_want 1 = .ok (.iconst 1, 1) := by decide +kernel
theorem dX0_want_2 : decode cX0_want 2 = .ok (.putfield 41, 3) := by decide +kernel
theorem dX0_want_5 : decode cX0_want 5 = .ok (.aload_n 0, 1) := by decide +kernel
theorem dX0_want_6 : decode cX0_want 6 = .ok (.iload_n 1, 1) := by decide +kernel
theorem dX0_want_7 : decode cX0_want 7 = .ok (.putfield 45, 3) := by decide +kernel
theorem dX0_want_10 : decode cX0_want 10 = .ok (.return_, 1) := by decide +kernel
set_option maxRecDepth 20000 in
theorem ggX0_firstReady_X0_at : GoodIn wsX0_firstReady wsX0_at := goodIn_r _ [5, 6, 7, 8, 9, 10, 4, 11, 12, 13, 14, 15, 16, 17, 18, 19, 20, 21, 22, 23] (by decide +kernel) (by decide +kernel)
set_option maxRecDepth 20000 in
theorem gX0_firstReady_X0_at : GoodIn wsX0_firstReady (wsV RX0 76 RX0 yX0_at wsX0_at) := goodIn_app (goodIn_of _ (by decide +kernel)) ggX0_firstReady_X0_at
theorem dX0_firstReady_0 : decode cX0_firstReady 0 = .ok (.bipush 8, 2) := by decide +kernel
theorem dX0_firstReady_2 : decode cX0_firstReady 2 = .ok (.istore_n 1, 1) := by decide +kernel
theorem dX0_firstReady_3 : decode cX0_firstReady 3 = .ok (.iload_n 1, 1) := by decide +kernel
theorem dX0_firstReady_4 : decode cX0_firstReady 4 = .ok (.iconst 1, 1) := by decide +kernel
theorem dX0_firstReady_5 : decode cX0_firstReady 5 = .ok (.if_icmp .lt 23, 3) := by decide +kernel
theorem dX0_firstReady_8 : decode cX0_firstReady 8 = .ok (.aload_n 0, 1) := by decide +kernel
theorem dX0_firstReady_9 : decode cX0_firstReady 9 = .ok (.iload_n 1, 1) := by decide +kernel
theorem dX0_firstReady_10 : decode cX0_firstReady 10 = .ok (.iconst 0, 1) := by decide +kernel
theorem dX0_firstReady_11 : decode cX0_firstReady 11 = .ok (.invokevirtual 76, 3) := by decide +kernel
theorem dX0_firstReady_14 : decode cX0_firstReady 14 = .ok (.istore_n 2, 1) := by decide +kernel
theorem dX0_firstReady_15 : decode cX0_firstReady 15 = .ok (.iload_n 2, 1) := by decide +kernel
theorem dX0_firstReady_16 : decode cX0_firstReady 16 = .ok (.iconst (-1), 1) := by decide +kernel
theorem dX0_firstReady_17 : decode cX0_firstReady 17 = .ok (.if_icmp .eq 5, 3) := by decide +kernel
theorem dX0_firstReady_20 : decode cX0_firstReady 20 = .ok (.iload_n 2, 1) := by decide +kernel
theorem dX0_firstReady_21 : decode cX0_firstReady 21 = .ok (.ireturn, 1) := by decide +kernel
theorem dX0_firstReady_22 : decode cX0_firstReady 22 = .ok (.iinc 1 (-1), 3) := by decide +kernel
theorem dX0_firstReady_25 : decode cX0_firstReady 25 = .ok (.goto (-22), 3) := by decide +kernel
theorem dX0_firstReady_28 : decode cX0_firstReady 28 = .ok (.iconst (-1), 1) := by decide +kernel
theorem dX0_firstReady_29 : decode cX0_firstReady 29 = .ok (.ireturn, 1) := by decide +kernel
set_option maxRecDepth 20000 in
theorem ggX0_enter_X0_isProcess : GoodIn wsX0_enter wsX0_isProcess := goodIn_r _ [7] (by decide +kernel) (by decide +kernel)
set_option maxRecDepth 20000 in
theorem gX0_enter_X0_isProcess : GoodIn wsX0_enter (va_wsS RX0 48 yX0_isProcess wsX0_isProcess) := goodIn_app (goodIn_of _ (by decide +kernel)) ggX0_enter_X0_isProcess
theorem dX0_enter_0 : decode cX0_enter 0 = .ok (.iload_n 1, 1) := by decide +kernel
theorem dX0_enter_1 : decode cX0_enter 1 = .ok (.invokestatic 48, 3) := by decide +kernel
theorem dX0_enter_4 : decode cX0_enter 4 = .ok (.ifCond .eq 39, 3) := by decide +kernel
theorem dX0_enter_7 : decode cX0_enter 7 = .ok (.aload_n 0, 1) := by decide +kernel
theorem dX0_enter_8 : decode cX0_enter 8 = .ok (.getfield 22, 3) := by decide +kernel
theorem dX0_enter_11 : decode cX0_enter 11 = .ok (.bipush 32, 2) := by decide +kernel
theorem dX0_enter_13 : decode cX0_enter 13 = .ok (.if_icmp .ge 30, 3) := by decide +kernel
theorem dX0_enter_16 : decode cX0_enter 16 = .ok (.aload_n 0, 1) := by decide +kernel
theorem dX0_enter_17 : decode cX0_enter 17 = .ok (.getfield 16, 3) := by decide +kernel
theorem dX0_enter_20 : decode cX0_enter 20 = .ok (.iload_n 1, 1) := by decide +kernel
theorem dX0_enter_21 : decode cX0_enter 21 = .ok (.iload_n 2, 1) := by decide +kernel
theorem dX0_enter_22 : decode cX0_enter 22 = .ok (.iastore, 1) := by decide +kernel
theorem dX0_enter_23 : decode cX0_enter 23 = .ok (.aload_n 0, 1) := by decide +kernel
theorem dX0_enter_24 : decode cX0_enter 24 = .ok (.getfield 19, 3) := by decide +kernel
theorem dX0_enter_27 : decode cX0_enter 27 = .ok (.aload_n 0, 1) := by decide +kernel
theorem dX0_enter_28 : decode cX0_enter 28 = .ok (.getfield 22, 3) := by decide +kernel
theorem dX0_enter_31 : decode cX0_enter 31 = .ok (.iload_n 1, 1) := by decide +kernel
theorem dX0_enter_32 : decode cX0_enter 32 = .ok (.iastore, 1) := by decide +kernel
theorem dX0_enter_33 : decode cX0_enter 33 = .ok (.aload_n 0, 1) := by decide +kernel
theorem dX0_enter_34 : decode cX0_enter 34 = .ok (.dup, 1) := by decide +kernel
theorem dX0_enter_35 : decode cX0_enter 35 = .ok (.getfield 22, 3) := by decide +kernel
theorem dX0_enter_38 : decode cX0_enter 38 = .ok (.iconst 1, 1) := by decide +kernel
theorem dX0_enter_39 : decode cX0_enter 39 = .ok (.iadd, 1) := by decide +kernel
theorem dX0_enter_40 : decode cX0_enter 40 = .ok (.putfield 22, 3) := by decide +kernel
theorem dX0_enter_43 : decode cX0_enter 43 = .ok (.return_, 1) := by decide +kernel
set_option maxRecDepth 20000 in
theorem ggX0_leave_X0_isProcess : GoodIn wsX0_leave wsX0_isProcess := goodIn_r _ [7] (by decide +kernel) (by decide +kernel)
set_option maxRecDepth 20000 in
theorem gX0_leave_X0_isProcess : GoodIn wsX0_leave (va_wsS RX0 48 yX0_isProcess wsX0_isProcess) := goodIn_app (goodIn_of _ (by decide +kernel)) ggX0_leave_X0_isProcess
theorem dX0_leave_0 : decode cX0_leave 0 = .ok (.iload_n 1, 1) := by decide +kernel
theorem dX0_leave_1 : decode cX0_leave 1 = .ok (.invokestatic 48, 3) := by decide +kernel
theorem dX0_leave_4 : decode cX0_leave 4 = .ok (.ifCond .ne 4, 3) := by decide +kernel
theorem dX0_leave_7 : decode cX0_leave 7 = .ok (.return_, 1) := by decide +kernel
theorem dX0_leave_8 : decode cX0_leave 8 = .ok (.aload_n 0, 1) := by decide +kernel
theorem dX0_leave_9 : decode cX0_leave 9 = .ok (.getfield 16, 3) := by decide +kernel
theorem dX0_leave_12 : decode cX0_leave 12 = .ok (.iload_n 1, 1) := by decide +kernel
theorem dX0_leave_13 : decode cX0_leave 13 = .ok (.iconst 0, 1) := by decide +kernel
theorem dX0_leave_14 : decode cX0_leave 14 = .ok (.iastore, 1) := by decide +kernel
theorem dX0_leave_15 : decode cX0_leave 15 = .ok (.iconst 0, 1) := by decide +kernel
theorem dX0_leave_16 : decode cX0_leave 16 = .ok (.istore_n 2, 1) := by decide +kernel
theorem dX0_leave_17 : decode cX0_leave 17 = .ok (.iconst 0, 1) := by decide +kernel
theorem dX0_leave_18 : decode cX0_leave 18 = .ok (.istore_n 3, 1) := by decide +kernel
theorem dX0_leave_19 : decode cX0_leave 19 = .ok (.iload_n 3, 1) := by decide +kernel
theorem dX0_leave_20 : decode cX0_leave 20 = .ok (.aload_n 0, 1) := by decide +kernel
theorem dX0_leave_21 : decode cX0_leave 21 = .ok (.getfield 22, 3) := by decide +kernel
theorem dX0_leave_24 : decode cX0_leave 24 = .ok (.if_icmp .ge 40, 3) := by decide +kernel
theorem dX0_leave_27 : decode cX0_leave 27 = .ok (.iload_n 3, 1) := by decide +kernel
theorem dX0_leave_28 : decode cX0_leave 28 = .ok (.bipush 32, 2) := by decide +kernel
theorem dX0_leave_30 : decode cX0_leave 30 = .ok (.if_icmp .ge 34, 3) := by decide +kernel
theorem dX0_leave_33 : decode cX0_leave 33 = .ok (.aload_n 0, 1) := by decide +kernel
theorem dX0_leave_34 : decode cX0_leave 34 = .ok (.getfield 19, 3) := by decide +kernel
theorem dX0_leave_37 : decode cX0_leave 37 = .ok (.iload_n 3, 1) := by decide +kernel
theorem dX0_leave_38 : decode cX0_leave 38 = .ok (.iaload, 1) := by decide +kernel
theorem dX0_leave_39 : decode cX0_leave 39 = .ok (.iload_n 1, 1) := by decide +kernel
theorem dX0_leave_40 : decode cX0_leave 40 = .ok (.if_icmp .eq 18, 3) := by decide +kernel
theorem dX0_leave_43 : decode cX0_leave 43 = .ok (.aload_n 0, 1) := by decide +kernel
theorem dX0_leave_44 : decode cX0_leave 44 = .ok (.getfield 19, 3) := by decide +kernel
theorem dX0_leave_47 : decode cX0_leave 47 = .ok (.iload_n 2, 1) := by decide +kernel
theorem dX0_leave_48 : decode cX0_leave 48 = .ok (.aload_n 0, 1) := by decide +kernel
theorem dX0_leave_49 : decode cX0_leave 49 = .ok (.getfield 19, 3) := by decide +kernel
theorem dX0_leave_52 : decode cX0_leave 52 = .ok (.iload_n 3, 1) := by decide +kernel
theorem dX0_leave_53 : decode cX0_leave 53 = .ok (.iaload, 1) := by decide +kernel
theorem dX0_leave_54 : decode cX0_leave 54 = .ok (.iastore, 1) := by decide +kernel
theorem dX0_leave_55 : decode cX0_leave 55 = .ok (.iinc 2 1, 3) := by decide +kernel
theorem dX0_leave_58 : decode cX0_leave 58 = .ok (.iinc 3 1, 3) := by decide +kernel
theorem dX0_leave_61 : decode cX0_leave 61 = .ok (.goto (-42), 3) := by decide +kernel
theorem dX0_leave_64 : decode cX0_leave 64 = .ok (.aload_n 0, 1) := by decide +kernel
theorem dX0_leave_65 : decode cX0_leave 65 = .ok (.iload_n 2, 1) := by decide +kernel
theorem dX0_leave_66 : decode cX0_leave 66 = .ok (.putfield 22, 3) := by decide +kernel
theorem dX0_leave_69 : decode cX0_leave 69 = .ok (.return_, 1) := by decide +kernel
set_option maxRecDepth 20000 in
theorem ggX0_signalPosted_X0_signal : GoodIn wsX0_signalPosted wsX0_signal := goodIn_r _ [7, 8, 9, 10, 6, 11, 12, 13, 14, 15, 16, 17, 18, 19, 20, 21, 22, 23, 24, 25, 26, 27, 28, 29, 30, 31, 32, 33, 34, 35, 36, 37, 38, 39, 40, 41, 42, 43, 44, 45, 46, 47, 48, 49, 50, 51, 52, 53, 54, 55, 56, 57, 58, 59, 60, 61, 62, 63, 64, 65] (by decide +kernel) (by decide +kernel)
set_option maxRecDepth 20000 in
theorem gX0_signalPosted_X0_signal : GoodIn wsX0_signalPosted (wsV RX0 99 RX0 yX0_signal wsX0_signal) := goodIn_app (goodIn_of _ (by decide +kernel)) ggX0_signalPosted_X0_signal
theorem dX0_signalPosted_0 : decode cX0_signalPosted 0 = .ok (.iconst 0, 1) := by decide +kernel
theorem dX0_signalPosted_1 : decode cX0_signalPosted 1 = .ok (.istore_n 1, 1) := by decide +kernel
theorem dX0_signalPosted_2 : decode cX0_signalPosted 2 = .ok (.iload_n 1, 1) := by decide +kernel
theorem dX0_signalPosted_3 : decode cX0_signalPosted 3 = .ok (.aload_n 0, 1) := by decide +kernel
theorem dX0_signalPosted_4 : decode cX0_signalPosted 4 = .ok (.getfield 32, 3) := by decide +kernel
theorem dX0_signalPosted_7 : decode cX0_signalPosted 7 = .ok (.if_icmp .ge 26, 3) := by decide +kernel
theorem dX0_signalPosted_10 : decode cX0_signalPosted 10 = .ok (.iload_n 1, 1) := by decide +kernel
theorem dX0_signalPosted_11 : decode cX0_signalPosted 11 = .ok (.bipush 40, 2) := by decide +kernel
theorem dX0_signalPosted_13 : decode cX0_signalPosted 13 = .ok (.if_icmp .ge 20, 3) := by decide +kernel
theorem dX0_signalPosted_16 : decode cX0_signalPosted 16 = .ok (.aload_n 0, 1) := by decide +kernel
theorem dX0_signalPosted_17 : decode cX0_signalPosted 17 = .ok (.aload_n 0, 1) := by decide +kernel
theorem dX0_signalPosted_18 : decode cX0_signalPosted 18 = .ok (.getfield 29, 3) := by decide +kernel
theorem dX0_signalPosted_21 : decode cX0_signalPosted 21 = .ok (.iload_n 1, 1) := by decide +kernel
theorem dX0_signalPosted_22 : decode cX0_signalPosted 22 = .ok (.iaload, 1) := by decide +kernel
theorem dX0_signalPosted_23 : decode cX0_signalPosted 23 = .ok (.invokevirtual 99, 3) := by decide +kernel
theorem dX0_signalPosted_26 : decode cX0_signalPosted 26 = .ok (.pop, 1) := by decide +kernel
theorem dX0_signalPosted_27 : decode cX0_signalPosted 27 = .ok (.iinc 1 1, 3) := by decide +kernel
theorem dX0_signalPosted_30 : decode cX0_signalPosted 30 = .ok (.goto (-28), 3) := by decide +kernel
theorem dX0_signalPosted_33 : decode cX0_signalPosted 33 = .ok (.aload_n 0, 1) := by decide +kernel
theorem dX0_signalPosted_34 : decode cX0_signalPosted 34 = .ok (.iconst 0, 1) := by decide +kernel
theorem dX0_signalPosted_35 : decode cX0_signalPosted 35 = .ok (.putfield 32, 3) := by decide +kernel
theorem dX0_signalPosted_38 : decode cX0_signalPosted 38 = .ok (.return_, 1) := by decide +kernel
set_option maxRecDepth 20000 in
theorem ggX0_change_X0_isProcess : GoodIn wsX0_change wsX0_isProcess := goodIn_r _ [9] (by decide +kernel) (by decide +kernel)
set_option maxRecDepth 20000 in
theorem gX0_change_X0_isProcess : GoodIn wsX0_change (va_wsS RX0 48 yX0_isProcess wsX0_isProcess) := goodIn_app (goodIn_of _ (by decide +kernel)) ggX0_change_X0_isProcess
set_option maxRecDepth 20000 in
theorem ggX0_change_X0_place : GoodIn wsX0_change wsX0_place := goodIn_r _ [13, 2, 14, 15, 16, 8, 17, 18, 6, 7, 9, 19, 20, 21, 22, 23, 24, 25, 26, 27, 28, 29, 30] (by decide +kernel) (by decide +kernel)
set_option maxRecDepth 20000 in
theorem gX0_change_X0_place : GoodIn wsX0_change (wsV RX0 102 RX0 yX0_place wsX0_place) := goodIn_app (goodIn_of _ (by decide +kernel)) ggX0_change_X0_place
theorem dX0_change_0 : decode cX0_change 0 = .ok (.aload_n 0, 1) := by decide +kernel
theorem dX0_change_1 : decode cX0_change 1 = .ok (.getfield 35, 3) := by decide +kernel
theorem dX0_change_4 : decode cX0_change 4 = .ok (.invokestatic 48, 3) := by decide +kernel
theorem dX0_change_7 : decode cX0_change 7 = .ok (.ifCond .eq 16, 3) := by decide +kernel
theorem dX0_change_10 : decode cX0_change 10 = .ok (.aload_n 0, 1) := by decide +kernel
theorem dX0_change_11 : decode cX0_change 11 = .ok (.getfield 13, 3) := by decide +kernel
theorem dX0_change_14 : decode cX0_change 14 = .ok (.aload_n 0, 1) := by decide +kernel
theorem dX0_change_15 : decode cX0_change 15 = .ok (.getfield 35, 3) := by decide +kernel
theorem dX0_change_18 : decode cX0_change 18 = .ok (.aload_n 0, 1) := by decide +kernel
theorem dX0_change_19 : decode cX0_change 19 = .ok (.getfield 38, 3) := by decide +kernel
theorem dX0_change_22 : decode cX0_change 22 = .ok (.iastore, 1) := by decide +kernel
theorem dX0_change_23 : decode cX0_change 23 = .ok (.aload_n 0, 1) := by decide +kernel
theorem dX0_change_24 : decode cX0_change 24 = .ok (.aload_n 0, 1) := by decide +kernel
theorem dX0_change_25 : decode cX0_change 25 = .ok (.getfield 45, 3) := by decide +kernel
theorem dX0_change_28 : decode cX0_change 28 = .ok (.putfield 35, 3) := by decide +kernel
theorem dX0_change_31 : decode cX0_change 31 = .ok (.aload_n 0, 1) := by decide +kernel
theorem dX0_change_32 : decode cX0_change 32 = .ok (.aload_n 0, 1) := by decide +kernel
theorem dX0_change_33 : decode cX0_change 33 = .ok (.aload_n 0, 1) := by decide +kernel
theorem dX0_change_34 : decode cX0_change 34 = .ok (.getfield 35, 3) := by decide +kernel
theorem dX0_change_37 : decode cX0_change 37 = .ok (.invokevirtual 102, 3) := by decide +kernel
theorem dX0_change_40 : decode cX0_change 40 = .ok (.putfield 38, 3) := by decide +kernel
theorem dX0_change_43 : decode cX0_change 43 = .ok (.aload_n 0, 1) := by decide +kernel
theorem dX0_change_44 : decode cX0_change 44 = .ok (.iconst 0, 1) := by decide +kernel
theorem dX0_change_45 : decode cX0_change 45 = .ok (.putfield 41, 3) := by decide +kernel
theorem dX0_change_48 : decode cX0_change 48 = .ok (.aload_n 0, 1) := by decide +kernel
theorem dX0_change_49 : decode cX0_change 49 = .ok (.iconst (-1), 1) := by decide +kernel
theorem dX0_change_50 : decode cX0_change 50 = .ok (.putfield 45, 3) := by decide +kernel
theorem dX0_change_53 : decode cX0_change 53 = .ok (.return_, 1) := by decide +kernel
theorem dX1_init_0 : decode cX1_init 0 = .ok (.aload_n 0, 1) := by decide +kernel
theorem dX1_init_1 : decode cX1_init 1 = .ok (.invokespecial 1, 3) := by decide +kernel
theorem dX1_init_4 : decode cX1_init 4 = .ok (.aload_n 0, 1) := by decide +kernel
theorem dX1_init_5 : decode cX1_init 5 = .ok (.bipush 32, 2) := by decide +kernel
theorem dX1_init_7 : decode cX1_init 7 = .ok (.newarray .boolean, 2) := by decide +kernel
theorem dX1_init_9 : decode cX1_init 9 = .ok (.putfield 7, 3) := by decide +kernel
theorem dX1_init_12 : decode cX1_init 12 = .ok (.aload_n 0, 1) := by decide +kernel
theorem dX1_init_13 : decode cX1_init 13 = .ok (.bipush 32, 2) := by decide +kernel
theorem dX1_init_15 : decode cX1_init 15 = .ok (.newarray .int, 2) := by decide +kernel
theorem dX1_init_17 : decode cX1_init 17 = .ok (.putfield 13, 3) := by decide +kernel
theorem dX1_init_20 : decode cX1_init 20 = .ok (.aload_n 0, 1) := by decide +kernel
theorem dX1_init_21 : decode cX1_init 21 = .ok (.bipush 32, 2) := by decide +kernel
theorem dX1_init_23 : decode cX1_init 23 = .ok (.newarray .int, 2) := by decide +kernel
theorem dX1_init_25 : decode cX1_init 25 = .ok (.putfield 17, 3) := by decide +kernel
theorem dX1_init_28 : decode cX1_init 28 = .ok (.aload_n 0, 1) := by decide +kernel
theorem dX1_init_29 : decode cX1_init 29 = .ok (.bipush 32, 2) := by decide +kernel
theorem dX1_init_31 : decode cX1_init 31 = .ok (.newarray .int, 2) := by decide +kernel
theorem dX1_init_33 : decode cX1_init 33 = .ok (.putfield 20, 3) := by decide +kernel
theorem dX1_init_36 : decode cX1_init 36 = .ok (.aload_n 0, 1) := by decide +kernel
theorem dX1_init_37 : decode cX1_init 37 = .ok (.bipush 32, 2) := by decide +kernel
theorem dX1_init_39 : decode cX1_init 39 = .ok (.newarray .long, 2) := by decide +kernel
theorem dX1_init_41 : decode cX1_init 41 = .ok (.putfield 23, 3) := by decide +kernel
theorem dX1_init_44 : decode cX1_init 44 = .ok (.aload_n 0, 1) := by decide +kernel
theorem dX1_init_45 : decode cX1_init 45 = .ok (.bipush 16, 2) := by decide +kernel
theorem dX1_init_47 : decode cX1_init 47 = .ok (.newarray .int, 2) := by decide +kernel
theorem dX1_init_49 : decode cX1_init 49 = .ok (.putfield 27, 3) := by decide +kernel
theorem dX1_init_52 : decode cX1_init 52 = .ok (.aload_n 0, 1) := by decide +kernel
theorem dX1_init_53 : decode cX1_init 53 = .ok (.bipush 40, 2) := by decide +kernel
theorem dX1_init_55 : decode cX1_init 55 = .ok (.newarray .int, 2) := by decide +kernel
theorem dX1_init_57 : decode cX1_init 57 = .ok (.putfield 30, 3) := by decide +kernel
theorem dX1_init_60 : decode cX1_init 60 = .ok (.aload_n 0, 1) := by decide +kernel
theorem dX1_init_61 : decode cX1_init 61 = .ok (.iconst (-1), 1) := by decide +kernel
theorem dX1_init_62 : decode cX1_init 62 = .ok (.putfield 33, 3) := by decide +kernel
theorem dX1_init_65 : decode cX1_init 65 = .ok (.aload_n 0, 1) := by decide +kernel
theorem dX1_init_66 : decode cX1_init 66 = .ok (.iconst (-1), 1) := by decide +kernel
theorem dX1_init_67 : decode cX1_init 67 = .ok (.putfield 37, 3) := by decide +kernel
theorem dX1_init_70 : decode cX1_init 70 = .ok (.return_, 1) := by decide +kernel
theorem dX1_make_0 : decode cX1_make 0 = .ok (.iload_n 1, 1) := by decide +kernel
theorem dX1_make_1 : decode cX1_make 1 = .ok (.invokestatic 40, 3) := by decide +kernel
theorem dX1_make_4 : decode cX1_make 4 = .ok (.ifCond .eq 19, 3) := by decide +kernel
theorem dX1_make_7 : decode cX1_make 7 = .ok (.aload_n 0, 1) := by decide +kernel
theorem dX1_make_8 : decode cX1_make 8 = .ok (.getfield 7, 3) := by decide +kernel
theorem dX1_make_11 : decode cX1_make 11 = .ok (.iload_n 1, 1) := by decide +kernel
theorem dX1_make_12 : decode cX1_make 12 = .ok (.baload, 1) := by decide +kernel
theorem dX1_make_13 : decode cX1_make 13 = .ok (.ifCond .ne 10, 3) := by decide +kernel
theorem dX1_make_16 : decode cX1_make 16 = .ok (.iload_n 2, 1) := by decide +kernel
theorem dX1_make_17 : decode cX1_make 17 = .ok (.invokestatic 71, 3) := by decide +kernel
theorem dX1_make_20 : decode cX1_make 20 = .ok (.ifCond .ne 5, 3) := by decide +kernel
theorem dX1_make_23 : decode cX1_make 23 = .ok (.iconst 0, 1) := by decide +kernel
theorem dX1_make_24 : decode cX1_make 24 = .ok (.ireturn, 1) := by decide +kernel
theorem dX1_make_25 : decode cX1_make 25 = .ok (.aload_n 0, 1) := by decide +kernel
theorem dX1_make_26 : decode cX1_make 26 = .ok (.getfield 7, 3) := by decide +kernel
theorem dX1_make_29 : decode cX1_make 29 = .ok (.iload_n 1, 1) := by decide +kernel
theorem dX1_make_30 : decode cX1_make 30 = .ok (.iconst 1, 1) := by decide +kernel
theorem dX1_make_31 : decode cX1_make 31 = .ok (.bastore, 1) := by decide +kernel
theorem dX1_make_32 : decode cX1_make 32 = .ok (.aload_n 0, 1) := by decide +kernel
theorem dX1_make_33 : decode cX1_make 33 = .ok (.getfield 13, 3) := by decide +kernel
theorem dX1_make_36 : decode cX1_make 36 = .ok (.iload_n 1, 1) := by decide +kernel
theorem dX1_make_37 : decode cX1_make 37 = .ok (.iload_n 2, 1) := by decide +kernel
theorem dX1_make_38 : decode cX1_make 38 = .ok (.iastore, 1) := by decide +kernel
theorem dX1_make_39 : decode cX1_make 39 = .ok (.aload_n 0, 1) := by decide +kernel
theorem dX1_make_40 : decode cX1_make 40 = .ok (.getfield 17, 3) := by decide +kernel
theorem dX1_make_43 : decode cX1_make 43 = .ok (.iload_n 1, 1) := by decide +kernel
theorem dX1_make_44 : decode cX1_make 44 = .ok (.iload_n 3, 1) := by decide +kernel
theorem dX1_make_45 : decode cX1_make 45 = .ok (.iastore, 1) := by decide +kernel
theorem dX1_make_46 : decode cX1_make 46 = .ok (.aload_n 0, 1) := by decide +kernel
theorem dX1_make_47 : decode cX1_make 47 = .ok (.getfield 20, 3) := by decide +kernel
theorem dX1_make_50 : decode cX1_make 50 = .ok (.iload_n 1, 1) := by decide +kernel
theorem dX1_make_51 : decode cX1_make 51 = .ok (.iconst 0, 1) := by decide +kernel
theorem dX1_make_52 : decode cX1_make 52 = .ok (.iastore, 1) := by decide +kernel
theorem dX1_make_53 : decode cX1_make 53 = .ok (.iconst 1, 1) := by decide +kernel
theorem dX1_make_54 : decode cX1_make 54 = .ok (.ireturn, 1) := by decide +kernel
set_option maxRecDepth 20000 in
theorem ggL_law_X0_init : GoodIn wsL_law wsX0_init := goodIn_r _ [8, 9, 10, 11, 12, 13, 14, 15, 16, 17, 18, 19, 20, 21, 22, 23, 24, 182, 183, 184, 185, 186, 187, 188, 189, 190, 191, 192, 193] (by decide +kernel) (by decide +kernel)
set_option maxRecDepth 20000 in
theorem gL_law_X0_init : GoodIn wsL_law (wsX0_init) := ggL_law_X0_init
set_option maxRecDepth 20000 in
theorem ggL_law_X1_init : GoodIn wsL_law wsX1_init := goodIn_r _ [27, 28, 10, 11, 29, 30, 12, 31, 32, 33, 34, 35, 36, 37, 38, 39, 194, 195, 196, 197, 198, 199, 200, 201, 202, 203, 204, 205, 206] (by decide +kernel) (by decide +kernel)
set_option maxRecDepth 20000 in
theorem gL_law_X1_init : GoodIn wsL_law (wsX1_init) := ggL_law_X1_init
set_option maxRecDepth 20000 in
theorem ggL_law_X0_make : GoodIn wsL_law wsX0_make := goodIn_r _ [43, 13, 14, 44, 45, 2, 46, 47, 48, 49, 50, 51, 52, 53, 182, 183, 184, 185, 186, 187, 188, 189, 190, 191, 192, 193] (by decide +kernel) (by decide +kernel)
set_option maxRecDepth 20000 in
theorem gL_law_X0_make : GoodIn wsL_law (wsV RL 13 RX0 yX0_make wsX0_make) := goodIn_app (goodIn_of _ (by decide +kernel)) ggL_law_X0_make
set_option maxRecDepth 20000 in
theorem ggL_law_X1_make : GoodIn wsL_law wsX1_make := goodIn_r _ [57, 30, 31, 32, 33, 194, 195, 196, 197, 198, 199, 200, 201, 202, 203, 204, 205, 206] (by decide +kernel) (by decide +kernel)
set_option maxRecDepth 20000 in
theorem gL_law_X1_make : GoodIn wsL_law (wsV RL 17 RX1 yX1_make wsX1_make) := goodIn_app (goodIn_of _ (by decide +kernel)) ggL_law_X1_make
set_option maxRecDepth 20000 in
theorem ggL_law_X0_resume : GoodIn wsL_law wsX0_resume := goodIn_r _ [61, 15, 21, 47, 48, 49, 2, 50, 13, 44, 45, 46, 62, 63, 64, 65, 23, 24, 66, 67, 68, 69, 70, 71, 72, 73, 74, 75, 76, 77, 17, 16, 78, 79, 80, 81, 182, 183, 184, 185, 186, 187, 188, 189, 190, 191, 192, 193] (by decide +kernel) (by decide +kernel)
set_option maxRecDepth 20000 in
theorem gL_law_X0_resume : GoodIn wsL_law (wsV RL 18 RX0 yX0_resume wsX0_resume) := goodIn_app (goodIn_of _ (by decide +kernel)) ggL_law_X0_resume
set_option maxRecDepth 20000 in
theorem ggL_law_X0_suspend : GoodIn wsL_law wsX0_suspend := goodIn_r _ [85, 62, 63, 64, 2, 65, 23, 24, 21, 86, 87, 88, 89, 90, 91, 92, 93, 94, 95, 96, 97, 17, 16, 15, 44, 45, 46, 98, 99, 100, 101, 78, 79, 80, 81, 182, 183, 184, 185, 186, 187, 188, 189, 190, 191, 192, 193] (by decide +kernel) (by decide +kernel)
set_option maxRecDepth 20000 in
theorem gL_law_X0_suspend : GoodIn wsL_law (wsV RL 23 RX0 yX0_suspend wsX0_suspend) := goodIn_app (goodIn_of _ (by decide +kernel)) ggL_law_X0_suspend
set_option maxRecDepth 20000 in
theorem ggL_law_X0_end : GoodIn wsL_law wsX0_end := goodIn_r _ [105, 13, 21, 62, 63, 64, 2, 65, 23, 24, 47, 48, 49, 50, 44, 45, 46, 86, 87, 88, 89, 90, 91, 92, 93, 94, 95, 96, 97, 17, 16, 15, 98, 99, 100, 101, 78, 79, 80, 81, 182, 183, 184, 185, 186, 187, 188, 189, 190, 191, 192, 193] (by decide +kernel) (by decide +kernel)
set_option maxRecDepth 20000 in
theorem gL_law_X0_end : GoodIn wsL_law (wsV RL 28 RX0 yX0_end wsX0_end) := goodIn_app (goodIn_of _ (by decide +kernel)) ggL_law_X0_end
set_option maxRecDepth 20000 in
theorem ggL_law_X0_await : GoodIn wsL_law wsX0_await := goodIn_r _ [109, 18, 62, 63, 64, 2, 65, 23, 24, 21, 110, 111, 112, 74, 75, 76, 77, 17, 15, 16, 44, 45, 46, 86, 87, 88, 89, 90, 91, 92, 93, 94, 95, 96, 97, 98, 99, 100, 101, 78, 79, 80, 81, 182, 183, 184, 185, 186, 187, 188, 189, 190, 191, 192, 193] (by decide +kernel) (by decide +kernel)
set_option maxRecDepth 20000 in
theorem gL_law_X0_await : GoodIn wsL_law (wsV RL 32 RX0 yX0_await wsX0_await) := goodIn_app (goodIn_of _ (by decide +kernel)) ggL_law_X0_await
set_option maxRecDepth 20000 in
theorem ggL_law_X0_signal : GoodIn wsL_law wsX0_signal := goodIn_r _ [116, 18, 110, 111, 2, 112, 94, 95, 96, 97, 17, 16, 15, 44, 45, 46, 98, 99, 100, 101, 66, 67, 68, 69, 62, 63, 64, 65, 23, 24, 21, 70, 71, 72, 73, 13, 47, 48, 49, 50, 74, 75, 76, 77, 78, 79, 80, 81, 182, 183, 184, 185, 186, 187, 188, 189, 190, 191, 192, 193] (by decide +kernel) (by decide +kernel)
set_option maxRecDepth 20000 in
theorem gL_law_X0_signal : GoodIn wsL_law (wsV RL 37 RX0 yX0_signal wsX0_signal) := goodIn_app (goodIn_of _ (by decide +kernel)) ggL_law_X0_signal
set_option maxRecDepth 20000 in
theorem ggL_law_X0_post : GoodIn wsL_law wsX0_post := goodIn_r _ [120, 20, 19, 110, 111, 2, 112, 182, 183, 184, 185, 186, 187, 188, 189, 190, 191, 192, 193] (by decide +kernel) (by decide +kernel)
set_option maxRecDepth 20000 in
theorem gL_law_X0_post : GoodIn wsL_law (wsV RL 41 RX0 yX0_post wsX0_post) := goodIn_app (goodIn_of _ (by decide +kernel)) ggL_law_X0_post
set_option maxRecDepth 20000 in
theorem ggL_law_X0_step : GoodIn wsL_law wsX0_step := goodIn_r _ [124, 23, 21, 125, 126, 127, 2, 128, 20, 19, 129, 114, 115, 116, 18, 110, 111, 112, 94, 95, 96, 97, 17, 16, 15, 44, 45, 46, 98, 99, 100, 101, 66, 67, 68, 69, 62, 63, 64, 65, 24, 70, 71, 72, 73, 13, 47, 48, 49, 50, 74, 75, 76, 77, 78, 79, 80, 81, 130, 131, 132, 133, 14, 22, 134, 135, 136, 137, 182, 183, 184, 185, 186, 187, 188, 189, 190, 191, 192, 193] (by decide +kernel) (by decide +kernel)
set_option maxRecDepth 20000 in
theorem gL_law_X0_step : GoodIn wsL_law (wsV RL 45 RX0 yX0_step wsX0_step) := goodIn_app (goodIn_of _ (by decide +kernel)) ggL_law_X0_step
set_option maxRecDepth 20000 in
theorem ggL_law_X0_work : GoodIn wsL_law wsX0_work := goodIn_r _ [141, 21, 23, 22, 182, 183, 184, 185, 186, 187, 188, 189, 190, 191, 192, 193] (by decide +kernel) (by decide +kernel)
set_option maxRecDepth 20000 in
theorem gL_law_X0_work : GoodIn wsL_law (wsV RL 49 RX0 yX0_work wsX0_work) := goodIn_app (goodIn_of _ (by decide +kernel)) ggL_law_X0_work
set_option maxRecDepth 20000 in
theorem ggL_law_X0_take : GoodIn wsL_law wsX0_take := goodIn_r _ [145, 15, 44, 45, 2, 46, 98, 99, 100, 101, 17, 16, 182, 183, 184, 185, 186, 187, 188, 189, 190, 191, 192, 193] (by decide +kernel) (by decide +kernel)
set_option maxRecDepth 20000 in
theorem gL_law_X0_take : GoodIn wsL_law (wsV RL 53 RX0 yX0_take wsX0_take) := goodIn_app (goodIn_of _ (by decide +kernel)) ggL_law_X0_take
set_option maxRecDepth 20000 in
theorem ggL_law_X0_rate : GoodIn wsL_law wsX0_rate := goodIn_r _ [149, 13, 47, 48, 49, 2, 50, 44, 45, 46, 51, 52, 53, 182, 183, 184, 185, 186, 187, 188, 189, 190, 191, 192, 193] (by decide +kernel) (by decide +kernel)
set_option maxRecDepth 20000 in
theorem gL_law_X0_rate : GoodIn wsL_law (wsV RL 57 RX0 yX0_rate wsX0_rate) := goodIn_app (goodIn_of _ (by decide +kernel)) ggL_law_X0_rate
set_option maxRecDepth 20000 in
theorem ggL_law_X0_yield : GoodIn wsL_law wsX0_yield := goodIn_r _ [153, 13, 62, 63, 64, 2, 65, 23, 24, 21, 47, 48, 49, 50, 44, 45, 46, 94, 95, 96, 97, 17, 16, 15, 74, 75, 76, 77, 86, 87, 88, 89, 90, 91, 92, 93, 98, 99, 100, 101, 78, 79, 80, 81, 182, 183, 184, 185, 186, 187, 188, 189, 190, 191, 192, 193] (by decide +kernel) (by decide +kernel)
set_option maxRecDepth 20000 in
theorem gL_law_X0_yield : GoodIn wsL_law (wsV RL 62 RX0 yX0_yield wsX0_yield) := goodIn_app (goodIn_of _ (by decide +kernel)) ggL_law_X0_yield
set_option maxRecDepth 20000 in
theorem ggL_law_X0_active : GoodIn wsL_law wsX0_active := goodIn_r _ [157, 21, 182, 183, 184, 185, 186, 187, 188, 189, 190, 191, 192, 193] (by decide +kernel) (by decide +kernel)
set_option maxRecDepth 20000 in
theorem gL_law_X0_active : GoodIn wsL_law (wsV RL 67 RX0 yX0_active wsX0_active) := goodIn_app (goodIn_of _ (by decide +kernel)) ggL_law_X0_active
set_option maxRecDepth 20000 in
theorem ggL_law_X0_present : GoodIn wsL_law wsX0_present := goodIn_r _ [65, 23, 24, 21, 182, 183, 184, 185, 186, 187, 188, 189, 190, 191, 192, 193] (by decide +kernel) (by decide +kernel)
set_option maxRecDepth 20000 in
theorem gL_law_X0_present : GoodIn wsL_law (wsV RL 71 RX0 yX0_present wsX0_present) := goodIn_app (goodIn_of _ (by decide +kernel)) ggL_law_X0_present
set_option maxRecDepth 20000 in
theorem ggL_law_X0_wanted : GoodIn wsL_law wsX0_wanted := goodIn_r _ [162, 23, 182, 183, 184, 185, 186, 187, 188, 189, 190, 191, 192, 193] (by decide +kernel) (by decide +kernel)
set_option maxRecDepth 20000 in
theorem gL_law_X0_wanted : GoodIn wsL_law (wsV RL 75 RX0 yX0_wanted wsX0_wanted) := goodIn_app (goodIn_of _ (by decide +kernel)) ggL_law_X0_wanted
set_option maxRecDepth 20000 in
theorem ggL_law_X0_here : GoodIn wsL_law wsX0_here := goodIn_r _ [166, 22, 182, 183, 184, 185, 186, 187, 188, 189, 190, 191, 192, 193] (by decide +kernel) (by decide +kernel)
set_option maxRecDepth 20000 in
theorem gL_law_X0_here : GoodIn wsL_law (wsV RL 79 RX0 yX0_here wsX0_here) := goodIn_app (goodIn_of _ (by decide +kernel)) ggL_law_X0_here
set_option maxRecDepth 20000 in
theorem ggL_law_X0_place : GoodIn wsL_law wsX0_place := goodIn_r _ [137, 14, 47, 48, 49, 2, 50, 13, 44, 45, 46, 182, 183, 184, 185, 186, 187, 188, 189, 190, 191, 192, 193] (by decide +kernel) (by decide +kernel)
set_option maxRecDepth 20000 in
theorem gL_law_X0_place : GoodIn wsL_law (wsV RL 83 RX0 yX0_place wsX0_place) := goodIn_app (goodIn_of _ (by decide +kernel)) ggL_law_X0_place
set_option maxRecDepth 20000 in
theorem ggL_law_X0_priority : GoodIn wsL_law wsX0_priority := goodIn_r _ [73, 13, 47, 48, 49, 2, 50, 44, 45, 46, 182, 183, 184, 185, 186, 187, 188, 189, 190, 191, 192, 193] (by decide +kernel) (by decide +kernel)
set_option maxRecDepth 20000 in
theorem gL_law_X0_priority : GoodIn wsL_law (wsV RL 87 RX0 yX0_priority wsX0_priority) := goodIn_app (goodIn_of _ (by decide +kernel)) ggL_law_X0_priority
set_option maxRecDepth 20000 in
theorem ggL_law_X0_row : GoodIn wsL_law wsX0_row := goodIn_r _ [172, 15, 47, 48, 49, 2, 50, 13, 44, 45, 46, 182, 183, 184, 185, 186, 187, 188, 189, 190, 191, 192, 193] (by decide +kernel) (by decide +kernel)
set_option maxRecDepth 20000 in
theorem gL_law_X0_row : GoodIn wsL_law (wsV RL 91 RX0 yX0_row wsX0_row) := goodIn_app (goodIn_of _ (by decide +kernel)) ggL_law_X0_row
set_option maxRecDepth 20000 in
theorem ggL_law_X0_at : GoodIn wsL_law wsX0_at := goodIn_r _ [97, 17, 16, 15, 44, 45, 2, 46, 182, 183, 184, 185, 186, 187, 188, 189, 190, 191, 192, 193] (by decide +kernel) (by decide +kernel)
set_option maxRecDepth 20000 in
theorem gL_law_X0_at : GoodIn wsL_law (wsV RL 95 RX0 yX0_at wsX0_at) := goodIn_app (goodIn_of _ (by decide +kernel)) ggL_law_X0_at
set_option maxRecDepth 20000 in
theorem ggL_law_X0_extra : GoodIn wsL_law wsX0_extra := goodIn_r _ [177, 18, 110, 111, 2, 112, 182, 183, 184, 185, 186, 187, 188, 189, 190, 191, 192, 193] (by decide +kernel) (by decide +kernel)
set_option maxRecDepth 20000 in
theorem gL_law_X0_extra : GoodIn wsL_law (wsV RL 99 RX0 yX0_extra wsX0_extra) := goodIn_app (goodIn_of _ (by decide +kernel)) ggL_law_X0_extra
set_option maxRecDepth 20000 in
theorem ggL_law_X0_posted : GoodIn wsL_law wsX0_posted := goodIn_r _ [181, 20, 19, 182, 183, 184, 185, 186, 187, 188, 189, 190, 191, 192, 193] (by decide +kernel) (by decide +kernel)
set_option maxRecDepth 20000 in
theorem gL_law_X0_posted : GoodIn wsL_law (wsV RL 103 RX0 yX0_posted wsX0_posted) := goodIn_app (goodIn_of _ (by decide +kernel)) ggL_law_X0_posted
theorem dL_law_0 : decode cL_law 0 = .ok (.new 7, 3) := by decide +kernel
theorem dL_law_3 : decode cL_law 3 = .ok (.dup, 1) := by decide +kernel
theorem dL_law_4 : decode cL_law 4 = .ok (.invokespecial 9, 3) := by decide +kernel
theorem dL_law_7 : decode cL_law 7 = .ok (.astore_n 1, 1) := by decide +kernel
theorem dL_law_8 : decode cL_law 8 = .ok (.new 10, 3) := by decide +kernel
theorem dL_law_11 : decode cL_law 11 = .ok (.dup, 1) := by decide +kernel
theorem dL_law_12 : decode cL_law 12 = .ok (.invokespecial 12, 3) := by decide +kernel
theorem dL_law_15 : decode cL_law 15 = .ok (.astore_n 2, 1) := by decide +kernel
theorem dL_law_16 : decode cL_law 16 = .ok (.iconst 0, 1) := by decide +kernel
theorem dL_law_17 : decode cL_law 17 = .ok (.istore_n 3, 1) := by decide +kernel
theorem dL_law_18 : decode cL_law 18 = .ok (.iload_n 3, 1) := by decide +kernel
theorem dL_law_19 : decode cL_law 19 = .ok (.aload_n 0, 1) := by decide +kernel
theorem dL_law_20 : decode cL_law 20 = .ok (.arraylength, 1) := by decide +kernel
theorem dL_law_21 : decode cL_law 21 = .ok (.iconst 4, 1) := by decide +kernel
theorem dL_law_22 : decode cL_law 22 = .ok (.isub, 1) := by decide +kernel
theorem dL_law_23 : decode cL_law 23 = .ok (.if_icmp .gt 585, 3) := by decide +kernel
theorem dL_law_26 : decode cL_law 26 = .ok (.aload_n 0, 1) := by decide +kernel
theorem dL_law_27 : decode cL_law 27 = .ok (.iload_n 3, 1) := by decide +kernel
theorem dL_law_28 : decode cL_law 28 = .ok (.iaload, 1) := by decide +kernel
theorem dL_law_29 : decode cL_law 29 = .ok (.bipush 31, 2) := by decide +kernel
theorem dL_law_31 : decode cL_law 31 = .ok (.iand, 1) := by decide +kernel
theorem dL_law_32 : decode cL_law 32 = .ok (.tableswitch 570 0 21 #[104, 147, 170, 183, 196, 219, 242, 265, 278, 301, 324, 357, 370, 383, 396, 409, 422, 445, 468, 491, 524, 547], 104) := by decide +kernel
theorem dL_law_136 : decode cL_law 136 = .ok (.aload_n 1, 1) := by decide +kernel
theorem dL_law_137 : decode cL_law 137 = .ok (.aload_n 0, 1) := by decide +kernel
theorem dL_law_138 : decode cL_law 138 = .ok (.iload_n 3, 1) := by decide +kernel
theorem dL_law_139 : decode cL_law 139 = .ok (.iconst 1, 1) := by decide +kernel
theorem dL_law_140 : decode cL_law 140 = .ok (.iadd, 1) := by decide +kernel
theorem dL_law_141 : decode cL_law 141 = .ok (.iaload, 1) := by decide +kernel
theorem dL_law_142 : decode cL_law 142 = .ok (.aload_n 0, 1) := by decide +kernel
theorem dL_law_143 : decode cL_law 143 = .ok (.iload_n 3, 1) := by decide +kernel
theorem dL_law_144 : decode cL_law 144 = .ok (.iconst 2, 1) := by decide +kernel
theorem dL_law_145 : decode cL_law 145 = .ok (.iadd, 1) := by decide +kernel
theorem dL_law_146 : decode cL_law 146 = .ok (.iaload, 1) := by decide +kernel
theorem dL_law_147 : decode cL_law 147 = .ok (.aload_n 0, 1) := by decide +kernel
theorem dL_law_148 : decode cL_law 148 = .ok (.iload_n 3, 1) := by decide +kernel
theorem dL_law_149 : decode cL_law 149 = .ok (.iconst 3, 1) := by decide +kernel
theorem dL_law_150 : decode cL_law 150 = .ok (.iadd, 1) := by decide +kernel
theorem dL_law_151 : decode cL_law 151 = .ok (.iaload, 1) := by decide +kernel
theorem dL_law_152 : decode cL_law 152 = .ok (.invokevirtual 13, 3) := by decide +kernel
theorem dL_law_155 : decode cL_law 155 = .ok (.aload_n 2, 1) := by decide +kernel
theorem dL_law_156 : decode cL_law 156 = .ok (.aload_n 0, 1) := by decide +kernel
theorem dL_law_157 : decode cL_law 157 = .ok (.iload_n 3, 1) := by decide +kernel
theorem dL_law_158 : decode cL_law 158 = .ok (.iconst 1, 1) := by decide +kernel
theorem dL_law_159 : decode cL_law 159 = .ok (.iadd, 1) := by decide +kernel
theorem dL_law_160 : decode cL_law 160 = .ok (.iaload, 1) := by decide +kernel
theorem dL_law_161 : decode cL_law 161 = .ok (.aload_n 0, 1) := by decide +kernel
theorem dL_law_162 : decode cL_law 162 = .ok (.iload_n 3, 1) := by decide +kernel
theorem dL_law_163 : decode cL_law 163 = .ok (.iconst 2, 1) := by decide +kernel
theorem dL_law_164 : decode cL_law 164 = .ok (.iadd, 1) := by decide +kernel
theorem dL_law_165 : decode cL_law 165 = .ok (.iaload, 1) := by decide +kernel
theorem dL_law_166 : decode cL_law 166 = .ok (.aload_n 0, 1) := by decide +kernel
theorem dL_law_167 : decode cL_law 167 = .ok (.iload_n 3, 1) := by decide +kernel
theorem dL_law_168 : decode cL_law 168 = .ok (.iconst 3, 1) := by decide +kernel
theorem dL_law_169 : decode cL_law 169 = .ok (.iadd, 1) := by decide +kernel
theorem dL_law_170 : decode cL_law 170 = .ok (.iaload, 1) := by decide +kernel
theorem dL_law_171 : decode cL_law 171 = .ok (.invokevirtual 17, 3) := by decide +kernel
theorem dL_law_174 : decode cL_law 174 = .ok (.if_icmp .eq 428, 3) := by decide +kernel
theorem dL_law_177 : decode cL_law 177 = .ok (.iconst 0, 1) := by decide +kernel
theorem dL_law_178 : decode cL_law 178 = .ok (.ireturn, 1) := by decide +kernel
theorem dL_law_179 : decode cL_law 179 = .ok (.aload_n 1, 1) := by decide +kernel
theorem dL_law_180 : decode cL_law 180 = .ok (.aload_n 0, 1) := by decide +kernel
theorem dL_law_181 : decode cL_law 181 = .ok (.iload_n 3, 1) := by decide +kernel
theorem dL_law_182 : decode cL_law 182 = .ok (.iconst 1, 1) := by decide +kernel
theorem dL_law_183 : decode cL_law 183 = .ok (.iadd, 1) := by decide +kernel
theorem dL_law_184 : decode cL_law 184 = .ok (.iaload, 1) := by decide +kernel
theorem dL_law_185 : decode cL_law 185 = .ok (.invokevirtual 18, 3) := by decide +kernel
theorem dL_law_188 : decode cL_law 188 = .ok (.aload_n 2, 1) := by decide +kernel
theorem dL_law_189 : decode cL_law 189 = .ok (.aload_n 0, 1) := by decide +kernel
theorem dL_law_190 : decode cL_law 190 = .ok (.iload_n 3, 1) := by decide +kernel
theorem dL_law_191 : decode cL_law 191 = .ok (.iconst 1, 1) := by decide +kernel
theorem dL_law_192 : decode cL_law 192 = .ok (.iadd, 1) := by decide +kernel
theorem dL_law_193 : decode cL_law 193 = .ok (.iaload, 1) := by decide +kernel
theorem dL_law_194 : decode cL_law 194 = .ok (.invokevirtual 22, 3) := by decide +kernel
theorem dL_law_197 : decode cL_law 197 = .ok (.if_icmp .eq 405, 3) := by decide +kernel
theorem dL_law_200 : decode cL_law 200 = .ok (.iconst 0, 1) := by decide +kernel
theorem dL_law_201 : decode cL_law 201 = .ok (.ireturn, 1) := by decide +kernel
theorem dL_law_202 : decode cL_law 202 = .ok (.aload_n 1, 1) := by decide +kernel
theorem dL_law_203 : decode cL_law 203 = .ok (.invokevirtual 23, 3) := by decide +kernel
theorem dL_law_206 : decode cL_law 206 = .ok (.aload_n 2, 1) := by decide +kernel
theorem dL_law_207 : decode cL_law 207 = .ok (.invokevirtual 27, 3) := by decide +kernel
theorem dL_law_210 : decode cL_law 210 = .ok (.if_icmp .eq 392, 3) := by decide +kernel
theorem dL_law_213 : decode cL_law 213 = .ok (.iconst 0, 1) := by decide +kernel
theorem dL_law_214 : decode cL_law 214 = .ok (.ireturn, 1) := by decide +kernel
theorem dL_law_215 : decode cL_law 215 = .ok (.aload_n 1, 1) := by decide +kernel
theorem dL_law_216 : decode cL_law 216 = .ok (.invokevirtual 28, 3) := by decide +kernel
theorem dL_law_219 : decode cL_law 219 = .ok (.aload_n 2, 1) := by decide +kernel
theorem dL_law_220 : decode cL_law 220 = .ok (.invokevirtual 31, 3) := by decide +kernel
theorem dL_law_223 : decode cL_law 223 = .ok (.if_icmp .eq 379, 3) := by decide +kernel
theorem dL_law_226 : decode cL_law 226 = .ok (.iconst 0, 1) := by decide +kernel
theorem dL_law_227 : decode cL_law 227 = .ok (.ireturn, 1) := by decide +kernel
theorem dL_law_228 : decode cL_law 228 = .ok (.aload_n 1, 1) := by decide +kernel
theorem dL_law_229 : decode cL_law 229 = .ok (.aload_n 0, 1) := by decide +kernel
theorem dL_law_230 : decode cL_law 230 = .ok (.iload_n 3, 1) := by decide +kernel
theorem dL_law_231 : decode cL_law 231 = .ok (.iconst 1, 1) := by decide +kernel
theorem dL_law_232 : decode cL_law 232 = .ok (.iadd, 1) := by decide +kernel
theorem dL_law_233 : decode cL_law 233 = .ok (.iaload, 1) := by decide +kernel
theorem dL_law_234 : decode cL_law 234 = .ok (.invokevirtual 32, 3) := by decide +kernel
theorem dL_law_237 : decode cL_law 237 = .ok (.aload_n 2, 1) := by decide +kernel
theorem dL_law_238 : decode cL_law 238 = .ok (.aload_n 0, 1) := by decide +kernel
theorem dL_law_239 : decode cL_law 239 = .ok (.iload_n 3, 1) := by decide +kernel
theorem dL_law_240 : decode cL_law 240 = .ok (.iconst 1, 1) := by decide +kernel
theorem dL_law_241 : decode cL_law 241 = .ok (.iadd, 1) := by decide +kernel
theorem dL_law_242 : decode cL_law 242 = .ok (.iaload, 1) := by decide +kernel
theorem dL_law_243 : decode cL_law 243 = .ok (.invokevirtual 36, 3) := by decide +kernel
theorem dL_law_246 : decode cL_law 246 = .ok (.if_icmp .eq 356, 3) := by decide +kernel
theorem dL_law_249 : decode cL_law 249 = .ok (.iconst 0, 1) := by decide +kernel
theorem dL_law_250 : decode cL_law 250 = .ok (.ireturn, 1) := by decide +kernel
theorem dL_law_251 : decode cL_law 251 = .ok (.aload_n 1, 1) := by decide +kernel
theorem dL_law_252 : decode cL_law 252 = .ok (.aload_n 0, 1) := by decide +kernel
theorem dL_law_253 : decode cL_law 253 = .ok (.iload_n 3, 1) := by decide +kernel
theorem dL_law_254 : decode cL_law 254 = .ok (.iconst 1, 1) := by decide +kernel
theorem dL_law_255 : decode cL_law 255 = .ok (.iadd, 1) := by decide +kernel
theorem dL_law_256 : decode cL_law 256 = .ok (.iaload, 1) := by decide +kernel
theorem dL_law_257 : decode cL_law 257 = .ok (.invokevirtual 37, 3) := by decide +kernel
theorem dL_law_260 : decode cL_law 260 = .ok (.aload_n 2, 1) := by decide +kernel
theorem dL_law_261 : decode cL_law 261 = .ok (.aload_n 0, 1) := by decide +kernel
theorem dL_law_262 : decode cL_law 262 = .ok (.iload_n 3, 1) := by decide +kernel
theorem dL_law_263 : decode cL_law 263 = .ok (.iconst 1, 1) := by decide +kernel
theorem dL_law_264 : decode cL_law 264 = .ok (.iadd, 1) := by decide +kernel
theorem dL_law_265 : decode cL_law 265 = .ok (.iaload, 1) := by decide +kernel
theorem dL_law_266 : decode cL_law 266 = .ok (.invokevirtual 40, 3) := by decide +kernel
theorem dL_law_269 : decode cL_law 269 = .ok (.if_icmp .eq 333, 3) := by decide +kernel
theorem dL_law_272 : decode cL_law 272 = .ok (.iconst 0, 1) := by decide +kernel
theorem dL_law_273 : decode cL_law 273 = .ok (.ireturn, 1) := by decide +kernel
theorem dL_law_274 : decode cL_law 274 = .ok (.aload_n 1, 1) := by decide +kernel
theorem dL_law_275 : decode cL_law 275 = .ok (.aload_n 0, 1) := by decide +kernel
theorem dL_law_276 : decode cL_law 276 = .ok (.iload_n 3, 1) := by decide +kernel
theorem dL_law_277 : decode cL_law 277 = .ok (.iconst 1, 1) := by decide +kernel
theorem dL_law_278 : decode cL_law 278 = .ok (.iadd, 1) := by decide +kernel
theorem dL_law_279 : decode cL_law 279 = .ok (.iaload, 1) := by decide +kernel
theorem dL_law_280 : decode cL_law 280 = .ok (.invokevirtual 41, 3) := by decide +kernel
theorem dL_law_283 : decode cL_law 283 = .ok (.aload_n 2, 1) := by decide +kernel
theorem dL_law_284 : decode cL_law 284 = .ok (.aload_n 0, 1) := by decide +kernel
theorem dL_law_285 : decode cL_law 285 = .ok (.iload_n 3, 1) := by decide +kernel
theorem dL_law_286 : decode cL_law 286 = .ok (.iconst 1, 1) := by decide +kernel
theorem dL_law_287 : decode cL_law 287 = .ok (.iadd, 1) := by decide +kernel
theorem dL_law_288 : decode cL_law 288 = .ok (.iaload, 1) := by decide +kernel
theorem dL_law_289 : decode cL_law 289 = .ok (.invokevirtual 44, 3) := by decide +kernel
theorem dL_law_292 : decode cL_law 292 = .ok (.if_icmp .eq 310, 3) := by decide +kernel
theorem dL_law_295 : decode cL_law 295 = .ok (.iconst 0, 1) := by decide +kernel
theorem dL_law_296 : decode cL_law 296 = .ok (.ireturn, 1) := by decide +kernel
theorem dL_law_297 : decode cL_law 297 = .ok (.aload_n 1, 1) := by decide +kernel
theorem dL_law_298 : decode cL_law 298 = .ok (.invokevirtual 45, 3) := by decide +kernel
theorem dL_law_301 : decode cL_law 301 = .ok (.aload_n 2, 1) := by decide +kernel
theorem dL_law_302 : decode cL_law 302 = .ok (.invokevirtual 48, 3) := by decide +kernel
theorem dL_law_305 : decode cL_law 305 = .ok (.if_icmp .eq 297, 3) := by decide +kernel
theorem dL_law_308 : decode cL_law 308 = .ok (.iconst 0, 1) := by decide +kernel
theorem dL_law_309 : decode cL_law 309 = .ok (.ireturn, 1) := by decide +kernel
theorem dL_law_310 : decode cL_law 310 = .ok (.aload_n 1, 1) := by decide +kernel
theorem dL_law_311 : decode cL_law 311 = .ok (.aload_n 0, 1) := by decide +kernel
theorem dL_law_312 : decode cL_law 312 = .ok (.iload_n 3, 1) := by decide +kernel
theorem dL_law_313 : decode cL_law 313 = .ok (.iconst 1, 1) := by decide +kernel
theorem dL_law_314 : decode cL_law 314 = .ok (.iadd, 1) := by decide +kernel
theorem dL_law_315 : decode cL_law 315 = .ok (.iaload, 1) := by decide +kernel
theorem dL_law_316 : decode cL_law 316 = .ok (.invokevirtual 49, 3) := by decide +kernel
theorem dL_law_319 : decode cL_law 319 = .ok (.aload_n 2, 1) := by decide +kernel
theorem dL_law_320 : decode cL_law 320 = .ok (.aload_n 0, 1) := by decide +kernel
theorem dL_law_321 : decode cL_law 321 = .ok (.iload_n 3, 1) := by decide +kernel
theorem dL_law_322 : decode cL_law 322 = .ok (.iconst 1, 1) := by decide +kernel
theorem dL_law_323 : decode cL_law 323 = .ok (.iadd, 1) := by decide +kernel
theorem dL_law_324 : decode cL_law 324 = .ok (.iaload, 1) := by decide +kernel
theorem dL_law_325 : decode cL_law 325 = .ok (.invokevirtual 52, 3) := by decide +kernel
theorem dL_law_328 : decode cL_law 328 = .ok (.if_icmp .eq 274, 3) := by decide +kernel
theorem dL_law_331 : decode cL_law 331 = .ok (.iconst 0, 1) := by decide +kernel
theorem dL_law_332 : decode cL_law 332 = .ok (.ireturn, 1) := by decide +kernel
theorem dL_law_333 : decode cL_law 333 = .ok (.aload_n 1, 1) := by decide +kernel
theorem dL_law_334 : decode cL_law 334 = .ok (.aload_n 0, 1) := by decide +kernel
theorem dL_law_335 : decode cL_law 335 = .ok (.iload_n 3, 1) := by decide +kernel
theorem dL_law_336 : decode cL_law 336 = .ok (.iconst 1, 1) := by decide +kernel
theorem dL_law_337 : decode cL_law 337 = .ok (.iadd, 1) := by decide +kernel
theorem dL_law_338 : decode cL_law 338 = .ok (.iaload, 1) := by decide +kernel
theorem dL_law_339 : decode cL_law 339 = .ok (.invokevirtual 53, 3) := by decide +kernel
theorem dL_law_342 : decode cL_law 342 = .ok (.aload_n 2, 1) := by decide +kernel
theorem dL_law_343 : decode cL_law 343 = .ok (.aload_n 0, 1) := by decide +kernel
theorem dL_law_344 : decode cL_law 344 = .ok (.iload_n 3, 1) := by decide +kernel
theorem dL_law_345 : decode cL_law 345 = .ok (.iconst 1, 1) := by decide +kernel
theorem dL_law_346 : decode cL_law 346 = .ok (.iadd, 1) := by decide +kernel
theorem dL_law_347 : decode cL_law 347 = .ok (.iaload, 1) := by decide +kernel
theorem dL_law_348 : decode cL_law 348 = .ok (.invokevirtual 56, 3) := by decide +kernel
theorem dL_law_351 : decode cL_law 351 = .ok (.if_icmp .eq 251, 3) := by decide +kernel
theorem dL_law_354 : decode cL_law 354 = .ok (.iconst 0, 1) := by decide +kernel
theorem dL_law_355 : decode cL_law 355 = .ok (.ireturn, 1) := by decide +kernel
theorem dL_law_356 : decode cL_law 356 = .ok (.aload_n 1, 1) := by decide +kernel
theorem dL_law_357 : decode cL_law 357 = .ok (.aload_n 0, 1) := by decide +kernel
theorem dL_law_358 : decode cL_law 358 = .ok (.iload_n 3, 1) := by decide +kernel
theorem dL_law_359 : decode cL_law 359 = .ok (.iconst 1, 1) := by decide +kernel
theorem dL_law_360 : decode cL_law 360 = .ok (.iadd, 1) := by decide +kernel
theorem dL_law_361 : decode cL_law 361 = .ok (.iaload, 1) := by decide +kernel
theorem dL_law_362 : decode cL_law 362 = .ok (.aload_n 0, 1) := by decide +kernel
theorem dL_law_363 : decode cL_law 363 = .ok (.iload_n 3, 1) := by decide +kernel
theorem dL_law_364 : decode cL_law 364 = .ok (.iconst 2, 1) := by decide +kernel
theorem dL_law_365 : decode cL_law 365 = .ok (.iadd, 1) := by decide +kernel
theorem dL_law_366 : decode cL_law 366 = .ok (.iaload, 1) := by decide +kernel
theorem dL_law_367 : decode cL_law 367 = .ok (.invokevirtual 57, 3) := by decide +kernel
theorem dL_law_370 : decode cL_law 370 = .ok (.aload_n 2, 1) := by decide +kernel
theorem dL_law_371 : decode cL_law 371 = .ok (.aload_n 0, 1) := by decide +kernel
theorem dL_law_372 : decode cL_law 372 = .ok (.iload_n 3, 1) := by decide +kernel
theorem dL_law_373 : decode cL_law 373 = .ok (.iconst 1, 1) := by decide +kernel
theorem dL_law_374 : decode cL_law 374 = .ok (.iadd, 1) := by decide +kernel
theorem dL_law_375 : decode cL_law 375 = .ok (.iaload, 1) := by decide +kernel
theorem dL_law_376 : decode cL_law 376 = .ok (.aload_n 0, 1) := by decide +kernel
theorem dL_law_377 : decode cL_law 377 = .ok (.iload_n 3, 1) := by decide +kernel
theorem dL_law_378 : decode cL_law 378 = .ok (.iconst 2, 1) := by decide +kernel
theorem dL_law_379 : decode cL_law 379 = .ok (.iadd, 1) := by decide +kernel
theorem dL_law_380 : decode cL_law 380 = .ok (.iaload, 1) := by decide +kernel
theorem dL_law_381 : decode cL_law 381 = .ok (.invokevirtual 61, 3) := by decide +kernel
theorem dL_law_384 : decode cL_law 384 = .ok (.if_icmp .eq 218, 3) := by decide +kernel
theorem dL_law_387 : decode cL_law 387 = .ok (.iconst 0, 1) := by decide +kernel
theorem dL_law_388 : decode cL_law 388 = .ok (.ireturn, 1) := by decide +kernel
theorem dL_law_389 : decode cL_law 389 = .ok (.aload_n 1, 1) := by decide +kernel
theorem dL_law_390 : decode cL_law 390 = .ok (.invokevirtual 62, 3) := by decide +kernel
theorem dL_law_393 : decode cL_law 393 = .ok (.aload_n 2, 1) := by decide +kernel
theorem dL_law_394 : decode cL_law 394 = .ok (.invokevirtual 66, 3) := by decide +kernel
theorem dL_law_397 : decode cL_law 397 = .ok (.if_icmp .eq 205, 3) := by decide +kernel
theorem dL_law_400 : decode cL_law 400 = .ok (.iconst 0, 1) := by decide +kernel
theorem dL_law_401 : decode cL_law 401 = .ok (.ireturn, 1) := by decide +kernel
theorem dL_law_402 : decode cL_law 402 = .ok (.aload_n 1, 1) := by decide +kernel
theorem dL_law_403 : decode cL_law 403 = .ok (.invokevirtual 67, 3) := by decide +kernel
theorem dL_law_406 : decode cL_law 406 = .ok (.aload_n 2, 1) := by decide +kernel
theorem dL_law_407 : decode cL_law 407 = .ok (.invokevirtual 70, 3) := by decide +kernel
theorem dL_law_410 : decode cL_law 410 = .ok (.if_icmp .eq 192, 3) := by decide +kernel
theorem dL_law_413 : decode cL_law 413 = .ok (.iconst 0, 1) := by decide +kernel
theorem dL_law_414 : decode cL_law 414 = .ok (.ireturn, 1) := by decide +kernel
theorem dL_law_415 : decode cL_law 415 = .ok (.aload_n 1, 1) := by decide +kernel
theorem dL_law_416 : decode cL_law 416 = .ok (.invokevirtual 71, 3) := by decide +kernel
theorem dL_law_419 : decode cL_law 419 = .ok (.aload_n 2, 1) := by decide +kernel
theorem dL_law_420 : decode cL_law 420 = .ok (.invokevirtual 74, 3) := by decide +kernel
theorem dL_law_423 : decode cL_law 423 = .ok (.if_icmp .eq 179, 3) := by decide +kernel
theorem dL_law_426 : decode cL_law 426 = .ok (.iconst 0, 1) := by decide +kernel
theorem dL_law_427 : decode cL_law 427 = .ok (.ireturn, 1) := by decide +kernel
theorem dL_law_428 : decode cL_law 428 = .ok (.aload_n 1, 1) := by decide +kernel
theorem dL_law_429 : decode cL_law 429 = .ok (.invokevirtual 75, 3) := by decide +kernel
theorem dL_law_432 : decode cL_law 432 = .ok (.aload_n 2, 1) := by decide +kernel
theorem dL_law_433 : decode cL_law 433 = .ok (.invokevirtual 78, 3) := by decide +kernel
theorem dL_law_436 : decode cL_law 436 = .ok (.if_icmp .eq 166, 3) := by decide +kernel
theorem dL_law_439 : decode cL_law 439 = .ok (.iconst 0, 1) := by decide +kernel
theorem dL_law_440 : decode cL_law 440 = .ok (.ireturn, 1) := by decide +kernel
theorem dL_law_441 : decode cL_law 441 = .ok (.aload_n 1, 1) := by decide +kernel
theorem dL_law_442 : decode cL_law 442 = .ok (.invokevirtual 79, 3) := by decide +kernel
theorem dL_law_445 : decode cL_law 445 = .ok (.aload_n 2, 1) := by decide +kernel
theorem dL_law_446 : decode cL_law 446 = .ok (.invokevirtual 82, 3) := by decide +kernel
theorem dL_law_449 : decode cL_law 449 = .ok (.if_icmp .eq 153, 3) := by decide +kernel
theorem dL_law_452 : decode cL_law 452 = .ok (.iconst 0, 1) := by decide +kernel
theorem dL_law_453 : decode cL_law 453 = .ok (.ireturn, 1) := by decide +kernel
theorem dL_law_454 : decode cL_law 454 = .ok (.aload_n 1, 1) := by decide +kernel
theorem dL_law_455 : decode cL_law 455 = .ok (.aload_n 0, 1) := by decide +kernel
theorem dL_law_456 : decode cL_law 456 = .ok (.iload_n 3, 1) := by decide +kernel
theorem dL_law_457 : decode cL_law 457 = .ok (.iconst 1, 1) := by decide +kernel
theorem dL_law_458 : decode cL_law 458 = .ok (.iadd, 1) := by decide +kernel
theorem dL_law_459 : decode cL_law 459 = .ok (.iaload, 1) := by decide +kernel
theorem dL_law_460 : decode cL_law 460 = .ok (.invokevirtual 83, 3) := by decide +kernel
theorem dL_law_463 : decode cL_law 463 = .ok (.aload_n 2, 1) := by decide +kernel
theorem dL_law_464 : decode cL_law 464 = .ok (.aload_n 0, 1) := by decide +kernel
theorem dL_law_465 : decode cL_law 465 = .ok (.iload_n 3, 1) := by decide +kernel
theorem dL_law_466 : decode cL_law 466 = .ok (.iconst 1, 1) := by decide +kernel
theorem dL_law_467 : decode cL_law 467 = .ok (.iadd, 1) := by decide +kernel
theorem dL_law_468 : decode cL_law 468 = .ok (.iaload, 1) := by decide +kernel
theorem dL_law_469 : decode cL_law 469 = .ok (.invokevirtual 86, 3) := by decide +kernel
theorem dL_law_472 : decode cL_law 472 = .ok (.if_icmp .eq 130, 3) := by decide +kernel
theorem dL_law_475 : decode cL_law 475 = .ok (.iconst 0, 1) := by decide +kernel
theorem dL_law_476 : decode cL_law 476 = .ok (.ireturn, 1) := by decide +kernel
theorem dL_law_477 : decode cL_law 477 = .ok (.aload_n 1, 1) := by decide +kernel
theorem dL_law_478 : decode cL_law 478 = .ok (.aload_n 0, 1) := by decide +kernel
theorem dL_law_479 : decode cL_law 479 = .ok (.iload_n 3, 1) := by decide +kernel
theorem dL_law_480 : decode cL_law 480 = .ok (.iconst 1, 1) := by decide +kernel
theorem dL_law_481 : decode cL_law 481 = .ok (.iadd, 1) := by decide +kernel
theorem dL_law_482 : decode cL_law 482 = .ok (.iaload, 1) := by decide +kernel
theorem dL_law_483 : decode cL_law 483 = .ok (.invokevirtual 87, 3) := by decide +kernel
theorem dL_law_486 : decode cL_law 486 = .ok (.aload_n 2, 1) := by decide +kernel
theorem dL_law_487 : decode cL_law 487 = .ok (.aload_n 0, 1) := by decide +kernel
theorem dL_law_488 : decode cL_law 488 = .ok (.iload_n 3, 1) := by decide +kernel
theorem dL_law_489 : decode cL_law 489 = .ok (.iconst 1, 1) := by decide +kernel
theorem dL_law_490 : decode cL_law 490 = .ok (.iadd, 1) := by decide +kernel
theorem dL_law_491 : decode cL_law 491 = .ok (.iaload, 1) := by decide +kernel
theorem dL_law_492 : decode cL_law 492 = .ok (.invokevirtual 90, 3) := by decide +kernel
theorem dL_law_495 : decode cL_law 495 = .ok (.if_icmp .eq 107, 3) := by decide +kernel
theorem dL_law_498 : decode cL_law 498 = .ok (.iconst 0, 1) := by decide +kernel
theorem dL_law_499 : decode cL_law 499 = .ok (.ireturn, 1) := by decide +kernel
theorem dL_law_500 : decode cL_law 500 = .ok (.aload_n 1, 1) := by decide +kernel
theorem dL_law_501 : decode cL_law 501 = .ok (.aload_n 0, 1) := by decide +kernel
theorem dL_law_502 : decode cL_law 502 = .ok (.iload_n 3, 1) := by decide +kernel
theorem dL_law_503 : decode cL_law 503 = .ok (.iconst 1, 1) := by decide +kernel
theorem dL_law_504 : decode cL_law 504 = .ok (.iadd, 1) := by decide +kernel
theorem dL_law_505 : decode cL_law 505 = .ok (.iaload, 1) := by decide +kernel
theorem dL_law_506 : decode cL_law 506 = .ok (.invokevirtual 91, 3) := by decide +kernel
theorem dL_law_509 : decode cL_law 509 = .ok (.aload_n 2, 1) := by decide +kernel
theorem dL_law_510 : decode cL_law 510 = .ok (.aload_n 0, 1) := by decide +kernel
theorem dL_law_511 : decode cL_law 511 = .ok (.iload_n 3, 1) := by decide +kernel
theorem dL_law_512 : decode cL_law 512 = .ok (.iconst 1, 1) := by decide +kernel
theorem dL_law_513 : decode cL_law 513 = .ok (.iadd, 1) := by decide +kernel
theorem dL_law_514 : decode cL_law 514 = .ok (.iaload, 1) := by decide +kernel
theorem dL_law_515 : decode cL_law 515 = .ok (.invokevirtual 94, 3) := by decide +kernel
theorem dL_law_518 : decode cL_law 518 = .ok (.if_icmp .eq 84, 3) := by decide +kernel
theorem dL_law_521 : decode cL_law 521 = .ok (.iconst 0, 1) := by decide +kernel
theorem dL_law_522 : decode cL_law 522 = .ok (.ireturn, 1) := by decide +kernel
theorem dL_law_523 : decode cL_law 523 = .ok (.aload_n 1, 1) := by decide +kernel
theorem dL_law_524 : decode cL_law 524 = .ok (.aload_n 0, 1) := by decide +kernel
theorem dL_law_525 : decode cL_law 525 = .ok (.iload_n 3, 1) := by decide +kernel
theorem dL_law_526 : decode cL_law 526 = .ok (.iconst 1, 1) := by decide +kernel
theorem dL_law_527 : decode cL_law 527 = .ok (.iadd, 1) := by decide +kernel
theorem dL_law_528 : decode cL_law 528 = .ok (.iaload, 1) := by decide +kernel
theorem dL_law_529 : decode cL_law 529 = .ok (.aload_n 0, 1) := by decide +kernel
theorem dL_law_530 : decode cL_law 530 = .ok (.iload_n 3, 1) := by decide +kernel
theorem dL_law_531 : decode cL_law 531 = .ok (.iconst 2, 1) := by decide +kernel
theorem dL_law_532 : decode cL_law 532 = .ok (.iadd, 1) := by decide +kernel
theorem dL_law_533 : decode cL_law 533 = .ok (.iaload, 1) := by decide +kernel
theorem dL_law_534 : decode cL_law 534 = .ok (.invokevirtual 95, 3) := by decide +kernel
theorem dL_law_537 : decode cL_law 537 = .ok (.aload_n 2, 1) := by decide +kernel
theorem dL_law_538 : decode cL_law 538 = .ok (.aload_n 0, 1) := by decide +kernel
theorem dL_law_539 : decode cL_law 539 = .ok (.iload_n 3, 1) := by decide +kernel
theorem dL_law_540 : decode cL_law 540 = .ok (.iconst 1, 1) := by decide +kernel
theorem dL_law_541 : decode cL_law 541 = .ok (.iadd, 1) := by decide +kernel
theorem dL_law_542 : decode cL_law 542 = .ok (.iaload, 1) := by decide +kernel
theorem dL_law_543 : decode cL_law 543 = .ok (.aload_n 0, 1) := by decide +kernel
theorem dL_law_544 : decode cL_law 544 = .ok (.iload_n 3, 1) := by decide +kernel
theorem dL_law_545 : decode cL_law 545 = .ok (.iconst 2, 1) := by decide +kernel
theorem dL_law_546 : decode cL_law 546 = .ok (.iadd, 1) := by decide +kernel
theorem dL_law_547 : decode cL_law 547 = .ok (.iaload, 1) := by decide +kernel
theorem dL_law_548 : decode cL_law 548 = .ok (.invokevirtual 98, 3) := by decide +kernel
theorem dL_law_551 : decode cL_law 551 = .ok (.if_icmp .eq 51, 3) := by decide +kernel
theorem dL_law_554 : decode cL_law 554 = .ok (.iconst 0, 1) := by decide +kernel
theorem dL_law_555 : decode cL_law 555 = .ok (.ireturn, 1) := by decide +kernel
theorem dL_law_556 : decode cL_law 556 = .ok (.aload_n 1, 1) := by decide +kernel
theorem dL_law_557 : decode cL_law 557 = .ok (.aload_n 0, 1) := by decide +kernel
theorem dL_law_558 : decode cL_law 558 = .ok (.iload_n 3, 1) := by decide +kernel
theorem dL_law_559 : decode cL_law 559 = .ok (.iconst 1, 1) := by decide +kernel
theorem dL_law_560 : decode cL_law 560 = .ok (.iadd, 1) := by decide +kernel
theorem dL_law_561 : decode cL_law 561 = .ok (.iaload, 1) := by decide +kernel
theorem dL_law_562 : decode cL_law 562 = .ok (.invokevirtual 99, 3) := by decide +kernel
theorem dL_law_565 : decode cL_law 565 = .ok (.aload_n 2, 1) := by decide +kernel
theorem dL_law_566 : decode cL_law 566 = .ok (.aload_n 0, 1) := by decide +kernel
theorem dL_law_567 : decode cL_law 567 = .ok (.iload_n 3, 1) := by decide +kernel
theorem dL_law_568 : decode cL_law 568 = .ok (.iconst 1, 1) := by decide +kernel
theorem dL_law_569 : decode cL_law 569 = .ok (.iadd, 1) := by decide +kernel
theorem dL_law_570 : decode cL_law 570 = .ok (.iaload, 1) := by decide +kernel
theorem dL_law_571 : decode cL_law 571 = .ok (.invokevirtual 102, 3) := by decide +kernel
theorem dL_law_574 : decode cL_law 574 = .ok (.if_icmp .eq 28, 3) := by decide +kernel
theorem dL_law_577 : decode cL_law 577 = .ok (.iconst 0, 1) := by decide +kernel
theorem dL_law_578 : decode cL_law 578 = .ok (.ireturn, 1) := by decide +kernel
theorem dL_law_579 : decode cL_law 579 = .ok (.aload_n 1, 1) := by decide +kernel
theorem dL_law_580 : decode cL_law 580 = .ok (.aload_n 0, 1) := by decide +kernel
theorem dL_law_581 : decode cL_law 581 = .ok (.iload_n 3, 1) := by decide +kernel
theorem dL_law_582 : decode cL_law 582 = .ok (.iconst 1, 1) := by decide +kernel
theorem dL_law_583 : decode cL_law 583 = .ok (.iadd, 1) := by decide +kernel
theorem dL_law_584 : decode cL_law 584 = .ok (.iaload, 1) := by decide +kernel
theorem dL_law_585 : decode cL_law 585 = .ok (.invokevirtual 103, 3) := by decide +kernel
theorem dL_law_588 : decode cL_law 588 = .ok (.aload_n 2, 1) := by decide +kernel
theorem dL_law_589 : decode cL_law 589 = .ok (.aload_n 0, 1) := by decide +kernel
theorem dL_law_590 : decode cL_law 590 = .ok (.iload_n 3, 1) := by decide +kernel
theorem dL_law_591 : decode cL_law 591 = .ok (.iconst 1, 1) := by decide +kernel
theorem dL_law_592 : decode cL_law 592 = .ok (.iadd, 1) := by decide +kernel
theorem dL_law_593 : decode cL_law 593 = .ok (.iaload, 1) := by decide +kernel
theorem dL_law_594 : decode cL_law 594 = .ok (.invokevirtual 106, 3) := by decide +kernel
theorem dL_law_597 : decode cL_law 597 = .ok (.if_icmp .eq 5, 3) := by decide +kernel
theorem dL_law_600 : decode cL_law 600 = .ok (.iconst 0, 1) := by decide +kernel
theorem dL_law_601 : decode cL_law 601 = .ok (.ireturn, 1) := by decide +kernel
theorem dL_law_602 : decode cL_law 602 = .ok (.iinc 3 4, 3) := by decide +kernel
theorem dL_law_605 : decode cL_law 605 = .ok (.goto (-587), 3) := by decide +kernel
theorem dL_law_608 : decode cL_law 608 = .ok (.iconst 1, 1) := by decide +kernel
theorem dL_law_609 : decode cL_law 609 = .ok (.ireturn, 1) := by decide +kernel
abbrev vwCl : List vw_C := [(RX0, TX0, 12), (RX1, TX1, 13)]
end
section
section KQ
variable {p : Program} {l : Launch} {e : Env} {R : Room} {s : State} {m : MethodId} {args : Array Value} {below : List Frame} {meth : Method} {c : Code} {H : Heap} {locs : List Loc} {cells slots : Nat} {Q : State → Prop} {g : JFrame}
/-- the end of a walk gets a name: a loop inside a method can then be said -/
theorem k_nameQ (k : ∀ Q' : State → Prop, Q' = Q → W p l e R s m args below meth c H locs cells slots Q' g) : W p l e R s m args below meth c H locs cells slots Q g := k Q rfl
end KQ
theorem k_lt {x N : Int32} {j : Nat} (n : Nat) (hj : x = nI j) (hb : j < 2147483648) (hN : N.toInt = (n : Int)) (c : ¬ N ≤ x) : j < n := by
  rw [Int32.le_iff_toInt_le, hN, hj, nI_toInt (by omega)] at c
  omega
theorem k_ge1 {x : Int32} {j : Nat} (hj : x = nI j) (hb : j < 2147483648) (c : ¬ x < 1) : 1 ≤ j := by
  rw [Int32.lt_iff_toInt_lt, hj, nI_toInt (by omega), show (1 : Int32).toInt = 1 from rfl] at c
  omega
theorem k_pred {j : Nat} (h : 1 ≤ j) : nI j + (-1) = nI (j - 1) := by
  obtain ⟨k, rfl⟩ : ∃ k, j = k + 1 := ⟨j - 1, by omega⟩
  exact pk_m1 k
theorem k_in {x : Int32} {j n : Nat} (hj : x = nI j) (h : j < n) (hn : n < 2147483648) : vp_in x n := by
  rw [hj]
  exact vp_in_nI h (by omega)
theorem k_in0 {x N : Int32} {n : Nat} (h0 : 0 ≤ x) (c : ¬ N ≤ x) (hN : N.toInt = (n : Int)) : vp_in x n := by
  rw [vp_in_iff]
  rw [Int32.le_iff_toInt_le, hN] at c
  rw [Int32.le_iff_toInt_le, show (0 : Int32).toInt = 0 from rfl] at h0
  omega
theorem k_in1 {x N : Int32} {n : Nat} (h0 : 0 ≤ x) (c : x < N) (hN : N.toInt = (n : Int)) : vp_in x n := by
  rw [vp_in_iff]
  rw [Int32.lt_iff_toInt_lt, hN] at c
  rw [Int32.le_iff_toInt_le, show (0 : Int32).toInt = 0 from rfl] at h0
  omega
theorem k_in2 {x N : Int32} {n : Nat} (h0 : ¬ x < 0) (c : ¬ N ≤ x) (hN : N.toInt = (n : Int)) : vp_in x n := by
  rw [vp_in_iff]
  rw [Int32.le_iff_toInt_le, hN] at c
  rw [Int32.lt_iff_toInt_lt, show (0 : Int32).toInt = 0 from rfl] at h0
  omega
theorem k_nar {x : Int32} (h : x = 0 ∨ x = 1) : narrow .boolean (.int x) = .int x := by
  rcases h with rfl | rfl <;> rfl
theorem k_le0 {j : Nat} (h : j < 2147483648) : (0 : Int32) ≤ nI j := nI_pos' (by omega)
theorem k_add0 {x : Int32} (h : 0 ≤ x) (c : ¬ 32 ≤ x) : 0 ≤ x + 1 := by
  have hv := k_in0 (n := 32) h c rfl
  obtain ⟨j, hj, rfl⟩ := vp_in_of hv (by omega)
  rw [nI_1]
  exact k_le0 (by omega)
theorem k_nz0 : vp_nar .boolean 0 = 0 := by decide
theorem k_nz1 : vp_nar .boolean 1 = 1 := by decide
abbrev RS : Type := (Nat → Int32) × (Nat → Int32) × (Nat → Int32) × (Nat → Int32) × Int32 × (Nat → Int32) × (Nat → Int32) × Int32 × Int32 × Int32 × Int32 × Int32
def ra_priorities (u : RS) : Nat → Int32 := u.1
def ra_places (u : RS) : Nat → Int32 := u.2.1
def ra_rows (u : RS) : Nat → Int32 := u.2.2.1
def ra_line (u : RS) : Nat → Int32 := u.2.2.2.1
def ra_lineLength (u : RS) : Int32 := u.2.2.2.2.1
def ra_extras (u : RS) : Nat → Int32 := u.2.2.2.2.2.1
def ra_posts (u : RS) : Nat → Int32 := u.2.2.2.2.2.2.1
def ra_postCount (u : RS) : Int32 := u.2.2.2.2.2.2.2.1
def ra_active (u : RS) : Int32 := u.2.2.2.2.2.2.2.2.1
def ra_here (u : RS) : Int32 := u.2.2.2.2.2.2.2.2.2.1
def ra_wanted (u : RS) : Int32 := u.2.2.2.2.2.2.2.2.2.2.1
def ra_wantedOne (u : RS) : Int32 := u.2.2.2.2.2.2.2.2.2.2.2
def rs_priorities (u : RS) (v : Nat → Int32) : RS := (v, ra_places u, ra_rows u, ra_line u, ra_lineLength u, ra_extras u, ra_posts u, ra_postCount u, ra_active u, ra_here u, ra_wanted u, ra_wantedOne u)
def rs_places (u : RS) (v : Nat → Int32) : RS := (ra_priorities u, v, ra_rows u, ra_line u, ra_lineLength u, ra_extras u, ra_posts u, ra_postCount u, ra_active u, ra_here u, ra_wanted u, ra_wantedOne u)
def rs_rows (u : RS) (v : Nat → Int32) : RS := (ra_priorities u, ra_places u, v, ra_line u, ra_lineLength u, ra_extras u, ra_posts u, ra_postCount u, ra_active u, ra_here u, ra_wanted u, ra_wantedOne u)
def rs_line (u : RS) (v : Nat → Int32) : RS := (ra_priorities u, ra_places u, ra_rows u, v, ra_lineLength u, ra_extras u, ra_posts u, ra_postCount u, ra_active u, ra_here u, ra_wanted u, ra_wantedOne u)
def rs_lineLength (u : RS) (v : Int32) : RS := (ra_priorities u, ra_places u, ra_rows u, ra_line u, v, ra_extras u, ra_posts u, ra_postCount u, ra_active u, ra_here u, ra_wanted u, ra_wantedOne u)
def rs_extras (u : RS) (v : Nat → Int32) : RS := (ra_priorities u, ra_places u, ra_rows u, ra_line u, ra_lineLength u, v, ra_posts u, ra_postCount u, ra_active u, ra_here u, ra_wanted u, ra_wantedOne u)
def rs_posts (u : RS) (v : Nat → Int32) : RS := (ra_priorities u, ra_places u, ra_rows u, ra_line u, ra_lineLength u, ra_extras u, v, ra_postCount u, ra_active u, ra_here u, ra_wanted u, ra_wantedOne u)
def rs_postCount (u : RS) (v : Int32) : RS := (ra_priorities u, ra_places u, ra_rows u, ra_line u, ra_lineLength u, ra_extras u, ra_posts u, v, ra_active u, ra_here u, ra_wanted u, ra_wantedOne u)
def rs_active (u : RS) (v : Int32) : RS := (ra_priorities u, ra_places u, ra_rows u, ra_line u, ra_lineLength u, ra_extras u, ra_posts u, ra_postCount u, v, ra_here u, ra_wanted u, ra_wantedOne u)
def rs_here (u : RS) (v : Int32) : RS := (ra_priorities u, ra_places u, ra_rows u, ra_line u, ra_lineLength u, ra_extras u, ra_posts u, ra_postCount u, ra_active u, v, ra_wanted u, ra_wantedOne u)
def rs_wanted (u : RS) (v : Int32) : RS := (ra_priorities u, ra_places u, ra_rows u, ra_line u, ra_lineLength u, ra_extras u, ra_posts u, ra_postCount u, ra_active u, ra_here u, v, ra_wantedOne u)
def rs_wantedOne (u : RS) (v : Int32) : RS := (ra_priorities u, ra_places u, ra_rows u, ra_line u, ra_lineLength u, ra_extras u, ra_posts u, ra_postCount u, ra_active u, ra_here u, ra_wanted u, v)
theorem rq_priorities_priorities (u : RS) (v : Nat → Int32) : ra_priorities (rs_priorities u v) = v := rfl
theorem rq_priorities_places (u : RS) (v : Nat → Int32) : ra_priorities (rs_places u v) = ra_priorities u := rfl
theorem rq_priorities_rows (u : RS) (v : Nat → Int32) : ra_priorities (rs_rows u v) = ra_priorities u := rfl
theorem rq_priorities_line (u : RS) (v : Nat → Int32) : ra_priorities (rs_line u v) = ra_priorities u := rfl
theorem rq_priorities_lineLength (u : RS) (v : Int32) : ra_priorities (rs_lineLength u v) = ra_priorities u := rfl
theorem rq_priorities_extras (u : RS) (v : Nat → Int32) : ra_priorities (rs_extras u v) = ra_priorities u := rfl
theorem rq_priorities_posts (u : RS) (v : Nat → Int32) : ra_priorities (rs_posts u v) = ra_priorities u := rfl
theorem rq_priorities_postCount (u : RS) (v : Int32) : ra_priorities (rs_postCount u v) = ra_priorities u := rfl
theorem rq_priorities_active (u : RS) (v : Int32) : ra_priorities (rs_active u v) = ra_priorities u := rfl
theorem rq_priorities_here (u : RS) (v : Int32) : ra_priorities (rs_here u v) = ra_priorities u := rfl
theorem rq_priorities_wanted (u : RS) (v : Int32) : ra_priorities (rs_wanted u v) = ra_priorities u := rfl
theorem rq_priorities_wantedOne (u : RS) (v : Int32) : ra_priorities (rs_wantedOne u v) = ra_priorities u := rfl
theorem rq_places_priorities (u : RS) (v : Nat → Int32) : ra_places (rs_priorities u v) = ra_places u := rfl
theorem rq_places_places (u : RS) (v : Nat → Int32) : ra_places (rs_places u v) = v := rfl
theorem rq_places_rows (u : RS) (v : Nat → Int32) : ra_places (rs_rows u v) = ra_places u := rfl
theorem rq_places_line (u : RS) (v : Nat → Int32) : ra_places (rs_line u v) = ra_places u := rfl
theorem rq_places_lineLength (u : RS) (v : Int32) : ra_places (rs_lineLength u v) = ra_places u := rfl
theorem rq_places_extras (u : RS) (v : Nat → Int32) : ra_places (rs_extras u v) = ra_places u := rfl
theorem rq_places_posts (u : RS) (v : Nat → Int32) : ra_places (rs_posts u v) = ra_places u := rfl
theorem rq_places_postCount (u : RS) (v : Int32) : ra_places (rs_postCount u v) = ra_places u := rfl
theorem rq_places_active (u : RS) (v : Int32) : ra_places (rs_active u v) = ra_places u := rfl
theorem rq_places_here (u : RS) (v : Int32) : ra_places (rs_here u v) = ra_places u := rfl
theorem rq_places_wanted (u : RS) (v : Int32) : ra_places (rs_wanted u v) = ra_places u := rfl
theorem rq_places_wantedOne (u : RS) (v : Int32) : ra_places (rs_wantedOne u v) = ra_places u := rfl
theorem rq_rows_priorities (u : RS) (v : Nat → Int32) : ra_rows (rs_priorities u v) = ra_rows u := rfl
theorem rq_rows_places (u : RS) (v : Nat → Int32) : ra_rows (rs_places u v) = ra_rows u := rfl
theorem rq_rows_rows (u : RS) (v : Nat → Int32) : ra_rows (rs_rows u v) = v := rfl
theorem rq_rows_line (u : RS) (v : Nat → Int32) : ra_rows (rs_line u v) = ra_rows u := rfl
theorem rq_rows_lineLength (u : RS) (v : Int32) : ra_rows (rs_lineLength u v) = ra_rows u := rfl
theorem rq_rows_extras (u : RS) (v : Nat → Int32) : ra_rows (rs_extras u v) = ra_rows u := rfl
theorem rq_rows_posts (u : RS) (v : Nat → Int32) : ra_rows (rs_posts u v) = ra_rows u := rfl
theorem rq_rows_postCount (u : RS) (v : Int32) : ra_rows (rs_postCount u v) = ra_rows u := rfl
theorem rq_rows_active (u : RS) (v : Int32) : ra_rows (rs_active u v) = ra_rows u := rfl
theorem rq_rows_here (u : RS) (v : Int32) : ra_rows (rs_here u v) = ra_rows u := rfl
theorem rq_rows_wanted (u : RS) (v : Int32) : ra_rows (rs_wanted u v) = ra_rows u := rfl
theorem rq_rows_wantedOne (u : RS) (v : Int32) : ra_rows (rs_wantedOne u v) = ra_rows u := rfl
theorem rq_line_priorities (u : RS) (v : Nat → Int32) : ra_line (rs_priorities u v) = ra_line u := rfl
theorem rq_line_places (u : RS) (v : Nat → Int32) : ra_line (rs_places u v) = ra_line u := rfl
theorem rq_line_rows (u : RS) (v : Nat → Int32) : ra_line (rs_rows u v) = ra_line u := rfl
theorem rq_line_line (u : RS) (v : Nat → Int32) : ra_line (rs_line u v) = v := rfl
theorem rq_line_lineLength (u : RS) (v : Int32) : ra_line (rs_lineLength u v) = ra_line u := rfl
theorem rq_line_extras (u : RS) (v : Nat → Int32) : ra_line (rs_extras u v) = ra_line u := rfl
theorem rq_line_posts (u : RS) (v : Nat → Int32) : ra_line (rs_posts u v) = ra_line u := rfl
theorem rq_line_postCount (u : RS) (v : Int32) : ra_line (rs_postCount u v) = ra_line u := rfl
theorem rq_line_active (u : RS) (v : Int32) : ra_line (rs_active u v) = ra_line u := rfl
theorem rq_line_here (u : RS) (v : Int32) : ra_line (rs_here u v) = ra_line u := rfl
theorem rq_line_wanted (u : RS) (v : Int32) : ra_line (rs_wanted u v) = ra_line u := rfl
theorem rq_line_wantedOne (u : RS) (v : Int32) : ra_line (rs_wantedOne u v) = ra_line u := rfl
theorem rq_lineLength_priorities (u : RS) (v : Nat → Int32) : ra_lineLength (rs_priorities u v) = ra_lineLength u := rfl
theorem rq_lineLength_places (u : RS) (v : Nat → Int32) : ra_lineLength (rs_places u v) = ra_lineLength u := rfl
theorem rq_lineLength_rows (u : RS) (v : Nat → Int32) : ra_lineLength (rs_rows u v) = ra_lineLength u := rfl
theorem rq_lineLength_line (u : RS) (v : Nat → Int32) : ra_lineLength (rs_line u v) = ra_lineLength u := rfl
theorem rq_lineLength_lineLength (u : RS) (v : Int32) : ra_lineLength (rs_lineLength u v) = v := rfl
theorem rq_lineLength_extras (u : RS) (v : Nat → Int32) : ra_lineLength (rs_extras u v) = ra_lineLength u := rfl
theorem rq_lineLength_posts (u : RS) (v : Nat → Int32) : ra_lineLength (rs_posts u v) = ra_lineLength u := rfl
theorem rq_lineLength_postCount (u : RS) (v : Int32) : ra_lineLength (rs_postCount u v) = ra_lineLength u := rfl
theorem rq_lineLength_active (u : RS) (v : Int32) : ra_lineLength (rs_active u v) = ra_lineLength u := rfl
theorem rq_lineLength_here (u : RS) (v : Int32) : ra_lineLength (rs_here u v) = ra_lineLength u := rfl
theorem rq_lineLength_wanted (u : RS) (v : Int32) : ra_lineLength (rs_wanted u v) = ra_lineLength u := rfl
theorem rq_lineLength_wantedOne (u : RS) (v : Int32) : ra_lineLength (rs_wantedOne u v) = ra_lineLength u := rfl
theorem rq_extras_priorities (u : RS) (v : Nat → Int32) : ra_extras (rs_priorities u v) = ra_extras u := rfl
theorem rq_extras_places (u : RS) (v : Nat → Int32) : ra_extras (rs_places u v) = ra_extras u := rfl
theorem rq_extras_rows (u : RS) (v : Nat → Int32) : ra_extras (rs_rows u v) = ra_extras u := rfl
theorem rq_extras_line (u : RS) (v : Nat → Int32) : ra_extras (rs_line u v) = ra_extras u := rfl
theorem rq_extras_lineLength (u : RS) (v : Int32) : ra_extras (rs_lineLength u v) = ra_extras u := rfl
theorem rq_extras_extras (u : RS) (v : Nat → Int32) : ra_extras (rs_extras u v) = v := rfl
theorem rq_extras_posts (u : RS) (v : Nat → Int32) : ra_extras (rs_posts u v) = ra_extras u := rfl
theorem rq_extras_postCount (u : RS) (v : Int32) : ra_extras (rs_postCount u v) = ra_extras u := rfl
theorem rq_extras_active (u : RS) (v : Int32) : ra_extras (rs_active u v) = ra_extras u := rfl
theorem rq_extras_here (u : RS) (v : Int32) : ra_extras (rs_here u v) = ra_extras u := rfl
theorem rq_extras_wanted (u : RS) (v : Int32) : ra_extras (rs_wanted u v) = ra_extras u := rfl
theorem rq_extras_wantedOne (u : RS) (v : Int32) : ra_extras (rs_wantedOne u v) = ra_extras u := rfl
theorem rq_posts_priorities (u : RS) (v : Nat → Int32) : ra_posts (rs_priorities u v) = ra_posts u := rfl
theorem rq_posts_places (u : RS) (v : Nat → Int32) : ra_posts (rs_places u v) = ra_posts u := rfl
theorem rq_posts_rows (u : RS) (v : Nat → Int32) : ra_posts (rs_rows u v) = ra_posts u := rfl
theorem rq_posts_line (u : RS) (v : Nat → Int32) : ra_posts (rs_line u v) = ra_posts u := rfl
theorem rq_posts_lineLength (u : RS) (v : Int32) : ra_posts (rs_lineLength u v) = ra_posts u := rfl
theorem rq_posts_extras (u : RS) (v : Nat → Int32) : ra_posts (rs_extras u v) = ra_posts u := rfl
theorem rq_posts_posts (u : RS) (v : Nat → Int32) : ra_posts (rs_posts u v) = v := rfl
theorem rq_posts_postCount (u : RS) (v : Int32) : ra_posts (rs_postCount u v) = ra_posts u := rfl
theorem rq_posts_active (u : RS) (v : Int32) : ra_posts (rs_active u v) = ra_posts u := rfl
theorem rq_posts_here (u : RS) (v : Int32) : ra_posts (rs_here u v) = ra_posts u := rfl
theorem rq_posts_wanted (u : RS) (v : Int32) : ra_posts (rs_wanted u v) = ra_posts u := rfl
theorem rq_posts_wantedOne (u : RS) (v : Int32) : ra_posts (rs_wantedOne u v) = ra_posts u := rfl
theorem rq_postCount_priorities (u : RS) (v : Nat → Int32) : ra_postCount (rs_priorities u v) = ra_postCount u := rfl
theorem rq_postCount_places (u : RS) (v : Nat → Int32) : ra_postCount (rs_places u v) = ra_postCount u := rfl
theorem rq_postCount_rows (u : RS) (v : Nat → Int32) : ra_postCount (rs_rows u v) = ra_postCount u := rfl
theorem rq_postCount_line (u : RS) (v : Nat → Int32) : ra_postCount (rs_line u v) = ra_postCount u := rfl
theorem rq_postCount_lineLength (u : RS) (v : Int32) : ra_postCount (rs_lineLength u v) = ra_postCount u := rfl
theorem rq_postCount_extras (u : RS) (v : Nat → Int32) : ra_postCount (rs_extras u v) = ra_postCount u := rfl
theorem rq_postCount_posts (u : RS) (v : Nat → Int32) : ra_postCount (rs_posts u v) = ra_postCount u := rfl
theorem rq_postCount_postCount (u : RS) (v : Int32) : ra_postCount (rs_postCount u v) = v := rfl
theorem rq_postCount_active (u : RS) (v : Int32) : ra_postCount (rs_active u v) = ra_postCount u := rfl
theorem rq_postCount_here (u : RS) (v : Int32) : ra_postCount (rs_here u v) = ra_postCount u := rfl
theorem rq_postCount_wanted (u : RS) (v : Int32) : ra_postCount (rs_wanted u v) = ra_postCount u := rfl
theorem rq_postCount_wantedOne (u : RS) (v : Int32) : ra_postCount (rs_wantedOne u v) = ra_postCount u := rfl
theorem rq_active_priorities (u : RS) (v : Nat → Int32) : ra_active (rs_priorities u v) = ra_active u := rfl
theorem rq_active_places (u : RS) (v : Nat → Int32) : ra_active (rs_places u v) = ra_active u := rfl
theorem rq_active_rows (u : RS) (v : Nat → Int32) : ra_active (rs_rows u v) = ra_active u := rfl
theorem rq_active_line (u : RS) (v : Nat → Int32) : ra_active (rs_line u v) = ra_active u := rfl
theorem rq_active_lineLength (u : RS) (v : Int32) : ra_active (rs_lineLength u v) = ra_active u := rfl
theorem rq_active_extras (u : RS) (v : Nat → Int32) : ra_active (rs_extras u v) = ra_active u := rfl
theorem rq_active_posts (u : RS) (v : Nat → Int32) : ra_active (rs_posts u v) = ra_active u := rfl
theorem rq_active_postCount (u : RS) (v : Int32) : ra_active (rs_postCount u v) = ra_active u := rfl
theorem rq_active_active (u : RS) (v : Int32) : ra_active (rs_active u v) = v := rfl
theorem rq_active_here (u : RS) (v : Int32) : ra_active (rs_here u v) = ra_active u := rfl
theorem rq_active_wanted (u : RS) (v : Int32) : ra_active (rs_wanted u v) = ra_active u := rfl
theorem rq_active_wantedOne (u : RS) (v : Int32) : ra_active (rs_wantedOne u v) = ra_active u := rfl
theorem rq_here_priorities (u : RS) (v : Nat → Int32) : ra_here (rs_priorities u v) = ra_here u := rfl
theorem rq_here_places (u : RS) (v : Nat → Int32) : ra_here (rs_places u v) = ra_here u := rfl
theorem rq_here_rows (u : RS) (v : Nat → Int32) : ra_here (rs_rows u v) = ra_here u := rfl
theorem rq_here_line (u : RS) (v : Nat → Int32) : ra_here (rs_line u v) = ra_here u := rfl
theorem rq_here_lineLength (u : RS) (v : Int32) : ra_here (rs_lineLength u v) = ra_here u := rfl
theorem rq_here_extras (u : RS) (v : Nat → Int32) : ra_here (rs_extras u v) = ra_here u := rfl
theorem rq_here_posts (u : RS) (v : Nat → Int32) : ra_here (rs_posts u v) = ra_here u := rfl
theorem rq_here_postCount (u : RS) (v : Int32) : ra_here (rs_postCount u v) = ra_here u := rfl
theorem rq_here_active (u : RS) (v : Int32) : ra_here (rs_active u v) = ra_here u := rfl
theorem rq_here_here (u : RS) (v : Int32) : ra_here (rs_here u v) = v := rfl
theorem rq_here_wanted (u : RS) (v : Int32) : ra_here (rs_wanted u v) = ra_here u := rfl
theorem rq_here_wantedOne (u : RS) (v : Int32) : ra_here (rs_wantedOne u v) = ra_here u := rfl
theorem rq_wanted_priorities (u : RS) (v : Nat → Int32) : ra_wanted (rs_priorities u v) = ra_wanted u := rfl
theorem rq_wanted_places (u : RS) (v : Nat → Int32) : ra_wanted (rs_places u v) = ra_wanted u := rfl
theorem rq_wanted_rows (u : RS) (v : Nat → Int32) : ra_wanted (rs_rows u v) = ra_wanted u := rfl
theorem rq_wanted_line (u : RS) (v : Nat → Int32) : ra_wanted (rs_line u v) = ra_wanted u := rfl
theorem rq_wanted_lineLength (u : RS) (v : Int32) : ra_wanted (rs_lineLength u v) = ra_wanted u := rfl
theorem rq_wanted_extras (u : RS) (v : Nat → Int32) : ra_wanted (rs_extras u v) = ra_wanted u := rfl
theorem rq_wanted_posts (u : RS) (v : Nat → Int32) : ra_wanted (rs_posts u v) = ra_wanted u := rfl
theorem rq_wanted_postCount (u : RS) (v : Int32) : ra_wanted (rs_postCount u v) = ra_wanted u := rfl
theorem rq_wanted_active (u : RS) (v : Int32) : ra_wanted (rs_active u v) = ra_wanted u := rfl
theorem rq_wanted_here (u : RS) (v : Int32) : ra_wanted (rs_here u v) = ra_wanted u := rfl
theorem rq_wanted_wanted (u : RS) (v : Int32) : ra_wanted (rs_wanted u v) = v := rfl
theorem rq_wanted_wantedOne (u : RS) (v : Int32) : ra_wanted (rs_wantedOne u v) = ra_wanted u := rfl
theorem rq_wantedOne_priorities (u : RS) (v : Nat → Int32) : ra_wantedOne (rs_priorities u v) = ra_wantedOne u := rfl
theorem rq_wantedOne_places (u : RS) (v : Nat → Int32) : ra_wantedOne (rs_places u v) = ra_wantedOne u := rfl
theorem rq_wantedOne_rows (u : RS) (v : Nat → Int32) : ra_wantedOne (rs_rows u v) = ra_wantedOne u := rfl
theorem rq_wantedOne_line (u : RS) (v : Nat → Int32) : ra_wantedOne (rs_line u v) = ra_wantedOne u := rfl
theorem rq_wantedOne_lineLength (u : RS) (v : Int32) : ra_wantedOne (rs_lineLength u v) = ra_wantedOne u := rfl
theorem rq_wantedOne_extras (u : RS) (v : Nat → Int32) : ra_wantedOne (rs_extras u v) = ra_wantedOne u := rfl
theorem rq_wantedOne_posts (u : RS) (v : Nat → Int32) : ra_wantedOne (rs_posts u v) = ra_wantedOne u := rfl
theorem rq_wantedOne_postCount (u : RS) (v : Int32) : ra_wantedOne (rs_postCount u v) = ra_wantedOne u := rfl
theorem rq_wantedOne_active (u : RS) (v : Int32) : ra_wantedOne (rs_active u v) = ra_wantedOne u := rfl
theorem rq_wantedOne_here (u : RS) (v : Int32) : ra_wantedOne (rs_here u v) = ra_wantedOne u := rfl
theorem rq_wantedOne_wanted (u : RS) (v : Int32) : ra_wantedOne (rs_wanted u v) = ra_wantedOne u := rfl
theorem rq_wantedOne_wantedOne (u : RS) (v : Int32) : ra_wantedOne (rs_wantedOne u v) = v := rfl
def rF (ad : Nat → Nat) (u : RS) : List Value := [.ref (ad 1), .ref (ad 2), .ref (ad 3), .ref (ad 4), .int (ra_lineLength u), .ref (ad 5), .ref (ad 6), .int (ra_postCount u), .int (ra_active u), .int (ra_here u), .int (ra_wanted u), .int (ra_wantedOne u)]
def rW (ad : Nat → Nat) (cA : Nat → ClassId) (u : RS) : va_W := [(ad 0, .inr (0, rF ad u)), (ad 1, .inl (cA 1, 32, .inl (ra_priorities u))), (ad 2, .inl (cA 2, 32, .inl (ra_places u))), (ad 3, .inl (cA 3, 32, .inl (ra_rows u))), (ad 4, .inl (cA 4, 32, .inl (ra_line u))), (ad 5, .inl (cA 5, 16, .inl (ra_extras u))), (ad 6, .inl (cA 6, 40, .inl (ra_posts u)))]
theorem rw_priorities (ad : Nat → Nat) (cA : Nat → ClassId) (u : RS) (f : Nat → Int32) : (rW ad cA u).set 1 (ad 1, .inl (cA 1, 32, .inl f)) = rW ad cA (rs_priorities u f) := rfl
theorem rw_places (ad : Nat → Nat) (cA : Nat → ClassId) (u : RS) (f : Nat → Int32) : (rW ad cA u).set 2 (ad 2, .inl (cA 2, 32, .inl f)) = rW ad cA (rs_places u f) := rfl
theorem rw_rows (ad : Nat → Nat) (cA : Nat → ClassId) (u : RS) (f : Nat → Int32) : (rW ad cA u).set 3 (ad 3, .inl (cA 3, 32, .inl f)) = rW ad cA (rs_rows u f) := rfl
theorem rw_line (ad : Nat → Nat) (cA : Nat → ClassId) (u : RS) (f : Nat → Int32) : (rW ad cA u).set 4 (ad 4, .inl (cA 4, 32, .inl f)) = rW ad cA (rs_line u f) := rfl
theorem rw_lineLength (ad : Nat → Nat) (cA : Nat → ClassId) (u : RS) (v : Int32) : (rW ad cA u).set 0 (ad 0, .inr (0, (rF ad u).set 4 (.int v))) = rW ad cA (rs_lineLength u v) := rfl
theorem rw_extras (ad : Nat → Nat) (cA : Nat → ClassId) (u : RS) (f : Nat → Int32) : (rW ad cA u).set 5 (ad 5, .inl (cA 5, 16, .inl f)) = rW ad cA (rs_extras u f) := rfl
theorem rw_posts (ad : Nat → Nat) (cA : Nat → ClassId) (u : RS) (f : Nat → Int32) : (rW ad cA u).set 6 (ad 6, .inl (cA 6, 40, .inl f)) = rW ad cA (rs_posts u f) := rfl
theorem rw_postCount (ad : Nat → Nat) (cA : Nat → ClassId) (u : RS) (v : Int32) : (rW ad cA u).set 0 (ad 0, .inr (0, (rF ad u).set 7 (.int v))) = rW ad cA (rs_postCount u v) := rfl
theorem rw_active (ad : Nat → Nat) (cA : Nat → ClassId) (u : RS) (v : Int32) : (rW ad cA u).set 0 (ad 0, .inr (0, (rF ad u).set 8 (.int v))) = rW ad cA (rs_active u v) := rfl
theorem rw_here (ad : Nat → Nat) (cA : Nat → ClassId) (u : RS) (v : Int32) : (rW ad cA u).set 0 (ad 0, .inr (0, (rF ad u).set 9 (.int v))) = rW ad cA (rs_here u v) := rfl
theorem rw_wanted (ad : Nat → Nat) (cA : Nat → ClassId) (u : RS) (v : Int32) : (rW ad cA u).set 0 (ad 0, .inr (0, (rF ad u).set 10 (.int v))) = rW ad cA (rs_wanted u v) := rfl
theorem rw_wantedOne (ad : Nat → Nat) (cA : Nat → ClassId) (u : RS) (v : Int32) : (rW ad cA u).set 0 (ad 0, .inr (0, (rF ad u).set 11 (.int v))) = rW ad cA (rs_wantedOne u v) := rfl
def rT (cA : Nat → ClassId) : List (ClassId × FieldType) := [(cA 1, .int), (cA 2, .int), (cA 3, .int), (cA 4, .int), (cA 5, .int), (cA 6, .int)]
def rAt (dC : Nat → ClassId) (dI : Nat → Nat → Nat) (A : Nat → Prop) (ad : Nat → Nat) (cA : Nat → ClassId) (u : RS) (t : State) : Prop := va_P (dC, dI) vwCl (rW ad cA u) t.heap ∧ va_K (dC, dI) vwCl (rT cA) t ∧ va_D A (rW ad cA u)
end
section
def rf_isProcess (p1 : Int32) : Int32 := (if p1 < 0 then 0 else (if 32 ≤ p1 then 0 else 1))
def rf_isSemaphore (p1 : Int32) : Int32 := (if p1 < 0 then 0 else (if 16 ≤ p1 then 0 else 1))
def rf_isPriority (p1 : Int32) : Int32 := (if p1 < 1 then 0 else (if 8 < p1 then 0 else 1))
def rf_isMade (u : RS) (p1 : Int32) : Int32 := (if (rf_isProcess p1) = 0 then 0 else (if ra_priorities u p1.toNatClampNeg = 0 then 0 else 1))
def rf_present (u : RS)  : Int32 := (if ra_wanted u = 0 then ra_active u else ra_wantedOne u)
def rf_active (u : RS)  : Int32 := ra_active u
def rf_wanted (u : RS)  : Int32 := ra_wanted u
def rf_here (u : RS)  : Int32 := ra_here u
def rf_place (u : RS) (p1 : Int32) : Int32 := (if (rf_isMade u p1) = 0 then 0 else ra_places u p1.toNatClampNeg)
def rf_priority (u : RS) (p1 : Int32) : Int32 := (if (rf_isMade u p1) = 0 then (-1) else ra_priorities u p1.toNatClampNeg)
def rf_row (u : RS) (p1 : Int32) : Int32 := (if (rf_isMade u p1) = 0 then (-1) else ra_rows u p1.toNatClampNeg)
def rl_at (u : RS) (p1 : Int32) (p2 : Int32) : Nat → Int32 → Int32 → Int32
  | 0, _, _ => 0
  | n + 1, x3, x4 => (if ra_lineLength u ≤ x4 then (-1) else (if 32 ≤ x4 then (-1) else (if (rf_isProcess (ra_line u x4.toNatClampNeg)) = 0 then (rl_at u p1 p2 n x3 (x4 + 1)) else (if ra_rows u (ra_line u x4.toNatClampNeg).toNatClampNeg = p1 then (if x3 = p2 then ra_line u x4.toNatClampNeg else (rl_at u p1 p2 n (x3 + 1) (x4 + 1))) else (rl_at u p1 p2 n x3 (x4 + 1))))))
def rf_at (u : RS) (p1 : Int32) (p2 : Int32) : Int32 := (rl_at u p1 p2 33 0 0)
def rf_extra (u : RS) (p1 : Int32) : Int32 := (if (rf_isSemaphore p1) = 0 then (-1) else ra_extras u p1.toNatClampNeg)
def rf_posted (u : RS) (p1 : Int32) : Int32 := (if p1 < 0 then (-1) else (if ra_postCount u ≤ p1 then (-1) else (if 40 ≤ p1 then (-1) else ra_posts u p1.toNatClampNeg)))
def rl_firstReady (u : RS) : Nat → Int32 → Int32
  | 0, _ => 0
  | n + 1, x1 => (if x1 < 1 then (-1) else (if (rf_at u x1 0) = (-1) then (rl_firstReady u n (x1 + (-1))) else (rf_at u x1 0)))
def rf_firstReady (u : RS)  : Int32 := (rl_firstReady u 9 8)
def rf_want (u : RS) (p1 : Int32) : RS := (rs_wantedOne (rs_wanted u 1) p1)
def rf_enter (u : RS) (p1 : Int32) (p2 : Int32) : RS := (if (rf_isProcess p1) = 0 then u else (if 32 ≤ ra_lineLength u then u else (rs_lineLength (rs_line (rs_rows u (upd (ra_rows u) p1.toNatClampNeg p2)) (upd (ra_line u) (ra_lineLength u).toNatClampNeg p1)) ((ra_lineLength u) + 1))))
def rl_leave (p1 : Int32) : Nat → RS → Int32 → Int32 → RS
  | 0, u2, _, _ => u2
  | n + 1, u2, x2, x3 => (if ra_lineLength u2 ≤ x3 then (rs_lineLength u2 x2) else (if 32 ≤ x3 then (rs_lineLength u2 x2) else (if ra_line u2 x3.toNatClampNeg = p1 then (rl_leave p1 n u2 x2 (x3 + 1)) else (rl_leave p1 n (rs_line u2 (upd (ra_line u2) x2.toNatClampNeg (ra_line u2 x3.toNatClampNeg))) (x2 + 1) (x3 + 1)))))
def rf_leave (u : RS) (p1 : Int32) : RS := (if (rf_isProcess p1) = 0 then u else (rl_leave p1 33 (rs_rows u (upd (ra_rows u) p1.toNatClampNeg 0)) 0 0))
def rf_wake (u : RS) (p1 : Int32) : RS := (if (rf_present u) = (-1) then (rf_want u p1) else (if (rf_priority u (rf_present u)) < (rf_priority u p1) then (rf_want (rf_enter u (rf_present u) (rf_priority u (rf_present u))) p1) else (rf_enter u p1 (rf_priority u p1))))
def rf_putAside (u : RS)  : RS := (rf_want (rf_leave u (rf_firstReady u)) (rf_firstReady u))
def rf_signal (u : RS) (p1 : Int32) : Int32 × RS := (if (rf_isSemaphore p1) = 0 then (0, u) else (if (rf_at u (16 + p1) 0) = (-1) then (1, (rs_extras u (upd (ra_extras u) p1.toNatClampNeg ((ra_extras u p1.toNatClampNeg) + 1)))) else (1, (rf_wake (rf_leave u (rf_at u (16 + p1) 0)) (rf_at u (16 + p1) 0)))))
def rl_signalPosted  : Nat → RS → Int32 → RS
  | 0, u2, _ => u2
  | n + 1, u2, x1 => (if ra_postCount u2 ≤ x1 then (rs_postCount u2 0) else (if 40 ≤ x1 then (rs_postCount u2 0) else (rl_signalPosted  n ((rf_signal u2 (ra_posts u2 x1.toNatClampNeg)).2) (x1 + 1))))
def rf_signalPosted (u : RS)  : RS := (rl_signalPosted  41 u 0)
def rf_change (u : RS)  : RS := (if (rf_isProcess (ra_active u)) = 0 then (rs_wantedOne (rs_wanted (rs_here (rs_active u (ra_wantedOne u)) (rf_place (rs_active u (ra_wantedOne u)) (ra_wantedOne u))) 0) (-1)) else (rs_wantedOne (rs_wanted (rs_here (rs_active (rs_places u (upd (ra_places u) (ra_active u).toNatClampNeg (ra_here u))) (ra_wantedOne u)) (rf_place (rs_active (rs_places u (upd (ra_places u) (ra_active u).toNatClampNeg (ra_here u))) (ra_wantedOne u)) (ra_wantedOne u))) 0) (-1)))
def rf_make (u : RS) (p1 : Int32) (p2 : Int32) (p3 : Int32) : Int32 × RS := (if (rf_isProcess p1) = 0 then (0, u) else (if (rf_isMade u p1) = 0 then (if (rf_isPriority p2) = 0 then (0, u) else (1, (rs_places (rs_priorities u (upd (ra_priorities u) p1.toNatClampNeg p2)) (upd (ra_places u) p1.toNatClampNeg p3)))) else (0, u)))
def rf_resume (u : RS) (p1 : Int32) : Int32 × RS := (if (rf_isMade u p1) = 0 then (0, u) else (if ra_rows u p1.toNatClampNeg = 0 then (if p1 = (rf_present u) then (0, u) else (if p1 = ra_active u then (0, u) else (1, (rf_wake u p1)))) else (0, u)))
def rf_suspend (u : RS)  : Int32 × RS := (if (rf_present u) = (-1) then ((rf_present u), u) else ((rf_present u), (rf_putAside u)))
def rf_end (u : RS)  : Int32 × RS := (if (rf_isMade u (rf_present u)) = 0 then ((-1), u) else (if (rf_present u) = ra_active u then ((rf_present u), (rf_putAside (rs_active (rs_priorities u (upd (ra_priorities u) (rf_present u).toNatClampNeg 0)) (-1)))) else ((rf_present u), (rf_putAside (rs_priorities u (upd (ra_priorities u) (rf_present u).toNatClampNeg 0))))))
def rf_await (u : RS) (p1 : Int32) : Int32 × RS := (if (rf_isSemaphore p1) = 0 then ((-1), u) else (if (rf_present u) = (-1) then ((-1), u) else (if ra_extras u p1.toNatClampNeg ≤ 0 then (0, (rf_putAside (rf_enter u (rf_present u) (16 + p1)))) else (1, (rs_extras u (upd (ra_extras u) p1.toNatClampNeg ((ra_extras u p1.toNatClampNeg) - 1)))))))
def rf_post (u : RS) (p1 : Int32) : Int32 × RS := (if (rf_isSemaphore p1) = 0 then ((-1), u) else (if ra_postCount u < 40 then ((ra_postCount u) + 1, (rs_postCount (rs_posts u (upd (ra_posts u) (ra_postCount u).toNatClampNeg p1)) ((ra_postCount u) + 1))) else ((-1), u)))
def rf_step (u : RS)  : Int32 × RS := (if ra_wanted (rf_signalPosted u) = 0 then (ra_active (rf_signalPosted u), (rf_signalPosted u)) else (ra_active (rf_change (rf_signalPosted u)), (rf_change (rf_signalPosted u))))
def rf_work (u : RS) (p1 : Int32) : Int32 × RS := (if p1 < 1 then (0, u) else (if 1000 < p1 then (0, u) else (if ra_active u = (-1) then (0, u) else (if ra_wanted u = 0 then (1, (rs_here u ((ra_here u) + p1))) else (0, u)))))
def rf_take (u : RS) (p1 : Int32) : Int32 × RS := (if (rf_isProcess p1) = 0 then (0, u) else (if ra_rows u p1.toNatClampNeg = 0 then (0, u) else (1, (rf_leave u p1))))
def rf_rate (u : RS) (p1 : Int32) (p2 : Int32) : Int32 × RS := (if (rf_isMade u p1) = 0 then ((-1), u) else (if (rf_isPriority p2) = 0 then ((-1), u) else (ra_priorities u p1.toNatClampNeg, (rs_priorities u (upd (ra_priorities u) p1.toNatClampNeg p2)))))
def rf_yield (u : RS)  : Int32 × RS := (if (rf_isMade u (rf_present u)) = 0 then (0, u) else (if (rf_at u (ra_priorities u (rf_present u).toNatClampNeg) 0) = (-1) then (0, u) else (1, (rf_putAside (rf_enter u (rf_present u) (ra_priorities u (rf_present u).toNatClampNeg))))))
def rInv (u : RS) : Prop := 0 ≤ ra_lineLength u ∧ 0 ≤ ra_postCount u ∧ (ra_wanted u = 0 ∨ ra_wanted u = 1)
theorem ri_isProcess {r x : Int32} (h : r = rf_isProcess x) (c : ¬ r = 0) : vp_in x 32 := by
  subst h
  unfold rf_isProcess at c
  by_cases h1 : x < 0
  · rw [if_pos h1] at c
    exact absurd rfl c
  · rw [if_neg h1] at c
    by_cases h2 : 32 ≤ x
    · rw [if_pos h2] at c
      exact absurd rfl c
    · exact k_in2 h1 h2 rfl
theorem ri_isSemaphore {r x : Int32} (h : r = rf_isSemaphore x) (c : ¬ r = 0) : vp_in x 16 := by
  subst h
  unfold rf_isSemaphore at c
  by_cases h1 : x < 0
  · rw [if_pos h1] at c
    exact absurd rfl c
  · rw [if_neg h1] at c
    by_cases h2 : 16 ≤ x
    · rw [if_pos h2] at c
      exact absurd rfl c
    · exact k_in2 h1 h2 rfl
theorem ri_isMade {u : RS} {r x : Int32} (h : r = rf_isMade u x) (c : ¬ r = 0) : vp_in x 32 := by
  subst h
  unfold rf_isMade at c
  by_cases h1 : rf_isProcess x = 0
  · rw [if_pos h1] at c
    exact absurd rfl c
  · exact ri_isProcess rfl h1
theorem ri_loop (p1 : Int32) : ∀ (n : Nat) (u2 : RS) (x2 x3 : Int32), rInv u2 → (∃ i j : Nat, x2 = nI i ∧ x3 = nI j ∧ i ≤ j ∧ j + n = 33) → rInv (rl_leave p1 n u2 x2 x3) := by
  intro n
  induction n with
  | zero => intro u2 x2 x3 h _; exact h
  | succ n ih =>
    intro u2 x2 x3 h ⟨i, j, hi, hj, hij, hjn⟩
    have h2 : rInv (rs_lineLength u2 x2) := ⟨by show (0 : Int32) ≤ x2; rw [hi]; exact k_le0 (by omega), h.2⟩
    simp only [rl_leave]
    split
    · exact h2
    · split
      · exact h2
      · split
        · exact ih _ _ _ h ⟨i, j + 1, hi, by rw [hj, nI_1], by omega, by omega⟩
        · exact ih _ _ _ h ⟨i + 1, j + 1, by rw [hi, nI_1], by rw [hj, nI_1], by omega, by omega⟩
theorem ri_leave {u v : RS} {p1 : Int32} (h : v = rf_leave u p1) (hI : rInv u) : rInv v := by
  subst h
  unfold rf_leave
  split
  · exact hI
  · exact ri_loop _ _ _ _ _ hI ⟨0, 0, nI_0.symm, nI_0.symm, by omega, by omega⟩
theorem ri_enter {u v : RS} {p1 p2 : Int32} (h : v = rf_enter u p1 p2) (hI : rInv u) : rInv v := by
  subst h
  unfold rf_enter
  split
  · exact hI
  · split
    · exact hI
    · rename_i h1 h2
      exact ⟨k_add0 hI.1 h2, hI.2⟩
theorem ri_want {u v : RS} {p1 : Int32} (h : v = rf_want u p1) (hI : rInv u) : rInv v := by
  subst h
  exact ⟨hI.1, hI.2.1, Or.inr rfl⟩
theorem ri_wake {u v : RS} {p1 : Int32} (h : v = rf_wake u p1) (hI : rInv u) : rInv v := by
  subst h
  unfold rf_wake
  split
  · exact ri_want rfl hI
  · split
    · exact ri_want rfl (ri_enter rfl hI)
    · exact ri_enter rfl hI
theorem ri_signal {u v : RS} {p1 : Int32} (h : v = (rf_signal u p1).2) (hI : rInv u) : rInv v := by
  subst h
  have h1 : rInv (rf_wake (rf_leave u (rf_at u (16 + p1) 0)) (rf_at u (16 + p1) 0)) := ri_wake rfl (ri_leave rfl hI)
  generalize hw : rf_wake (rf_leave u (rf_at u (16 + p1) 0)) (rf_at u (16 + p1) 0) = w at h1
  simp only [rf_signal, hw]
  split
  · exact hI
  · split
    · exact hI
    · exact h1
end
section
set_option maxHeartbeats 4000000 in
set_option maxRecDepth 100000 in
theorem rc_isProcess (l : Launch) (p1 : Int32) (T : Int32) (hf : rf_isProcess p1 = T) : Met l yX0_isProcess wsX0_isProcess ({ frames := 0, cells := 0, slots := 0, locals := 0 } : Room) (va_Pc [.int p1] (fun _ => True)) (va_Qi (fun r (_ : Unit) => r = T) (fun _ _ => True) (fun _ => False)) 0 0 (fun _ => False) := by
  refine Met.ofW (cc := cX0_isProcess) (maxL := 1) (ret := (some .boolean)) (by decide) rfl ?_
  intro p e s m args below meth c s₁ B hml hv
  obtain ⟨rfl, -⟩ := hv
  have hx := B.exec
  have hb := B.bytes
  have hr := B.returns
  have hts := atoms_spec (ws := wsX0_isProcess) B.pre
  have hown : s.vm.findClass RX0 = some m.cls := findClass_of_methodNamed B.named
  have hlocks := B.notSynchronized
  have hS : va_S (fun _ => False) s.heap s.heap [] := va_S.rf
  have hl := lv_entry ([.int p1]) (n := 1) (Nat.le_of_ble_eq_true rfl)
  rw [lg_entry_eq]
  generalize (lg_sl ([.int p1]) ++ List.replicate (1 - (lg_sl ([.int p1])).length) Slot.unset).toArray = ls at hl ⊢
  have hl : lv_has ls 1 [(0, .int p1)] := hl
  refine lv_iload_n hx hb dX0_isProcess_0 rfl (lv_at hl 0 rfl) ?_
  refine lv_if_lt (tgt := 14) hx hb dX0_isProcess_1 (by decide) (fun c_1 => ?_) (fun c_1 => ?_)
  · refine lv_iconst (v := 0) hx hb dX0_isProcess_14 (by decide) ?_
    have eT : 0 = T := by rw [← hf]; simp only [rf_isProcess, if_pos c_1]
    exact W.zret (v := 0) hx hb hr (rfl) (fun t ht hW => ⟨⟨0, (), rfl, eT, trivial⟩, hS.F ht⟩) hS.2.2 dX0_isProcess_15
  · refine lv_iload_n hx hb dX0_isProcess_4 rfl (lv_at hl 0 rfl) ?_
    refine lv_bipush (v := 32) hx hb dX0_isProcess_5 (by decide) ?_
    refine lv_icmp_ge (tgt := 14) hx hb dX0_isProcess_7 (by decide) (fun c_2 => ?_) (fun c_2 => ?_)
    · refine lv_iconst (v := 0) hx hb dX0_isProcess_14 (by decide) ?_
      have eT : 0 = T := by rw [← hf]; simp only [rf_isProcess, if_neg c_1, if_pos c_2]
      exact W.zret (v := 0) hx hb hr (rfl) (fun t ht hW => ⟨⟨0, (), rfl, eT, trivial⟩, hS.F ht⟩) hS.2.2 dX0_isProcess_15
    · refine lv_iconst (v := 1) hx hb dX0_isProcess_10 (by decide) ?_
      refine lv_goto (tgt := 15) hx hb dX0_isProcess_11 (by decide) ?_
      have eT : 1 = T := by rw [← hf]; simp only [rf_isProcess, if_neg c_1, if_neg c_2]
      exact W.zret (v := 1) hx hb hr (rfl) (fun t ht hW => ⟨⟨1, (), rfl, eT, trivial⟩, hS.F ht⟩) hS.2.2 dX0_isProcess_15
set_option maxHeartbeats 4000000 in
set_option maxRecDepth 100000 in
theorem rc_isSemaphore (l : Launch) (p1 : Int32) (T : Int32) (hf : rf_isSemaphore p1 = T) : Met l yX0_isSemaphore wsX0_isSemaphore ({ frames := 0, cells := 0, slots := 0, locals := 0 } : Room) (va_Pc [.int p1] (fun _ => True)) (va_Qi (fun r (_ : Unit) => r = T) (fun _ _ => True) (fun _ => False)) 0 0 (fun _ => False) := by
  refine Met.ofW (cc := cX0_isSemaphore) (maxL := 1) (ret := (some .boolean)) (by decide) rfl ?_
  intro p e s m args below meth c s₁ B hml hv
  obtain ⟨rfl, -⟩ := hv
  have hx := B.exec
  have hb := B.bytes
  have hr := B.returns
  have hts := atoms_spec (ws := wsX0_isSemaphore) B.pre
  have hown : s.vm.findClass RX0 = some m.cls := findClass_of_methodNamed B.named
  have hlocks := B.notSynchronized
  have hS : va_S (fun _ => False) s.heap s.heap [] := va_S.rf
  have hl := lv_entry ([.int p1]) (n := 1) (Nat.le_of_ble_eq_true rfl)
  rw [lg_entry_eq]
  generalize (lg_sl ([.int p1]) ++ List.replicate (1 - (lg_sl ([.int p1])).length) Slot.unset).toArray = ls at hl ⊢
  have hl : lv_has ls 1 [(0, .int p1)] := hl
  refine lv_iload_n hx hb dX0_isSemaphore_0 rfl (lv_at hl 0 rfl) ?_
  refine lv_if_lt (tgt := 14) hx hb dX0_isSemaphore_1 (by decide) (fun c_3 => ?_) (fun c_3 => ?_)
  · refine lv_iconst (v := 0) hx hb dX0_isSemaphore_14 (by decide) ?_
    have eT : 0 = T := by rw [← hf]; simp only [rf_isSemaphore, if_pos c_3]
    exact W.zret (v := 0) hx hb hr (rfl) (fun t ht hW => ⟨⟨0, (), rfl, eT, trivial⟩, hS.F ht⟩) hS.2.2 dX0_isSemaphore_15
  · refine lv_iload_n hx hb dX0_isSemaphore_4 rfl (lv_at hl 0 rfl) ?_
    refine lv_bipush (v := 16) hx hb dX0_isSemaphore_5 (by decide) ?_
    refine lv_icmp_ge (tgt := 14) hx hb dX0_isSemaphore_7 (by decide) (fun c_4 => ?_) (fun c_4 => ?_)
    · refine lv_iconst (v := 0) hx hb dX0_isSemaphore_14 (by decide) ?_
      have eT : 0 = T := by rw [← hf]; simp only [rf_isSemaphore, if_neg c_3, if_pos c_4]
      exact W.zret (v := 0) hx hb hr (rfl) (fun t ht hW => ⟨⟨0, (), rfl, eT, trivial⟩, hS.F ht⟩) hS.2.2 dX0_isSemaphore_15
    · refine lv_iconst (v := 1) hx hb dX0_isSemaphore_10 (by decide) ?_
      refine lv_goto (tgt := 15) hx hb dX0_isSemaphore_11 (by decide) ?_
      have eT : 1 = T := by rw [← hf]; simp only [rf_isSemaphore, if_neg c_3, if_neg c_4]
      exact W.zret (v := 1) hx hb hr (rfl) (fun t ht hW => ⟨⟨1, (), rfl, eT, trivial⟩, hS.F ht⟩) hS.2.2 dX0_isSemaphore_15
set_option maxHeartbeats 4000000 in
set_option maxRecDepth 100000 in
theorem rc_isPriority (l : Launch) (p1 : Int32) (T : Int32) (hf : rf_isPriority p1 = T) : Met l yX0_isPriority wsX0_isPriority ({ frames := 0, cells := 0, slots := 0, locals := 0 } : Room) (va_Pc [.int p1] (fun _ => True)) (va_Qi (fun r (_ : Unit) => r = T) (fun _ _ => True) (fun _ => False)) 0 0 (fun _ => False) := by
  refine Met.ofW (cc := cX0_isPriority) (maxL := 1) (ret := (some .boolean)) (by decide) rfl ?_
  intro p e s m args below meth c s₁ B hml hv
  obtain ⟨rfl, -⟩ := hv
  have hx := B.exec
  have hb := B.bytes
  have hr := B.returns
  have hts := atoms_spec (ws := wsX0_isPriority) B.pre
  have hown : s.vm.findClass RX0 = some m.cls := findClass_of_methodNamed B.named
  have hlocks := B.notSynchronized
  have hS : va_S (fun _ => False) s.heap s.heap [] := va_S.rf
  have hl := lv_entry ([.int p1]) (n := 1) (Nat.le_of_ble_eq_true rfl)
  rw [lg_entry_eq]
  generalize (lg_sl ([.int p1]) ++ List.replicate (1 - (lg_sl ([.int p1])).length) Slot.unset).toArray = ls at hl ⊢
  have hl : lv_has ls 1 [(0, .int p1)] := hl
  refine lv_iload_n hx hb dX0_isPriority_0 rfl (lv_at hl 0 rfl) ?_
  refine lv_iconst (v := 1) hx hb dX0_isPriority_1 (by decide) ?_
  refine lv_icmp_lt (tgt := 15) hx hb dX0_isPriority_2 (by decide) (fun c_5 => ?_) (fun c_5 => ?_)
  · refine lv_iconst (v := 0) hx hb dX0_isPriority_15 (by decide) ?_
    have eT : 0 = T := by rw [← hf]; simp only [rf_isPriority, if_pos c_5]
    exact W.zret (v := 0) hx hb hr (rfl) (fun t ht hW => ⟨⟨0, (), rfl, eT, trivial⟩, hS.F ht⟩) hS.2.2 dX0_isPriority_16
  · refine lv_iload_n hx hb dX0_isPriority_5 rfl (lv_at hl 0 rfl) ?_
    refine lv_bipush (v := 8) hx hb dX0_isPriority_6 (by decide) ?_
    refine lv_icmp_gt (tgt := 15) hx hb dX0_isPriority_8 (by decide) (fun c_6 => ?_) (fun c_6 => ?_)
    · refine lv_iconst (v := 0) hx hb dX0_isPriority_15 (by decide) ?_
      have eT : 0 = T := by rw [← hf]; simp only [rf_isPriority, if_neg c_5, if_pos c_6]
      exact W.zret (v := 0) hx hb hr (rfl) (fun t ht hW => ⟨⟨0, (), rfl, eT, trivial⟩, hS.F ht⟩) hS.2.2 dX0_isPriority_16
    · refine lv_iconst (v := 1) hx hb dX0_isPriority_11 (by decide) ?_
      refine lv_goto (tgt := 16) hx hb dX0_isPriority_12 (by decide) ?_
      have eT : 1 = T := by rw [← hf]; simp only [rf_isPriority, if_neg c_5, if_neg c_6]
      exact W.zret (v := 1) hx hb hr (rfl) (fun t ht hW => ⟨⟨1, (), rfl, eT, trivial⟩, hS.F ht⟩) hS.2.2 dX0_isPriority_16
set_option maxHeartbeats 4000000 in
set_option maxRecDepth 100000 in
theorem rc_isMade (l : Launch) (dC : Nat → ClassId) (dI : Nat → Nat → Nat) (ad : Nat → Nat) (cA : Nat → ClassId) (u : RS) (p1 : Int32) (T : Int32) (hf : rf_isMade u p1 = T) : Met l yX0_isMade wsX0_isMade ({ frames := 1, cells := 0, slots := 0, locals := 20 } : Room) (va_Pc [.ref (ad 0), .int p1] (fun U => va_P (dC, dI) vwCl (rW ad cA u) U.heap ∧ va_K (dC, dI) vwCl (rT cA) U)) (va_Qi (fun r (_ : Unit) => r = T) (fun _ _ => True) (fun _ => False)) 0 0 (fun _ => False) := by
  refine Met.ofW (cc := cX0_isMade) (maxL := 2) (ret := (some .boolean)) (by decide) rfl ?_
  intro p e s m args below meth c s₁ B hml hv
  obtain ⟨rfl, hP, hK⟩ := hv
  have hx := B.exec
  have hb := B.bytes
  have hr := B.returns
  have hts := atoms_spec (ws := wsX0_isMade) B.pre
  have hown : s.vm.findClass RX0 = some m.cls := findClass_of_methodNamed B.named
  have hlocks := B.notSynchronized
  have hin0 : ∀ w ∈ wsX00, w ∈ wsX0_isMade := by decide +kernel
  have fl_priorities := hts (.fieldLink RX0 9 "ProcessRoom" "priorities" "[I") (by decide +kernel)
  have hS : va_S (fun _ => False) s.heap s.heap [] := va_S.rf
  have hl := lv_entry ([.ref (ad 0), .int p1]) (n := 2) (Nat.le_of_ble_eq_true rfl)
  rw [lg_entry_eq]
  generalize (lg_sl ([.ref (ad 0), .int p1]) ++ List.replicate (2 - (lg_sl ([.ref (ad 0), .int p1])).length) Slot.unset).toArray = ls at hl ⊢
  have hl : lv_has ls 2 [(0, .ref (ad 0)), (1, .int p1)] := hl
  refine lv_iload_n hx hb dX0_isMade_0 rfl (lv_at hl 1 rfl) ?_
  refine va_calli (va_runS (As := [.int p1]) (rest := []) ⟨hx, hb, hml, hown, hts⟩ (rc_isProcess l p1 _ rfl) (va_cwS 1 hts gX0_isMade_X0_isProcess rfl rfl rfl (by decide +kernel) ⟨Nat.le_of_ble_eq_true rfl, Nat.le_of_ble_eq_true rfl⟩) ⟨fun a U g mk q => ⟨q.1, trivial⟩, fun U hU hW => ⟨rfl, trivial⟩⟩ rfl rfl hl.1 rfl (lv_room (Nat.le_of_ble_eq_true rfl)) dX0_isMade_1 ⟨Nat.le_of_ble_eq_true rfl, Nat.le_of_ble_eq_true rfl⟩) hS (fun _ _ h => h.elim) (fun _ h => h.elim) (fun r_7 u_ t H1 locs ht hvm hr_7 hB hz1 hk1 hS => ?_)
  have hP := hP.kept (fun k x hx => hk1 x.1 ((hP k x hx).lt) (fun h => h))
  generalize H1 = H at hP hS ⊢
  refine lv_if_eq (tgt := 20) hx hb dX0_isMade_4 (by decide) (fun c_8 => ?_) (fun c_8 => ?_)
  · refine lv_iconst (v := 0) hx hb dX0_isMade_20 (by decide) ?_
    have eT : 0 = T := by subst hr_7; rw [← hf]; simp only [rf_isMade, if_pos c_8]
    exact W.zret (v := 0) hx hb hr (rfl) (fun t ht hW => ⟨⟨0, (), rfl, eT, trivial⟩, hS.F ht⟩) hS.2.2 dX0_isMade_21
  · refine lv_aload_n hx hb dX0_isMade_7 rfl (lv_at hl 0 rfl) ?_
    refine va_get (D := (dC, dI)) (ci := 0) (v := .ref (ad 1)) (C := RX0) (T := TX0) (N := 12) (fs := rF ad u) hx hb hts hin0 hown hK hP 0 rfl rfl 0 (by decide) fl_priorities (fun _ h9 => h9) rfl dX0_isMade_8 ?_
    refine lv_iload_n hx hb dX0_isMade_11 rfl (lv_at hl 1 rfl) ?_
    refine va_iald hx hb hK hP 1 0 rfl rfl (ri_isProcess hr_7 c_8) dX0_isMade_12 ?_
    refine lv_if_eq (tgt := 20) hx hb dX0_isMade_13 (by decide) (fun c_9 => ?_) (fun c_9 => ?_)
    · refine lv_iconst (v := 0) hx hb dX0_isMade_20 (by decide) ?_
      have eT : 0 = T := by subst hr_7; rw [← hf]; simp only [rf_isMade, if_neg c_8, if_pos c_9]
      exact W.zret (v := 0) hx hb hr (rfl) (fun t ht hW => ⟨⟨0, (), rfl, eT, trivial⟩, hS.F ht⟩) hS.2.2 dX0_isMade_21
    · refine lv_iconst (v := 1) hx hb dX0_isMade_16 (by decide) ?_
      refine lv_goto (tgt := 21) hx hb dX0_isMade_17 (by decide) ?_
      have eT : 1 = T := by subst hr_7; rw [← hf]; simp only [rf_isMade, if_neg c_8, if_neg c_9]
      exact W.zret (v := 1) hx hb hr (rfl) (fun t ht hW => ⟨⟨1, (), rfl, eT, trivial⟩, hS.F ht⟩) hS.2.2 dX0_isMade_21
set_option maxHeartbeats 4000000 in
set_option maxRecDepth 100000 in
theorem rc_present (l : Launch) (dC : Nat → ClassId) (dI : Nat → Nat → Nat) (ad : Nat → Nat) (cA : Nat → ClassId) (u : RS)  (T : Int32) (hf : rf_present u = T) : Met l yX0_present wsX0_present ({ frames := 0, cells := 0, slots := 0, locals := 0 } : Room) (va_Pc [.ref (ad 0)] (fun U => va_P (dC, dI) vwCl (rW ad cA u) U.heap ∧ va_K (dC, dI) vwCl (rT cA) U)) (va_Qi (fun r (_ : Unit) => r = T) (fun _ _ => True) (fun _ => False)) 0 0 (fun _ => False) := by
  refine Met.ofW (cc := cX0_present) (maxL := 1) (ret := (some .int)) (by decide) rfl ?_
  intro p e s m args below meth c s₁ B hml hv
  obtain ⟨rfl, hP, hK⟩ := hv
  have hx := B.exec
  have hb := B.bytes
  have hr := B.returns
  have hts := atoms_spec (ws := wsX0_present) B.pre
  have hown : s.vm.findClass RX0 = some m.cls := findClass_of_methodNamed B.named
  have hlocks := B.notSynchronized
  have hin0 : ∀ w ∈ wsX00, w ∈ wsX0_present := by decide +kernel
  have fl_wanted := hts (.fieldLink RX0 41 "ProcessRoom" "wanted" "Z") (by decide +kernel)
  have fl_wantedOne := hts (.fieldLink RX0 45 "ProcessRoom" "wantedOne" "I") (by decide +kernel)
  have fl_active := hts (.fieldLink RX0 35 "ProcessRoom" "active" "I") (by decide +kernel)
  have hS : va_S (fun _ => False) s.heap s.heap [] := va_S.rf
  have hl := lv_entry ([.ref (ad 0)]) (n := 1) (Nat.le_of_ble_eq_true rfl)
  rw [lg_entry_eq]
  generalize (lg_sl ([.ref (ad 0)]) ++ List.replicate (1 - (lg_sl ([.ref (ad 0)])).length) Slot.unset).toArray = ls at hl ⊢
  have hl : lv_has ls 1 [(0, .ref (ad 0))] := hl
  refine lv_aload_n hx hb dX0_present_0 rfl (lv_at hl 0 rfl) ?_
  refine va_get (D := (dC, dI)) (ci := 0) (v := .int (ra_wanted u)) (C := RX0) (T := TX0) (N := 12) (fs := rF ad u) hx hb hts hin0 hown hK hP 0 rfl rfl 10 (by decide) fl_wanted (fun _ h9 => h9) rfl dX0_present_1 ?_
  refine lv_if_eq (tgt := 14) hx hb dX0_present_4 (by decide) (fun c_10 => ?_) (fun c_10 => ?_)
  · refine lv_aload_n hx hb dX0_present_14 rfl (lv_at hl 0 rfl) ?_
    refine va_get (D := (dC, dI)) (ci := 0) (v := .int (ra_active u)) (C := RX0) (T := TX0) (N := 12) (fs := rF ad u) hx hb hts hin0 hown hK hP 0 rfl rfl 8 (by decide) fl_active (fun _ h9 => h9) rfl dX0_present_15 ?_
    have eT : ra_active u = T := by rw [← hf]; simp only [rf_present, if_pos c_10]
    exact W.iret (v := ra_active u) hx hb hr (fun t ht hW => ⟨⟨ra_active u, (), rfl, eT, trivial⟩, hS.F ht⟩) hS.2.2 dX0_present_18
  · refine lv_aload_n hx hb dX0_present_7 rfl (lv_at hl 0 rfl) ?_
    refine va_get (D := (dC, dI)) (ci := 0) (v := .int (ra_wantedOne u)) (C := RX0) (T := TX0) (N := 12) (fs := rF ad u) hx hb hts hin0 hown hK hP 0 rfl rfl 11 (by decide) fl_wantedOne (fun _ h9 => h9) rfl dX0_present_8 ?_
    refine lv_goto (tgt := 18) hx hb dX0_present_11 (by decide) ?_
    have eT : ra_wantedOne u = T := by rw [← hf]; simp only [rf_present, if_neg c_10]
    exact W.iret (v := ra_wantedOne u) hx hb hr (fun t ht hW => ⟨⟨ra_wantedOne u, (), rfl, eT, trivial⟩, hS.F ht⟩) hS.2.2 dX0_present_18
set_option maxHeartbeats 4000000 in
set_option maxRecDepth 100000 in
theorem rc_active (l : Launch) (dC : Nat → ClassId) (dI : Nat → Nat → Nat) (ad : Nat → Nat) (cA : Nat → ClassId) (u : RS)  (T : Int32) (hf : rf_active u = T) : Met l yX0_active wsX0_active ({ frames := 0, cells := 0, slots := 0, locals := 0 } : Room) (va_Pc [.ref (ad 0)] (fun U => va_P (dC, dI) vwCl (rW ad cA u) U.heap ∧ va_K (dC, dI) vwCl (rT cA) U)) (va_Qi (fun r (_ : Unit) => r = T) (fun _ _ => True) (fun _ => False)) 0 0 (fun _ => False) := by
  refine Met.ofW (cc := cX0_active) (maxL := 1) (ret := (some .int)) (by decide) rfl ?_
  intro p e s m args below meth c s₁ B hml hv
  obtain ⟨rfl, hP, hK⟩ := hv
  have hx := B.exec
  have hb := B.bytes
  have hr := B.returns
  have hts := atoms_spec (ws := wsX0_active) B.pre
  have hown : s.vm.findClass RX0 = some m.cls := findClass_of_methodNamed B.named
  have hlocks := B.notSynchronized
  have hin0 : ∀ w ∈ wsX00, w ∈ wsX0_active := by decide +kernel
  have fl_active := hts (.fieldLink RX0 35 "ProcessRoom" "active" "I") (by decide +kernel)
  have hS : va_S (fun _ => False) s.heap s.heap [] := va_S.rf
  have hl := lv_entry ([.ref (ad 0)]) (n := 1) (Nat.le_of_ble_eq_true rfl)
  rw [lg_entry_eq]
  generalize (lg_sl ([.ref (ad 0)]) ++ List.replicate (1 - (lg_sl ([.ref (ad 0)])).length) Slot.unset).toArray = ls at hl ⊢
  have hl : lv_has ls 1 [(0, .ref (ad 0))] := hl
  refine lv_aload_n hx hb dX0_active_0 rfl (lv_at hl 0 rfl) ?_
  refine va_get (D := (dC, dI)) (ci := 0) (v := .int (ra_active u)) (C := RX0) (T := TX0) (N := 12) (fs := rF ad u) hx hb hts hin0 hown hK hP 0 rfl rfl 8 (by decide) fl_active (fun _ h9 => h9) rfl dX0_active_1 ?_
  have eT : ra_active u = T := by rw [← hf]; simp only [rf_active]
  exact W.iret (v := ra_active u) hx hb hr (fun t ht hW => ⟨⟨ra_active u, (), rfl, eT, trivial⟩, hS.F ht⟩) hS.2.2 dX0_active_4
set_option maxHeartbeats 4000000 in
set_option maxRecDepth 100000 in
theorem rc_wanted (l : Launch) (dC : Nat → ClassId) (dI : Nat → Nat → Nat) (ad : Nat → Nat) (cA : Nat → ClassId) (u : RS)  (hI : rInv u) (T : Int32) (hf : rf_wanted u = T) : Met l yX0_wanted wsX0_wanted ({ frames := 0, cells := 0, slots := 0, locals := 0 } : Room) (va_Pc [.ref (ad 0)] (fun U => va_P (dC, dI) vwCl (rW ad cA u) U.heap ∧ va_K (dC, dI) vwCl (rT cA) U)) (va_Qi (fun r (_ : Unit) => r = T) (fun _ _ => True) (fun _ => False)) 0 0 (fun _ => False) := by
  refine Met.ofW (cc := cX0_wanted) (maxL := 1) (ret := (some .boolean)) (by decide) rfl ?_
  intro p e s m args below meth c s₁ B hml hv
  obtain ⟨rfl, hP, hK⟩ := hv
  have hx := B.exec
  have hb := B.bytes
  have hr := B.returns
  have hts := atoms_spec (ws := wsX0_wanted) B.pre
  have hown : s.vm.findClass RX0 = some m.cls := findClass_of_methodNamed B.named
  have hlocks := B.notSynchronized
  have hin0 : ∀ w ∈ wsX00, w ∈ wsX0_wanted := by decide +kernel
  have fl_wanted := hts (.fieldLink RX0 41 "ProcessRoom" "wanted" "Z") (by decide +kernel)
  have hS : va_S (fun _ => False) s.heap s.heap [] := va_S.rf
  have hl := lv_entry ([.ref (ad 0)]) (n := 1) (Nat.le_of_ble_eq_true rfl)
  rw [lg_entry_eq]
  generalize (lg_sl ([.ref (ad 0)]) ++ List.replicate (1 - (lg_sl ([.ref (ad 0)])).length) Slot.unset).toArray = ls at hl ⊢
  have hl : lv_has ls 1 [(0, .ref (ad 0))] := hl
  refine lv_aload_n hx hb dX0_wanted_0 rfl (lv_at hl 0 rfl) ?_
  refine va_get (D := (dC, dI)) (ci := 0) (v := .int (ra_wanted u)) (C := RX0) (T := TX0) (N := 12) (fs := rF ad u) hx hb hts hin0 hown hK hP 0 rfl rfl 10 (by decide) fl_wanted (fun _ h9 => h9) rfl dX0_wanted_1 ?_
  have eT : ra_wanted u = T := by rw [← hf]; simp only [rf_wanted]
  exact W.zret (v := ra_wanted u) hx hb hr (k_nar hI.2.2) (fun t ht hW => ⟨⟨ra_wanted u, (), rfl, eT, trivial⟩, hS.F ht⟩) hS.2.2 dX0_wanted_4
set_option maxHeartbeats 4000000 in
set_option maxRecDepth 100000 in
theorem rc_here (l : Launch) (dC : Nat → ClassId) (dI : Nat → Nat → Nat) (ad : Nat → Nat) (cA : Nat → ClassId) (u : RS)  (T : Int32) (hf : rf_here u = T) : Met l yX0_here wsX0_here ({ frames := 0, cells := 0, slots := 0, locals := 0 } : Room) (va_Pc [.ref (ad 0)] (fun U => va_P (dC, dI) vwCl (rW ad cA u) U.heap ∧ va_K (dC, dI) vwCl (rT cA) U)) (va_Qi (fun r (_ : Unit) => r = T) (fun _ _ => True) (fun _ => False)) 0 0 (fun _ => False) := by
  refine Met.ofW (cc := cX0_here) (maxL := 1) (ret := (some .int)) (by decide) rfl ?_
  intro p e s m args below meth c s₁ B hml hv
  obtain ⟨rfl, hP, hK⟩ := hv
  have hx := B.exec
  have hb := B.bytes
  have hr := B.returns
  have hts := atoms_spec (ws := wsX0_here) B.pre
  have hown : s.vm.findClass RX0 = some m.cls := findClass_of_methodNamed B.named
  have hlocks := B.notSynchronized
  have hin0 : ∀ w ∈ wsX00, w ∈ wsX0_here := by decide +kernel
  have fl_here := hts (.fieldLink RX0 38 "ProcessRoom" "here" "I") (by decide +kernel)
  have hS : va_S (fun _ => False) s.heap s.heap [] := va_S.rf
  have hl := lv_entry ([.ref (ad 0)]) (n := 1) (Nat.le_of_ble_eq_true rfl)
  rw [lg_entry_eq]
  generalize (lg_sl ([.ref (ad 0)]) ++ List.replicate (1 - (lg_sl ([.ref (ad 0)])).length) Slot.unset).toArray = ls at hl ⊢
  have hl : lv_has ls 1 [(0, .ref (ad 0))] := hl
  refine lv_aload_n hx hb dX0_here_0 rfl (lv_at hl 0 rfl) ?_
  refine va_get (D := (dC, dI)) (ci := 0) (v := .int (ra_here u)) (C := RX0) (T := TX0) (N := 12) (fs := rF ad u) hx hb hts hin0 hown hK hP 0 rfl rfl 9 (by decide) fl_here (fun _ h9 => h9) rfl dX0_here_1 ?_
  have eT : ra_here u = T := by rw [← hf]; simp only [rf_here]
  exact W.iret (v := ra_here u) hx hb hr (fun t ht hW => ⟨⟨ra_here u, (), rfl, eT, trivial⟩, hS.F ht⟩) hS.2.2 dX0_here_4
set_option maxHeartbeats 4000000 in
set_option maxRecDepth 100000 in
theorem rc_place (l : Launch) (dC : Nat → ClassId) (dI : Nat → Nat → Nat) (ad : Nat → Nat) (cA : Nat → ClassId) (u : RS) (p1 : Int32) (T : Int32) (hf : rf_place u p1 = T) : Met l yX0_place wsX0_place ({ frames := 2, cells := 0, slots := 0, locals := 41 } : Room) (va_Pc [.ref (ad 0), .int p1] (fun U => va_P (dC, dI) vwCl (rW ad cA u) U.heap ∧ va_K (dC, dI) vwCl (rT cA) U)) (va_Qi (fun r (_ : Unit) => r = T) (fun _ _ => True) (fun _ => False)) 0 0 (fun _ => False) := by
  refine Met.ofW (cc := cX0_place) (maxL := 2) (ret := (some .int)) (by decide) rfl ?_
  intro p e s m args below meth c s₁ B hml hv
  obtain ⟨rfl, hP, hK⟩ := hv
  have hx := B.exec
  have hb := B.bytes
  have hr := B.returns
  have hts := atoms_spec (ws := wsX0_place) B.pre
  have hown : s.vm.findClass RX0 = some m.cls := findClass_of_methodNamed B.named
  have hlocks := B.notSynchronized
  have hin0 : ∀ w ∈ wsX00, w ∈ wsX0_place := by decide +kernel
  have fl_places := hts (.fieldLink RX0 13 "ProcessRoom" "places" "[I") (by decide +kernel)
  have hS : va_S (fun _ => False) s.heap s.heap [] := va_S.rf
  have hl := lv_entry ([.ref (ad 0), .int p1]) (n := 2) (Nat.le_of_ble_eq_true rfl)
  rw [lg_entry_eq]
  generalize (lg_sl ([.ref (ad 0), .int p1]) ++ List.replicate (2 - (lg_sl ([.ref (ad 0), .int p1])).length) Slot.unset).toArray = ls at hl ⊢
  have hl : lv_has ls 2 [(0, .ref (ad 0)), (1, .int p1)] := hl
  refine lv_aload_n hx hb dX0_place_0 rfl (lv_at hl 0 rfl) ?_
  refine lv_iload_n hx hb dX0_place_1 rfl (lv_at hl 1 rfl) ?_
  refine va_calli (va_runV (As := [.int p1]) (rest := []) ⟨hx, hb, hml, hown, hts⟩ (rc_isMade l dC dI ad cA u p1 _ rfl) (cwV 1 hts gX0_place_X0_isMade rfl rfl rfl (by decide +kernel) ⟨Nat.le_of_ble_eq_true rfl, Nat.le_of_ble_eq_true rfl⟩) ⟨fun a U g mk q => by obtain ⟨q0, qP, qK⟩ := q; exact ⟨q0, qP, va_K.moved (u := U) (U := U.calling g mk a) (Vm.Alike.refl U.vm) qK⟩, va_recv hK hP (ci := 0) (q0 := 0) rfl rfl, fun U hU hW => ⟨rfl, by rw [hU]; exact hP, va_K.moved hW.alike hK⟩⟩ rfl rfl hl.1 rfl (lv_room (Nat.le_of_ble_eq_true rfl)) dX0_place_2 ⟨Nat.le_of_ble_eq_true rfl, Nat.le_of_ble_eq_true rfl⟩) hS (fun _ _ h => h.elim) (fun _ h => h.elim) (fun r_11 u_ t H1 locs ht hvm hr_11 hB hz1 hk1 hS => ?_)
  have hP := hP.kept (fun k x hx => hk1 x.1 ((hP k x hx).lt) (fun h => h))
  generalize H1 = H at hP hS ⊢
  refine lv_if_eq (tgt := 17) hx hb dX0_place_5 (by decide) (fun c_12 => ?_) (fun c_12 => ?_)
  · refine lv_iconst (v := 0) hx hb dX0_place_17 (by decide) ?_
    have eT : 0 = T := by subst hr_11; rw [← hf]; simp only [rf_place, if_pos c_12]
    exact W.iret (v := 0) hx hb hr (fun t ht hW => ⟨⟨0, (), rfl, eT, trivial⟩, hS.F ht⟩) hS.2.2 dX0_place_18
  · refine lv_aload_n hx hb dX0_place_8 rfl (lv_at hl 0 rfl) ?_
    refine va_get (D := (dC, dI)) (ci := 0) (v := .ref (ad 2)) (C := RX0) (T := TX0) (N := 12) (fs := rF ad u) hx hb hts hin0 hown hK hP 0 rfl rfl 1 (by decide) fl_places (fun _ h9 => h9) rfl dX0_place_9 ?_
    refine lv_iload_n hx hb dX0_place_12 rfl (lv_at hl 1 rfl) ?_
    refine va_iald hx hb hK hP 2 1 rfl rfl (ri_isMade hr_11 c_12) dX0_place_13 ?_
    refine lv_goto (tgt := 18) hx hb dX0_place_14 (by decide) ?_
    have eT : ra_places u p1.toNatClampNeg = T := by subst hr_11; rw [← hf]; simp only [rf_place, if_neg c_12]
    exact W.iret (v := ra_places u p1.toNatClampNeg) hx hb hr (fun t ht hW => ⟨⟨ra_places u p1.toNatClampNeg, (), rfl, eT, trivial⟩, hS.F ht⟩) hS.2.2 dX0_place_18
set_option maxHeartbeats 4000000 in
set_option maxRecDepth 100000 in
theorem rc_priority (l : Launch) (dC : Nat → ClassId) (dI : Nat → Nat → Nat) (ad : Nat → Nat) (cA : Nat → ClassId) (u : RS) (p1 : Int32) (T : Int32) (hf : rf_priority u p1 = T) : Met l yX0_priority wsX0_priority ({ frames := 2, cells := 0, slots := 0, locals := 41 } : Room) (va_Pc [.ref (ad 0), .int p1] (fun U => va_P (dC, dI) vwCl (rW ad cA u) U.heap ∧ va_K (dC, dI) vwCl (rT cA) U)) (va_Qi (fun r (_ : Unit) => r = T) (fun _ _ => True) (fun _ => False)) 0 0 (fun _ => False) := by
  refine Met.ofW (cc := cX0_priority) (maxL := 2) (ret := (some .int)) (by decide) rfl ?_
  intro p e s m args below meth c s₁ B hml hv
  obtain ⟨rfl, hP, hK⟩ := hv
  have hx := B.exec
  have hb := B.bytes
  have hr := B.returns
  have hts := atoms_spec (ws := wsX0_priority) B.pre
  have hown : s.vm.findClass RX0 = some m.cls := findClass_of_methodNamed B.named
  have hlocks := B.notSynchronized
  have hin0 : ∀ w ∈ wsX00, w ∈ wsX0_priority := by decide +kernel
  have fl_priorities := hts (.fieldLink RX0 9 "ProcessRoom" "priorities" "[I") (by decide +kernel)
  have hS : va_S (fun _ => False) s.heap s.heap [] := va_S.rf
  have hl := lv_entry ([.ref (ad 0), .int p1]) (n := 2) (Nat.le_of_ble_eq_true rfl)
  rw [lg_entry_eq]
  generalize (lg_sl ([.ref (ad 0), .int p1]) ++ List.replicate (2 - (lg_sl ([.ref (ad 0), .int p1])).length) Slot.unset).toArray = ls at hl ⊢
  have hl : lv_has ls 2 [(0, .ref (ad 0)), (1, .int p1)] := hl
  refine lv_aload_n hx hb dX0_priority_0 rfl (lv_at hl 0 rfl) ?_
  refine lv_iload_n hx hb dX0_priority_1 rfl (lv_at hl 1 rfl) ?_
  refine va_calli (va_runV (As := [.int p1]) (rest := []) ⟨hx, hb, hml, hown, hts⟩ (rc_isMade l dC dI ad cA u p1 _ rfl) (cwV 1 hts gX0_priority_X0_isMade rfl rfl rfl (by decide +kernel) ⟨Nat.le_of_ble_eq_true rfl, Nat.le_of_ble_eq_true rfl⟩) ⟨fun a U g mk q => by obtain ⟨q0, qP, qK⟩ := q; exact ⟨q0, qP, va_K.moved (u := U) (U := U.calling g mk a) (Vm.Alike.refl U.vm) qK⟩, va_recv hK hP (ci := 0) (q0 := 0) rfl rfl, fun U hU hW => ⟨rfl, by rw [hU]; exact hP, va_K.moved hW.alike hK⟩⟩ rfl rfl hl.1 rfl (lv_room (Nat.le_of_ble_eq_true rfl)) dX0_priority_2 ⟨Nat.le_of_ble_eq_true rfl, Nat.le_of_ble_eq_true rfl⟩) hS (fun _ _ h => h.elim) (fun _ h => h.elim) (fun r_13 u_ t H1 locs ht hvm hr_13 hB hz1 hk1 hS => ?_)
  have hP := hP.kept (fun k x hx => hk1 x.1 ((hP k x hx).lt) (fun h => h))
  generalize H1 = H at hP hS ⊢
  refine lv_if_eq (tgt := 17) hx hb dX0_priority_5 (by decide) (fun c_14 => ?_) (fun c_14 => ?_)
  · refine lv_iconst (v := (-1)) hx hb dX0_priority_17 (by decide) ?_
    have eT : (-1) = T := by subst hr_13; rw [← hf]; simp only [rf_priority, if_pos c_14]
    exact W.iret (v := (-1)) hx hb hr (fun t ht hW => ⟨⟨(-1), (), rfl, eT, trivial⟩, hS.F ht⟩) hS.2.2 dX0_priority_18
  · refine lv_aload_n hx hb dX0_priority_8 rfl (lv_at hl 0 rfl) ?_
    refine va_get (D := (dC, dI)) (ci := 0) (v := .ref (ad 1)) (C := RX0) (T := TX0) (N := 12) (fs := rF ad u) hx hb hts hin0 hown hK hP 0 rfl rfl 0 (by decide) fl_priorities (fun _ h9 => h9) rfl dX0_priority_9 ?_
    refine lv_iload_n hx hb dX0_priority_12 rfl (lv_at hl 1 rfl) ?_
    refine va_iald hx hb hK hP 1 0 rfl rfl (ri_isMade hr_13 c_14) dX0_priority_13 ?_
    refine lv_goto (tgt := 18) hx hb dX0_priority_14 (by decide) ?_
    have eT : ra_priorities u p1.toNatClampNeg = T := by subst hr_13; rw [← hf]; simp only [rf_priority, if_neg c_14]
    exact W.iret (v := ra_priorities u p1.toNatClampNeg) hx hb hr (fun t ht hW => ⟨⟨ra_priorities u p1.toNatClampNeg, (), rfl, eT, trivial⟩, hS.F ht⟩) hS.2.2 dX0_priority_18
set_option maxHeartbeats 4000000 in
set_option maxRecDepth 100000 in
theorem rc_row (l : Launch) (dC : Nat → ClassId) (dI : Nat → Nat → Nat) (ad : Nat → Nat) (cA : Nat → ClassId) (u : RS) (p1 : Int32) (T : Int32) (hf : rf_row u p1 = T) : Met l yX0_row wsX0_row ({ frames := 2, cells := 0, slots := 0, locals := 41 } : Room) (va_Pc [.ref (ad 0), .int p1] (fun U => va_P (dC, dI) vwCl (rW ad cA u) U.heap ∧ va_K (dC, dI) vwCl (rT cA) U)) (va_Qi (fun r (_ : Unit) => r = T) (fun _ _ => True) (fun _ => False)) 0 0 (fun _ => False) := by
  refine Met.ofW (cc := cX0_row) (maxL := 2) (ret := (some .int)) (by decide) rfl ?_
  intro p e s m args below meth c s₁ B hml hv
  obtain ⟨rfl, hP, hK⟩ := hv
  have hx := B.exec
  have hb := B.bytes
  have hr := B.returns
  have hts := atoms_spec (ws := wsX0_row) B.pre
  have hown : s.vm.findClass RX0 = some m.cls := findClass_of_methodNamed B.named
  have hlocks := B.notSynchronized
  have hin0 : ∀ w ∈ wsX00, w ∈ wsX0_row := by decide +kernel
  have fl_rows := hts (.fieldLink RX0 16 "ProcessRoom" "rows" "[I") (by decide +kernel)
  have hS : va_S (fun _ => False) s.heap s.heap [] := va_S.rf
  have hl := lv_entry ([.ref (ad 0), .int p1]) (n := 2) (Nat.le_of_ble_eq_true rfl)
  rw [lg_entry_eq]
  generalize (lg_sl ([.ref (ad 0), .int p1]) ++ List.replicate (2 - (lg_sl ([.ref (ad 0), .int p1])).length) Slot.unset).toArray = ls at hl ⊢
  have hl : lv_has ls 2 [(0, .ref (ad 0)), (1, .int p1)] := hl
  refine lv_aload_n hx hb dX0_row_0 rfl (lv_at hl 0 rfl) ?_
  refine lv_iload_n hx hb dX0_row_1 rfl (lv_at hl 1 rfl) ?_
  refine va_calli (va_runV (As := [.int p1]) (rest := []) ⟨hx, hb, hml, hown, hts⟩ (rc_isMade l dC dI ad cA u p1 _ rfl) (cwV 1 hts gX0_row_X0_isMade rfl rfl rfl (by decide +kernel) ⟨Nat.le_of_ble_eq_true rfl, Nat.le_of_ble_eq_true rfl⟩) ⟨fun a U g mk q => by obtain ⟨q0, qP, qK⟩ := q; exact ⟨q0, qP, va_K.moved (u := U) (U := U.calling g mk a) (Vm.Alike.refl U.vm) qK⟩, va_recv hK hP (ci := 0) (q0 := 0) rfl rfl, fun U hU hW => ⟨rfl, by rw [hU]; exact hP, va_K.moved hW.alike hK⟩⟩ rfl rfl hl.1 rfl (lv_room (Nat.le_of_ble_eq_true rfl)) dX0_row_2 ⟨Nat.le_of_ble_eq_true rfl, Nat.le_of_ble_eq_true rfl⟩) hS (fun _ _ h => h.elim) (fun _ h => h.elim) (fun r_15 u_ t H1 locs ht hvm hr_15 hB hz1 hk1 hS => ?_)
  have hP := hP.kept (fun k x hx => hk1 x.1 ((hP k x hx).lt) (fun h => h))
  generalize H1 = H at hP hS ⊢
  refine lv_if_eq (tgt := 17) hx hb dX0_row_5 (by decide) (fun c_16 => ?_) (fun c_16 => ?_)
  · refine lv_iconst (v := (-1)) hx hb dX0_row_17 (by decide) ?_
    have eT : (-1) = T := by subst hr_15; rw [← hf]; simp only [rf_row, if_pos c_16]
    exact W.iret (v := (-1)) hx hb hr (fun t ht hW => ⟨⟨(-1), (), rfl, eT, trivial⟩, hS.F ht⟩) hS.2.2 dX0_row_18
  · refine lv_aload_n hx hb dX0_row_8 rfl (lv_at hl 0 rfl) ?_
    refine va_get (D := (dC, dI)) (ci := 0) (v := .ref (ad 3)) (C := RX0) (T := TX0) (N := 12) (fs := rF ad u) hx hb hts hin0 hown hK hP 0 rfl rfl 2 (by decide) fl_rows (fun _ h9 => h9) rfl dX0_row_9 ?_
    refine lv_iload_n hx hb dX0_row_12 rfl (lv_at hl 1 rfl) ?_
    refine va_iald hx hb hK hP 3 2 rfl rfl (ri_isMade hr_15 c_16) dX0_row_13 ?_
    refine lv_goto (tgt := 18) hx hb dX0_row_14 (by decide) ?_
    have eT : ra_rows u p1.toNatClampNeg = T := by subst hr_15; rw [← hf]; simp only [rf_row, if_neg c_16]
    exact W.iret (v := ra_rows u p1.toNatClampNeg) hx hb hr (fun t ht hW => ⟨⟨ra_rows u p1.toNatClampNeg, (), rfl, eT, trivial⟩, hS.F ht⟩) hS.2.2 dX0_row_18
set_option maxHeartbeats 4000000 in
set_option maxRecDepth 100000 in
theorem rc_at (l : Launch) (dC : Nat → ClassId) (dI : Nat → Nat → Nat) (ad : Nat → Nat) (cA : Nat → ClassId) (u : RS) (p1 : Int32) (p2 : Int32) (T : Int32) (hf : rf_at u p1 p2 = T) : Met l yX0_at wsX0_at ({ frames := 1, cells := 0, slots := 0, locals := 20 } : Room) (va_Pc [.ref (ad 0), .int p1, .int p2] (fun U => va_P (dC, dI) vwCl (rW ad cA u) U.heap ∧ va_K (dC, dI) vwCl (rT cA) U)) (va_Qi (fun r (_ : Unit) => r = T) (fun _ _ => True) (fun _ => False)) 0 0 (fun _ => False) := by
  refine Met.ofW (cc := cX0_at) (maxL := 6) (ret := (some .int)) (by decide) rfl ?_
  intro p e s m args below meth c s₁ B hml hv
  obtain ⟨rfl, hP, hK⟩ := hv
  have hx := B.exec
  have hb := B.bytes
  have hr := B.returns
  have hts := atoms_spec (ws := wsX0_at) B.pre
  have hown : s.vm.findClass RX0 = some m.cls := findClass_of_methodNamed B.named
  have hlocks := B.notSynchronized
  have hin0 : ∀ w ∈ wsX00, w ∈ wsX0_at := by decide +kernel
  have fl_lineLength := hts (.fieldLink RX0 22 "ProcessRoom" "lineLength" "I") (by decide +kernel)
  have fl_line := hts (.fieldLink RX0 19 "ProcessRoom" "line" "[I") (by decide +kernel)
  have fl_rows := hts (.fieldLink RX0 16 "ProcessRoom" "rows" "[I") (by decide +kernel)
  have hS : va_S (fun _ => False) s.heap s.heap [] := va_S.rf
  have hl := lv_entry ([.ref (ad 0), .int p1, .int p2]) (n := 6) (Nat.le_of_ble_eq_true rfl)
  rw [lg_entry_eq]
  generalize (lg_sl ([.ref (ad 0), .int p1, .int p2]) ++ List.replicate (6 - (lg_sl ([.ref (ad 0), .int p1, .int p2])).length) Slot.unset).toArray = ls at hl ⊢
  have hl : lv_has ls 6 [(0, .ref (ad 0)), (1, .int p1), (2, .int p2)] := hl
  refine lv_iconst (v := 0) hx hb dX0_at_0 (by decide) ?_
  refine lv_istore_n (lv' := [(3, .int 0), (0, .ref (ad 0)), (1, .int p1), (2, .int p2)]) hx hb dX0_at_1 rfl hl (by decide) rfl (fun ls hl => ?_)
  refine lv_iconst (v := 0) hx hb dX0_at_2 (by decide) ?_
  refine lv_istore (lv' := [(4, .int 0), (3, .int 0), (0, .ref (ad 0)), (1, .int p1), (2, .int p2)]) hx hb dX0_at_3 hl (by decide) rfl (fun ls hl => ?_)
  refine k_nameQ (fun Q hQ => ?_)
  have key : ∀ (n : Nat) (x3 : Int32) (x4 : Int32) (H : Heap) (locs : List Loc) (ls : Array Slot), (∃ j : Nat, x4 = nI j ∧ j + n = 33 ∧ j ≤ 32) → rl_at u p1 p2 n x3 x4 = T → va_P (dC, dI) vwCl (rW ad cA u) H → va_S (fun _ => False) s.heap H locs → lv_has ls 6 [(0, .ref (ad 0)), (1, .int p1), (2, .int p2), (3, .int x3), (4, .int x4)] → W p l e (headSpec wsX0_at ({ frames := 1, cells := 0, slots := 0, locals := 20 } : Room)).room s m ([.ref (ad 0), .int p1, .int p2] : List Value).toArray below meth c H locs 0 0 Q (F0 m 5 ls []) := by
    intro n
    induction n with
    | zero =>
      intro x3 x4 H locs ls hinv
      exact absurd hinv (by rintro ⟨j, -, h1, h2⟩; omega)
    | succ n ih =>
      intro x3 x4 H locs ls hinv hf2 hP hS hl
      obtain ⟨j, hj, hjn, hjl⟩ := hinv
      refine lv_iload hx hb dX0_at_5 (lv_at hl 4 rfl) ?_
      refine lv_aload_n hx hb dX0_at_7 rfl (lv_at hl 0 rfl) ?_
      refine va_get (D := (dC, dI)) (ci := 0) (v := .int (ra_lineLength u)) (C := RX0) (T := TX0) (N := 12) (fs := rF ad u) hx hb hts hin0 hown hK hP 0 rfl rfl 4 (by decide) fl_lineLength (fun _ h9 => h9) rfl dX0_at_8 ?_
      refine lv_icmp_ge (tgt := 66) hx hb dX0_at_11 (by decide) (fun c_17 => ?_) (fun c_17 => ?_)
      · refine lv_iconst (v := (-1)) hx hb dX0_at_66 (by decide) ?_
        subst hQ
        have eT : (-1) = T := by rw [← hf2]; simp only [rl_at, if_pos c_17]
        exact W.iret (v := (-1)) hx hb hr (fun t ht hW => ⟨⟨(-1), (), rfl, eT, trivial⟩, hS.F ht⟩) hS.2.2 dX0_at_67
      · refine lv_iload hx hb dX0_at_14 (lv_at hl 4 rfl) ?_
        refine lv_bipush (v := 32) hx hb dX0_at_16 (by decide) ?_
        refine lv_icmp_ge (tgt := 66) hx hb dX0_at_18 (by decide) (fun c_18 => ?_) (fun c_18 => ?_)
        · refine lv_iconst (v := (-1)) hx hb dX0_at_66 (by decide) ?_
          subst hQ
          have eT : (-1) = T := by rw [← hf2]; simp only [rl_at, if_neg c_17, if_pos c_18]
          exact W.iret (v := (-1)) hx hb hr (fun t ht hW => ⟨⟨(-1), (), rfl, eT, trivial⟩, hS.F ht⟩) hS.2.2 dX0_at_67
        · refine lv_aload_n hx hb dX0_at_21 rfl (lv_at hl 0 rfl) ?_
          refine va_get (D := (dC, dI)) (ci := 0) (v := .ref (ad 4)) (C := RX0) (T := TX0) (N := 12) (fs := rF ad u) hx hb hts hin0 hown hK hP 0 rfl rfl 3 (by decide) fl_line (fun _ h9 => h9) rfl dX0_at_22 ?_
          refine lv_iload hx hb dX0_at_25 (lv_at hl 4 rfl) ?_
          refine va_iald hx hb hK hP 4 3 rfl rfl (k_in hj (k_lt 32 hj (by omega) rfl c_18) (by omega)) dX0_at_27 ?_
          refine lv_istore (lv' := [(5, .int (ra_line u x4.toNatClampNeg)), (0, .ref (ad 0)), (1, .int p1), (2, .int p2), (3, .int x3), (4, .int x4)]) hx hb dX0_at_28 hl (by decide) rfl (fun ls hl => ?_)
          refine lv_iload hx hb dX0_at_30 (lv_at hl 0 rfl) ?_
          refine va_calli (va_runS (As := [.int (ra_line u x4.toNatClampNeg)]) (rest := []) ⟨hx, hb, hml, hown, hts⟩ (rc_isProcess l (ra_line u x4.toNatClampNeg) _ rfl) (va_cwS 1 hts gX0_at_X0_isProcess rfl rfl rfl (by decide +kernel) ⟨Nat.le_of_ble_eq_true rfl, Nat.le_of_ble_eq_true rfl⟩) ⟨fun a U g mk q => ⟨q.1, trivial⟩, fun U hU hW => ⟨rfl, trivial⟩⟩ rfl rfl hl.1 rfl (lv_room (Nat.le_of_ble_eq_true rfl)) dX0_at_32 ⟨Nat.le_of_ble_eq_true rfl, Nat.le_of_ble_eq_true rfl⟩) hS (fun _ _ h => h.elim) (fun _ h => h.elim) (fun r_19 u_ t H1 locs ht hvm hr_19 hB hz1 hk1 hS => ?_)
          have hP := hP.kept (fun k x hx => hk1 x.1 ((hP k x hx).lt) (fun h => h))
          generalize H1 = H at hP hS ⊢
          refine lv_if_eq (tgt := 60) hx hb dX0_at_35 (by decide) (fun c_20 => ?_) (fun c_20 => ?_)
          · refine lv_iinc (v := x4 + 1) (lv' := [(4, .int (x4 + 1)), (5, .int (ra_line u x4.toNatClampNeg)), (0, .ref (ad 0)), (1, .int p1), (2, .int p2), (3, .int x3)]) hx hb dX0_at_60 hl (k := 5) rfl rfl (by decide) rfl (fun ls hl => ?_)
            refine lv_goto (tgt := 5) hx hb dX0_at_63 (by decide) ?_
            have hj2 := (k_lt 32 hj (by omega) rfl c_18)
            exact ih x3 (x4 + 1) _ _ _ (⟨j + 1, by rw [hj, nI_1], by omega, by omega⟩) (by subst hr_19; rw [← hf2]; simp only [rl_at, if_neg c_17, if_neg c_18, if_pos c_20]) hP hS (lv_sub hl [2, 3, 4, 5, 0] rfl)
          · refine lv_aload_n hx hb dX0_at_38 rfl (lv_at hl 1 rfl) ?_
            refine va_get (D := (dC, dI)) (ci := 0) (v := .ref (ad 3)) (C := RX0) (T := TX0) (N := 12) (fs := rF ad u) hx hb hts hin0 hown hK hP 0 rfl rfl 2 (by decide) fl_rows (fun _ h9 => h9) rfl dX0_at_39 ?_
            refine lv_iload hx hb dX0_at_42 (lv_at hl 0 rfl) ?_
            refine va_iald hx hb hK hP 3 2 rfl rfl (ri_isProcess hr_19 c_20) dX0_at_44 ?_
            refine lv_iload_n hx hb dX0_at_45 rfl (lv_at hl 2 rfl) ?_
            refine lv_icmp_ne (tgt := 60) hx hb dX0_at_46 (by decide) (fun c_21 => ?_) (fun c_21 => ?_)
            · refine lv_iinc (v := x4 + 1) (lv' := [(4, .int (x4 + 1)), (5, .int (ra_line u x4.toNatClampNeg)), (0, .ref (ad 0)), (1, .int p1), (2, .int p2), (3, .int x3)]) hx hb dX0_at_60 hl (k := 5) rfl rfl (by decide) rfl (fun ls hl => ?_)
              refine lv_goto (tgt := 5) hx hb dX0_at_63 (by decide) ?_
              have hj2 := (k_lt 32 hj (by omega) rfl c_18)
              exact ih x3 (x4 + 1) _ _ _ (⟨j + 1, by rw [hj, nI_1], by omega, by omega⟩) (by subst hr_19; rw [← hf2]; simp only [rl_at, if_neg c_17, if_neg c_18, if_neg c_20, if_neg c_21]) hP hS (lv_sub hl [2, 3, 4, 5, 0] rfl)
            · refine lv_iload_n hx hb dX0_at_49 rfl (lv_at hl 4 rfl) ?_
              refine lv_iload_n hx hb dX0_at_50 rfl (lv_at hl 3 rfl) ?_
              refine lv_icmp_ne (tgt := 57) hx hb dX0_at_51 (by decide) (fun c_22 => ?_) (fun c_22 => ?_)
              · refine lv_iinc (v := x3 + 1) (lv' := [(3, .int (x3 + 1)), (5, .int (ra_line u x4.toNatClampNeg)), (0, .ref (ad 0)), (1, .int p1), (2, .int p2), (4, .int x4)]) hx hb dX0_at_57 hl (k := 4) rfl rfl (by decide) rfl (fun ls hl => ?_)
                refine lv_iinc (v := x4 + 1) (lv' := [(4, .int (x4 + 1)), (3, .int (x3 + 1)), (5, .int (ra_line u x4.toNatClampNeg)), (0, .ref (ad 0)), (1, .int p1), (2, .int p2)]) hx hb dX0_at_60 hl (k := 5) rfl rfl (by decide) rfl (fun ls hl => ?_)
                refine lv_goto (tgt := 5) hx hb dX0_at_63 (by decide) ?_
                have hj2 := (k_lt 32 hj (by omega) rfl c_18)
                exact ih (x3 + 1) (x4 + 1) _ _ _ (⟨j + 1, by rw [hj, nI_1], by omega, by omega⟩) (by subst hr_19; rw [← hf2]; simp only [rl_at, if_neg c_17, if_neg c_18, if_neg c_20, if_pos c_21, if_neg c_22]) hP hS (lv_sub hl [3, 4, 5, 1, 0] rfl)
              · refine lv_iload hx hb dX0_at_54 (lv_at hl 0 rfl) ?_
                subst hQ
                have eT : ra_line u x4.toNatClampNeg = T := by subst hr_19; rw [← hf2]; simp only [rl_at, if_neg c_17, if_neg c_18, if_neg c_20, if_pos c_21, if_pos c_22]
                exact W.iret (v := ra_line u x4.toNatClampNeg) hx hb hr (fun t ht hW => ⟨⟨ra_line u x4.toNatClampNeg, (), rfl, eT, trivial⟩, hS.F ht⟩) hS.2.2 dX0_at_56
  exact key 33 0 0 _ _ _ (⟨0, nI_0.symm, rfl, by omega⟩) (by rw [← hf]; simp only [rf_at]) hP hS (lv_sub hl [2, 3, 4, 1, 0] rfl)
set_option maxHeartbeats 4000000 in
set_option maxRecDepth 100000 in
theorem rc_extra (l : Launch) (dC : Nat → ClassId) (dI : Nat → Nat → Nat) (ad : Nat → Nat) (cA : Nat → ClassId) (u : RS) (p1 : Int32) (T : Int32) (hf : rf_extra u p1 = T) : Met l yX0_extra wsX0_extra ({ frames := 1, cells := 0, slots := 0, locals := 20 } : Room) (va_Pc [.ref (ad 0), .int p1] (fun U => va_P (dC, dI) vwCl (rW ad cA u) U.heap ∧ va_K (dC, dI) vwCl (rT cA) U)) (va_Qi (fun r (_ : Unit) => r = T) (fun _ _ => True) (fun _ => False)) 0 0 (fun _ => False) := by
  refine Met.ofW (cc := cX0_extra) (maxL := 2) (ret := (some .int)) (by decide) rfl ?_
  intro p e s m args below meth c s₁ B hml hv
  obtain ⟨rfl, hP, hK⟩ := hv
  have hx := B.exec
  have hb := B.bytes
  have hr := B.returns
  have hts := atoms_spec (ws := wsX0_extra) B.pre
  have hown : s.vm.findClass RX0 = some m.cls := findClass_of_methodNamed B.named
  have hlocks := B.notSynchronized
  have hin0 : ∀ w ∈ wsX00, w ∈ wsX0_extra := by decide +kernel
  have fl_extras := hts (.fieldLink RX0 26 "ProcessRoom" "extras" "[I") (by decide +kernel)
  have hS : va_S (fun _ => False) s.heap s.heap [] := va_S.rf
  have hl := lv_entry ([.ref (ad 0), .int p1]) (n := 2) (Nat.le_of_ble_eq_true rfl)
  rw [lg_entry_eq]
  generalize (lg_sl ([.ref (ad 0), .int p1]) ++ List.replicate (2 - (lg_sl ([.ref (ad 0), .int p1])).length) Slot.unset).toArray = ls at hl ⊢
  have hl : lv_has ls 2 [(0, .ref (ad 0)), (1, .int p1)] := hl
  refine lv_iload_n hx hb dX0_extra_0 rfl (lv_at hl 1 rfl) ?_
  refine va_calli (va_runS (As := [.int p1]) (rest := []) ⟨hx, hb, hml, hown, hts⟩ (rc_isSemaphore l p1 _ rfl) (va_cwS 1 hts gX0_extra_X0_isSemaphore rfl rfl rfl (by decide +kernel) ⟨Nat.le_of_ble_eq_true rfl, Nat.le_of_ble_eq_true rfl⟩) ⟨fun a U g mk q => ⟨q.1, trivial⟩, fun U hU hW => ⟨rfl, trivial⟩⟩ rfl rfl hl.1 rfl (lv_room (Nat.le_of_ble_eq_true rfl)) dX0_extra_1 ⟨Nat.le_of_ble_eq_true rfl, Nat.le_of_ble_eq_true rfl⟩) hS (fun _ _ h => h.elim) (fun _ h => h.elim) (fun r_23 u_ t H1 locs ht hvm hr_23 hB hz1 hk1 hS => ?_)
  have hP := hP.kept (fun k x hx => hk1 x.1 ((hP k x hx).lt) (fun h => h))
  generalize H1 = H at hP hS ⊢
  refine lv_if_eq (tgt := 16) hx hb dX0_extra_4 (by decide) (fun c_24 => ?_) (fun c_24 => ?_)
  · refine lv_iconst (v := (-1)) hx hb dX0_extra_16 (by decide) ?_
    have eT : (-1) = T := by subst hr_23; rw [← hf]; simp only [rf_extra, if_pos c_24]
    exact W.iret (v := (-1)) hx hb hr (fun t ht hW => ⟨⟨(-1), (), rfl, eT, trivial⟩, hS.F ht⟩) hS.2.2 dX0_extra_17
  · refine lv_aload_n hx hb dX0_extra_7 rfl (lv_at hl 0 rfl) ?_
    refine va_get (D := (dC, dI)) (ci := 0) (v := .ref (ad 5)) (C := RX0) (T := TX0) (N := 12) (fs := rF ad u) hx hb hts hin0 hown hK hP 0 rfl rfl 5 (by decide) fl_extras (fun _ h9 => h9) rfl dX0_extra_8 ?_
    refine lv_iload_n hx hb dX0_extra_11 rfl (lv_at hl 1 rfl) ?_
    refine va_iald hx hb hK hP 5 4 rfl rfl (ri_isSemaphore hr_23 c_24) dX0_extra_12 ?_
    refine lv_goto (tgt := 17) hx hb dX0_extra_13 (by decide) ?_
    have eT : ra_extras u p1.toNatClampNeg = T := by subst hr_23; rw [← hf]; simp only [rf_extra, if_neg c_24]
    exact W.iret (v := ra_extras u p1.toNatClampNeg) hx hb hr (fun t ht hW => ⟨⟨ra_extras u p1.toNatClampNeg, (), rfl, eT, trivial⟩, hS.F ht⟩) hS.2.2 dX0_extra_17
set_option maxHeartbeats 4000000 in
set_option maxRecDepth 100000 in
theorem rc_posted (l : Launch) (dC : Nat → ClassId) (dI : Nat → Nat → Nat) (ad : Nat → Nat) (cA : Nat → ClassId) (u : RS) (p1 : Int32) (T : Int32) (hf : rf_posted u p1 = T) : Met l yX0_posted wsX0_posted ({ frames := 0, cells := 0, slots := 0, locals := 0 } : Room) (va_Pc [.ref (ad 0), .int p1] (fun U => va_P (dC, dI) vwCl (rW ad cA u) U.heap ∧ va_K (dC, dI) vwCl (rT cA) U)) (va_Qi (fun r (_ : Unit) => r = T) (fun _ _ => True) (fun _ => False)) 0 0 (fun _ => False) := by
  refine Met.ofW (cc := cX0_posted) (maxL := 2) (ret := (some .int)) (by decide) rfl ?_
  intro p e s m args below meth c s₁ B hml hv
  obtain ⟨rfl, hP, hK⟩ := hv
  have hx := B.exec
  have hb := B.bytes
  have hr := B.returns
  have hts := atoms_spec (ws := wsX0_posted) B.pre
  have hown : s.vm.findClass RX0 = some m.cls := findClass_of_methodNamed B.named
  have hlocks := B.notSynchronized
  have hin0 : ∀ w ∈ wsX00, w ∈ wsX0_posted := by decide +kernel
  have fl_postCount := hts (.fieldLink RX0 32 "ProcessRoom" "postCount" "I") (by decide +kernel)
  have fl_posts := hts (.fieldLink RX0 29 "ProcessRoom" "posts" "[I") (by decide +kernel)
  have hS : va_S (fun _ => False) s.heap s.heap [] := va_S.rf
  have hl := lv_entry ([.ref (ad 0), .int p1]) (n := 2) (Nat.le_of_ble_eq_true rfl)
  rw [lg_entry_eq]
  generalize (lg_sl ([.ref (ad 0), .int p1]) ++ List.replicate (2 - (lg_sl ([.ref (ad 0), .int p1])).length) Slot.unset).toArray = ls at hl ⊢
  have hl : lv_has ls 2 [(0, .ref (ad 0)), (1, .int p1)] := hl
  refine lv_iload_n hx hb dX0_posted_0 rfl (lv_at hl 1 rfl) ?_
  refine lv_if_lt (tgt := 27) hx hb dX0_posted_1 (by decide) (fun c_25 => ?_) (fun c_25 => ?_)
  · refine lv_iconst (v := (-1)) hx hb dX0_posted_27 (by decide) ?_
    have eT : (-1) = T := by rw [← hf]; simp only [rf_posted, if_pos c_25]
    exact W.iret (v := (-1)) hx hb hr (fun t ht hW => ⟨⟨(-1), (), rfl, eT, trivial⟩, hS.F ht⟩) hS.2.2 dX0_posted_28
  · refine lv_iload_n hx hb dX0_posted_4 rfl (lv_at hl 1 rfl) ?_
    refine lv_aload_n hx hb dX0_posted_5 rfl (lv_at hl 0 rfl) ?_
    refine va_get (D := (dC, dI)) (ci := 0) (v := .int (ra_postCount u)) (C := RX0) (T := TX0) (N := 12) (fs := rF ad u) hx hb hts hin0 hown hK hP 0 rfl rfl 7 (by decide) fl_postCount (fun _ h9 => h9) rfl dX0_posted_6 ?_
    refine lv_icmp_ge (tgt := 27) hx hb dX0_posted_9 (by decide) (fun c_26 => ?_) (fun c_26 => ?_)
    · refine lv_iconst (v := (-1)) hx hb dX0_posted_27 (by decide) ?_
      have eT : (-1) = T := by rw [← hf]; simp only [rf_posted, if_neg c_25, if_pos c_26]
      exact W.iret (v := (-1)) hx hb hr (fun t ht hW => ⟨⟨(-1), (), rfl, eT, trivial⟩, hS.F ht⟩) hS.2.2 dX0_posted_28
    · refine lv_iload_n hx hb dX0_posted_12 rfl (lv_at hl 1 rfl) ?_
      refine lv_bipush (v := 40) hx hb dX0_posted_13 (by decide) ?_
      refine lv_icmp_ge (tgt := 27) hx hb dX0_posted_15 (by decide) (fun c_27 => ?_) (fun c_27 => ?_)
      · refine lv_iconst (v := (-1)) hx hb dX0_posted_27 (by decide) ?_
        have eT : (-1) = T := by rw [← hf]; simp only [rf_posted, if_neg c_25, if_neg c_26, if_pos c_27]
        exact W.iret (v := (-1)) hx hb hr (fun t ht hW => ⟨⟨(-1), (), rfl, eT, trivial⟩, hS.F ht⟩) hS.2.2 dX0_posted_28
      · refine lv_aload_n hx hb dX0_posted_18 rfl (lv_at hl 0 rfl) ?_
        refine va_get (D := (dC, dI)) (ci := 0) (v := .ref (ad 6)) (C := RX0) (T := TX0) (N := 12) (fs := rF ad u) hx hb hts hin0 hown hK hP 0 rfl rfl 6 (by decide) fl_posts (fun _ h9 => h9) rfl dX0_posted_19 ?_
        refine lv_iload_n hx hb dX0_posted_22 rfl (lv_at hl 1 rfl) ?_
        refine va_iald hx hb hK hP 6 5 rfl rfl (k_in2 c_25 c_27 rfl) dX0_posted_23 ?_
        refine lv_goto (tgt := 28) hx hb dX0_posted_24 (by decide) ?_
        have eT : ra_posts u p1.toNatClampNeg = T := by rw [← hf]; simp only [rf_posted, if_neg c_25, if_neg c_26, if_neg c_27]
        exact W.iret (v := ra_posts u p1.toNatClampNeg) hx hb hr (fun t ht hW => ⟨⟨ra_posts u p1.toNatClampNeg, (), rfl, eT, trivial⟩, hS.F ht⟩) hS.2.2 dX0_posted_28
set_option maxHeartbeats 4000000 in
set_option maxRecDepth 100000 in
theorem rc_firstReady (l : Launch) (dC : Nat → ClassId) (dI : Nat → Nat → Nat) (ad : Nat → Nat) (cA : Nat → ClassId) (u : RS)  (T : Int32) (hf : rf_firstReady u = T) : Met l yX0_firstReady wsX0_firstReady ({ frames := 2, cells := 0, slots := 0, locals := 45 } : Room) (va_Pc [.ref (ad 0)] (fun U => va_P (dC, dI) vwCl (rW ad cA u) U.heap ∧ va_K (dC, dI) vwCl (rT cA) U)) (va_Qi (fun r (_ : Unit) => r = T) (fun _ _ => True) (fun _ => False)) 0 0 (fun _ => False) := by
  refine Met.ofW (cc := cX0_firstReady) (maxL := 3) (ret := (some .int)) (by decide) rfl ?_
  intro p e s m args below meth c s₁ B hml hv
  obtain ⟨rfl, hP, hK⟩ := hv
  have hx := B.exec
  have hb := B.bytes
  have hr := B.returns
  have hts := atoms_spec (ws := wsX0_firstReady) B.pre
  have hown : s.vm.findClass RX0 = some m.cls := findClass_of_methodNamed B.named
  have hlocks := B.notSynchronized
  have hS : va_S (fun _ => False) s.heap s.heap [] := va_S.rf
  have hl := lv_entry ([.ref (ad 0)]) (n := 3) (Nat.le_of_ble_eq_true rfl)
  rw [lg_entry_eq]
  generalize (lg_sl ([.ref (ad 0)]) ++ List.replicate (3 - (lg_sl ([.ref (ad 0)])).length) Slot.unset).toArray = ls at hl ⊢
  have hl : lv_has ls 3 [(0, .ref (ad 0))] := hl
  refine lv_bipush (v := 8) hx hb dX0_firstReady_0 (by decide) ?_
  refine lv_istore_n (lv' := [(1, .int 8), (0, .ref (ad 0))]) hx hb dX0_firstReady_2 rfl hl (by decide) rfl (fun ls hl => ?_)
  refine k_nameQ (fun Q hQ => ?_)
  have key : ∀ (n : Nat) (x1 : Int32) (H : Heap) (locs : List Loc) (ls : Array Slot), (∃ j : Nat, x1 = nI j ∧ n = j + 1 ∧ j ≤ 8) → rl_firstReady u n x1 = T → va_P (dC, dI) vwCl (rW ad cA u) H → va_S (fun _ => False) s.heap H locs → lv_has ls 3 [(0, .ref (ad 0)), (1, .int x1)] → W p l e (headSpec wsX0_firstReady ({ frames := 2, cells := 0, slots := 0, locals := 45 } : Room)).room s m ([.ref (ad 0)] : List Value).toArray below meth c H locs 0 0 Q (F0 m 3 ls []) := by
    intro n
    induction n with
    | zero =>
      intro x1 H locs ls hinv
      exact absurd hinv (by rintro ⟨j, -, h1, h2⟩; omega)
    | succ n ih =>
      intro x1 H locs ls hinv hf2 hP hS hl
      obtain ⟨j, hj, hjn, hjl⟩ := hinv
      refine lv_iload_n hx hb dX0_firstReady_3 rfl (lv_at hl 1 rfl) ?_
      refine lv_iconst (v := 1) hx hb dX0_firstReady_4 (by decide) ?_
      refine lv_icmp_lt (tgt := 28) hx hb dX0_firstReady_5 (by decide) (fun c_28 => ?_) (fun c_28 => ?_)
      · refine lv_iconst (v := (-1)) hx hb dX0_firstReady_28 (by decide) ?_
        subst hQ
        have eT : (-1) = T := by rw [← hf2]; simp only [rl_firstReady, if_pos c_28]
        exact W.iret (v := (-1)) hx hb hr (fun t ht hW => ⟨⟨(-1), (), rfl, eT, trivial⟩, hS.F ht⟩) hS.2.2 dX0_firstReady_29
      · refine lv_aload_n hx hb dX0_firstReady_8 rfl (lv_at hl 0 rfl) ?_
        refine lv_iload_n hx hb dX0_firstReady_9 rfl (lv_at hl 1 rfl) ?_
        refine lv_iconst (v := 0) hx hb dX0_firstReady_10 (by decide) ?_
        refine va_calli (va_runV (As := [.int x1, .int 0]) (rest := []) ⟨hx, hb, hml, hown, hts⟩ (rc_at l dC dI ad cA u x1 0 _ rfl) (cwV 2 hts gX0_firstReady_X0_at rfl rfl rfl (by decide +kernel) ⟨Nat.le_of_ble_eq_true rfl, Nat.le_of_ble_eq_true rfl⟩) ⟨fun a U g mk q => by obtain ⟨q0, qP, qK⟩ := q; exact ⟨q0, qP, va_K.moved (u := U) (U := U.calling g mk a) (Vm.Alike.refl U.vm) qK⟩, va_recv hK hP (ci := 0) (q0 := 0) rfl rfl, fun U hU hW => ⟨rfl, by rw [hU]; exact hP, va_K.moved hW.alike hK⟩⟩ rfl rfl hl.1 rfl (lv_room (Nat.le_of_ble_eq_true rfl)) dX0_firstReady_11 ⟨Nat.le_of_ble_eq_true rfl, Nat.le_of_ble_eq_true rfl⟩) hS (fun _ _ h => h.elim) (fun _ h => h.elim) (fun r_29 u_ t H1 locs ht hvm hr_29 hB hz1 hk1 hS => ?_)
        have hP := hP.kept (fun k x hx => hk1 x.1 ((hP k x hx).lt) (fun h => h))
        generalize H1 = H at hP hS ⊢
        refine lv_istore_n (lv' := [(2, .int r_29), (0, .ref (ad 0)), (1, .int x1)]) hx hb dX0_firstReady_14 rfl hl (by decide) rfl (fun ls hl => ?_)
        refine lv_iload_n hx hb dX0_firstReady_15 rfl (lv_at hl 0 rfl) ?_
        refine lv_iconst (v := (-1)) hx hb dX0_firstReady_16 (by decide) ?_
        refine lv_icmp_eq (tgt := 22) hx hb dX0_firstReady_17 (by decide) (fun c_30 => ?_) (fun c_30 => ?_)
        · refine lv_iinc (v := x1 + (-1)) (lv' := [(1, .int (x1 + (-1))), (2, .int r_29), (0, .ref (ad 0))]) hx hb dX0_firstReady_22 hl (k := 2) rfl rfl (by decide) rfl (fun ls hl => ?_)
          refine lv_goto (tgt := 3) hx hb dX0_firstReady_25 (by decide) ?_
          have hj2 : 1 ≤ j := k_ge1 hj (by omega) c_28
          exact ih (x1 + (-1)) _ _ _ (⟨j - 1, by rw [hj]; exact k_pred hj2, by omega, by omega⟩) (by subst hr_29; rw [← hf2]; simp only [rl_firstReady, if_neg c_28, if_pos c_30]) hP hS (lv_sub hl [2, 0] rfl)
        · refine lv_iload_n hx hb dX0_firstReady_20 rfl (lv_at hl 0 rfl) ?_
          subst hQ
          have eT : r_29 = T := by subst hr_29; rw [← hf2]; simp only [rl_firstReady, if_neg c_28, if_neg c_30]
          exact W.iret (v := r_29) hx hb hr (fun t ht hW => ⟨⟨r_29, (), rfl, eT, trivial⟩, hS.F ht⟩) hS.2.2 dX0_firstReady_21
  exact key 9 8 _ _ _ (⟨8, rfl, rfl, by omega⟩) (by rw [← hf]; simp only [rf_firstReady]) hP hS (lv_sub hl [1, 0] rfl)
set_option maxHeartbeats 4000000 in
set_option maxRecDepth 100000 in
theorem rc_want (l : Launch) (dC : Nat → ClassId) (dI : Nat → Nat → Nat) (ad : Nat → Nat) (cA : Nat → ClassId) (sz : Nat) (u : RS) (p1 : Int32) (T : RS) (hf : rf_want u p1 = T) : Met l yX0_want wsX0_want ({ frames := 0, cells := 0, slots := 0, locals := 0 } : Room) (va_Pc [.ref (ad 0), .int p1] (fun U => U.heap.size = sz ∧ va_P (dC, dI) vwCl (rW ad cA u) U.heap ∧ va_K (dC, dI) vwCl (rT cA) U ∧ va_D (fun _ => True) (rW ad cA u))) (va_Qv (fun u2 => u2 = T) (rAt dC dI (va_A (rW ad cA u) sz) ad cA) (va_A (rW ad cA u) sz)) 0 0 (va_A (rW ad cA u) sz) := by
  refine Met.ofW (cc := cX0_want) (maxL := 2) (ret := none) (by decide) rfl ?_
  intro p e s m args below meth c s₁ B hml hv
  obtain ⟨rfl, hsz, hP, hK, hD0⟩ := hv
  have hx := B.exec
  have hb := B.bytes
  have hr := B.returns
  have hts := atoms_spec (ws := wsX0_want) B.pre
  have hown : s.vm.findClass RX0 = some m.cls := findClass_of_methodNamed B.named
  have hlocks := B.notSynchronized
  have hin0 : ∀ w ∈ wsX00, w ∈ wsX0_want := by decide +kernel
  have fl_wanted := hts (.fieldLink RX0 41 "ProcessRoom" "wanted" "Z") (by decide +kernel)
  have fl_wantedOne := hts (.fieldLink RX0 45 "ProcessRoom" "wantedOne" "I") (by decide +kernel)
  subst hsz
  have hD := hD0.self (sz := s.heap.size)
  generalize hAe : va_A (rW ad cA u) s.heap.size = A at hD ⊢
  have hA : ∀ q : Nat, s.heap.size ≤ q → A q := fun q h => by rw [← hAe]; exact Or.inr h
  have hS : va_S A s.heap s.heap [] := va_S.rf
  have hl := lv_entry ([.ref (ad 0), .int p1]) (n := 2) (Nat.le_of_ble_eq_true rfl)
  rw [lg_entry_eq]
  generalize (lg_sl ([.ref (ad 0), .int p1]) ++ List.replicate (2 - (lg_sl ([.ref (ad 0), .int p1])).length) Slot.unset).toArray = ls at hl ⊢
  have hl : lv_has ls 2 [(0, .ref (ad 0)), (1, .int p1)] := hl
  refine lv_aload_n hx hb dX0_want_0 rfl (lv_at hl 0 rfl) ?_
  refine lv_iconst (v := 1) hx hb dX0_want_1 (by decide) ?_
  refine va_put (D := (dC, dI)) (ci := 0) (v := .int 1) (ty := .boolean) (C := RX0) (T := TX0) (N := 12) (fs := rF ad u) hx hb hts hin0 tyX0 tyX0_ok nmX0 hown hK hP hD hS 0 rfl rfl 10 (by decide) fl_wanted (fun _ h9 => h9) rfl (by decide +kernel) rfl rfl (Nat.le_of_ble_eq_true rfl) dX0_want_2 (fun H locs hP hD hS => ?_)
  rw [rw_wanted] at hP hD
  obtain ⟨u_31, hu_31⟩ : ∃ w : RS, w = rs_wanted u 1 := ⟨_, rfl⟩
  rw [← hu_31] at hP hD
  refine lv_aload_n hx hb dX0_want_5 rfl (lv_at hl 0 rfl) ?_
  refine lv_iload_n hx hb dX0_want_6 rfl (lv_at hl 1 rfl) ?_
  refine va_put (D := (dC, dI)) (ci := 0) (v := .int p1) (ty := .int) (C := RX0) (T := TX0) (N := 12) (fs := rF ad u_31) hx hb hts hin0 tyX0 tyX0_ok nmX0 hown hK hP hD hS 0 rfl rfl 11 (by decide) fl_wantedOne (fun _ h9 => h9) rfl (by decide +kernel) rfl rfl (Nat.le_of_ble_eq_true rfl) dX0_want_7 (fun H locs hP hD hS => ?_)
  rw [rw_wantedOne] at hP hD
  obtain ⟨u_32, hu_32⟩ : ∃ w : RS, w = rs_wantedOne u_31 p1 := ⟨_, rfl⟩
  rw [← hu_32] at hP hD
  have eT : u_32 = T := by subst hu_31 hu_32; rw [← hf]; simp only [rf_want]
  exact W.vret hx hb hr (fun t ht hW => ⟨⟨u_32, rfl, eT, by rw [ht]; exact hP, va_K.moved hW.alike hK, hD⟩, hS.F ht⟩) hS.2.2 dX0_want_10
end
section
set_option maxHeartbeats 4000000 in
set_option maxRecDepth 100000 in
theorem rc_enter (l : Launch) (dC : Nat → ClassId) (dI : Nat → Nat → Nat) (ad : Nat → Nat) (cA : Nat → ClassId) (sz : Nat) (u : RS) (p1 : Int32) (p2 : Int32) (hI : rInv u) (T : RS) (hf : rf_enter u p1 p2 = T) : Met l yX0_enter wsX0_enter ({ frames := 1, cells := 0, slots := 0, locals := 20 } : Room) (va_Pc [.ref (ad 0), .int p1, .int p2] (fun U => U.heap.size = sz ∧ va_P (dC, dI) vwCl (rW ad cA u) U.heap ∧ va_K (dC, dI) vwCl (rT cA) U ∧ va_D (fun _ => True) (rW ad cA u))) (va_Qv (fun u2 => u2 = T) (rAt dC dI (va_A (rW ad cA u) sz) ad cA) (va_A (rW ad cA u) sz)) 0 0 (va_A (rW ad cA u) sz) := by
  refine Met.ofW (cc := cX0_enter) (maxL := 3) (ret := none) (by decide) rfl ?_
  intro p e s m args below meth c s₁ B hml hv
  obtain ⟨rfl, hsz, hP, hK, hD0⟩ := hv
  have hx := B.exec
  have hb := B.bytes
  have hr := B.returns
  have hts := atoms_spec (ws := wsX0_enter) B.pre
  have hown : s.vm.findClass RX0 = some m.cls := findClass_of_methodNamed B.named
  have hlocks := B.notSynchronized
  have hin0 : ∀ w ∈ wsX00, w ∈ wsX0_enter := by decide +kernel
  have fl_lineLength := hts (.fieldLink RX0 22 "ProcessRoom" "lineLength" "I") (by decide +kernel)
  have fl_rows := hts (.fieldLink RX0 16 "ProcessRoom" "rows" "[I") (by decide +kernel)
  have fl_line := hts (.fieldLink RX0 19 "ProcessRoom" "line" "[I") (by decide +kernel)
  subst hsz
  have hD := hD0.self (sz := s.heap.size)
  generalize hAe : va_A (rW ad cA u) s.heap.size = A at hD ⊢
  have hA : ∀ q : Nat, s.heap.size ≤ q → A q := fun q h => by rw [← hAe]; exact Or.inr h
  have hS : va_S A s.heap s.heap [] := va_S.rf
  have hl := lv_entry ([.ref (ad 0), .int p1, .int p2]) (n := 3) (Nat.le_of_ble_eq_true rfl)
  rw [lg_entry_eq]
  generalize (lg_sl ([.ref (ad 0), .int p1, .int p2]) ++ List.replicate (3 - (lg_sl ([.ref (ad 0), .int p1, .int p2])).length) Slot.unset).toArray = ls at hl ⊢
  have hl : lv_has ls 3 [(0, .ref (ad 0)), (1, .int p1), (2, .int p2)] := hl
  refine lv_iload_n hx hb dX0_enter_0 rfl (lv_at hl 1 rfl) ?_
  refine va_calli (va_runS (As := [.int p1]) (rest := []) ⟨hx, hb, hml, hown, hts⟩ (rc_isProcess l p1 _ rfl) (va_cwS 1 hts gX0_enter_X0_isProcess rfl rfl rfl (by decide +kernel) ⟨Nat.le_of_ble_eq_true rfl, Nat.le_of_ble_eq_true rfl⟩) ⟨fun a U g mk q => ⟨q.1, trivial⟩, fun U hU hW => ⟨rfl, trivial⟩⟩ rfl rfl hl.1 rfl (lv_room (Nat.le_of_ble_eq_true rfl)) dX0_enter_1 ⟨Nat.le_of_ble_eq_true rfl, Nat.le_of_ble_eq_true rfl⟩) hS (fun _ _ h => h.elim) (fun _ h => h.elim) (fun r_33 u_ t H1 locs ht hvm hr_33 hB hz1 hk1 hS => ?_)
  have hP := hP.kept (fun k x hx => hk1 x.1 ((hP k x hx).lt) (fun h => h))
  generalize H1 = H at hP hS ⊢
  refine lv_if_eq (tgt := 43) hx hb dX0_enter_4 (by decide) (fun c_34 => ?_) (fun c_34 => ?_)
  · have eT : u = T := by subst hr_33; rw [← hf]; simp only [rf_enter, if_pos c_34]
    exact W.vret hx hb hr (fun t ht hW => ⟨⟨u, rfl, eT, by rw [ht]; exact hP, va_K.moved hW.alike hK, hD⟩, hS.F ht⟩) hS.2.2 dX0_enter_43
  · refine lv_aload_n hx hb dX0_enter_7 rfl (lv_at hl 0 rfl) ?_
    refine va_get (D := (dC, dI)) (ci := 0) (v := .int (ra_lineLength u)) (C := RX0) (T := TX0) (N := 12) (fs := rF ad u) hx hb hts hin0 hown hK hP 0 rfl rfl 4 (by decide) fl_lineLength (fun _ h9 => h9) rfl dX0_enter_8 ?_
    refine lv_bipush (v := 32) hx hb dX0_enter_11 (by decide) ?_
    refine lv_icmp_ge (tgt := 43) hx hb dX0_enter_13 (by decide) (fun c_35 => ?_) (fun c_35 => ?_)
    · have eT : u = T := by subst hr_33; rw [← hf]; simp only [rf_enter, if_neg c_34, if_pos c_35]
      exact W.vret hx hb hr (fun t ht hW => ⟨⟨u, rfl, eT, by rw [ht]; exact hP, va_K.moved hW.alike hK, hD⟩, hS.F ht⟩) hS.2.2 dX0_enter_43
    · refine lv_aload_n hx hb dX0_enter_16 rfl (lv_at hl 0 rfl) ?_
      refine va_get (D := (dC, dI)) (ci := 0) (v := .ref (ad 3)) (C := RX0) (T := TX0) (N := 12) (fs := rF ad u) hx hb hts hin0 hown hK hP 0 rfl rfl 2 (by decide) fl_rows (fun _ h9 => h9) rfl dX0_enter_17 ?_
      refine lv_iload_n hx hb dX0_enter_20 rfl (lv_at hl 1 rfl) ?_
      refine lv_iload_n hx hb dX0_enter_21 rfl (lv_at hl 2 rfl) ?_
      refine va_iast hx hb hK hP hD hS 3 2 rfl rfl (ri_isProcess hr_33 c_34) dX0_enter_22 (fun H locs hP hD hS => ?_)
      rw [rw_rows] at hP hD
      obtain ⟨u_36, hu_36⟩ : ∃ w : RS, w = rs_rows u (upd (ra_rows u) p1.toNatClampNeg p2) := ⟨_, rfl⟩
      rw [← hu_36] at hP hD
      refine lv_aload_n hx hb dX0_enter_23 rfl (lv_at hl 0 rfl) ?_
      refine va_get (D := (dC, dI)) (ci := 0) (v := .ref (ad 4)) (C := RX0) (T := TX0) (N := 12) (fs := rF ad u_36) hx hb hts hin0 hown hK hP 0 rfl rfl 3 (by decide) fl_line (fun _ h9 => h9) rfl dX0_enter_24 ?_
      refine lv_aload_n hx hb dX0_enter_27 rfl (lv_at hl 0 rfl) ?_
      refine va_get (D := (dC, dI)) (ci := 0) (v := .int (ra_lineLength u)) (C := RX0) (T := TX0) (N := 12) (fs := rF ad u_36) hx hb hts hin0 hown hK hP 0 rfl rfl 4 (by decide) fl_lineLength (fun _ h9 => h9) (congrArg (fun z => some (Value.int z)) (show ra_lineLength u_36 = ra_lineLength u from by rw [hu_36, rq_lineLength_rows])) dX0_enter_28 ?_
      refine lv_iload_n hx hb dX0_enter_31 rfl (lv_at hl 1 rfl) ?_
      refine va_iast hx hb hK hP hD hS 4 3 (show (rW ad cA u_36)[4]? = some (ad 4, .inl (cA 4, 32, .inl (ra_line u))) from by rw [← (show ra_line u_36 = ra_line u from by rw [hu_36, rq_line_rows])]; rfl) rfl (k_in0 hI.1 c_35 rfl) dX0_enter_32 (fun H locs hP hD hS => ?_)
      rw [rw_line] at hP hD
      obtain ⟨u_37, hu_37⟩ : ∃ w : RS, w = rs_line u_36 (upd (ra_line u) (ra_lineLength u).toNatClampNeg p1) := ⟨_, rfl⟩
      rw [← hu_37] at hP hD
      refine lv_aload_n hx hb dX0_enter_33 rfl (lv_at hl 0 rfl) ?_
      refine lv_dup hx hb dX0_enter_34 rfl ?_
      refine va_get (D := (dC, dI)) (ci := 0) (v := .int (ra_lineLength u)) (C := RX0) (T := TX0) (N := 12) (fs := rF ad u_37) hx hb hts hin0 hown hK hP 0 rfl rfl 4 (by decide) fl_lineLength (fun _ h9 => h9) (congrArg (fun z => some (Value.int z)) (show ra_lineLength u_37 = ra_lineLength u from by rw [hu_37, rq_lineLength_line, hu_36, rq_lineLength_rows])) dX0_enter_35 ?_
      refine lv_iconst (v := 1) hx hb dX0_enter_38 (by decide) ?_
      refine lv_iadd hx hb dX0_enter_39 ?_
      refine va_put (D := (dC, dI)) (ci := 0) (v := .int ((ra_lineLength u) + 1)) (ty := .int) (C := RX0) (T := TX0) (N := 12) (fs := rF ad u_37) hx hb hts hin0 tyX0 tyX0_ok nmX0 hown hK hP hD hS 0 rfl rfl 4 (by decide) fl_lineLength (fun _ h9 => h9) rfl (by decide +kernel) rfl rfl (Nat.le_of_ble_eq_true rfl) dX0_enter_40 (fun H locs hP hD hS => ?_)
      rw [rw_lineLength] at hP hD
      obtain ⟨u_38, hu_38⟩ : ∃ w : RS, w = rs_lineLength u_37 ((ra_lineLength u) + 1) := ⟨_, rfl⟩
      rw [← hu_38] at hP hD
      have eT : u_38 = T := by subst hr_33 hu_36 hu_37 hu_38; rw [← hf]; simp only [rf_enter, if_neg c_34, if_neg c_35]
      exact W.vret hx hb hr (fun t ht hW => ⟨⟨u_38, rfl, eT, by rw [ht]; exact hP, va_K.moved hW.alike hK, hD⟩, hS.F ht⟩) hS.2.2 dX0_enter_43
set_option maxHeartbeats 4000000 in
set_option maxRecDepth 100000 in
theorem rc_leave (l : Launch) (dC : Nat → ClassId) (dI : Nat → Nat → Nat) (ad : Nat → Nat) (cA : Nat → ClassId) (sz : Nat) (u : RS) (p1 : Int32) (T : RS) (hf : rf_leave u p1 = T) : Met l yX0_leave wsX0_leave ({ frames := 1, cells := 0, slots := 0, locals := 20 } : Room) (va_Pc [.ref (ad 0), .int p1] (fun U => U.heap.size = sz ∧ va_P (dC, dI) vwCl (rW ad cA u) U.heap ∧ va_K (dC, dI) vwCl (rT cA) U ∧ va_D (fun _ => True) (rW ad cA u))) (va_Qv (fun u2 => u2 = T) (rAt dC dI (va_A (rW ad cA u) sz) ad cA) (va_A (rW ad cA u) sz)) 0 0 (va_A (rW ad cA u) sz) := by
  refine Met.ofW (cc := cX0_leave) (maxL := 4) (ret := none) (by decide) rfl ?_
  intro p e s m args below meth c s₁ B hml hv
  obtain ⟨rfl, hsz, hP, hK, hD0⟩ := hv
  have hx := B.exec
  have hb := B.bytes
  have hr := B.returns
  have hts := atoms_spec (ws := wsX0_leave) B.pre
  have hown : s.vm.findClass RX0 = some m.cls := findClass_of_methodNamed B.named
  have hlocks := B.notSynchronized
  have hin0 : ∀ w ∈ wsX00, w ∈ wsX0_leave := by decide +kernel
  have fl_rows := hts (.fieldLink RX0 16 "ProcessRoom" "rows" "[I") (by decide +kernel)
  have fl_lineLength := hts (.fieldLink RX0 22 "ProcessRoom" "lineLength" "I") (by decide +kernel)
  have fl_line := hts (.fieldLink RX0 19 "ProcessRoom" "line" "[I") (by decide +kernel)
  subst hsz
  have hD := hD0.self (sz := s.heap.size)
  generalize hAe : va_A (rW ad cA u) s.heap.size = A at hD ⊢
  have hA : ∀ q : Nat, s.heap.size ≤ q → A q := fun q h => by rw [← hAe]; exact Or.inr h
  have hS : va_S A s.heap s.heap [] := va_S.rf
  have hl := lv_entry ([.ref (ad 0), .int p1]) (n := 4) (Nat.le_of_ble_eq_true rfl)
  rw [lg_entry_eq]
  generalize (lg_sl ([.ref (ad 0), .int p1]) ++ List.replicate (4 - (lg_sl ([.ref (ad 0), .int p1])).length) Slot.unset).toArray = ls at hl ⊢
  have hl : lv_has ls 4 [(0, .ref (ad 0)), (1, .int p1)] := hl
  refine lv_iload_n hx hb dX0_leave_0 rfl (lv_at hl 1 rfl) ?_
  refine va_calli (va_runS (As := [.int p1]) (rest := []) ⟨hx, hb, hml, hown, hts⟩ (rc_isProcess l p1 _ rfl) (va_cwS 1 hts gX0_leave_X0_isProcess rfl rfl rfl (by decide +kernel) ⟨Nat.le_of_ble_eq_true rfl, Nat.le_of_ble_eq_true rfl⟩) ⟨fun a U g mk q => ⟨q.1, trivial⟩, fun U hU hW => ⟨rfl, trivial⟩⟩ rfl rfl hl.1 rfl (lv_room (Nat.le_of_ble_eq_true rfl)) dX0_leave_1 ⟨Nat.le_of_ble_eq_true rfl, Nat.le_of_ble_eq_true rfl⟩) hS (fun _ _ h => h.elim) (fun _ h => h.elim) (fun r_39 u_ t H1 locs ht hvm hr_39 hB hz1 hk1 hS => ?_)
  have hP := hP.kept (fun k x hx => hk1 x.1 ((hP k x hx).lt) (fun h => h))
  generalize H1 = H at hP hS ⊢
  refine lv_if_ne (tgt := 8) hx hb dX0_leave_4 (by decide) (fun c_40 => ?_) (fun c_40 => ?_)
  · refine lv_aload_n hx hb dX0_leave_8 rfl (lv_at hl 0 rfl) ?_
    refine va_get (D := (dC, dI)) (ci := 0) (v := .ref (ad 3)) (C := RX0) (T := TX0) (N := 12) (fs := rF ad u) hx hb hts hin0 hown hK hP 0 rfl rfl 2 (by decide) fl_rows (fun _ h9 => h9) rfl dX0_leave_9 ?_
    refine lv_iload_n hx hb dX0_leave_12 rfl (lv_at hl 1 rfl) ?_
    refine lv_iconst (v := 0) hx hb dX0_leave_13 (by decide) ?_
    refine va_iast hx hb hK hP hD hS 3 2 rfl rfl (ri_isProcess hr_39 c_40) dX0_leave_14 (fun H locs hP hD hS => ?_)
    rw [rw_rows] at hP hD
    obtain ⟨u_41, hu_41⟩ : ∃ w : RS, w = rs_rows u (upd (ra_rows u) p1.toNatClampNeg 0) := ⟨_, rfl⟩
    rw [← hu_41] at hP hD
    refine lv_iconst (v := 0) hx hb dX0_leave_15 (by decide) ?_
    refine lv_istore_n (lv' := [(2, .int 0), (0, .ref (ad 0)), (1, .int p1)]) hx hb dX0_leave_16 rfl hl (by decide) rfl (fun ls hl => ?_)
    refine lv_iconst (v := 0) hx hb dX0_leave_17 (by decide) ?_
    refine lv_istore_n (lv' := [(3, .int 0), (2, .int 0), (0, .ref (ad 0)), (1, .int p1)]) hx hb dX0_leave_18 rfl hl (by decide) rfl (fun ls hl => ?_)
    refine k_nameQ (fun Q hQ => ?_)
    have key : ∀ (n : Nat) (u2 : RS) (x2 : Int32) (x3 : Int32) (H : Heap) (locs : List Loc) (ls : Array Slot), (∃ i j : Nat, x2 = nI i ∧ x3 = nI j ∧ i ≤ j ∧ j + n = 33 ∧ j ≤ 32) → rl_leave p1 n u2 x2 x3 = T → va_P (dC, dI) vwCl (rW ad cA u2) H → va_D A (rW ad cA u2) → va_S A s.heap H locs → lv_has ls 4 [(0, .ref (ad 0)), (1, .int p1), (2, .int x2), (3, .int x3)] → W p l e (headSpec wsX0_leave ({ frames := 1, cells := 0, slots := 0, locals := 20 } : Room)).room s m ([.ref (ad 0), .int p1] : List Value).toArray below meth c H locs 0 0 Q (F0 m 19 ls []) := by
      intro n
      induction n with
      | zero =>
        intro u2 x2 x3 H locs ls hinv
        exact absurd hinv (by rintro ⟨i, j, -, -, h0, h1, h2⟩; omega)
      | succ n ih =>
        intro u2 x2 x3 H locs ls hinv hf2 hP hD hS hl
        obtain ⟨i, j, hi, hj, hij, hjn, hjl⟩ := hinv
        refine lv_iload_n hx hb dX0_leave_19 rfl (lv_at hl 3 rfl) ?_
        refine lv_aload_n hx hb dX0_leave_20 rfl (lv_at hl 0 rfl) ?_
        refine va_get (D := (dC, dI)) (ci := 0) (v := .int (ra_lineLength u2)) (C := RX0) (T := TX0) (N := 12) (fs := rF ad u2) hx hb hts hin0 hown hK hP 0 rfl rfl 4 (by decide) fl_lineLength (fun _ h9 => h9) rfl dX0_leave_21 ?_
        refine lv_icmp_ge (tgt := 64) hx hb dX0_leave_24 (by decide) (fun c_42 => ?_) (fun c_42 => ?_)
        · refine lv_aload_n hx hb dX0_leave_64 rfl (lv_at hl 0 rfl) ?_
          refine lv_iload_n hx hb dX0_leave_65 rfl (lv_at hl 2 rfl) ?_
          refine va_put (D := (dC, dI)) (ci := 0) (v := .int x2) (ty := .int) (C := RX0) (T := TX0) (N := 12) (fs := rF ad u2) hx hb hts hin0 tyX0 tyX0_ok nmX0 hown hK hP hD hS 0 rfl rfl 4 (by decide) fl_lineLength (fun _ h9 => h9) rfl (by decide +kernel) rfl rfl (Nat.le_of_ble_eq_true rfl) dX0_leave_66 (fun H locs hP hD hS => ?_)
          rw [rw_lineLength] at hP hD
          obtain ⟨u_43, hu_43⟩ : ∃ w : RS, w = rs_lineLength u2 x2 := ⟨_, rfl⟩
          rw [← hu_43] at hP hD
          subst hQ
          have eT : u_43 = T := by subst hr_39 hu_41 hu_43; rw [← hf2]; simp only [rl_leave, if_pos c_42]
          exact W.vret hx hb hr (fun t ht hW => ⟨⟨u_43, rfl, eT, by rw [ht]; exact hP, va_K.moved hW.alike hK, hD⟩, hS.F ht⟩) hS.2.2 dX0_leave_69
        · refine lv_iload_n hx hb dX0_leave_27 rfl (lv_at hl 3 rfl) ?_
          refine lv_bipush (v := 32) hx hb dX0_leave_28 (by decide) ?_
          refine lv_icmp_ge (tgt := 64) hx hb dX0_leave_30 (by decide) (fun c_44 => ?_) (fun c_44 => ?_)
          · refine lv_aload_n hx hb dX0_leave_64 rfl (lv_at hl 0 rfl) ?_
            refine lv_iload_n hx hb dX0_leave_65 rfl (lv_at hl 2 rfl) ?_
            refine va_put (D := (dC, dI)) (ci := 0) (v := .int x2) (ty := .int) (C := RX0) (T := TX0) (N := 12) (fs := rF ad u2) hx hb hts hin0 tyX0 tyX0_ok nmX0 hown hK hP hD hS 0 rfl rfl 4 (by decide) fl_lineLength (fun _ h9 => h9) rfl (by decide +kernel) rfl rfl (Nat.le_of_ble_eq_true rfl) dX0_leave_66 (fun H locs hP hD hS => ?_)
            rw [rw_lineLength] at hP hD
            obtain ⟨u_45, hu_45⟩ : ∃ w : RS, w = rs_lineLength u2 x2 := ⟨_, rfl⟩
            rw [← hu_45] at hP hD
            subst hQ
            have eT : u_45 = T := by subst hr_39 hu_41 hu_45; rw [← hf2]; simp only [rl_leave, if_neg c_42, if_pos c_44]
            exact W.vret hx hb hr (fun t ht hW => ⟨⟨u_45, rfl, eT, by rw [ht]; exact hP, va_K.moved hW.alike hK, hD⟩, hS.F ht⟩) hS.2.2 dX0_leave_69
          · refine lv_aload_n hx hb dX0_leave_33 rfl (lv_at hl 0 rfl) ?_
            refine va_get (D := (dC, dI)) (ci := 0) (v := .ref (ad 4)) (C := RX0) (T := TX0) (N := 12) (fs := rF ad u2) hx hb hts hin0 hown hK hP 0 rfl rfl 3 (by decide) fl_line (fun _ h9 => h9) rfl dX0_leave_34 ?_
            refine lv_iload_n hx hb dX0_leave_37 rfl (lv_at hl 3 rfl) ?_
            refine va_iald hx hb hK hP 4 3 rfl rfl (k_in hj (k_lt 32 hj (by omega) rfl c_44) (by omega)) dX0_leave_38 ?_
            refine lv_iload_n hx hb dX0_leave_39 rfl (lv_at hl 1 rfl) ?_
            refine lv_icmp_eq (tgt := 58) hx hb dX0_leave_40 (by decide) (fun c_46 => ?_) (fun c_46 => ?_)
            · refine lv_iinc (v := x3 + 1) (lv' := [(3, .int (x3 + 1)), (0, .ref (ad 0)), (1, .int p1), (2, .int x2)]) hx hb dX0_leave_58 hl (k := 3) rfl rfl (by decide) rfl (fun ls hl => ?_)
              refine lv_goto (tgt := 19) hx hb dX0_leave_61 (by decide) ?_
              have hj2 := (k_lt 32 hj (by omega) rfl c_44)
              exact ih u2 x2 (x3 + 1) _ _ _ (⟨i, j + 1, hi, by rw [hj, nI_1], by omega, by omega, by omega⟩) (by subst hr_39 hu_41; rw [← hf2]; simp only [rl_leave, if_neg c_42, if_neg c_44, if_pos c_46]) hP hD hS (lv_sub hl [1, 2, 3, 0] rfl)
            · refine lv_aload_n hx hb dX0_leave_43 rfl (lv_at hl 0 rfl) ?_
              refine va_get (D := (dC, dI)) (ci := 0) (v := .ref (ad 4)) (C := RX0) (T := TX0) (N := 12) (fs := rF ad u2) hx hb hts hin0 hown hK hP 0 rfl rfl 3 (by decide) fl_line (fun _ h9 => h9) rfl dX0_leave_44 ?_
              refine lv_iload_n hx hb dX0_leave_47 rfl (lv_at hl 2 rfl) ?_
              refine lv_aload_n hx hb dX0_leave_48 rfl (lv_at hl 0 rfl) ?_
              refine va_get (D := (dC, dI)) (ci := 0) (v := .ref (ad 4)) (C := RX0) (T := TX0) (N := 12) (fs := rF ad u2) hx hb hts hin0 hown hK hP 0 rfl rfl 3 (by decide) fl_line (fun _ h9 => h9) rfl dX0_leave_49 ?_
              refine lv_iload_n hx hb dX0_leave_52 rfl (lv_at hl 3 rfl) ?_
              refine va_iald hx hb hK hP 4 3 rfl rfl (k_in hj (k_lt 32 hj (by omega) rfl c_44) (by omega)) dX0_leave_53 ?_
              refine va_iast hx hb hK hP hD hS 4 3 rfl rfl (k_in hi (Nat.lt_of_le_of_lt hij (k_lt 32 hj (by omega) rfl c_44)) (by omega)) dX0_leave_54 (fun H locs hP hD hS => ?_)
              rw [rw_line] at hP hD
              obtain ⟨u_47, hu_47⟩ : ∃ w : RS, w = rs_line u2 (upd (ra_line u2) x2.toNatClampNeg (ra_line u2 x3.toNatClampNeg)) := ⟨_, rfl⟩
              rw [← hu_47] at hP hD
              refine lv_iinc (v := x2 + 1) (lv' := [(2, .int (x2 + 1)), (0, .ref (ad 0)), (1, .int p1), (3, .int x3)]) hx hb dX0_leave_55 hl (k := 2) rfl rfl (by decide) rfl (fun ls hl => ?_)
              refine lv_iinc (v := x3 + 1) (lv' := [(3, .int (x3 + 1)), (2, .int (x2 + 1)), (0, .ref (ad 0)), (1, .int p1)]) hx hb dX0_leave_58 hl (k := 3) rfl rfl (by decide) rfl (fun ls hl => ?_)
              refine lv_goto (tgt := 19) hx hb dX0_leave_61 (by decide) ?_
              have hj2 := (k_lt 32 hj (by omega) rfl c_44)
              exact ih u_47 (x2 + 1) (x3 + 1) _ _ _ (⟨i + 1, j + 1, by rw [hi, nI_1], by rw [hj, nI_1], by omega, by omega, by omega⟩) (by subst hr_39 hu_41 hu_47; rw [← hf2]; simp only [rl_leave, if_neg c_42, if_neg c_44, if_neg c_46]) hP hD hS (lv_sub hl [2, 3, 1, 0] rfl)
    exact key 33 u_41 0 0 _ _ _ (⟨0, 0, nI_0.symm, nI_0.symm, by omega, rfl, by omega⟩) (by subst hr_39 hu_41; rw [← hf]; simp only [rf_leave, if_neg c_40]) hP hD hS (lv_sub hl [2, 3, 1, 0] rfl)
  · have eT : u = T := by subst hr_39; rw [← hf]; simp only [rf_leave, if_pos c_40]
    exact W.vret hx hb hr (fun t ht hW => ⟨⟨u, rfl, eT, by rw [ht]; exact hP, va_K.moved hW.alike hK, hD⟩, hS.F ht⟩) hS.2.2 dX0_leave_7
set_option maxHeartbeats 4000000 in
set_option maxRecDepth 100000 in
theorem rc_wake (l : Launch) (dC : Nat → ClassId) (dI : Nat → Nat → Nat) (ad : Nat → Nat) (cA : Nat → ClassId) (sz : Nat) (u : RS) (p1 : Int32) (hI : rInv u) (T : RS) (hf : rf_wake u p1 = T) : Met l yX0_wake wsX0_wake ({ frames := 3, cells := 0, slots := 0, locals := 62 } : Room) (va_Pc [.ref (ad 0), .int p1] (fun U => U.heap.size = sz ∧ va_P (dC, dI) vwCl (rW ad cA u) U.heap ∧ va_K (dC, dI) vwCl (rT cA) U ∧ va_D (fun _ => True) (rW ad cA u))) (va_Qv (fun u2 => u2 = T) (rAt dC dI (va_A (rW ad cA u) sz) ad cA) (va_A (rW ad cA u) sz)) 0 0 (va_A (rW ad cA u) sz) := by
  refine Met.ofW (cc := cX0_wake) (maxL := 3) (ret := none) (by decide) rfl ?_
  intro p e s m args below meth c s₁ B hml hv
  obtain ⟨rfl, hsz, hP, hK, hD0⟩ := hv
  have hx := B.exec
  have hb := B.bytes
  have hr := B.returns
  have hts := atoms_spec (ws := wsX0_wake) B.pre
  have hown : s.vm.findClass RX0 = some m.cls := findClass_of_methodNamed B.named
  have hlocks := B.notSynchronized
  subst hsz
  have hD := hD0.self (sz := s.heap.size)
  generalize hAe : va_A (rW ad cA u) s.heap.size = A at hD ⊢
  have hA : ∀ q : Nat, s.heap.size ≤ q → A q := fun q h => by rw [← hAe]; exact Or.inr h
  have hS : va_S A s.heap s.heap [] := va_S.rf
  have hl := lv_entry ([.ref (ad 0), .int p1]) (n := 3) (Nat.le_of_ble_eq_true rfl)
  rw [lg_entry_eq]
  generalize (lg_sl ([.ref (ad 0), .int p1]) ++ List.replicate (3 - (lg_sl ([.ref (ad 0), .int p1])).length) Slot.unset).toArray = ls at hl ⊢
  have hl : lv_has ls 3 [(0, .ref (ad 0)), (1, .int p1)] := hl
  refine lv_aload_n hx hb dX0_wake_0 rfl (lv_at hl 0 rfl) ?_
  refine va_calli (va_runV (As := []) (rest := []) ⟨hx, hb, hml, hown, hts⟩ (rc_present l dC dI ad cA u _ rfl) (cwV 0 hts gX0_wake_X0_present rfl rfl rfl (by decide +kernel) ⟨Nat.le_of_ble_eq_true rfl, Nat.le_of_ble_eq_true rfl⟩) ⟨fun a U g mk q => by obtain ⟨q0, qP, qK⟩ := q; exact ⟨q0, qP, va_K.moved (u := U) (U := U.calling g mk a) (Vm.Alike.refl U.vm) qK⟩, va_recv hK hP (ci := 0) (q0 := 0) rfl rfl, fun U hU hW => ⟨rfl, by rw [hU]; exact hP, va_K.moved hW.alike hK⟩⟩ rfl rfl hl.1 rfl (lv_room (Nat.le_of_ble_eq_true rfl)) dX0_wake_1 ⟨Nat.le_of_ble_eq_true rfl, Nat.le_of_ble_eq_true rfl⟩) hS (fun _ _ h => h.elim) (fun _ h => h.elim) (fun r_48 u_ t H1 locs ht hvm hr_48 hB hz1 hk1 hS => ?_)
  have hP := hP.kept (fun k x hx => hk1 x.1 ((hP k x hx).lt) (fun h => h))
  generalize H1 = H at hP hS ⊢
  refine lv_istore_n (lv' := [(2, .int r_48), (0, .ref (ad 0)), (1, .int p1)]) hx hb dX0_wake_4 rfl hl (by decide) rfl (fun ls hl => ?_)
  refine lv_iload_n hx hb dX0_wake_5 rfl (lv_at hl 0 rfl) ?_
  refine lv_iconst (v := (-1)) hx hb dX0_wake_6 (by decide) ?_
  refine lv_icmp_eq (tgt := 34) hx hb dX0_wake_7 (by decide) (fun c_49 => ?_) (fun c_49 => ?_)
  · refine lv_iload_n hx hb dX0_wake_34 rfl (lv_at hl 0 rfl) ?_
    refine lv_iconst (v := (-1)) hx hb dX0_wake_35 (by decide) ?_
    refine lv_icmp_eq (tgt := 49) hx hb dX0_wake_36 (by decide) (fun c_50 => ?_) (fun c_50 => ?_)
    · refine lv_aload_n hx hb dX0_wake_49 rfl (lv_at hl 1 rfl) ?_
      refine lv_iload_n hx hb dX0_wake_50 rfl (lv_at hl 2 rfl) ?_
      have hFc := va_free (wc := (rW ad cA u)) hD hS hA [0, 1, 2, 3, 4, 5, 6] rfl
      refine va_callv (va_runV (As := [.int p1]) (rest := []) ⟨hx, hb, hml, hown, hts⟩ (rc_want l dC dI ad cA _ u p1 _ rfl) (cwV 1 hts gX0_wake_X0_want rfl rfl rfl (by decide +kernel) ⟨Nat.le_of_ble_eq_true rfl, Nat.le_of_ble_eq_true rfl⟩) ⟨fun a U g mk q => by obtain ⟨q0, q1, qP, qK, qD⟩ := q; exact ⟨q0, q1, qP, va_K.moved (u := U) (U := U.calling g mk a) (Vm.Alike.refl U.vm) qK, qD⟩, va_recv hK hP (ci := 0) (q0 := 0) rfl rfl, fun U hU hW => ⟨rfl, by rw [hU], by rw [hU]; exact hP, va_K.moved hW.alike hK, hD.weaken (fun _ _ _ _ => trivial)⟩⟩ rfl rfl hl.1 rfl (lv_room (Nat.le_of_ble_eq_true rfl)) dX0_wake_51 ⟨Nat.le_of_ble_eq_true rfl, Nat.le_of_ble_eq_true rfl⟩) hS (fun q _ h => hFc q h) hFc (fun u_52 t H1 locs ht hvm hu_52 hB hz1 hk1 hS => ?_)
      obtain ⟨hP, hK1, hD1⟩ := hB
      rw [ht] at hP
      have hD := hD1.weaken (fun _ _ _ h => hFc _ h)
      generalize H1 = H at hP hS ⊢
      have hP : va_P (dC, dI) vwCl (rW ad cA u_52) H := hP
      have hD : va_D A (rW ad cA u_52) := hD
      have eT : u_52 = T := by subst hr_48 hu_52; rw [← hf]; simp only [rf_wake, if_pos c_49]
      exact W.vret hx hb hr (fun t ht hW => ⟨⟨u_52, rfl, eT, by rw [ht]; exact hP, va_K.moved hW.alike hK, hD⟩, hS.F ht⟩) hS.2.2 dX0_wake_54
    · exact absurd c_49 c_50
  · refine lv_aload_n hx hb dX0_wake_10 rfl (lv_at hl 1 rfl) ?_
    refine lv_iload_n hx hb dX0_wake_11 rfl (lv_at hl 0 rfl) ?_
    refine va_calli (va_runV (As := [.int r_48]) (rest := []) ⟨hx, hb, hml, hown, hts⟩ (rc_priority l dC dI ad cA u r_48 _ rfl) (cwV 1 hts gX0_wake_X0_priority rfl rfl rfl (by decide +kernel) ⟨Nat.le_of_ble_eq_true rfl, Nat.le_of_ble_eq_true rfl⟩) ⟨fun a U g mk q => by obtain ⟨q0, qP, qK⟩ := q; exact ⟨q0, qP, va_K.moved (u := U) (U := U.calling g mk a) (Vm.Alike.refl U.vm) qK⟩, va_recv hK hP (ci := 0) (q0 := 0) rfl rfl, fun U hU hW => ⟨rfl, by rw [hU]; exact hP, va_K.moved hW.alike hK⟩⟩ rfl rfl hl.1 rfl (lv_room (Nat.le_of_ble_eq_true rfl)) dX0_wake_12 ⟨Nat.le_of_ble_eq_true rfl, Nat.le_of_ble_eq_true rfl⟩) hS (fun _ _ h => h.elim) (fun _ h => h.elim) (fun r_53 u_ t H1 locs ht hvm hr_53 hB hz1 hk1 hS => ?_)
    have hP := hP.kept (fun k x hx => hk1 x.1 ((hP k x hx).lt) (fun h => h))
    generalize H1 = H at hP hS ⊢
    refine lv_aload_n hx hb dX0_wake_15 rfl (lv_at hl 1 rfl) ?_
    refine lv_iload_n hx hb dX0_wake_16 rfl (lv_at hl 2 rfl) ?_
    refine va_calli (va_runV (As := [.int p1]) (rest := [.int r_53]) ⟨hx, hb, hml, hown, hts⟩ (rc_priority l dC dI ad cA u p1 _ rfl) (cwV 1 hts gX0_wake_X0_priority rfl rfl rfl (by decide +kernel) ⟨Nat.le_of_ble_eq_true rfl, Nat.le_of_ble_eq_true rfl⟩) ⟨fun a U g mk q => by obtain ⟨q0, qP, qK⟩ := q; exact ⟨q0, qP, va_K.moved (u := U) (U := U.calling g mk a) (Vm.Alike.refl U.vm) qK⟩, va_recv hK hP (ci := 0) (q0 := 0) rfl rfl, fun U hU hW => ⟨rfl, by rw [hU]; exact hP, va_K.moved hW.alike hK⟩⟩ rfl rfl hl.1 rfl (lv_room (Nat.le_of_ble_eq_true rfl)) dX0_wake_17 ⟨Nat.le_of_ble_eq_true rfl, Nat.le_of_ble_eq_true rfl⟩) hS (fun _ _ h => h.elim) (fun _ h => h.elim) (fun r_54 u_ t H1 locs ht hvm hr_54 hB hz1 hk1 hS => ?_)
    have hP := hP.kept (fun k x hx => hk1 x.1 ((hP k x hx).lt) (fun h => h))
    generalize H1 = H at hP hS ⊢
    refine lv_icmp_lt (tgt := 34) hx hb dX0_wake_20 (by decide) (fun c_55 => ?_) (fun c_55 => ?_)
    · refine lv_iload_n hx hb dX0_wake_34 rfl (lv_at hl 0 rfl) ?_
      refine lv_iconst (v := (-1)) hx hb dX0_wake_35 (by decide) ?_
      refine lv_icmp_eq (tgt := 49) hx hb dX0_wake_36 (by decide) (fun c_56 => ?_) (fun c_56 => ?_)
      · exact absurd c_56 c_49
      · refine lv_aload_n hx hb dX0_wake_39 rfl (lv_at hl 1 rfl) ?_
        refine lv_iload_n hx hb dX0_wake_40 rfl (lv_at hl 0 rfl) ?_
        refine lv_aload_n hx hb dX0_wake_41 rfl (lv_at hl 1 rfl) ?_
        refine lv_iload_n hx hb dX0_wake_42 rfl (lv_at hl 0 rfl) ?_
        refine va_calli (va_runV (As := [.int r_48]) (rest := [.int r_48, .ref (ad 0)]) ⟨hx, hb, hml, hown, hts⟩ (rc_priority l dC dI ad cA u r_48 _ rfl) (cwV 1 hts gX0_wake_X0_priority rfl rfl rfl (by decide +kernel) ⟨Nat.le_of_ble_eq_true rfl, Nat.le_of_ble_eq_true rfl⟩) ⟨fun a U g mk q => by obtain ⟨q0, qP, qK⟩ := q; exact ⟨q0, qP, va_K.moved (u := U) (U := U.calling g mk a) (Vm.Alike.refl U.vm) qK⟩, va_recv hK hP (ci := 0) (q0 := 0) rfl rfl, fun U hU hW => ⟨rfl, by rw [hU]; exact hP, va_K.moved hW.alike hK⟩⟩ rfl rfl hl.1 rfl (lv_room (Nat.le_of_ble_eq_true rfl)) dX0_wake_43 ⟨Nat.le_of_ble_eq_true rfl, Nat.le_of_ble_eq_true rfl⟩) hS (fun _ _ h => h.elim) (fun _ h => h.elim) (fun r_57 u_ t H1 locs ht hvm hr_57 hB hz1 hk1 hS => ?_)
        have hP := hP.kept (fun k x hx => hk1 x.1 ((hP k x hx).lt) (fun h => h))
        generalize H1 = H at hP hS ⊢
        have hFc := va_free (wc := (rW ad cA u)) hD hS hA [0, 1, 2, 3, 4, 5, 6] rfl
        refine va_callv (va_runV (As := [.int r_48, .int r_57]) (rest := []) ⟨hx, hb, hml, hown, hts⟩ (rc_enter l dC dI ad cA _ u r_48 r_57 hI _ rfl) (cwV 2 hts gX0_wake_X0_enter rfl rfl rfl (by decide +kernel) ⟨Nat.le_of_ble_eq_true rfl, Nat.le_of_ble_eq_true rfl⟩) ⟨fun a U g mk q => by obtain ⟨q0, q1, qP, qK, qD⟩ := q; exact ⟨q0, q1, qP, va_K.moved (u := U) (U := U.calling g mk a) (Vm.Alike.refl U.vm) qK, qD⟩, va_recv hK hP (ci := 0) (q0 := 0) rfl rfl, fun U hU hW => ⟨rfl, by rw [hU], by rw [hU]; exact hP, va_K.moved hW.alike hK, hD.weaken (fun _ _ _ _ => trivial)⟩⟩ rfl rfl hl.1 rfl (lv_room (Nat.le_of_ble_eq_true rfl)) dX0_wake_46 ⟨Nat.le_of_ble_eq_true rfl, Nat.le_of_ble_eq_true rfl⟩) hS (fun q _ h => hFc q h) hFc (fun u_59 t H1 locs ht hvm hu_59 hB hz1 hk1 hS => ?_)
        obtain ⟨hP, hK1, hD1⟩ := hB
        rw [ht] at hP
        have hD := hD1.weaken (fun _ _ _ h => hFc _ h)
        generalize H1 = H at hP hS ⊢
        have hP : va_P (dC, dI) vwCl (rW ad cA u_59) H := hP
        have hD : va_D A (rW ad cA u_59) := hD
        refine lv_aload_n hx hb dX0_wake_49 rfl (lv_at hl 1 rfl) ?_
        refine lv_iload_n hx hb dX0_wake_50 rfl (lv_at hl 2 rfl) ?_
        have hFc := va_free (wc := (rW ad cA u_59)) hD hS hA [0, 1, 2, 3, 4, 5, 6] rfl
        refine va_callv (va_runV (As := [.int p1]) (rest := []) ⟨hx, hb, hml, hown, hts⟩ (rc_want l dC dI ad cA _ u_59 p1 _ rfl) (cwV 1 hts gX0_wake_X0_want rfl rfl rfl (by decide +kernel) ⟨Nat.le_of_ble_eq_true rfl, Nat.le_of_ble_eq_true rfl⟩) ⟨fun a U g mk q => by obtain ⟨q0, q1, qP, qK, qD⟩ := q; exact ⟨q0, q1, qP, va_K.moved (u := U) (U := U.calling g mk a) (Vm.Alike.refl U.vm) qK, qD⟩, va_recv hK hP (ci := 0) (q0 := 0) rfl rfl, fun U hU hW => ⟨rfl, by rw [hU], by rw [hU]; exact hP, va_K.moved hW.alike hK, hD.weaken (fun _ _ _ _ => trivial)⟩⟩ rfl rfl hl.1 rfl (lv_room (Nat.le_of_ble_eq_true rfl)) dX0_wake_51 ⟨Nat.le_of_ble_eq_true rfl, Nat.le_of_ble_eq_true rfl⟩) hS (fun q _ h => hFc q h) hFc (fun u_61 t H1 locs ht hvm hu_61 hB hz1 hk1 hS => ?_)
        obtain ⟨hP, hK1, hD1⟩ := hB
        rw [ht] at hP
        have hD := hD1.weaken (fun _ _ _ h => hFc _ h)
        generalize H1 = H at hP hS ⊢
        have hP : va_P (dC, dI) vwCl (rW ad cA u_61) H := hP
        have hD : va_D A (rW ad cA u_61) := hD
        have eT : u_61 = T := by subst hr_48 hr_53 hr_54 hr_57 hu_59 hu_61; rw [← hf]; simp only [rf_wake, if_neg c_49, if_pos c_55]
        exact W.vret hx hb hr (fun t ht hW => ⟨⟨u_61, rfl, eT, by rw [ht]; exact hP, va_K.moved hW.alike hK, hD⟩, hS.F ht⟩) hS.2.2 dX0_wake_54
    · refine lv_aload_n hx hb dX0_wake_23 rfl (lv_at hl 1 rfl) ?_
      refine lv_iload_n hx hb dX0_wake_24 rfl (lv_at hl 2 rfl) ?_
      refine lv_aload_n hx hb dX0_wake_25 rfl (lv_at hl 1 rfl) ?_
      refine lv_iload_n hx hb dX0_wake_26 rfl (lv_at hl 2 rfl) ?_
      refine va_calli (va_runV (As := [.int p1]) (rest := [.int p1, .ref (ad 0)]) ⟨hx, hb, hml, hown, hts⟩ (rc_priority l dC dI ad cA u p1 _ rfl) (cwV 1 hts gX0_wake_X0_priority rfl rfl rfl (by decide +kernel) ⟨Nat.le_of_ble_eq_true rfl, Nat.le_of_ble_eq_true rfl⟩) ⟨fun a U g mk q => by obtain ⟨q0, qP, qK⟩ := q; exact ⟨q0, qP, va_K.moved (u := U) (U := U.calling g mk a) (Vm.Alike.refl U.vm) qK⟩, va_recv hK hP (ci := 0) (q0 := 0) rfl rfl, fun U hU hW => ⟨rfl, by rw [hU]; exact hP, va_K.moved hW.alike hK⟩⟩ rfl rfl hl.1 rfl (lv_room (Nat.le_of_ble_eq_true rfl)) dX0_wake_27 ⟨Nat.le_of_ble_eq_true rfl, Nat.le_of_ble_eq_true rfl⟩) hS (fun _ _ h => h.elim) (fun _ h => h.elim) (fun r_62 u_ t H1 locs ht hvm hr_62 hB hz1 hk1 hS => ?_)
      have hP := hP.kept (fun k x hx => hk1 x.1 ((hP k x hx).lt) (fun h => h))
      generalize H1 = H at hP hS ⊢
      have hFc := va_free (wc := (rW ad cA u)) hD hS hA [0, 1, 2, 3, 4, 5, 6] rfl
      refine va_callv (va_runV (As := [.int p1, .int r_62]) (rest := []) ⟨hx, hb, hml, hown, hts⟩ (rc_enter l dC dI ad cA _ u p1 r_62 hI _ rfl) (cwV 2 hts gX0_wake_X0_enter rfl rfl rfl (by decide +kernel) ⟨Nat.le_of_ble_eq_true rfl, Nat.le_of_ble_eq_true rfl⟩) ⟨fun a U g mk q => by obtain ⟨q0, q1, qP, qK, qD⟩ := q; exact ⟨q0, q1, qP, va_K.moved (u := U) (U := U.calling g mk a) (Vm.Alike.refl U.vm) qK, qD⟩, va_recv hK hP (ci := 0) (q0 := 0) rfl rfl, fun U hU hW => ⟨rfl, by rw [hU], by rw [hU]; exact hP, va_K.moved hW.alike hK, hD.weaken (fun _ _ _ _ => trivial)⟩⟩ rfl rfl hl.1 rfl (lv_room (Nat.le_of_ble_eq_true rfl)) dX0_wake_30 ⟨Nat.le_of_ble_eq_true rfl, Nat.le_of_ble_eq_true rfl⟩) hS (fun q _ h => hFc q h) hFc (fun u_64 t H1 locs ht hvm hu_64 hB hz1 hk1 hS => ?_)
      obtain ⟨hP, hK1, hD1⟩ := hB
      rw [ht] at hP
      have hD := hD1.weaken (fun _ _ _ h => hFc _ h)
      generalize H1 = H at hP hS ⊢
      have hP : va_P (dC, dI) vwCl (rW ad cA u_64) H := hP
      have hD : va_D A (rW ad cA u_64) := hD
      have eT : u_64 = T := by subst hr_48 hr_53 hr_54 hr_62 hu_64; rw [← hf]; simp only [rf_wake, if_neg c_49, if_neg c_55]
      exact W.vret hx hb hr (fun t ht hW => ⟨⟨u_64, rfl, eT, by rw [ht]; exact hP, va_K.moved hW.alike hK, hD⟩, hS.F ht⟩) hS.2.2 dX0_wake_33
set_option maxHeartbeats 4000000 in
set_option maxRecDepth 100000 in
theorem rc_putAside (l : Launch) (dC : Nat → ClassId) (dI : Nat → Nat → Nat) (ad : Nat → Nat) (cA : Nat → ClassId) (sz : Nat) (u : RS)  (T : RS) (hf : rf_putAside u = T) : Met l yX0_putAside wsX0_putAside ({ frames := 3, cells := 0, slots := 0, locals := 67 } : Room) (va_Pc [.ref (ad 0)] (fun U => U.heap.size = sz ∧ va_P (dC, dI) vwCl (rW ad cA u) U.heap ∧ va_K (dC, dI) vwCl (rT cA) U ∧ va_D (fun _ => True) (rW ad cA u))) (va_Qv (fun u2 => u2 = T) (rAt dC dI (va_A (rW ad cA u) sz) ad cA) (va_A (rW ad cA u) sz)) 0 0 (va_A (rW ad cA u) sz) := by
  refine Met.ofW (cc := cX0_putAside) (maxL := 2) (ret := none) (by decide) rfl ?_
  intro p e s m args below meth c s₁ B hml hv
  obtain ⟨rfl, hsz, hP, hK, hD0⟩ := hv
  have hx := B.exec
  have hb := B.bytes
  have hr := B.returns
  have hts := atoms_spec (ws := wsX0_putAside) B.pre
  have hown : s.vm.findClass RX0 = some m.cls := findClass_of_methodNamed B.named
  have hlocks := B.notSynchronized
  subst hsz
  have hD := hD0.self (sz := s.heap.size)
  generalize hAe : va_A (rW ad cA u) s.heap.size = A at hD ⊢
  have hA : ∀ q : Nat, s.heap.size ≤ q → A q := fun q h => by rw [← hAe]; exact Or.inr h
  have hS : va_S A s.heap s.heap [] := va_S.rf
  have hl := lv_entry ([.ref (ad 0)]) (n := 2) (Nat.le_of_ble_eq_true rfl)
  rw [lg_entry_eq]
  generalize (lg_sl ([.ref (ad 0)]) ++ List.replicate (2 - (lg_sl ([.ref (ad 0)])).length) Slot.unset).toArray = ls at hl ⊢
  have hl : lv_has ls 2 [(0, .ref (ad 0))] := hl
  refine lv_aload_n hx hb dX0_putAside_0 rfl (lv_at hl 0 rfl) ?_
  refine va_calli (va_runV (As := []) (rest := []) ⟨hx, hb, hml, hown, hts⟩ (rc_firstReady l dC dI ad cA u _ rfl) (cwV 0 hts gX0_putAside_X0_firstReady rfl rfl rfl (by decide +kernel) ⟨Nat.le_of_ble_eq_true rfl, Nat.le_of_ble_eq_true rfl⟩) ⟨fun a U g mk q => by obtain ⟨q0, qP, qK⟩ := q; exact ⟨q0, qP, va_K.moved (u := U) (U := U.calling g mk a) (Vm.Alike.refl U.vm) qK⟩, va_recv hK hP (ci := 0) (q0 := 0) rfl rfl, fun U hU hW => ⟨rfl, by rw [hU]; exact hP, va_K.moved hW.alike hK⟩⟩ rfl rfl hl.1 rfl (lv_room (Nat.le_of_ble_eq_true rfl)) dX0_putAside_1 ⟨Nat.le_of_ble_eq_true rfl, Nat.le_of_ble_eq_true rfl⟩) hS (fun _ _ h => h.elim) (fun _ h => h.elim) (fun r_65 u_ t H1 locs ht hvm hr_65 hB hz1 hk1 hS => ?_)
  have hP := hP.kept (fun k x hx => hk1 x.1 ((hP k x hx).lt) (fun h => h))
  generalize H1 = H at hP hS ⊢
  refine lv_istore_n (lv' := [(1, .int r_65), (0, .ref (ad 0))]) hx hb dX0_putAside_4 rfl hl (by decide) rfl (fun ls hl => ?_)
  refine lv_aload_n hx hb dX0_putAside_5 rfl (lv_at hl 1 rfl) ?_
  refine lv_iload_n hx hb dX0_putAside_6 rfl (lv_at hl 0 rfl) ?_
  have hFc := va_free (wc := (rW ad cA u)) hD hS hA [0, 1, 2, 3, 4, 5, 6] rfl
  refine va_callv (va_runV (As := [.int r_65]) (rest := []) ⟨hx, hb, hml, hown, hts⟩ (rc_leave l dC dI ad cA _ u r_65 _ rfl) (cwV 1 hts gX0_putAside_X0_leave rfl rfl rfl (by decide +kernel) ⟨Nat.le_of_ble_eq_true rfl, Nat.le_of_ble_eq_true rfl⟩) ⟨fun a U g mk q => by obtain ⟨q0, q1, qP, qK, qD⟩ := q; exact ⟨q0, q1, qP, va_K.moved (u := U) (U := U.calling g mk a) (Vm.Alike.refl U.vm) qK, qD⟩, va_recv hK hP (ci := 0) (q0 := 0) rfl rfl, fun U hU hW => ⟨rfl, by rw [hU], by rw [hU]; exact hP, va_K.moved hW.alike hK, hD.weaken (fun _ _ _ _ => trivial)⟩⟩ rfl rfl hl.1 rfl (lv_room (Nat.le_of_ble_eq_true rfl)) dX0_putAside_7 ⟨Nat.le_of_ble_eq_true rfl, Nat.le_of_ble_eq_true rfl⟩) hS (fun q _ h => hFc q h) hFc (fun u_67 t H1 locs ht hvm hu_67 hB hz1 hk1 hS => ?_)
  obtain ⟨hP, hK1, hD1⟩ := hB
  rw [ht] at hP
  have hD := hD1.weaken (fun _ _ _ h => hFc _ h)
  generalize H1 = H at hP hS ⊢
  have hP : va_P (dC, dI) vwCl (rW ad cA u_67) H := hP
  have hD : va_D A (rW ad cA u_67) := hD
  refine lv_aload_n hx hb dX0_putAside_10 rfl (lv_at hl 1 rfl) ?_
  refine lv_iload_n hx hb dX0_putAside_11 rfl (lv_at hl 0 rfl) ?_
  have hFc := va_free (wc := (rW ad cA u_67)) hD hS hA [0, 1, 2, 3, 4, 5, 6] rfl
  refine va_callv (va_runV (As := [.int r_65]) (rest := []) ⟨hx, hb, hml, hown, hts⟩ (rc_want l dC dI ad cA _ u_67 r_65 _ rfl) (cwV 1 hts gX0_putAside_X0_want rfl rfl rfl (by decide +kernel) ⟨Nat.le_of_ble_eq_true rfl, Nat.le_of_ble_eq_true rfl⟩) ⟨fun a U g mk q => by obtain ⟨q0, q1, qP, qK, qD⟩ := q; exact ⟨q0, q1, qP, va_K.moved (u := U) (U := U.calling g mk a) (Vm.Alike.refl U.vm) qK, qD⟩, va_recv hK hP (ci := 0) (q0 := 0) rfl rfl, fun U hU hW => ⟨rfl, by rw [hU], by rw [hU]; exact hP, va_K.moved hW.alike hK, hD.weaken (fun _ _ _ _ => trivial)⟩⟩ rfl rfl hl.1 rfl (lv_room (Nat.le_of_ble_eq_true rfl)) dX0_putAside_12 ⟨Nat.le_of_ble_eq_true rfl, Nat.le_of_ble_eq_true rfl⟩) hS (fun q _ h => hFc q h) hFc (fun u_69 t H1 locs ht hvm hu_69 hB hz1 hk1 hS => ?_)
  obtain ⟨hP, hK1, hD1⟩ := hB
  rw [ht] at hP
  have hD := hD1.weaken (fun _ _ _ h => hFc _ h)
  generalize H1 = H at hP hS ⊢
  have hP : va_P (dC, dI) vwCl (rW ad cA u_69) H := hP
  have hD : va_D A (rW ad cA u_69) := hD
  have eT : u_69 = T := by subst hr_65 hu_67 hu_69; rw [← hf]; simp only [rf_putAside]
  exact W.vret hx hb hr (fun t ht hW => ⟨⟨u_69, rfl, eT, by rw [ht]; exact hP, va_K.moved hW.alike hK, hD⟩, hS.F ht⟩) hS.2.2 dX0_putAside_15
set_option maxHeartbeats 4000000 in
set_option maxRecDepth 100000 in
theorem rc_signal (l : Launch) (dC : Nat → ClassId) (dI : Nat → Nat → Nat) (ad : Nat → Nat) (cA : Nat → ClassId) (sz : Nat) (u : RS) (p1 : Int32) (hI : rInv u) (T : Int32 × RS) (hf : rf_signal u p1 = T) : Met l yX0_signal wsX0_signal ({ frames := 4, cells := 0, slots := 0, locals := 84 } : Room) (va_Pc [.ref (ad 0), .int p1] (fun U => U.heap.size = sz ∧ va_P (dC, dI) vwCl (rW ad cA u) U.heap ∧ va_K (dC, dI) vwCl (rT cA) U ∧ va_D (fun _ => True) (rW ad cA u))) (va_Qi (fun r u2 => r = T.1 ∧ u2 = T.2) (rAt dC dI (va_A (rW ad cA u) sz) ad cA) (va_A (rW ad cA u) sz)) 0 0 (va_A (rW ad cA u) sz) := by
  refine Met.ofW (cc := cX0_signal) (maxL := 3) (ret := (some .boolean)) (by decide) rfl ?_
  intro p e s m args below meth c s₁ B hml hv
  obtain ⟨rfl, hsz, hP, hK, hD0⟩ := hv
  have hx := B.exec
  have hb := B.bytes
  have hr := B.returns
  have hts := atoms_spec (ws := wsX0_signal) B.pre
  have hown : s.vm.findClass RX0 = some m.cls := findClass_of_methodNamed B.named
  have hlocks := B.notSynchronized
  have hin0 : ∀ w ∈ wsX00, w ∈ wsX0_signal := by decide +kernel
  have fl_extras := hts (.fieldLink RX0 26 "ProcessRoom" "extras" "[I") (by decide +kernel)
  subst hsz
  have hD := hD0.self (sz := s.heap.size)
  generalize hAe : va_A (rW ad cA u) s.heap.size = A at hD ⊢
  have hA : ∀ q : Nat, s.heap.size ≤ q → A q := fun q h => by rw [← hAe]; exact Or.inr h
  have hS : va_S A s.heap s.heap [] := va_S.rf
  have hl := lv_entry ([.ref (ad 0), .int p1]) (n := 3) (Nat.le_of_ble_eq_true rfl)
  rw [lg_entry_eq]
  generalize (lg_sl ([.ref (ad 0), .int p1]) ++ List.replicate (3 - (lg_sl ([.ref (ad 0), .int p1])).length) Slot.unset).toArray = ls at hl ⊢
  have hl : lv_has ls 3 [(0, .ref (ad 0)), (1, .int p1)] := hl
  refine lv_iload_n hx hb dX0_signal_0 rfl (lv_at hl 1 rfl) ?_
  refine va_calli (va_runS (As := [.int p1]) (rest := []) ⟨hx, hb, hml, hown, hts⟩ (rc_isSemaphore l p1 _ rfl) (va_cwS 1 hts gX0_signal_X0_isSemaphore rfl rfl rfl (by decide +kernel) ⟨Nat.le_of_ble_eq_true rfl, Nat.le_of_ble_eq_true rfl⟩) ⟨fun a U g mk q => ⟨q.1, trivial⟩, fun U hU hW => ⟨rfl, trivial⟩⟩ rfl rfl hl.1 rfl (lv_room (Nat.le_of_ble_eq_true rfl)) dX0_signal_1 ⟨Nat.le_of_ble_eq_true rfl, Nat.le_of_ble_eq_true rfl⟩) hS (fun _ _ h => h.elim) (fun _ h => h.elim) (fun r_70 u_ t H1 locs ht hvm hr_70 hB hz1 hk1 hS => ?_)
  have hP := hP.kept (fun k x hx => hk1 x.1 ((hP k x hx).lt) (fun h => h))
  generalize H1 = H at hP hS ⊢
  refine lv_if_ne (tgt := 9) hx hb dX0_signal_4 (by decide) (fun c_71 => ?_) (fun c_71 => ?_)
  · refine lv_aload_n hx hb dX0_signal_9 rfl (lv_at hl 0 rfl) ?_
    refine lv_bipush (v := 16) hx hb dX0_signal_10 (by decide) ?_
    refine lv_iload_n hx hb dX0_signal_12 rfl (lv_at hl 1 rfl) ?_
    refine lv_iadd hx hb dX0_signal_13 ?_
    refine lv_iconst (v := 0) hx hb dX0_signal_14 (by decide) ?_
    refine va_calli (va_runV (As := [.int (16 + p1), .int 0]) (rest := []) ⟨hx, hb, hml, hown, hts⟩ (rc_at l dC dI ad cA u (16 + p1) 0 _ rfl) (cwV 2 hts gX0_signal_X0_at rfl rfl rfl (by decide +kernel) ⟨Nat.le_of_ble_eq_true rfl, Nat.le_of_ble_eq_true rfl⟩) ⟨fun a U g mk q => by obtain ⟨q0, qP, qK⟩ := q; exact ⟨q0, qP, va_K.moved (u := U) (U := U.calling g mk a) (Vm.Alike.refl U.vm) qK⟩, va_recv hK hP (ci := 0) (q0 := 0) rfl rfl, fun U hU hW => ⟨rfl, by rw [hU]; exact hP, va_K.moved hW.alike hK⟩⟩ rfl rfl hl.1 rfl (lv_room (Nat.le_of_ble_eq_true rfl)) dX0_signal_15 ⟨Nat.le_of_ble_eq_true rfl, Nat.le_of_ble_eq_true rfl⟩) hS (fun _ _ h => h.elim) (fun _ h => h.elim) (fun r_72 u_ t H1 locs ht hvm hr_72 hB hz1 hk1 hS => ?_)
    have hP := hP.kept (fun k x hx => hk1 x.1 ((hP k x hx).lt) (fun h => h))
    generalize H1 = H at hP hS ⊢
    refine lv_istore_n (lv' := [(2, .int r_72), (0, .ref (ad 0)), (1, .int p1)]) hx hb dX0_signal_18 rfl hl (by decide) rfl (fun ls hl => ?_)
    refine lv_iload_n hx hb dX0_signal_19 rfl (lv_at hl 0 rfl) ?_
    refine lv_iconst (v := (-1)) hx hb dX0_signal_20 (by decide) ?_
    refine lv_icmp_ne (tgt := 37) hx hb dX0_signal_21 (by decide) (fun c_73 => ?_) (fun c_73 => ?_)
    · refine lv_aload_n hx hb dX0_signal_37 rfl (lv_at hl 1 rfl) ?_
      refine lv_iload_n hx hb dX0_signal_38 rfl (lv_at hl 0 rfl) ?_
      have hFc := va_free (wc := (rW ad cA u)) hD hS hA [0, 1, 2, 3, 4, 5, 6] rfl
      refine va_callv (va_runV (As := [.int r_72]) (rest := []) ⟨hx, hb, hml, hown, hts⟩ (rc_leave l dC dI ad cA _ u r_72 _ rfl) (cwV 1 hts gX0_signal_X0_leave rfl rfl rfl (by decide +kernel) ⟨Nat.le_of_ble_eq_true rfl, Nat.le_of_ble_eq_true rfl⟩) ⟨fun a U g mk q => by obtain ⟨q0, q1, qP, qK, qD⟩ := q; exact ⟨q0, q1, qP, va_K.moved (u := U) (U := U.calling g mk a) (Vm.Alike.refl U.vm) qK, qD⟩, va_recv hK hP (ci := 0) (q0 := 0) rfl rfl, fun U hU hW => ⟨rfl, by rw [hU], by rw [hU]; exact hP, va_K.moved hW.alike hK, hD.weaken (fun _ _ _ _ => trivial)⟩⟩ rfl rfl hl.1 rfl (lv_room (Nat.le_of_ble_eq_true rfl)) dX0_signal_39 ⟨Nat.le_of_ble_eq_true rfl, Nat.le_of_ble_eq_true rfl⟩) hS (fun q _ h => hFc q h) hFc (fun u_75 t H1 locs ht hvm hu_75 hB hz1 hk1 hS => ?_)
      obtain ⟨hP, hK1, hD1⟩ := hB
      rw [ht] at hP
      have hD := hD1.weaken (fun _ _ _ h => hFc _ h)
      generalize H1 = H at hP hS ⊢
      have hP : va_P (dC, dI) vwCl (rW ad cA u_75) H := hP
      have hD : va_D A (rW ad cA u_75) := hD
      refine lv_aload_n hx hb dX0_signal_42 rfl (lv_at hl 1 rfl) ?_
      refine lv_iload_n hx hb dX0_signal_43 rfl (lv_at hl 0 rfl) ?_
      have hFc := va_free (wc := (rW ad cA u_75)) hD hS hA [0, 1, 2, 3, 4, 5, 6] rfl
      refine va_callv (va_runV (As := [.int r_72]) (rest := []) ⟨hx, hb, hml, hown, hts⟩ (rc_wake l dC dI ad cA _ u_75 r_72 (ri_leave hu_75 hI) _ rfl) (cwV 1 hts gX0_signal_X0_wake rfl rfl rfl (by decide +kernel) ⟨Nat.le_of_ble_eq_true rfl, Nat.le_of_ble_eq_true rfl⟩) ⟨fun a U g mk q => by obtain ⟨q0, q1, qP, qK, qD⟩ := q; exact ⟨q0, q1, qP, va_K.moved (u := U) (U := U.calling g mk a) (Vm.Alike.refl U.vm) qK, qD⟩, va_recv hK hP (ci := 0) (q0 := 0) rfl rfl, fun U hU hW => ⟨rfl, by rw [hU], by rw [hU]; exact hP, va_K.moved hW.alike hK, hD.weaken (fun _ _ _ _ => trivial)⟩⟩ rfl rfl hl.1 rfl (lv_room (Nat.le_of_ble_eq_true rfl)) dX0_signal_44 ⟨Nat.le_of_ble_eq_true rfl, Nat.le_of_ble_eq_true rfl⟩) hS (fun q _ h => hFc q h) hFc (fun u_77 t H1 locs ht hvm hu_77 hB hz1 hk1 hS => ?_)
      obtain ⟨hP, hK1, hD1⟩ := hB
      rw [ht] at hP
      have hD := hD1.weaken (fun _ _ _ h => hFc _ h)
      generalize H1 = H at hP hS ⊢
      have hP : va_P (dC, dI) vwCl (rW ad cA u_77) H := hP
      have hD : va_D A (rW ad cA u_77) := hD
      refine lv_iconst (v := 1) hx hb dX0_signal_47 (by decide) ?_
      have eT : (1, u_77) = T := by subst hr_70 hr_72 hu_75 hu_77; rw [← hf]; simp only [rf_signal, if_neg c_71, if_neg c_73]
      exact W.zret (v := 1) hx hb hr (rfl) (fun t ht hW => ⟨⟨1, u_77, rfl, ⟨congrArg Prod.fst eT, congrArg Prod.snd eT⟩, by rw [ht]; exact hP, va_K.moved hW.alike hK, hD⟩, hS.F ht⟩) hS.2.2 dX0_signal_48
    · refine lv_aload_n hx hb dX0_signal_24 rfl (lv_at hl 1 rfl) ?_
      refine va_get (D := (dC, dI)) (ci := 0) (v := .ref (ad 5)) (C := RX0) (T := TX0) (N := 12) (fs := rF ad u) hx hb hts hin0 hown hK hP 0 rfl rfl 5 (by decide) fl_extras (fun _ h9 => h9) rfl dX0_signal_25 ?_
      refine lv_iload_n hx hb dX0_signal_28 rfl (lv_at hl 2 rfl) ?_
      refine lv_dup2_11 hx hb dX0_signal_29 rfl rfl ?_
      refine va_iald hx hb hK hP 5 4 rfl rfl (ri_isSemaphore hr_70 c_71) dX0_signal_30 ?_
      refine lv_iconst (v := 1) hx hb dX0_signal_31 (by decide) ?_
      refine lv_iadd hx hb dX0_signal_32 ?_
      refine va_iast hx hb hK hP hD hS 5 4 rfl rfl (ri_isSemaphore hr_70 c_71) dX0_signal_33 (fun H locs hP hD hS => ?_)
      rw [rw_extras] at hP hD
      obtain ⟨u_78, hu_78⟩ : ∃ w : RS, w = rs_extras u (upd (ra_extras u) p1.toNatClampNeg ((ra_extras u p1.toNatClampNeg) + 1)) := ⟨_, rfl⟩
      rw [← hu_78] at hP hD
      refine lv_goto (tgt := 47) hx hb dX0_signal_34 (by decide) ?_
      refine lv_iconst (v := 1) hx hb dX0_signal_47 (by decide) ?_
      have eT : (1, u_78) = T := by subst hr_70 hr_72 hu_78; rw [← hf]; simp only [rf_signal, if_neg c_71, if_pos c_73]
      exact W.zret (v := 1) hx hb hr (rfl) (fun t ht hW => ⟨⟨1, u_78, rfl, ⟨congrArg Prod.fst eT, congrArg Prod.snd eT⟩, by rw [ht]; exact hP, va_K.moved hW.alike hK, hD⟩, hS.F ht⟩) hS.2.2 dX0_signal_48
  · refine lv_iconst (v := 0) hx hb dX0_signal_7 (by decide) ?_
    have eT : (0, u) = T := by subst hr_70; rw [← hf]; simp only [rf_signal, if_pos c_71]
    exact W.zret (v := 0) hx hb hr (rfl) (fun t ht hW => ⟨⟨0, u, rfl, ⟨congrArg Prod.fst eT, congrArg Prod.snd eT⟩, by rw [ht]; exact hP, va_K.moved hW.alike hK, hD⟩, hS.F ht⟩) hS.2.2 dX0_signal_8
set_option maxHeartbeats 4000000 in
set_option maxRecDepth 100000 in
theorem rc_signalPosted (l : Launch) (dC : Nat → ClassId) (dI : Nat → Nat → Nat) (ad : Nat → Nat) (cA : Nat → ClassId) (sz : Nat) (u : RS)  (hI : rInv u) (T : RS) (hf : rf_signalPosted u = T) : Met l yX0_signalPosted wsX0_signalPosted ({ frames := 5, cells := 0, slots := 0, locals := 106 } : Room) (va_Pc [.ref (ad 0)] (fun U => U.heap.size = sz ∧ va_P (dC, dI) vwCl (rW ad cA u) U.heap ∧ va_K (dC, dI) vwCl (rT cA) U ∧ va_D (fun _ => True) (rW ad cA u))) (va_Qv (fun u2 => u2 = T) (rAt dC dI (va_A (rW ad cA u) sz) ad cA) (va_A (rW ad cA u) sz)) 0 0 (va_A (rW ad cA u) sz) := by
  refine Met.ofW (cc := cX0_signalPosted) (maxL := 2) (ret := none) (by decide) rfl ?_
  intro p e s m args below meth c s₁ B hml hv
  obtain ⟨rfl, hsz, hP, hK, hD0⟩ := hv
  have hx := B.exec
  have hb := B.bytes
  have hr := B.returns
  have hts := atoms_spec (ws := wsX0_signalPosted) B.pre
  have hown : s.vm.findClass RX0 = some m.cls := findClass_of_methodNamed B.named
  have hlocks := B.notSynchronized
  have hin0 : ∀ w ∈ wsX00, w ∈ wsX0_signalPosted := by decide +kernel
  have fl_postCount := hts (.fieldLink RX0 32 "ProcessRoom" "postCount" "I") (by decide +kernel)
  have fl_posts := hts (.fieldLink RX0 29 "ProcessRoom" "posts" "[I") (by decide +kernel)
  subst hsz
  have hD := hD0.self (sz := s.heap.size)
  generalize hAe : va_A (rW ad cA u) s.heap.size = A at hD ⊢
  have hA : ∀ q : Nat, s.heap.size ≤ q → A q := fun q h => by rw [← hAe]; exact Or.inr h
  have hS : va_S A s.heap s.heap [] := va_S.rf
  have hl := lv_entry ([.ref (ad 0)]) (n := 2) (Nat.le_of_ble_eq_true rfl)
  rw [lg_entry_eq]
  generalize (lg_sl ([.ref (ad 0)]) ++ List.replicate (2 - (lg_sl ([.ref (ad 0)])).length) Slot.unset).toArray = ls at hl ⊢
  have hl : lv_has ls 2 [(0, .ref (ad 0))] := hl
  refine lv_iconst (v := 0) hx hb dX0_signalPosted_0 (by decide) ?_
  refine lv_istore_n (lv' := [(1, .int 0), (0, .ref (ad 0))]) hx hb dX0_signalPosted_1 rfl hl (by decide) rfl (fun ls hl => ?_)
  refine k_nameQ (fun Q hQ => ?_)
  have key : ∀ (n : Nat) (u2 : RS) (x1 : Int32) (H : Heap) (locs : List Loc) (ls : Array Slot), (rInv u2 ∧ ∃ j : Nat, x1 = nI j ∧ j + n = 41 ∧ j ≤ 40) → rl_signalPosted  n u2 x1 = T → va_P (dC, dI) vwCl (rW ad cA u2) H → va_D A (rW ad cA u2) → va_S A s.heap H locs → lv_has ls 2 [(0, .ref (ad 0)), (1, .int x1)] → W p l e (headSpec wsX0_signalPosted ({ frames := 5, cells := 0, slots := 0, locals := 106 } : Room)).room s m ([.ref (ad 0)] : List Value).toArray below meth c H locs 0 0 Q (F0 m 2 ls []) := by
    intro n
    induction n with
    | zero =>
      intro u2 x1 H locs ls hinv
      exact absurd hinv (by rintro ⟨-, j, -, h1, h2⟩; omega)
    | succ n ih =>
      intro u2 x1 H locs ls hinv hf2 hP hD hS hl
      obtain ⟨hI2, j, hj, hjn, hjl⟩ := hinv
      refine lv_iload_n hx hb dX0_signalPosted_2 rfl (lv_at hl 1 rfl) ?_
      refine lv_aload_n hx hb dX0_signalPosted_3 rfl (lv_at hl 0 rfl) ?_
      refine va_get (D := (dC, dI)) (ci := 0) (v := .int (ra_postCount u2)) (C := RX0) (T := TX0) (N := 12) (fs := rF ad u2) hx hb hts hin0 hown hK hP 0 rfl rfl 7 (by decide) fl_postCount (fun _ h9 => h9) rfl dX0_signalPosted_4 ?_
      refine lv_icmp_ge (tgt := 33) hx hb dX0_signalPosted_7 (by decide) (fun c_79 => ?_) (fun c_79 => ?_)
      · refine lv_aload_n hx hb dX0_signalPosted_33 rfl (lv_at hl 0 rfl) ?_
        refine lv_iconst (v := 0) hx hb dX0_signalPosted_34 (by decide) ?_
        refine va_put (D := (dC, dI)) (ci := 0) (v := .int 0) (ty := .int) (C := RX0) (T := TX0) (N := 12) (fs := rF ad u2) hx hb hts hin0 tyX0 tyX0_ok nmX0 hown hK hP hD hS 0 rfl rfl 7 (by decide) fl_postCount (fun _ h9 => h9) rfl (by decide +kernel) rfl rfl (Nat.le_of_ble_eq_true rfl) dX0_signalPosted_35 (fun H locs hP hD hS => ?_)
        rw [rw_postCount] at hP hD
        obtain ⟨u_80, hu_80⟩ : ∃ w : RS, w = rs_postCount u2 0 := ⟨_, rfl⟩
        rw [← hu_80] at hP hD
        subst hQ
        have eT : u_80 = T := by subst hu_80; rw [← hf2]; simp only [rl_signalPosted, if_pos c_79]
        exact W.vret hx hb hr (fun t ht hW => ⟨⟨u_80, rfl, eT, by rw [ht]; exact hP, va_K.moved hW.alike hK, hD⟩, hS.F ht⟩) hS.2.2 dX0_signalPosted_38
      · refine lv_iload_n hx hb dX0_signalPosted_10 rfl (lv_at hl 1 rfl) ?_
        refine lv_bipush (v := 40) hx hb dX0_signalPosted_11 (by decide) ?_
        refine lv_icmp_ge (tgt := 33) hx hb dX0_signalPosted_13 (by decide) (fun c_81 => ?_) (fun c_81 => ?_)
        · refine lv_aload_n hx hb dX0_signalPosted_33 rfl (lv_at hl 0 rfl) ?_
          refine lv_iconst (v := 0) hx hb dX0_signalPosted_34 (by decide) ?_
          refine va_put (D := (dC, dI)) (ci := 0) (v := .int 0) (ty := .int) (C := RX0) (T := TX0) (N := 12) (fs := rF ad u2) hx hb hts hin0 tyX0 tyX0_ok nmX0 hown hK hP hD hS 0 rfl rfl 7 (by decide) fl_postCount (fun _ h9 => h9) rfl (by decide +kernel) rfl rfl (Nat.le_of_ble_eq_true rfl) dX0_signalPosted_35 (fun H locs hP hD hS => ?_)
          rw [rw_postCount] at hP hD
          obtain ⟨u_82, hu_82⟩ : ∃ w : RS, w = rs_postCount u2 0 := ⟨_, rfl⟩
          rw [← hu_82] at hP hD
          subst hQ
          have eT : u_82 = T := by subst hu_82; rw [← hf2]; simp only [rl_signalPosted, if_neg c_79, if_pos c_81]
          exact W.vret hx hb hr (fun t ht hW => ⟨⟨u_82, rfl, eT, by rw [ht]; exact hP, va_K.moved hW.alike hK, hD⟩, hS.F ht⟩) hS.2.2 dX0_signalPosted_38
        · refine lv_aload_n hx hb dX0_signalPosted_16 rfl (lv_at hl 0 rfl) ?_
          refine lv_aload_n hx hb dX0_signalPosted_17 rfl (lv_at hl 0 rfl) ?_
          refine va_get (D := (dC, dI)) (ci := 0) (v := .ref (ad 6)) (C := RX0) (T := TX0) (N := 12) (fs := rF ad u2) hx hb hts hin0 hown hK hP 0 rfl rfl 6 (by decide) fl_posts (fun _ h9 => h9) rfl dX0_signalPosted_18 ?_
          refine lv_iload_n hx hb dX0_signalPosted_21 rfl (lv_at hl 1 rfl) ?_
          refine va_iald hx hb hK hP 6 5 rfl rfl (k_in hj (k_lt 40 hj (by omega) rfl c_81) (by omega)) dX0_signalPosted_22 ?_
          have hFc := va_free (wc := (rW ad cA u2)) hD hS hA [0, 1, 2, 3, 4, 5, 6] rfl
          refine va_calli (va_runV (As := [.int (ra_posts u2 x1.toNatClampNeg)]) (rest := []) ⟨hx, hb, hml, hown, hts⟩ (rc_signal l dC dI ad cA _ u2 (ra_posts u2 x1.toNatClampNeg) hI2 _ rfl) (cwV 1 hts gX0_signalPosted_X0_signal rfl rfl rfl (by decide +kernel) ⟨Nat.le_of_ble_eq_true rfl, Nat.le_of_ble_eq_true rfl⟩) ⟨fun a U g mk q => by obtain ⟨q0, q1, qP, qK, qD⟩ := q; exact ⟨q0, q1, qP, va_K.moved (u := U) (U := U.calling g mk a) (Vm.Alike.refl U.vm) qK, qD⟩, va_recv hK hP (ci := 0) (q0 := 0) rfl rfl, fun U hU hW => ⟨rfl, by rw [hU], by rw [hU]; exact hP, va_K.moved hW.alike hK, hD.weaken (fun _ _ _ _ => trivial)⟩⟩ rfl rfl hl.1 rfl (lv_room (Nat.le_of_ble_eq_true rfl)) dX0_signalPosted_23 ⟨Nat.le_of_ble_eq_true rfl, Nat.le_of_ble_eq_true rfl⟩) hS (fun q _ h => hFc q h) hFc (fun r_83 u_84 t H1 locs ht hvm hwu_84 hB hz1 hk1 hS => ?_)
          obtain ⟨hr_83, hu_84⟩ := hwu_84
          obtain ⟨hP, hK1, hD1⟩ := hB
          rw [ht] at hP
          have hD := hD1.weaken (fun _ _ _ h => hFc _ h)
          generalize H1 = H at hP hS ⊢
          have hP : va_P (dC, dI) vwCl (rW ad cA u_84) H := hP
          have hD : va_D A (rW ad cA u_84) := hD
          refine lv_pop hx hb dX0_signalPosted_26 rfl ?_
          refine lv_iinc (v := x1 + 1) (lv' := [(1, .int (x1 + 1)), (0, .ref (ad 0))]) hx hb dX0_signalPosted_27 hl (k := 1) rfl rfl (by decide) rfl (fun ls hl => ?_)
          refine lv_goto (tgt := 2) hx hb dX0_signalPosted_30 (by decide) ?_
          have hj2 := (k_lt 40 hj (by omega) rfl c_81)
          exact ih u_84 (x1 + 1) _ _ _ (⟨(ri_signal hu_84 hI2), j + 1, by rw [hj, nI_1], by omega, by omega⟩) (by subst hr_83 hu_84; rw [← hf2]; simp only [rl_signalPosted, if_neg c_79, if_neg c_81]) hP hD hS (lv_sub hl [1, 0] rfl)
  exact key 41 u 0 _ _ _ (⟨hI, 0, nI_0.symm, rfl, by omega⟩) (by rw [← hf]; simp only [rf_signalPosted]) hP hD hS (lv_sub hl [1, 0] rfl)
set_option maxHeartbeats 4000000 in
set_option maxRecDepth 100000 in
theorem rc_change (l : Launch) (dC : Nat → ClassId) (dI : Nat → Nat → Nat) (ad : Nat → Nat) (cA : Nat → ClassId) (sz : Nat) (u : RS)  (T : RS) (hf : rf_change u = T) : Met l yX0_change wsX0_change ({ frames := 3, cells := 0, slots := 0, locals := 62 } : Room) (va_Pc [.ref (ad 0)] (fun U => U.heap.size = sz ∧ va_P (dC, dI) vwCl (rW ad cA u) U.heap ∧ va_K (dC, dI) vwCl (rT cA) U ∧ va_D (fun _ => True) (rW ad cA u))) (va_Qv (fun u2 => u2 = T) (rAt dC dI (va_A (rW ad cA u) sz) ad cA) (va_A (rW ad cA u) sz)) 0 0 (va_A (rW ad cA u) sz) := by
  refine Met.ofW (cc := cX0_change) (maxL := 1) (ret := none) (by decide) rfl ?_
  intro p e s m args below meth c s₁ B hml hv
  obtain ⟨rfl, hsz, hP, hK, hD0⟩ := hv
  have hx := B.exec
  have hb := B.bytes
  have hr := B.returns
  have hts := atoms_spec (ws := wsX0_change) B.pre
  have hown : s.vm.findClass RX0 = some m.cls := findClass_of_methodNamed B.named
  have hlocks := B.notSynchronized
  have hin0 : ∀ w ∈ wsX00, w ∈ wsX0_change := by decide +kernel
  have fl_active := hts (.fieldLink RX0 35 "ProcessRoom" "active" "I") (by decide +kernel)
  have fl_places := hts (.fieldLink RX0 13 "ProcessRoom" "places" "[I") (by decide +kernel)
  have fl_here := hts (.fieldLink RX0 38 "ProcessRoom" "here" "I") (by decide +kernel)
  have fl_wantedOne := hts (.fieldLink RX0 45 "ProcessRoom" "wantedOne" "I") (by decide +kernel)
  have fl_wanted := hts (.fieldLink RX0 41 "ProcessRoom" "wanted" "Z") (by decide +kernel)
  subst hsz
  have hD := hD0.self (sz := s.heap.size)
  generalize hAe : va_A (rW ad cA u) s.heap.size = A at hD ⊢
  have hA : ∀ q : Nat, s.heap.size ≤ q → A q := fun q h => by rw [← hAe]; exact Or.inr h
  have hS : va_S A s.heap s.heap [] := va_S.rf
  have hl := lv_entry ([.ref (ad 0)]) (n := 1) (Nat.le_of_ble_eq_true rfl)
  rw [lg_entry_eq]
  generalize (lg_sl ([.ref (ad 0)]) ++ List.replicate (1 - (lg_sl ([.ref (ad 0)])).length) Slot.unset).toArray = ls at hl ⊢
  have hl : lv_has ls 1 [(0, .ref (ad 0))] := hl
  refine lv_aload_n hx hb dX0_change_0 rfl (lv_at hl 0 rfl) ?_
  refine va_get (D := (dC, dI)) (ci := 0) (v := .int (ra_active u)) (C := RX0) (T := TX0) (N := 12) (fs := rF ad u) hx hb hts hin0 hown hK hP 0 rfl rfl 8 (by decide) fl_active (fun _ h9 => h9) rfl dX0_change_1 ?_
  refine va_calli (va_runS (As := [.int (ra_active u)]) (rest := []) ⟨hx, hb, hml, hown, hts⟩ (rc_isProcess l (ra_active u) _ rfl) (va_cwS 1 hts gX0_change_X0_isProcess rfl rfl rfl (by decide +kernel) ⟨Nat.le_of_ble_eq_true rfl, Nat.le_of_ble_eq_true rfl⟩) ⟨fun a U g mk q => ⟨q.1, trivial⟩, fun U hU hW => ⟨rfl, trivial⟩⟩ rfl rfl hl.1 rfl (lv_room (Nat.le_of_ble_eq_true rfl)) dX0_change_4 ⟨Nat.le_of_ble_eq_true rfl, Nat.le_of_ble_eq_true rfl⟩) hS (fun _ _ h => h.elim) (fun _ h => h.elim) (fun r_85 u_ t H1 locs ht hvm hr_85 hB hz1 hk1 hS => ?_)
  have hP := hP.kept (fun k x hx => hk1 x.1 ((hP k x hx).lt) (fun h => h))
  generalize H1 = H at hP hS ⊢
  refine lv_if_eq (tgt := 23) hx hb dX0_change_7 (by decide) (fun c_86 => ?_) (fun c_86 => ?_)
  · refine lv_aload_n hx hb dX0_change_23 rfl (lv_at hl 0 rfl) ?_
    refine lv_aload_n hx hb dX0_change_24 rfl (lv_at hl 0 rfl) ?_
    refine va_get (D := (dC, dI)) (ci := 0) (v := .int (ra_wantedOne u)) (C := RX0) (T := TX0) (N := 12) (fs := rF ad u) hx hb hts hin0 hown hK hP 0 rfl rfl 11 (by decide) fl_wantedOne (fun _ h9 => h9) rfl dX0_change_25 ?_
    refine va_put (D := (dC, dI)) (ci := 0) (v := .int (ra_wantedOne u)) (ty := .int) (C := RX0) (T := TX0) (N := 12) (fs := rF ad u) hx hb hts hin0 tyX0 tyX0_ok nmX0 hown hK hP hD hS 0 rfl rfl 8 (by decide) fl_active (fun _ h9 => h9) rfl (by decide +kernel) rfl rfl (Nat.le_of_ble_eq_true rfl) dX0_change_28 (fun H locs hP hD hS => ?_)
    rw [rw_active] at hP hD
    obtain ⟨u_87, hu_87⟩ : ∃ w : RS, w = rs_active u (ra_wantedOne u) := ⟨_, rfl⟩
    rw [← hu_87] at hP hD
    refine lv_aload_n hx hb dX0_change_31 rfl (lv_at hl 0 rfl) ?_
    refine lv_aload_n hx hb dX0_change_32 rfl (lv_at hl 0 rfl) ?_
    refine lv_aload_n hx hb dX0_change_33 rfl (lv_at hl 0 rfl) ?_
    refine va_get (D := (dC, dI)) (ci := 0) (v := .int (ra_wantedOne u)) (C := RX0) (T := TX0) (N := 12) (fs := rF ad u_87) hx hb hts hin0 hown hK hP 0 rfl rfl 8 (by decide) fl_active (fun _ h9 => h9) (congrArg (fun z => some (Value.int z)) (show ra_active u_87 = ra_wantedOne u from by rw [hu_87, rq_active_active])) dX0_change_34 ?_
    refine va_calli (va_runV (As := [.int (ra_wantedOne u)]) (rest := [.ref (ad 0)]) ⟨hx, hb, hml, hown, hts⟩ (rc_place l dC dI ad cA u_87 (ra_wantedOne u) _ rfl) (cwV 1 hts gX0_change_X0_place rfl rfl rfl (by decide +kernel) ⟨Nat.le_of_ble_eq_true rfl, Nat.le_of_ble_eq_true rfl⟩) ⟨fun a U g mk q => by obtain ⟨q0, qP, qK⟩ := q; exact ⟨q0, qP, va_K.moved (u := U) (U := U.calling g mk a) (Vm.Alike.refl U.vm) qK⟩, va_recv hK hP (ci := 0) (q0 := 0) rfl rfl, fun U hU hW => ⟨rfl, by rw [hU]; exact hP, va_K.moved hW.alike hK⟩⟩ rfl rfl hl.1 rfl (lv_room (Nat.le_of_ble_eq_true rfl)) dX0_change_37 ⟨Nat.le_of_ble_eq_true rfl, Nat.le_of_ble_eq_true rfl⟩) hS (fun _ _ h => h.elim) (fun _ h => h.elim) (fun r_88 u_ t H1 locs ht hvm hr_88 hB hz1 hk1 hS => ?_)
    have hP := hP.kept (fun k x hx => hk1 x.1 ((hP k x hx).lt) (fun h => h))
    generalize H1 = H at hP hS ⊢
    refine va_put (D := (dC, dI)) (ci := 0) (v := .int r_88) (ty := .int) (C := RX0) (T := TX0) (N := 12) (fs := rF ad u_87) hx hb hts hin0 tyX0 tyX0_ok nmX0 hown hK hP hD hS 0 rfl rfl 9 (by decide) fl_here (fun _ h9 => h9) rfl (by decide +kernel) rfl rfl (Nat.le_of_ble_eq_true rfl) dX0_change_40 (fun H locs hP hD hS => ?_)
    rw [rw_here] at hP hD
    obtain ⟨u_89, hu_89⟩ : ∃ w : RS, w = rs_here u_87 r_88 := ⟨_, rfl⟩
    rw [← hu_89] at hP hD
    refine lv_aload_n hx hb dX0_change_43 rfl (lv_at hl 0 rfl) ?_
    refine lv_iconst (v := 0) hx hb dX0_change_44 (by decide) ?_
    refine va_put (D := (dC, dI)) (ci := 0) (v := .int 0) (ty := .boolean) (C := RX0) (T := TX0) (N := 12) (fs := rF ad u_89) hx hb hts hin0 tyX0 tyX0_ok nmX0 hown hK hP hD hS 0 rfl rfl 10 (by decide) fl_wanted (fun _ h9 => h9) rfl (by decide +kernel) rfl rfl (Nat.le_of_ble_eq_true rfl) dX0_change_45 (fun H locs hP hD hS => ?_)
    rw [rw_wanted] at hP hD
    obtain ⟨u_90, hu_90⟩ : ∃ w : RS, w = rs_wanted u_89 0 := ⟨_, rfl⟩
    rw [← hu_90] at hP hD
    refine lv_aload_n hx hb dX0_change_48 rfl (lv_at hl 0 rfl) ?_
    refine lv_iconst (v := (-1)) hx hb dX0_change_49 (by decide) ?_
    refine va_put (D := (dC, dI)) (ci := 0) (v := .int (-1)) (ty := .int) (C := RX0) (T := TX0) (N := 12) (fs := rF ad u_90) hx hb hts hin0 tyX0 tyX0_ok nmX0 hown hK hP hD hS 0 rfl rfl 11 (by decide) fl_wantedOne (fun _ h9 => h9) rfl (by decide +kernel) rfl rfl (Nat.le_of_ble_eq_true rfl) dX0_change_50 (fun H locs hP hD hS => ?_)
    rw [rw_wantedOne] at hP hD
    obtain ⟨u_91, hu_91⟩ : ∃ w : RS, w = rs_wantedOne u_90 (-1) := ⟨_, rfl⟩
    rw [← hu_91] at hP hD
    have eT : u_91 = T := by subst hr_85 hu_87 hr_88 hu_89 hu_90 hu_91; rw [← hf]; simp only [rf_change, if_pos c_86]
    exact W.vret hx hb hr (fun t ht hW => ⟨⟨u_91, rfl, eT, by rw [ht]; exact hP, va_K.moved hW.alike hK, hD⟩, hS.F ht⟩) hS.2.2 dX0_change_53
  · refine lv_aload_n hx hb dX0_change_10 rfl (lv_at hl 0 rfl) ?_
    refine va_get (D := (dC, dI)) (ci := 0) (v := .ref (ad 2)) (C := RX0) (T := TX0) (N := 12) (fs := rF ad u) hx hb hts hin0 hown hK hP 0 rfl rfl 1 (by decide) fl_places (fun _ h9 => h9) rfl dX0_change_11 ?_
    refine lv_aload_n hx hb dX0_change_14 rfl (lv_at hl 0 rfl) ?_
    refine va_get (D := (dC, dI)) (ci := 0) (v := .int (ra_active u)) (C := RX0) (T := TX0) (N := 12) (fs := rF ad u) hx hb hts hin0 hown hK hP 0 rfl rfl 8 (by decide) fl_active (fun _ h9 => h9) rfl dX0_change_15 ?_
    refine lv_aload_n hx hb dX0_change_18 rfl (lv_at hl 0 rfl) ?_
    refine va_get (D := (dC, dI)) (ci := 0) (v := .int (ra_here u)) (C := RX0) (T := TX0) (N := 12) (fs := rF ad u) hx hb hts hin0 hown hK hP 0 rfl rfl 9 (by decide) fl_here (fun _ h9 => h9) rfl dX0_change_19 ?_
    refine va_iast hx hb hK hP hD hS 2 1 rfl rfl (ri_isProcess hr_85 c_86) dX0_change_22 (fun H locs hP hD hS => ?_)
    rw [rw_places] at hP hD
    obtain ⟨u_92, hu_92⟩ : ∃ w : RS, w = rs_places u (upd (ra_places u) (ra_active u).toNatClampNeg (ra_here u)) := ⟨_, rfl⟩
    rw [← hu_92] at hP hD
    refine lv_aload_n hx hb dX0_change_23 rfl (lv_at hl 0 rfl) ?_
    refine lv_aload_n hx hb dX0_change_24 rfl (lv_at hl 0 rfl) ?_
    refine va_get (D := (dC, dI)) (ci := 0) (v := .int (ra_wantedOne u)) (C := RX0) (T := TX0) (N := 12) (fs := rF ad u_92) hx hb hts hin0 hown hK hP 0 rfl rfl 11 (by decide) fl_wantedOne (fun _ h9 => h9) (congrArg (fun z => some (Value.int z)) (show ra_wantedOne u_92 = ra_wantedOne u from by rw [hu_92, rq_wantedOne_places])) dX0_change_25 ?_
    refine va_put (D := (dC, dI)) (ci := 0) (v := .int (ra_wantedOne u)) (ty := .int) (C := RX0) (T := TX0) (N := 12) (fs := rF ad u_92) hx hb hts hin0 tyX0 tyX0_ok nmX0 hown hK hP hD hS 0 rfl rfl 8 (by decide) fl_active (fun _ h9 => h9) rfl (by decide +kernel) rfl rfl (Nat.le_of_ble_eq_true rfl) dX0_change_28 (fun H locs hP hD hS => ?_)
    rw [rw_active] at hP hD
    obtain ⟨u_93, hu_93⟩ : ∃ w : RS, w = rs_active u_92 (ra_wantedOne u) := ⟨_, rfl⟩
    rw [← hu_93] at hP hD
    refine lv_aload_n hx hb dX0_change_31 rfl (lv_at hl 0 rfl) ?_
    refine lv_aload_n hx hb dX0_change_32 rfl (lv_at hl 0 rfl) ?_
    refine lv_aload_n hx hb dX0_change_33 rfl (lv_at hl 0 rfl) ?_
    refine va_get (D := (dC, dI)) (ci := 0) (v := .int (ra_wantedOne u)) (C := RX0) (T := TX0) (N := 12) (fs := rF ad u_93) hx hb hts hin0 hown hK hP 0 rfl rfl 8 (by decide) fl_active (fun _ h9 => h9) (congrArg (fun z => some (Value.int z)) (show ra_active u_93 = ra_wantedOne u from by rw [hu_93, rq_active_active])) dX0_change_34 ?_
    refine va_calli (va_runV (As := [.int (ra_wantedOne u)]) (rest := [.ref (ad 0)]) ⟨hx, hb, hml, hown, hts⟩ (rc_place l dC dI ad cA u_93 (ra_wantedOne u) _ rfl) (cwV 1 hts gX0_change_X0_place rfl rfl rfl (by decide +kernel) ⟨Nat.le_of_ble_eq_true rfl, Nat.le_of_ble_eq_true rfl⟩) ⟨fun a U g mk q => by obtain ⟨q0, qP, qK⟩ := q; exact ⟨q0, qP, va_K.moved (u := U) (U := U.calling g mk a) (Vm.Alike.refl U.vm) qK⟩, va_recv hK hP (ci := 0) (q0 := 0) rfl rfl, fun U hU hW => ⟨rfl, by rw [hU]; exact hP, va_K.moved hW.alike hK⟩⟩ rfl rfl hl.1 rfl (lv_room (Nat.le_of_ble_eq_true rfl)) dX0_change_37 ⟨Nat.le_of_ble_eq_true rfl, Nat.le_of_ble_eq_true rfl⟩) hS (fun _ _ h => h.elim) (fun _ h => h.elim) (fun r_94 u_ t H1 locs ht hvm hr_94 hB hz1 hk1 hS => ?_)
    have hP := hP.kept (fun k x hx => hk1 x.1 ((hP k x hx).lt) (fun h => h))
    generalize H1 = H at hP hS ⊢
    refine va_put (D := (dC, dI)) (ci := 0) (v := .int r_94) (ty := .int) (C := RX0) (T := TX0) (N := 12) (fs := rF ad u_93) hx hb hts hin0 tyX0 tyX0_ok nmX0 hown hK hP hD hS 0 rfl rfl 9 (by decide) fl_here (fun _ h9 => h9) rfl (by decide +kernel) rfl rfl (Nat.le_of_ble_eq_true rfl) dX0_change_40 (fun H locs hP hD hS => ?_)
    rw [rw_here] at hP hD
    obtain ⟨u_95, hu_95⟩ : ∃ w : RS, w = rs_here u_93 r_94 := ⟨_, rfl⟩
    rw [← hu_95] at hP hD
    refine lv_aload_n hx hb dX0_change_43 rfl (lv_at hl 0 rfl) ?_
    refine lv_iconst (v := 0) hx hb dX0_change_44 (by decide) ?_
    refine va_put (D := (dC, dI)) (ci := 0) (v := .int 0) (ty := .boolean) (C := RX0) (T := TX0) (N := 12) (fs := rF ad u_95) hx hb hts hin0 tyX0 tyX0_ok nmX0 hown hK hP hD hS 0 rfl rfl 10 (by decide) fl_wanted (fun _ h9 => h9) rfl (by decide +kernel) rfl rfl (Nat.le_of_ble_eq_true rfl) dX0_change_45 (fun H locs hP hD hS => ?_)
    rw [rw_wanted] at hP hD
    obtain ⟨u_96, hu_96⟩ : ∃ w : RS, w = rs_wanted u_95 0 := ⟨_, rfl⟩
    rw [← hu_96] at hP hD
    refine lv_aload_n hx hb dX0_change_48 rfl (lv_at hl 0 rfl) ?_
    refine lv_iconst (v := (-1)) hx hb dX0_change_49 (by decide) ?_
    refine va_put (D := (dC, dI)) (ci := 0) (v := .int (-1)) (ty := .int) (C := RX0) (T := TX0) (N := 12) (fs := rF ad u_96) hx hb hts hin0 tyX0 tyX0_ok nmX0 hown hK hP hD hS 0 rfl rfl 11 (by decide) fl_wantedOne (fun _ h9 => h9) rfl (by decide +kernel) rfl rfl (Nat.le_of_ble_eq_true rfl) dX0_change_50 (fun H locs hP hD hS => ?_)
    rw [rw_wantedOne] at hP hD
    obtain ⟨u_97, hu_97⟩ : ∃ w : RS, w = rs_wantedOne u_96 (-1) := ⟨_, rfl⟩
    rw [← hu_97] at hP hD
    have eT : u_97 = T := by subst hr_85 hu_92 hu_93 hr_94 hu_95 hu_96 hu_97; rw [← hf]; simp only [rf_change, if_neg c_86]
    exact W.vret hx hb hr (fun t ht hW => ⟨⟨u_97, rfl, eT, by rw [ht]; exact hP, va_K.moved hW.alike hK, hD⟩, hS.F ht⟩) hS.2.2 dX0_change_53
end
section
set_option maxHeartbeats 4000000 in
set_option maxRecDepth 100000 in
theorem rc_make (l : Launch) (dC : Nat → ClassId) (dI : Nat → Nat → Nat) (ad : Nat → Nat) (cA : Nat → ClassId) (sz : Nat) (u : RS) (p1 : Int32) (p2 : Int32) (p3 : Int32) (T : Int32 × RS) (hf : rf_make u p1 p2 p3 = T) : Met l yX0_make wsX0_make ({ frames := 2, cells := 0, slots := 0, locals := 41 } : Room) (va_Pc [.ref (ad 0), .int p1, .int p2, .int p3] (fun U => U.heap.size = sz ∧ va_P (dC, dI) vwCl (rW ad cA u) U.heap ∧ va_K (dC, dI) vwCl (rT cA) U ∧ va_D (fun _ => True) (rW ad cA u))) (va_Qi (fun r u2 => r = T.1 ∧ u2 = T.2) (rAt dC dI (va_A (rW ad cA u) sz) ad cA) (va_A (rW ad cA u) sz)) 0 0 (va_A (rW ad cA u) sz) := by
  refine Met.ofW (cc := cX0_make) (maxL := 4) (ret := (some .boolean)) (by decide) rfl ?_
  intro p e s m args below meth c s₁ B hml hv
  obtain ⟨rfl, hsz, hP, hK, hD0⟩ := hv
  have hx := B.exec
  have hb := B.bytes
  have hr := B.returns
  have hts := atoms_spec (ws := wsX0_make) B.pre
  have hown : s.vm.findClass RX0 = some m.cls := findClass_of_methodNamed B.named
  have hlocks := B.notSynchronized
  have hin0 : ∀ w ∈ wsX00, w ∈ wsX0_make := by decide +kernel
  have fl_priorities := hts (.fieldLink RX0 9 "ProcessRoom" "priorities" "[I") (by decide +kernel)
  have fl_places := hts (.fieldLink RX0 13 "ProcessRoom" "places" "[I") (by decide +kernel)
  subst hsz
  have hD := hD0.self (sz := s.heap.size)
  generalize hAe : va_A (rW ad cA u) s.heap.size = A at hD ⊢
  have hA : ∀ q : Nat, s.heap.size ≤ q → A q := fun q h => by rw [← hAe]; exact Or.inr h
  have hS : va_S A s.heap s.heap [] := va_S.rf
  have hl := lv_entry ([.ref (ad 0), .int p1, .int p2, .int p3]) (n := 4) (Nat.le_of_ble_eq_true rfl)
  rw [lg_entry_eq]
  generalize (lg_sl ([.ref (ad 0), .int p1, .int p2, .int p3]) ++ List.replicate (4 - (lg_sl ([.ref (ad 0), .int p1, .int p2, .int p3])).length) Slot.unset).toArray = ls at hl ⊢
  have hl : lv_has ls 4 [(0, .ref (ad 0)), (1, .int p1), (2, .int p2), (3, .int p3)] := hl
  refine lv_iload_n hx hb dX0_make_0 rfl (lv_at hl 1 rfl) ?_
  refine va_calli (va_runS (As := [.int p1]) (rest := []) ⟨hx, hb, hml, hown, hts⟩ (rc_isProcess l p1 _ rfl) (va_cwS 1 hts gX0_make_X0_isProcess rfl rfl rfl (by decide +kernel) ⟨Nat.le_of_ble_eq_true rfl, Nat.le_of_ble_eq_true rfl⟩) ⟨fun a U g mk q => ⟨q.1, trivial⟩, fun U hU hW => ⟨rfl, trivial⟩⟩ rfl rfl hl.1 rfl (lv_room (Nat.le_of_ble_eq_true rfl)) dX0_make_1 ⟨Nat.le_of_ble_eq_true rfl, Nat.le_of_ble_eq_true rfl⟩) hS (fun _ _ h => h.elim) (fun _ h => h.elim) (fun r_98 u_ t H1 locs ht hvm hr_98 hB hz1 hk1 hS => ?_)
  have hP := hP.kept (fun k x hx => hk1 x.1 ((hP k x hx).lt) (fun h => h))
  generalize H1 = H at hP hS ⊢
  refine lv_if_eq (tgt := 22) hx hb dX0_make_4 (by decide) (fun c_99 => ?_) (fun c_99 => ?_)
  · refine lv_iconst (v := 0) hx hb dX0_make_22 (by decide) ?_
    have eT : (0, u) = T := by subst hr_98; rw [← hf]; simp only [rf_make, if_pos c_99]
    exact W.zret (v := 0) hx hb hr (rfl) (fun t ht hW => ⟨⟨0, u, rfl, ⟨congrArg Prod.fst eT, congrArg Prod.snd eT⟩, by rw [ht]; exact hP, va_K.moved hW.alike hK, hD⟩, hS.F ht⟩) hS.2.2 dX0_make_23
  · refine lv_aload_n hx hb dX0_make_7 rfl (lv_at hl 0 rfl) ?_
    refine lv_iload_n hx hb dX0_make_8 rfl (lv_at hl 1 rfl) ?_
    refine va_calli (va_runV (As := [.int p1]) (rest := []) ⟨hx, hb, hml, hown, hts⟩ (rc_isMade l dC dI ad cA u p1 _ rfl) (cwV 1 hts gX0_make_X0_isMade rfl rfl rfl (by decide +kernel) ⟨Nat.le_of_ble_eq_true rfl, Nat.le_of_ble_eq_true rfl⟩) ⟨fun a U g mk q => by obtain ⟨q0, qP, qK⟩ := q; exact ⟨q0, qP, va_K.moved (u := U) (U := U.calling g mk a) (Vm.Alike.refl U.vm) qK⟩, va_recv hK hP (ci := 0) (q0 := 0) rfl rfl, fun U hU hW => ⟨rfl, by rw [hU]; exact hP, va_K.moved hW.alike hK⟩⟩ rfl rfl hl.1 rfl (lv_room (Nat.le_of_ble_eq_true rfl)) dX0_make_9 ⟨Nat.le_of_ble_eq_true rfl, Nat.le_of_ble_eq_true rfl⟩) hS (fun _ _ h => h.elim) (fun _ h => h.elim) (fun r_100 u_ t H1 locs ht hvm hr_100 hB hz1 hk1 hS => ?_)
    have hP := hP.kept (fun k x hx => hk1 x.1 ((hP k x hx).lt) (fun h => h))
    generalize H1 = H at hP hS ⊢
    refine lv_if_ne (tgt := 22) hx hb dX0_make_12 (by decide) (fun c_101 => ?_) (fun c_101 => ?_)
    · refine lv_iconst (v := 0) hx hb dX0_make_22 (by decide) ?_
      have eT : (0, u) = T := by subst hr_98 hr_100; rw [← hf]; simp only [rf_make, if_neg c_99, if_neg c_101]
      exact W.zret (v := 0) hx hb hr (rfl) (fun t ht hW => ⟨⟨0, u, rfl, ⟨congrArg Prod.fst eT, congrArg Prod.snd eT⟩, by rw [ht]; exact hP, va_K.moved hW.alike hK, hD⟩, hS.F ht⟩) hS.2.2 dX0_make_23
    · refine lv_iload_n hx hb dX0_make_15 rfl (lv_at hl 2 rfl) ?_
      refine va_calli (va_runS (As := [.int p2]) (rest := []) ⟨hx, hb, hml, hown, hts⟩ (rc_isPriority l p2 _ rfl) (va_cwS 1 hts gX0_make_X0_isPriority rfl rfl rfl (by decide +kernel) ⟨Nat.le_of_ble_eq_true rfl, Nat.le_of_ble_eq_true rfl⟩) ⟨fun a U g mk q => ⟨q.1, trivial⟩, fun U hU hW => ⟨rfl, trivial⟩⟩ rfl rfl hl.1 rfl (lv_room (Nat.le_of_ble_eq_true rfl)) dX0_make_16 ⟨Nat.le_of_ble_eq_true rfl, Nat.le_of_ble_eq_true rfl⟩) hS (fun _ _ h => h.elim) (fun _ h => h.elim) (fun r_102 u_ t H1 locs ht hvm hr_102 hB hz1 hk1 hS => ?_)
      have hP := hP.kept (fun k x hx => hk1 x.1 ((hP k x hx).lt) (fun h => h))
      generalize H1 = H at hP hS ⊢
      refine lv_if_ne (tgt := 24) hx hb dX0_make_19 (by decide) (fun c_103 => ?_) (fun c_103 => ?_)
      · refine lv_aload_n hx hb dX0_make_24 rfl (lv_at hl 0 rfl) ?_
        refine va_get (D := (dC, dI)) (ci := 0) (v := .ref (ad 1)) (C := RX0) (T := TX0) (N := 12) (fs := rF ad u) hx hb hts hin0 hown hK hP 0 rfl rfl 0 (by decide) fl_priorities (fun _ h9 => h9) rfl dX0_make_25 ?_
        refine lv_iload_n hx hb dX0_make_28 rfl (lv_at hl 1 rfl) ?_
        refine lv_iload_n hx hb dX0_make_29 rfl (lv_at hl 2 rfl) ?_
        refine va_iast hx hb hK hP hD hS 1 0 rfl rfl (ri_isProcess hr_98 c_99) dX0_make_30 (fun H locs hP hD hS => ?_)
        rw [rw_priorities] at hP hD
        obtain ⟨u_104, hu_104⟩ : ∃ w : RS, w = rs_priorities u (upd (ra_priorities u) p1.toNatClampNeg p2) := ⟨_, rfl⟩
        rw [← hu_104] at hP hD
        refine lv_aload_n hx hb dX0_make_31 rfl (lv_at hl 0 rfl) ?_
        refine va_get (D := (dC, dI)) (ci := 0) (v := .ref (ad 2)) (C := RX0) (T := TX0) (N := 12) (fs := rF ad u_104) hx hb hts hin0 hown hK hP 0 rfl rfl 1 (by decide) fl_places (fun _ h9 => h9) rfl dX0_make_32 ?_
        refine lv_iload_n hx hb dX0_make_35 rfl (lv_at hl 1 rfl) ?_
        refine lv_iload_n hx hb dX0_make_36 rfl (lv_at hl 3 rfl) ?_
        refine va_iast hx hb hK hP hD hS 2 1 (show (rW ad cA u_104)[2]? = some (ad 2, .inl (cA 2, 32, .inl (ra_places u))) from by rw [← (show ra_places u_104 = ra_places u from by rw [hu_104, rq_places_priorities])]; rfl) rfl (ri_isProcess hr_98 c_99) dX0_make_37 (fun H locs hP hD hS => ?_)
        rw [rw_places] at hP hD
        obtain ⟨u_105, hu_105⟩ : ∃ w : RS, w = rs_places u_104 (upd (ra_places u) p1.toNatClampNeg p3) := ⟨_, rfl⟩
        rw [← hu_105] at hP hD
        refine lv_iconst (v := 1) hx hb dX0_make_38 (by decide) ?_
        have eT : (1, u_105) = T := by subst hr_98 hr_100 hr_102 hu_104 hu_105; rw [← hf]; simp only [rf_make, if_neg c_99, if_pos c_101, if_neg c_103]
        exact W.zret (v := 1) hx hb hr (rfl) (fun t ht hW => ⟨⟨1, u_105, rfl, ⟨congrArg Prod.fst eT, congrArg Prod.snd eT⟩, by rw [ht]; exact hP, va_K.moved hW.alike hK, hD⟩, hS.F ht⟩) hS.2.2 dX0_make_39
      · refine lv_iconst (v := 0) hx hb dX0_make_22 (by decide) ?_
        have eT : (0, u) = T := by subst hr_98 hr_100 hr_102; rw [← hf]; simp only [rf_make, if_neg c_99, if_pos c_101, if_pos c_103]
        exact W.zret (v := 0) hx hb hr (rfl) (fun t ht hW => ⟨⟨0, u, rfl, ⟨congrArg Prod.fst eT, congrArg Prod.snd eT⟩, by rw [ht]; exact hP, va_K.moved hW.alike hK, hD⟩, hS.F ht⟩) hS.2.2 dX0_make_23
set_option maxHeartbeats 4000000 in
set_option maxRecDepth 100000 in
theorem rc_resume (l : Launch) (dC : Nat → ClassId) (dI : Nat → Nat → Nat) (ad : Nat → Nat) (cA : Nat → ClassId) (sz : Nat) (u : RS) (p1 : Int32) (hI : rInv u) (T : Int32 × RS) (hf : rf_resume u p1 = T) : Met l yX0_resume wsX0_resume ({ frames := 4, cells := 0, slots := 0, locals := 84 } : Room) (va_Pc [.ref (ad 0), .int p1] (fun U => U.heap.size = sz ∧ va_P (dC, dI) vwCl (rW ad cA u) U.heap ∧ va_K (dC, dI) vwCl (rT cA) U ∧ va_D (fun _ => True) (rW ad cA u))) (va_Qi (fun r u2 => r = T.1 ∧ u2 = T.2) (rAt dC dI (va_A (rW ad cA u) sz) ad cA) (va_A (rW ad cA u) sz)) 0 0 (va_A (rW ad cA u) sz) := by
  refine Met.ofW (cc := cX0_resume) (maxL := 2) (ret := (some .boolean)) (by decide) rfl ?_
  intro p e s m args below meth c s₁ B hml hv
  obtain ⟨rfl, hsz, hP, hK, hD0⟩ := hv
  have hx := B.exec
  have hb := B.bytes
  have hr := B.returns
  have hts := atoms_spec (ws := wsX0_resume) B.pre
  have hown : s.vm.findClass RX0 = some m.cls := findClass_of_methodNamed B.named
  have hlocks := B.notSynchronized
  have hin0 : ∀ w ∈ wsX00, w ∈ wsX0_resume := by decide +kernel
  have fl_rows := hts (.fieldLink RX0 16 "ProcessRoom" "rows" "[I") (by decide +kernel)
  have fl_active := hts (.fieldLink RX0 35 "ProcessRoom" "active" "I") (by decide +kernel)
  subst hsz
  have hD := hD0.self (sz := s.heap.size)
  generalize hAe : va_A (rW ad cA u) s.heap.size = A at hD ⊢
  have hA : ∀ q : Nat, s.heap.size ≤ q → A q := fun q h => by rw [← hAe]; exact Or.inr h
  have hS : va_S A s.heap s.heap [] := va_S.rf
  have hl := lv_entry ([.ref (ad 0), .int p1]) (n := 2) (Nat.le_of_ble_eq_true rfl)
  rw [lg_entry_eq]
  generalize (lg_sl ([.ref (ad 0), .int p1]) ++ List.replicate (2 - (lg_sl ([.ref (ad 0), .int p1])).length) Slot.unset).toArray = ls at hl ⊢
  have hl : lv_has ls 2 [(0, .ref (ad 0)), (1, .int p1)] := hl
  refine lv_aload_n hx hb dX0_resume_0 rfl (lv_at hl 0 rfl) ?_
  refine lv_iload_n hx hb dX0_resume_1 rfl (lv_at hl 1 rfl) ?_
  refine va_calli (va_runV (As := [.int p1]) (rest := []) ⟨hx, hb, hml, hown, hts⟩ (rc_isMade l dC dI ad cA u p1 _ rfl) (cwV 1 hts gX0_resume_X0_isMade rfl rfl rfl (by decide +kernel) ⟨Nat.le_of_ble_eq_true rfl, Nat.le_of_ble_eq_true rfl⟩) ⟨fun a U g mk q => by obtain ⟨q0, qP, qK⟩ := q; exact ⟨q0, qP, va_K.moved (u := U) (U := U.calling g mk a) (Vm.Alike.refl U.vm) qK⟩, va_recv hK hP (ci := 0) (q0 := 0) rfl rfl, fun U hU hW => ⟨rfl, by rw [hU]; exact hP, va_K.moved hW.alike hK⟩⟩ rfl rfl hl.1 rfl (lv_room (Nat.le_of_ble_eq_true rfl)) dX0_resume_2 ⟨Nat.le_of_ble_eq_true rfl, Nat.le_of_ble_eq_true rfl⟩) hS (fun _ _ h => h.elim) (fun _ h => h.elim) (fun r_106 u_ t H1 locs ht hvm hr_106 hB hz1 hk1 hS => ?_)
  have hP := hP.kept (fun k x hx => hk1 x.1 ((hP k x hx).lt) (fun h => h))
  generalize H1 = H at hP hS ⊢
  refine lv_if_eq (tgt := 33) hx hb dX0_resume_5 (by decide) (fun c_107 => ?_) (fun c_107 => ?_)
  · refine lv_iconst (v := 0) hx hb dX0_resume_33 (by decide) ?_
    have eT : (0, u) = T := by subst hr_106; rw [← hf]; simp only [rf_resume, if_pos c_107]
    exact W.zret (v := 0) hx hb hr (rfl) (fun t ht hW => ⟨⟨0, u, rfl, ⟨congrArg Prod.fst eT, congrArg Prod.snd eT⟩, by rw [ht]; exact hP, va_K.moved hW.alike hK, hD⟩, hS.F ht⟩) hS.2.2 dX0_resume_34
  · refine lv_aload_n hx hb dX0_resume_8 rfl (lv_at hl 0 rfl) ?_
    refine va_get (D := (dC, dI)) (ci := 0) (v := .ref (ad 3)) (C := RX0) (T := TX0) (N := 12) (fs := rF ad u) hx hb hts hin0 hown hK hP 0 rfl rfl 2 (by decide) fl_rows (fun _ h9 => h9) rfl dX0_resume_9 ?_
    refine lv_iload_n hx hb dX0_resume_12 rfl (lv_at hl 1 rfl) ?_
    refine va_iald hx hb hK hP 3 2 rfl rfl (ri_isMade hr_106 c_107) dX0_resume_13 ?_
    refine lv_if_ne (tgt := 33) hx hb dX0_resume_14 (by decide) (fun c_108 => ?_) (fun c_108 => ?_)
    · refine lv_iconst (v := 0) hx hb dX0_resume_33 (by decide) ?_
      have eT : (0, u) = T := by subst hr_106; rw [← hf]; simp only [rf_resume, if_neg c_107, if_neg c_108]
      exact W.zret (v := 0) hx hb hr (rfl) (fun t ht hW => ⟨⟨0, u, rfl, ⟨congrArg Prod.fst eT, congrArg Prod.snd eT⟩, by rw [ht]; exact hP, va_K.moved hW.alike hK, hD⟩, hS.F ht⟩) hS.2.2 dX0_resume_34
    · refine lv_iload_n hx hb dX0_resume_17 rfl (lv_at hl 1 rfl) ?_
      refine lv_aload_n hx hb dX0_resume_18 rfl (lv_at hl 0 rfl) ?_
      refine va_calli (va_runV (As := []) (rest := [.int p1]) ⟨hx, hb, hml, hown, hts⟩ (rc_present l dC dI ad cA u _ rfl) (cwV 0 hts gX0_resume_X0_present rfl rfl rfl (by decide +kernel) ⟨Nat.le_of_ble_eq_true rfl, Nat.le_of_ble_eq_true rfl⟩) ⟨fun a U g mk q => by obtain ⟨q0, qP, qK⟩ := q; exact ⟨q0, qP, va_K.moved (u := U) (U := U.calling g mk a) (Vm.Alike.refl U.vm) qK⟩, va_recv hK hP (ci := 0) (q0 := 0) rfl rfl, fun U hU hW => ⟨rfl, by rw [hU]; exact hP, va_K.moved hW.alike hK⟩⟩ rfl rfl hl.1 rfl (lv_room (Nat.le_of_ble_eq_true rfl)) dX0_resume_19 ⟨Nat.le_of_ble_eq_true rfl, Nat.le_of_ble_eq_true rfl⟩) hS (fun _ _ h => h.elim) (fun _ h => h.elim) (fun r_109 u_ t H1 locs ht hvm hr_109 hB hz1 hk1 hS => ?_)
      have hP := hP.kept (fun k x hx => hk1 x.1 ((hP k x hx).lt) (fun h => h))
      generalize H1 = H at hP hS ⊢
      refine lv_icmp_eq (tgt := 33) hx hb dX0_resume_22 (by decide) (fun c_110 => ?_) (fun c_110 => ?_)
      · refine lv_iconst (v := 0) hx hb dX0_resume_33 (by decide) ?_
        have eT : (0, u) = T := by subst hr_106 hr_109; rw [← hf]; simp only [rf_resume, if_neg c_107, if_pos c_108, if_pos c_110]
        exact W.zret (v := 0) hx hb hr (rfl) (fun t ht hW => ⟨⟨0, u, rfl, ⟨congrArg Prod.fst eT, congrArg Prod.snd eT⟩, by rw [ht]; exact hP, va_K.moved hW.alike hK, hD⟩, hS.F ht⟩) hS.2.2 dX0_resume_34
      · refine lv_iload_n hx hb dX0_resume_25 rfl (lv_at hl 1 rfl) ?_
        refine lv_aload_n hx hb dX0_resume_26 rfl (lv_at hl 0 rfl) ?_
        refine va_get (D := (dC, dI)) (ci := 0) (v := .int (ra_active u)) (C := RX0) (T := TX0) (N := 12) (fs := rF ad u) hx hb hts hin0 hown hK hP 0 rfl rfl 8 (by decide) fl_active (fun _ h9 => h9) rfl dX0_resume_27 ?_
        refine lv_icmp_ne (tgt := 35) hx hb dX0_resume_30 (by decide) (fun c_111 => ?_) (fun c_111 => ?_)
        · refine lv_aload_n hx hb dX0_resume_35 rfl (lv_at hl 0 rfl) ?_
          refine lv_iload_n hx hb dX0_resume_36 rfl (lv_at hl 1 rfl) ?_
          have hFc := va_free (wc := (rW ad cA u)) hD hS hA [0, 1, 2, 3, 4, 5, 6] rfl
          refine va_callv (va_runV (As := [.int p1]) (rest := []) ⟨hx, hb, hml, hown, hts⟩ (rc_wake l dC dI ad cA _ u p1 hI _ rfl) (cwV 1 hts gX0_resume_X0_wake rfl rfl rfl (by decide +kernel) ⟨Nat.le_of_ble_eq_true rfl, Nat.le_of_ble_eq_true rfl⟩) ⟨fun a U g mk q => by obtain ⟨q0, q1, qP, qK, qD⟩ := q; exact ⟨q0, q1, qP, va_K.moved (u := U) (U := U.calling g mk a) (Vm.Alike.refl U.vm) qK, qD⟩, va_recv hK hP (ci := 0) (q0 := 0) rfl rfl, fun U hU hW => ⟨rfl, by rw [hU], by rw [hU]; exact hP, va_K.moved hW.alike hK, hD.weaken (fun _ _ _ _ => trivial)⟩⟩ rfl rfl hl.1 rfl (lv_room (Nat.le_of_ble_eq_true rfl)) dX0_resume_37 ⟨Nat.le_of_ble_eq_true rfl, Nat.le_of_ble_eq_true rfl⟩) hS (fun q _ h => hFc q h) hFc (fun u_113 t H1 locs ht hvm hu_113 hB hz1 hk1 hS => ?_)
          obtain ⟨hP, hK1, hD1⟩ := hB
          rw [ht] at hP
          have hD := hD1.weaken (fun _ _ _ h => hFc _ h)
          generalize H1 = H at hP hS ⊢
          have hP : va_P (dC, dI) vwCl (rW ad cA u_113) H := hP
          have hD : va_D A (rW ad cA u_113) := hD
          refine lv_iconst (v := 1) hx hb dX0_resume_40 (by decide) ?_
          have eT : (1, u_113) = T := by subst hr_106 hr_109 hu_113; rw [← hf]; simp only [rf_resume, if_neg c_107, if_pos c_108, if_neg c_110, if_neg c_111]
          exact W.zret (v := 1) hx hb hr (rfl) (fun t ht hW => ⟨⟨1, u_113, rfl, ⟨congrArg Prod.fst eT, congrArg Prod.snd eT⟩, by rw [ht]; exact hP, va_K.moved hW.alike hK, hD⟩, hS.F ht⟩) hS.2.2 dX0_resume_41
        · refine lv_iconst (v := 0) hx hb dX0_resume_33 (by decide) ?_
          have eT : (0, u) = T := by subst hr_106 hr_109; rw [← hf]; simp only [rf_resume, if_neg c_107, if_pos c_108, if_neg c_110, if_pos c_111]
          exact W.zret (v := 0) hx hb hr (rfl) (fun t ht hW => ⟨⟨0, u, rfl, ⟨congrArg Prod.fst eT, congrArg Prod.snd eT⟩, by rw [ht]; exact hP, va_K.moved hW.alike hK, hD⟩, hS.F ht⟩) hS.2.2 dX0_resume_34
set_option maxHeartbeats 4000000 in
set_option maxRecDepth 100000 in
theorem rc_suspend (l : Launch) (dC : Nat → ClassId) (dI : Nat → Nat → Nat) (ad : Nat → Nat) (cA : Nat → ClassId) (sz : Nat) (u : RS)  (T : Int32 × RS) (hf : rf_suspend u = T) : Met l yX0_suspend wsX0_suspend ({ frames := 4, cells := 0, slots := 0, locals := 88 } : Room) (va_Pc [.ref (ad 0)] (fun U => U.heap.size = sz ∧ va_P (dC, dI) vwCl (rW ad cA u) U.heap ∧ va_K (dC, dI) vwCl (rT cA) U ∧ va_D (fun _ => True) (rW ad cA u))) (va_Qi (fun r u2 => r = T.1 ∧ u2 = T.2) (rAt dC dI (va_A (rW ad cA u) sz) ad cA) (va_A (rW ad cA u) sz)) 0 0 (va_A (rW ad cA u) sz) := by
  refine Met.ofW (cc := cX0_suspend) (maxL := 2) (ret := (some .int)) (by decide) rfl ?_
  intro p e s m args below meth c s₁ B hml hv
  obtain ⟨rfl, hsz, hP, hK, hD0⟩ := hv
  have hx := B.exec
  have hb := B.bytes
  have hr := B.returns
  have hts := atoms_spec (ws := wsX0_suspend) B.pre
  have hown : s.vm.findClass RX0 = some m.cls := findClass_of_methodNamed B.named
  have hlocks := B.notSynchronized
  subst hsz
  have hD := hD0.self (sz := s.heap.size)
  generalize hAe : va_A (rW ad cA u) s.heap.size = A at hD ⊢
  have hA : ∀ q : Nat, s.heap.size ≤ q → A q := fun q h => by rw [← hAe]; exact Or.inr h
  have hS : va_S A s.heap s.heap [] := va_S.rf
  have hl := lv_entry ([.ref (ad 0)]) (n := 2) (Nat.le_of_ble_eq_true rfl)
  rw [lg_entry_eq]
  generalize (lg_sl ([.ref (ad 0)]) ++ List.replicate (2 - (lg_sl ([.ref (ad 0)])).length) Slot.unset).toArray = ls at hl ⊢
  have hl : lv_has ls 2 [(0, .ref (ad 0))] := hl
  refine lv_aload_n hx hb dX0_suspend_0 rfl (lv_at hl 0 rfl) ?_
  refine va_calli (va_runV (As := []) (rest := []) ⟨hx, hb, hml, hown, hts⟩ (rc_present l dC dI ad cA u _ rfl) (cwV 0 hts gX0_suspend_X0_present rfl rfl rfl (by decide +kernel) ⟨Nat.le_of_ble_eq_true rfl, Nat.le_of_ble_eq_true rfl⟩) ⟨fun a U g mk q => by obtain ⟨q0, qP, qK⟩ := q; exact ⟨q0, qP, va_K.moved (u := U) (U := U.calling g mk a) (Vm.Alike.refl U.vm) qK⟩, va_recv hK hP (ci := 0) (q0 := 0) rfl rfl, fun U hU hW => ⟨rfl, by rw [hU]; exact hP, va_K.moved hW.alike hK⟩⟩ rfl rfl hl.1 rfl (lv_room (Nat.le_of_ble_eq_true rfl)) dX0_suspend_1 ⟨Nat.le_of_ble_eq_true rfl, Nat.le_of_ble_eq_true rfl⟩) hS (fun _ _ h => h.elim) (fun _ h => h.elim) (fun r_114 u_ t H1 locs ht hvm hr_114 hB hz1 hk1 hS => ?_)
  have hP := hP.kept (fun k x hx => hk1 x.1 ((hP k x hx).lt) (fun h => h))
  generalize H1 = H at hP hS ⊢
  refine lv_istore_n (lv' := [(1, .int r_114), (0, .ref (ad 0))]) hx hb dX0_suspend_4 rfl hl (by decide) rfl (fun ls hl => ?_)
  refine lv_iload_n hx hb dX0_suspend_5 rfl (lv_at hl 0 rfl) ?_
  refine lv_iconst (v := (-1)) hx hb dX0_suspend_6 (by decide) ?_
  refine lv_icmp_eq (tgt := 14) hx hb dX0_suspend_7 (by decide) (fun c_115 => ?_) (fun c_115 => ?_)
  · refine lv_iload_n hx hb dX0_suspend_14 rfl (lv_at hl 0 rfl) ?_
    have eT : (r_114, u) = T := by subst hr_114; rw [← hf]; simp only [rf_suspend, if_pos c_115]
    exact W.iret (v := r_114) hx hb hr (fun t ht hW => ⟨⟨r_114, u, rfl, ⟨congrArg Prod.fst eT, congrArg Prod.snd eT⟩, by rw [ht]; exact hP, va_K.moved hW.alike hK, hD⟩, hS.F ht⟩) hS.2.2 dX0_suspend_15
  · refine lv_aload_n hx hb dX0_suspend_10 rfl (lv_at hl 1 rfl) ?_
    have hFc := va_free (wc := (rW ad cA u)) hD hS hA [0, 1, 2, 3, 4, 5, 6] rfl
    refine va_callv (va_runV (As := []) (rest := []) ⟨hx, hb, hml, hown, hts⟩ (rc_putAside l dC dI ad cA _ u _ rfl) (cwV 0 hts gX0_suspend_X0_putAside rfl rfl rfl (by decide +kernel) ⟨Nat.le_of_ble_eq_true rfl, Nat.le_of_ble_eq_true rfl⟩) ⟨fun a U g mk q => by obtain ⟨q0, q1, qP, qK, qD⟩ := q; exact ⟨q0, q1, qP, va_K.moved (u := U) (U := U.calling g mk a) (Vm.Alike.refl U.vm) qK, qD⟩, va_recv hK hP (ci := 0) (q0 := 0) rfl rfl, fun U hU hW => ⟨rfl, by rw [hU], by rw [hU]; exact hP, va_K.moved hW.alike hK, hD.weaken (fun _ _ _ _ => trivial)⟩⟩ rfl rfl hl.1 rfl (lv_room (Nat.le_of_ble_eq_true rfl)) dX0_suspend_11 ⟨Nat.le_of_ble_eq_true rfl, Nat.le_of_ble_eq_true rfl⟩) hS (fun q _ h => hFc q h) hFc (fun u_117 t H1 locs ht hvm hu_117 hB hz1 hk1 hS => ?_)
    obtain ⟨hP, hK1, hD1⟩ := hB
    rw [ht] at hP
    have hD := hD1.weaken (fun _ _ _ h => hFc _ h)
    generalize H1 = H at hP hS ⊢
    have hP : va_P (dC, dI) vwCl (rW ad cA u_117) H := hP
    have hD : va_D A (rW ad cA u_117) := hD
    refine lv_iload_n hx hb dX0_suspend_14 rfl (lv_at hl 0 rfl) ?_
    have eT : (r_114, u_117) = T := by subst hr_114 hu_117; rw [← hf]; simp only [rf_suspend, if_neg c_115]
    exact W.iret (v := r_114) hx hb hr (fun t ht hW => ⟨⟨r_114, u_117, rfl, ⟨congrArg Prod.fst eT, congrArg Prod.snd eT⟩, by rw [ht]; exact hP, va_K.moved hW.alike hK, hD⟩, hS.F ht⟩) hS.2.2 dX0_suspend_15
set_option maxHeartbeats 4000000 in
set_option maxRecDepth 100000 in
theorem rc_end (l : Launch) (dC : Nat → ClassId) (dI : Nat → Nat → Nat) (ad : Nat → Nat) (cA : Nat → ClassId) (sz : Nat) (u : RS)  (T : Int32 × RS) (hf : rf_end u = T) : Met l yX0_end wsX0_end ({ frames := 4, cells := 0, slots := 0, locals := 88 } : Room) (va_Pc [.ref (ad 0)] (fun U => U.heap.size = sz ∧ va_P (dC, dI) vwCl (rW ad cA u) U.heap ∧ va_K (dC, dI) vwCl (rT cA) U ∧ va_D (fun _ => True) (rW ad cA u))) (va_Qi (fun r u2 => r = T.1 ∧ u2 = T.2) (rAt dC dI (va_A (rW ad cA u) sz) ad cA) (va_A (rW ad cA u) sz)) 0 0 (va_A (rW ad cA u) sz) := by
  refine Met.ofW (cc := cX0_end) (maxL := 2) (ret := (some .int)) (by decide) rfl ?_
  intro p e s m args below meth c s₁ B hml hv
  obtain ⟨rfl, hsz, hP, hK, hD0⟩ := hv
  have hx := B.exec
  have hb := B.bytes
  have hr := B.returns
  have hts := atoms_spec (ws := wsX0_end) B.pre
  have hown : s.vm.findClass RX0 = some m.cls := findClass_of_methodNamed B.named
  have hlocks := B.notSynchronized
  have hin0 : ∀ w ∈ wsX00, w ∈ wsX0_end := by decide +kernel
  have fl_priorities := hts (.fieldLink RX0 9 "ProcessRoom" "priorities" "[I") (by decide +kernel)
  have fl_active := hts (.fieldLink RX0 35 "ProcessRoom" "active" "I") (by decide +kernel)
  subst hsz
  have hD := hD0.self (sz := s.heap.size)
  generalize hAe : va_A (rW ad cA u) s.heap.size = A at hD ⊢
  have hA : ∀ q : Nat, s.heap.size ≤ q → A q := fun q h => by rw [← hAe]; exact Or.inr h
  have hS : va_S A s.heap s.heap [] := va_S.rf
  have hl := lv_entry ([.ref (ad 0)]) (n := 2) (Nat.le_of_ble_eq_true rfl)
  rw [lg_entry_eq]
  generalize (lg_sl ([.ref (ad 0)]) ++ List.replicate (2 - (lg_sl ([.ref (ad 0)])).length) Slot.unset).toArray = ls at hl ⊢
  have hl : lv_has ls 2 [(0, .ref (ad 0))] := hl
  refine lv_aload_n hx hb dX0_end_0 rfl (lv_at hl 0 rfl) ?_
  refine va_calli (va_runV (As := []) (rest := []) ⟨hx, hb, hml, hown, hts⟩ (rc_present l dC dI ad cA u _ rfl) (cwV 0 hts gX0_end_X0_present rfl rfl rfl (by decide +kernel) ⟨Nat.le_of_ble_eq_true rfl, Nat.le_of_ble_eq_true rfl⟩) ⟨fun a U g mk q => by obtain ⟨q0, qP, qK⟩ := q; exact ⟨q0, qP, va_K.moved (u := U) (U := U.calling g mk a) (Vm.Alike.refl U.vm) qK⟩, va_recv hK hP (ci := 0) (q0 := 0) rfl rfl, fun U hU hW => ⟨rfl, by rw [hU]; exact hP, va_K.moved hW.alike hK⟩⟩ rfl rfl hl.1 rfl (lv_room (Nat.le_of_ble_eq_true rfl)) dX0_end_1 ⟨Nat.le_of_ble_eq_true rfl, Nat.le_of_ble_eq_true rfl⟩) hS (fun _ _ h => h.elim) (fun _ h => h.elim) (fun r_118 u_ t H1 locs ht hvm hr_118 hB hz1 hk1 hS => ?_)
  have hP := hP.kept (fun k x hx => hk1 x.1 ((hP k x hx).lt) (fun h => h))
  generalize H1 = H at hP hS ⊢
  refine lv_istore_n (lv' := [(1, .int r_118), (0, .ref (ad 0))]) hx hb dX0_end_4 rfl hl (by decide) rfl (fun ls hl => ?_)
  refine lv_aload_n hx hb dX0_end_5 rfl (lv_at hl 1 rfl) ?_
  refine lv_iload_n hx hb dX0_end_6 rfl (lv_at hl 0 rfl) ?_
  refine va_calli (va_runV (As := [.int r_118]) (rest := []) ⟨hx, hb, hml, hown, hts⟩ (rc_isMade l dC dI ad cA u r_118 _ rfl) (cwV 1 hts gX0_end_X0_isMade rfl rfl rfl (by decide +kernel) ⟨Nat.le_of_ble_eq_true rfl, Nat.le_of_ble_eq_true rfl⟩) ⟨fun a U g mk q => by obtain ⟨q0, qP, qK⟩ := q; exact ⟨q0, qP, va_K.moved (u := U) (U := U.calling g mk a) (Vm.Alike.refl U.vm) qK⟩, va_recv hK hP (ci := 0) (q0 := 0) rfl rfl, fun U hU hW => ⟨rfl, by rw [hU]; exact hP, va_K.moved hW.alike hK⟩⟩ rfl rfl hl.1 rfl (lv_room (Nat.le_of_ble_eq_true rfl)) dX0_end_7 ⟨Nat.le_of_ble_eq_true rfl, Nat.le_of_ble_eq_true rfl⟩) hS (fun _ _ h => h.elim) (fun _ h => h.elim) (fun r_119 u_ t H1 locs ht hvm hr_119 hB hz1 hk1 hS => ?_)
  have hP := hP.kept (fun k x hx => hk1 x.1 ((hP k x hx).lt) (fun h => h))
  generalize H1 = H at hP hS ⊢
  refine lv_if_ne (tgt := 15) hx hb dX0_end_10 (by decide) (fun c_120 => ?_) (fun c_120 => ?_)
  · refine lv_aload_n hx hb dX0_end_15 rfl (lv_at hl 1 rfl) ?_
    refine va_get (D := (dC, dI)) (ci := 0) (v := .ref (ad 1)) (C := RX0) (T := TX0) (N := 12) (fs := rF ad u) hx hb hts hin0 hown hK hP 0 rfl rfl 0 (by decide) fl_priorities (fun _ h9 => h9) rfl dX0_end_16 ?_
    refine lv_iload_n hx hb dX0_end_19 rfl (lv_at hl 0 rfl) ?_
    refine lv_iconst (v := 0) hx hb dX0_end_20 (by decide) ?_
    refine va_iast hx hb hK hP hD hS 1 0 rfl rfl (ri_isMade hr_119 c_120) dX0_end_21 (fun H locs hP hD hS => ?_)
    rw [rw_priorities] at hP hD
    obtain ⟨u_121, hu_121⟩ : ∃ w : RS, w = rs_priorities u (upd (ra_priorities u) r_118.toNatClampNeg 0) := ⟨_, rfl⟩
    rw [← hu_121] at hP hD
    refine lv_iload_n hx hb dX0_end_22 rfl (lv_at hl 0 rfl) ?_
    refine lv_aload_n hx hb dX0_end_23 rfl (lv_at hl 1 rfl) ?_
    refine va_get (D := (dC, dI)) (ci := 0) (v := .int (ra_active u)) (C := RX0) (T := TX0) (N := 12) (fs := rF ad u_121) hx hb hts hin0 hown hK hP 0 rfl rfl 8 (by decide) fl_active (fun _ h9 => h9) (congrArg (fun z => some (Value.int z)) (show ra_active u_121 = ra_active u from by rw [hu_121, rq_active_priorities])) dX0_end_24 ?_
    refine lv_icmp_ne (tgt := 35) hx hb dX0_end_27 (by decide) (fun c_122 => ?_) (fun c_122 => ?_)
    · refine lv_aload_n hx hb dX0_end_35 rfl (lv_at hl 1 rfl) ?_
      have hFc := va_free (wc := (rW ad cA u_121)) hD hS hA [0, 1, 2, 3, 4, 5, 6] rfl
      refine va_callv (va_runV (As := []) (rest := []) ⟨hx, hb, hml, hown, hts⟩ (rc_putAside l dC dI ad cA _ u_121 _ rfl) (cwV 0 hts gX0_end_X0_putAside rfl rfl rfl (by decide +kernel) ⟨Nat.le_of_ble_eq_true rfl, Nat.le_of_ble_eq_true rfl⟩) ⟨fun a U g mk q => by obtain ⟨q0, q1, qP, qK, qD⟩ := q; exact ⟨q0, q1, qP, va_K.moved (u := U) (U := U.calling g mk a) (Vm.Alike.refl U.vm) qK, qD⟩, va_recv hK hP (ci := 0) (q0 := 0) rfl rfl, fun U hU hW => ⟨rfl, by rw [hU], by rw [hU]; exact hP, va_K.moved hW.alike hK, hD.weaken (fun _ _ _ _ => trivial)⟩⟩ rfl rfl hl.1 rfl (lv_room (Nat.le_of_ble_eq_true rfl)) dX0_end_36 ⟨Nat.le_of_ble_eq_true rfl, Nat.le_of_ble_eq_true rfl⟩) hS (fun q _ h => hFc q h) hFc (fun u_124 t H1 locs ht hvm hu_124 hB hz1 hk1 hS => ?_)
      obtain ⟨hP, hK1, hD1⟩ := hB
      rw [ht] at hP
      have hD := hD1.weaken (fun _ _ _ h => hFc _ h)
      generalize H1 = H at hP hS ⊢
      have hP : va_P (dC, dI) vwCl (rW ad cA u_124) H := hP
      have hD : va_D A (rW ad cA u_124) := hD
      refine lv_iload_n hx hb dX0_end_39 rfl (lv_at hl 0 rfl) ?_
      have eT : (r_118, u_124) = T := by subst hr_118 hr_119 hu_121 hu_124; rw [← hf]; simp only [rf_end, if_neg c_120, if_neg c_122]
      exact W.iret (v := r_118) hx hb hr (fun t ht hW => ⟨⟨r_118, u_124, rfl, ⟨congrArg Prod.fst eT, congrArg Prod.snd eT⟩, by rw [ht]; exact hP, va_K.moved hW.alike hK, hD⟩, hS.F ht⟩) hS.2.2 dX0_end_40
    · refine lv_aload_n hx hb dX0_end_30 rfl (lv_at hl 1 rfl) ?_
      refine lv_iconst (v := (-1)) hx hb dX0_end_31 (by decide) ?_
      refine va_put (D := (dC, dI)) (ci := 0) (v := .int (-1)) (ty := .int) (C := RX0) (T := TX0) (N := 12) (fs := rF ad u_121) hx hb hts hin0 tyX0 tyX0_ok nmX0 hown hK hP hD hS 0 rfl rfl 8 (by decide) fl_active (fun _ h9 => h9) rfl (by decide +kernel) rfl rfl (Nat.le_of_ble_eq_true rfl) dX0_end_32 (fun H locs hP hD hS => ?_)
      rw [rw_active] at hP hD
      obtain ⟨u_125, hu_125⟩ : ∃ w : RS, w = rs_active u_121 (-1) := ⟨_, rfl⟩
      rw [← hu_125] at hP hD
      refine lv_aload_n hx hb dX0_end_35 rfl (lv_at hl 1 rfl) ?_
      have hFc := va_free (wc := (rW ad cA u_125)) hD hS hA [0, 1, 2, 3, 4, 5, 6] rfl
      refine va_callv (va_runV (As := []) (rest := []) ⟨hx, hb, hml, hown, hts⟩ (rc_putAside l dC dI ad cA _ u_125 _ rfl) (cwV 0 hts gX0_end_X0_putAside rfl rfl rfl (by decide +kernel) ⟨Nat.le_of_ble_eq_true rfl, Nat.le_of_ble_eq_true rfl⟩) ⟨fun a U g mk q => by obtain ⟨q0, q1, qP, qK, qD⟩ := q; exact ⟨q0, q1, qP, va_K.moved (u := U) (U := U.calling g mk a) (Vm.Alike.refl U.vm) qK, qD⟩, va_recv hK hP (ci := 0) (q0 := 0) rfl rfl, fun U hU hW => ⟨rfl, by rw [hU], by rw [hU]; exact hP, va_K.moved hW.alike hK, hD.weaken (fun _ _ _ _ => trivial)⟩⟩ rfl rfl hl.1 rfl (lv_room (Nat.le_of_ble_eq_true rfl)) dX0_end_36 ⟨Nat.le_of_ble_eq_true rfl, Nat.le_of_ble_eq_true rfl⟩) hS (fun q _ h => hFc q h) hFc (fun u_127 t H1 locs ht hvm hu_127 hB hz1 hk1 hS => ?_)
      obtain ⟨hP, hK1, hD1⟩ := hB
      rw [ht] at hP
      have hD := hD1.weaken (fun _ _ _ h => hFc _ h)
      generalize H1 = H at hP hS ⊢
      have hP : va_P (dC, dI) vwCl (rW ad cA u_127) H := hP
      have hD : va_D A (rW ad cA u_127) := hD
      refine lv_iload_n hx hb dX0_end_39 rfl (lv_at hl 0 rfl) ?_
      have eT : (r_118, u_127) = T := by subst hr_118 hr_119 hu_121 hu_125 hu_127; rw [← hf]; simp only [rf_end, if_neg c_120, if_pos c_122]
      exact W.iret (v := r_118) hx hb hr (fun t ht hW => ⟨⟨r_118, u_127, rfl, ⟨congrArg Prod.fst eT, congrArg Prod.snd eT⟩, by rw [ht]; exact hP, va_K.moved hW.alike hK, hD⟩, hS.F ht⟩) hS.2.2 dX0_end_40
  · refine lv_iconst (v := (-1)) hx hb dX0_end_13 (by decide) ?_
    have eT : ((-1), u) = T := by subst hr_118 hr_119; rw [← hf]; simp only [rf_end, if_pos c_120]
    exact W.iret (v := (-1)) hx hb hr (fun t ht hW => ⟨⟨(-1), u, rfl, ⟨congrArg Prod.fst eT, congrArg Prod.snd eT⟩, by rw [ht]; exact hP, va_K.moved hW.alike hK, hD⟩, hS.F ht⟩) hS.2.2 dX0_end_14
set_option maxHeartbeats 4000000 in
set_option maxRecDepth 100000 in
theorem rc_await (l : Launch) (dC : Nat → ClassId) (dI : Nat → Nat → Nat) (ad : Nat → Nat) (cA : Nat → ClassId) (sz : Nat) (u : RS) (p1 : Int32) (hI : rInv u) (T : Int32 × RS) (hf : rf_await u p1 = T) : Met l yX0_await wsX0_await ({ frames := 4, cells := 0, slots := 0, locals := 88 } : Room) (va_Pc [.ref (ad 0), .int p1] (fun U => U.heap.size = sz ∧ va_P (dC, dI) vwCl (rW ad cA u) U.heap ∧ va_K (dC, dI) vwCl (rT cA) U ∧ va_D (fun _ => True) (rW ad cA u))) (va_Qi (fun r u2 => r = T.1 ∧ u2 = T.2) (rAt dC dI (va_A (rW ad cA u) sz) ad cA) (va_A (rW ad cA u) sz)) 0 0 (va_A (rW ad cA u) sz) := by
  refine Met.ofW (cc := cX0_await) (maxL := 3) (ret := (some .int)) (by decide) rfl ?_
  intro p e s m args below meth c s₁ B hml hv
  obtain ⟨rfl, hsz, hP, hK, hD0⟩ := hv
  have hx := B.exec
  have hb := B.bytes
  have hr := B.returns
  have hts := atoms_spec (ws := wsX0_await) B.pre
  have hown : s.vm.findClass RX0 = some m.cls := findClass_of_methodNamed B.named
  have hlocks := B.notSynchronized
  have hin0 : ∀ w ∈ wsX00, w ∈ wsX0_await := by decide +kernel
  have fl_extras := hts (.fieldLink RX0 26 "ProcessRoom" "extras" "[I") (by decide +kernel)
  subst hsz
  have hD := hD0.self (sz := s.heap.size)
  generalize hAe : va_A (rW ad cA u) s.heap.size = A at hD ⊢
  have hA : ∀ q : Nat, s.heap.size ≤ q → A q := fun q h => by rw [← hAe]; exact Or.inr h
  have hS : va_S A s.heap s.heap [] := va_S.rf
  have hl := lv_entry ([.ref (ad 0), .int p1]) (n := 3) (Nat.le_of_ble_eq_true rfl)
  rw [lg_entry_eq]
  generalize (lg_sl ([.ref (ad 0), .int p1]) ++ List.replicate (3 - (lg_sl ([.ref (ad 0), .int p1])).length) Slot.unset).toArray = ls at hl ⊢
  have hl : lv_has ls 3 [(0, .ref (ad 0)), (1, .int p1)] := hl
  refine lv_aload_n hx hb dX0_await_0 rfl (lv_at hl 0 rfl) ?_
  refine va_calli (va_runV (As := []) (rest := []) ⟨hx, hb, hml, hown, hts⟩ (rc_present l dC dI ad cA u _ rfl) (cwV 0 hts gX0_await_X0_present rfl rfl rfl (by decide +kernel) ⟨Nat.le_of_ble_eq_true rfl, Nat.le_of_ble_eq_true rfl⟩) ⟨fun a U g mk q => by obtain ⟨q0, qP, qK⟩ := q; exact ⟨q0, qP, va_K.moved (u := U) (U := U.calling g mk a) (Vm.Alike.refl U.vm) qK⟩, va_recv hK hP (ci := 0) (q0 := 0) rfl rfl, fun U hU hW => ⟨rfl, by rw [hU]; exact hP, va_K.moved hW.alike hK⟩⟩ rfl rfl hl.1 rfl (lv_room (Nat.le_of_ble_eq_true rfl)) dX0_await_1 ⟨Nat.le_of_ble_eq_true rfl, Nat.le_of_ble_eq_true rfl⟩) hS (fun _ _ h => h.elim) (fun _ h => h.elim) (fun r_128 u_ t H1 locs ht hvm hr_128 hB hz1 hk1 hS => ?_)
  have hP := hP.kept (fun k x hx => hk1 x.1 ((hP k x hx).lt) (fun h => h))
  generalize H1 = H at hP hS ⊢
  refine lv_istore_n (lv' := [(2, .int r_128), (0, .ref (ad 0)), (1, .int p1)]) hx hb dX0_await_4 rfl hl (by decide) rfl (fun ls hl => ?_)
  refine lv_iload_n hx hb dX0_await_5 rfl (lv_at hl 2 rfl) ?_
  refine va_calli (va_runS (As := [.int p1]) (rest := []) ⟨hx, hb, hml, hown, hts⟩ (rc_isSemaphore l p1 _ rfl) (va_cwS 1 hts gX0_await_X0_isSemaphore rfl rfl rfl (by decide +kernel) ⟨Nat.le_of_ble_eq_true rfl, Nat.le_of_ble_eq_true rfl⟩) ⟨fun a U g mk q => ⟨q.1, trivial⟩, fun U hU hW => ⟨rfl, trivial⟩⟩ rfl rfl hl.1 rfl (lv_room (Nat.le_of_ble_eq_true rfl)) dX0_await_6 ⟨Nat.le_of_ble_eq_true rfl, Nat.le_of_ble_eq_true rfl⟩) hS (fun _ _ h => h.elim) (fun _ h => h.elim) (fun r_129 u_ t H1 locs ht hvm hr_129 hB hz1 hk1 hS => ?_)
  have hP := hP.kept (fun k x hx => hk1 x.1 ((hP k x hx).lt) (fun h => h))
  generalize H1 = H at hP hS ⊢
  refine lv_if_eq (tgt := 17) hx hb dX0_await_9 (by decide) (fun c_130 => ?_) (fun c_130 => ?_)
  · refine lv_iconst (v := (-1)) hx hb dX0_await_17 (by decide) ?_
    have eT : ((-1), u) = T := by subst hr_128 hr_129; rw [← hf]; simp only [rf_await, if_pos c_130]
    exact W.iret (v := (-1)) hx hb hr (fun t ht hW => ⟨⟨(-1), u, rfl, ⟨congrArg Prod.fst eT, congrArg Prod.snd eT⟩, by rw [ht]; exact hP, va_K.moved hW.alike hK, hD⟩, hS.F ht⟩) hS.2.2 dX0_await_18
  · refine lv_iload_n hx hb dX0_await_12 rfl (lv_at hl 0 rfl) ?_
    refine lv_iconst (v := (-1)) hx hb dX0_await_13 (by decide) ?_
    refine lv_icmp_ne (tgt := 19) hx hb dX0_await_14 (by decide) (fun c_131 => ?_) (fun c_131 => ?_)
    · refine lv_aload_n hx hb dX0_await_19 rfl (lv_at hl 1 rfl) ?_
      refine va_get (D := (dC, dI)) (ci := 0) (v := .ref (ad 5)) (C := RX0) (T := TX0) (N := 12) (fs := rF ad u) hx hb hts hin0 hown hK hP 0 rfl rfl 5 (by decide) fl_extras (fun _ h9 => h9) rfl dX0_await_20 ?_
      refine lv_iload_n hx hb dX0_await_23 rfl (lv_at hl 2 rfl) ?_
      refine va_iald hx hb hK hP 5 4 rfl rfl (ri_isSemaphore hr_129 c_130) dX0_await_24 ?_
      refine lv_if_le (tgt := 40) hx hb dX0_await_25 (by decide) (fun c_132 => ?_) (fun c_132 => ?_)
      · refine lv_aload_n hx hb dX0_await_40 rfl (lv_at hl 1 rfl) ?_
        refine lv_iload_n hx hb dX0_await_41 rfl (lv_at hl 0 rfl) ?_
        refine lv_bipush (v := 16) hx hb dX0_await_42 (by decide) ?_
        refine lv_iload_n hx hb dX0_await_44 rfl (lv_at hl 2 rfl) ?_
        refine lv_iadd hx hb dX0_await_45 ?_
        have hFc := va_free (wc := (rW ad cA u)) hD hS hA [0, 1, 2, 3, 4, 5, 6] rfl
        refine va_callv (va_runV (As := [.int r_128, .int (16 + p1)]) (rest := []) ⟨hx, hb, hml, hown, hts⟩ (rc_enter l dC dI ad cA _ u r_128 (16 + p1) hI _ rfl) (cwV 2 hts gX0_await_X0_enter rfl rfl rfl (by decide +kernel) ⟨Nat.le_of_ble_eq_true rfl, Nat.le_of_ble_eq_true rfl⟩) ⟨fun a U g mk q => by obtain ⟨q0, q1, qP, qK, qD⟩ := q; exact ⟨q0, q1, qP, va_K.moved (u := U) (U := U.calling g mk a) (Vm.Alike.refl U.vm) qK, qD⟩, va_recv hK hP (ci := 0) (q0 := 0) rfl rfl, fun U hU hW => ⟨rfl, by rw [hU], by rw [hU]; exact hP, va_K.moved hW.alike hK, hD.weaken (fun _ _ _ _ => trivial)⟩⟩ rfl rfl hl.1 rfl (lv_room (Nat.le_of_ble_eq_true rfl)) dX0_await_46 ⟨Nat.le_of_ble_eq_true rfl, Nat.le_of_ble_eq_true rfl⟩) hS (fun q _ h => hFc q h) hFc (fun u_134 t H1 locs ht hvm hu_134 hB hz1 hk1 hS => ?_)
        obtain ⟨hP, hK1, hD1⟩ := hB
        rw [ht] at hP
        have hD := hD1.weaken (fun _ _ _ h => hFc _ h)
        generalize H1 = H at hP hS ⊢
        have hP : va_P (dC, dI) vwCl (rW ad cA u_134) H := hP
        have hD : va_D A (rW ad cA u_134) := hD
        refine lv_aload_n hx hb dX0_await_49 rfl (lv_at hl 1 rfl) ?_
        have hFc := va_free (wc := (rW ad cA u_134)) hD hS hA [0, 1, 2, 3, 4, 5, 6] rfl
        refine va_callv (va_runV (As := []) (rest := []) ⟨hx, hb, hml, hown, hts⟩ (rc_putAside l dC dI ad cA _ u_134 _ rfl) (cwV 0 hts gX0_await_X0_putAside rfl rfl rfl (by decide +kernel) ⟨Nat.le_of_ble_eq_true rfl, Nat.le_of_ble_eq_true rfl⟩) ⟨fun a U g mk q => by obtain ⟨q0, q1, qP, qK, qD⟩ := q; exact ⟨q0, q1, qP, va_K.moved (u := U) (U := U.calling g mk a) (Vm.Alike.refl U.vm) qK, qD⟩, va_recv hK hP (ci := 0) (q0 := 0) rfl rfl, fun U hU hW => ⟨rfl, by rw [hU], by rw [hU]; exact hP, va_K.moved hW.alike hK, hD.weaken (fun _ _ _ _ => trivial)⟩⟩ rfl rfl hl.1 rfl (lv_room (Nat.le_of_ble_eq_true rfl)) dX0_await_50 ⟨Nat.le_of_ble_eq_true rfl, Nat.le_of_ble_eq_true rfl⟩) hS (fun q _ h => hFc q h) hFc (fun u_136 t H1 locs ht hvm hu_136 hB hz1 hk1 hS => ?_)
        obtain ⟨hP, hK1, hD1⟩ := hB
        rw [ht] at hP
        have hD := hD1.weaken (fun _ _ _ h => hFc _ h)
        generalize H1 = H at hP hS ⊢
        have hP : va_P (dC, dI) vwCl (rW ad cA u_136) H := hP
        have hD : va_D A (rW ad cA u_136) := hD
        refine lv_iconst (v := 0) hx hb dX0_await_53 (by decide) ?_
        have eT : (0, u_136) = T := by subst hr_128 hr_129 hu_134 hu_136; rw [← hf]; simp only [rf_await, if_neg c_130, if_neg c_131, if_pos c_132]
        exact W.iret (v := 0) hx hb hr (fun t ht hW => ⟨⟨0, u_136, rfl, ⟨congrArg Prod.fst eT, congrArg Prod.snd eT⟩, by rw [ht]; exact hP, va_K.moved hW.alike hK, hD⟩, hS.F ht⟩) hS.2.2 dX0_await_54
      · refine lv_aload_n hx hb dX0_await_28 rfl (lv_at hl 1 rfl) ?_
        refine va_get (D := (dC, dI)) (ci := 0) (v := .ref (ad 5)) (C := RX0) (T := TX0) (N := 12) (fs := rF ad u) hx hb hts hin0 hown hK hP 0 rfl rfl 5 (by decide) fl_extras (fun _ h9 => h9) rfl dX0_await_29 ?_
        refine lv_iload_n hx hb dX0_await_32 rfl (lv_at hl 2 rfl) ?_
        refine lv_dup2_11 hx hb dX0_await_33 rfl rfl ?_
        refine va_iald hx hb hK hP 5 4 rfl rfl (ri_isSemaphore hr_129 c_130) dX0_await_34 ?_
        refine lv_iconst (v := 1) hx hb dX0_await_35 (by decide) ?_
        refine lv_isub hx hb dX0_await_36 ?_
        refine va_iast hx hb hK hP hD hS 5 4 rfl rfl (ri_isSemaphore hr_129 c_130) dX0_await_37 (fun H locs hP hD hS => ?_)
        rw [rw_extras] at hP hD
        obtain ⟨u_137, hu_137⟩ : ∃ w : RS, w = rs_extras u (upd (ra_extras u) p1.toNatClampNeg ((ra_extras u p1.toNatClampNeg) - 1)) := ⟨_, rfl⟩
        rw [← hu_137] at hP hD
        refine lv_iconst (v := 1) hx hb dX0_await_38 (by decide) ?_
        have eT : (1, u_137) = T := by subst hr_128 hr_129 hu_137; rw [← hf]; simp only [rf_await, if_neg c_130, if_neg c_131, if_neg c_132]
        exact W.iret (v := 1) hx hb hr (fun t ht hW => ⟨⟨1, u_137, rfl, ⟨congrArg Prod.fst eT, congrArg Prod.snd eT⟩, by rw [ht]; exact hP, va_K.moved hW.alike hK, hD⟩, hS.F ht⟩) hS.2.2 dX0_await_39
    · refine lv_iconst (v := (-1)) hx hb dX0_await_17 (by decide) ?_
      have eT : ((-1), u) = T := by subst hr_128 hr_129; rw [← hf]; simp only [rf_await, if_neg c_130, if_pos c_131]
      exact W.iret (v := (-1)) hx hb hr (fun t ht hW => ⟨⟨(-1), u, rfl, ⟨congrArg Prod.fst eT, congrArg Prod.snd eT⟩, by rw [ht]; exact hP, va_K.moved hW.alike hK, hD⟩, hS.F ht⟩) hS.2.2 dX0_await_18
set_option maxHeartbeats 4000000 in
set_option maxRecDepth 100000 in
theorem rc_post (l : Launch) (dC : Nat → ClassId) (dI : Nat → Nat → Nat) (ad : Nat → Nat) (cA : Nat → ClassId) (sz : Nat) (u : RS) (p1 : Int32) (hI : rInv u) (T : Int32 × RS) (hf : rf_post u p1 = T) : Met l yX0_post wsX0_post ({ frames := 1, cells := 0, slots := 0, locals := 20 } : Room) (va_Pc [.ref (ad 0), .int p1] (fun U => U.heap.size = sz ∧ va_P (dC, dI) vwCl (rW ad cA u) U.heap ∧ va_K (dC, dI) vwCl (rT cA) U ∧ va_D (fun _ => True) (rW ad cA u))) (va_Qi (fun r u2 => r = T.1 ∧ u2 = T.2) (rAt dC dI (va_A (rW ad cA u) sz) ad cA) (va_A (rW ad cA u) sz)) 0 0 (va_A (rW ad cA u) sz) := by
  refine Met.ofW (cc := cX0_post) (maxL := 2) (ret := (some .int)) (by decide) rfl ?_
  intro p e s m args below meth c s₁ B hml hv
  obtain ⟨rfl, hsz, hP, hK, hD0⟩ := hv
  have hx := B.exec
  have hb := B.bytes
  have hr := B.returns
  have hts := atoms_spec (ws := wsX0_post) B.pre
  have hown : s.vm.findClass RX0 = some m.cls := findClass_of_methodNamed B.named
  have hlocks := B.notSynchronized
  have hin0 : ∀ w ∈ wsX00, w ∈ wsX0_post := by decide +kernel
  have fl_postCount := hts (.fieldLink RX0 32 "ProcessRoom" "postCount" "I") (by decide +kernel)
  have fl_posts := hts (.fieldLink RX0 29 "ProcessRoom" "posts" "[I") (by decide +kernel)
  subst hsz
  have hD := hD0.self (sz := s.heap.size)
  generalize hAe : va_A (rW ad cA u) s.heap.size = A at hD ⊢
  have hA : ∀ q : Nat, s.heap.size ≤ q → A q := fun q h => by rw [← hAe]; exact Or.inr h
  have hS : va_S A s.heap s.heap [] := va_S.rf
  have hl := lv_entry ([.ref (ad 0), .int p1]) (n := 2) (Nat.le_of_ble_eq_true rfl)
  rw [lg_entry_eq]
  generalize (lg_sl ([.ref (ad 0), .int p1]) ++ List.replicate (2 - (lg_sl ([.ref (ad 0), .int p1])).length) Slot.unset).toArray = ls at hl ⊢
  have hl : lv_has ls 2 [(0, .ref (ad 0)), (1, .int p1)] := hl
  refine lv_iload_n hx hb dX0_post_0 rfl (lv_at hl 1 rfl) ?_
  refine va_calli (va_runS (As := [.int p1]) (rest := []) ⟨hx, hb, hml, hown, hts⟩ (rc_isSemaphore l p1 _ rfl) (va_cwS 1 hts gX0_post_X0_isSemaphore rfl rfl rfl (by decide +kernel) ⟨Nat.le_of_ble_eq_true rfl, Nat.le_of_ble_eq_true rfl⟩) ⟨fun a U g mk q => ⟨q.1, trivial⟩, fun U hU hW => ⟨rfl, trivial⟩⟩ rfl rfl hl.1 rfl (lv_room (Nat.le_of_ble_eq_true rfl)) dX0_post_1 ⟨Nat.le_of_ble_eq_true rfl, Nat.le_of_ble_eq_true rfl⟩) hS (fun _ _ h => h.elim) (fun _ h => h.elim) (fun r_138 u_ t H1 locs ht hvm hr_138 hB hz1 hk1 hS => ?_)
  have hP := hP.kept (fun k x hx => hk1 x.1 ((hP k x hx).lt) (fun h => h))
  generalize H1 = H at hP hS ⊢
  refine lv_if_eq (tgt := 16) hx hb dX0_post_4 (by decide) (fun c_139 => ?_) (fun c_139 => ?_)
  · refine lv_iconst (v := (-1)) hx hb dX0_post_16 (by decide) ?_
    have eT : ((-1), u) = T := by subst hr_138; rw [← hf]; simp only [rf_post, if_pos c_139]
    exact W.iret (v := (-1)) hx hb hr (fun t ht hW => ⟨⟨(-1), u, rfl, ⟨congrArg Prod.fst eT, congrArg Prod.snd eT⟩, by rw [ht]; exact hP, va_K.moved hW.alike hK, hD⟩, hS.F ht⟩) hS.2.2 dX0_post_17
  · refine lv_aload_n hx hb dX0_post_7 rfl (lv_at hl 0 rfl) ?_
    refine va_get (D := (dC, dI)) (ci := 0) (v := .int (ra_postCount u)) (C := RX0) (T := TX0) (N := 12) (fs := rF ad u) hx hb hts hin0 hown hK hP 0 rfl rfl 7 (by decide) fl_postCount (fun _ h9 => h9) rfl dX0_post_8 ?_
    refine lv_bipush (v := 40) hx hb dX0_post_11 (by decide) ?_
    refine lv_icmp_lt (tgt := 18) hx hb dX0_post_13 (by decide) (fun c_140 => ?_) (fun c_140 => ?_)
    · refine lv_aload_n hx hb dX0_post_18 rfl (lv_at hl 0 rfl) ?_
      refine va_get (D := (dC, dI)) (ci := 0) (v := .ref (ad 6)) (C := RX0) (T := TX0) (N := 12) (fs := rF ad u) hx hb hts hin0 hown hK hP 0 rfl rfl 6 (by decide) fl_posts (fun _ h9 => h9) rfl dX0_post_19 ?_
      refine lv_aload_n hx hb dX0_post_22 rfl (lv_at hl 0 rfl) ?_
      refine va_get (D := (dC, dI)) (ci := 0) (v := .int (ra_postCount u)) (C := RX0) (T := TX0) (N := 12) (fs := rF ad u) hx hb hts hin0 hown hK hP 0 rfl rfl 7 (by decide) fl_postCount (fun _ h9 => h9) rfl dX0_post_23 ?_
      refine lv_iload_n hx hb dX0_post_26 rfl (lv_at hl 1 rfl) ?_
      refine va_iast hx hb hK hP hD hS 6 5 rfl rfl (k_in1 hI.2.1 c_140 rfl) dX0_post_27 (fun H locs hP hD hS => ?_)
      rw [rw_posts] at hP hD
      obtain ⟨u_141, hu_141⟩ : ∃ w : RS, w = rs_posts u (upd (ra_posts u) (ra_postCount u).toNatClampNeg p1) := ⟨_, rfl⟩
      rw [← hu_141] at hP hD
      refine lv_aload_n hx hb dX0_post_28 rfl (lv_at hl 0 rfl) ?_
      refine lv_dup hx hb dX0_post_29 rfl ?_
      refine va_get (D := (dC, dI)) (ci := 0) (v := .int (ra_postCount u)) (C := RX0) (T := TX0) (N := 12) (fs := rF ad u_141) hx hb hts hin0 hown hK hP 0 rfl rfl 7 (by decide) fl_postCount (fun _ h9 => h9) (congrArg (fun z => some (Value.int z)) (show ra_postCount u_141 = ra_postCount u from by rw [hu_141, rq_postCount_posts])) dX0_post_30 ?_
      refine lv_iconst (v := 1) hx hb dX0_post_33 (by decide) ?_
      refine lv_iadd hx hb dX0_post_34 ?_
      refine va_put (D := (dC, dI)) (ci := 0) (v := .int ((ra_postCount u) + 1)) (ty := .int) (C := RX0) (T := TX0) (N := 12) (fs := rF ad u_141) hx hb hts hin0 tyX0 tyX0_ok nmX0 hown hK hP hD hS 0 rfl rfl 7 (by decide) fl_postCount (fun _ h9 => h9) rfl (by decide +kernel) rfl rfl (Nat.le_of_ble_eq_true rfl) dX0_post_35 (fun H locs hP hD hS => ?_)
      rw [rw_postCount] at hP hD
      obtain ⟨u_142, hu_142⟩ : ∃ w : RS, w = rs_postCount u_141 ((ra_postCount u) + 1) := ⟨_, rfl⟩
      rw [← hu_142] at hP hD
      refine lv_aload_n hx hb dX0_post_38 rfl (lv_at hl 0 rfl) ?_
      refine va_get (D := (dC, dI)) (ci := 0) (v := .int ((ra_postCount u) + 1)) (C := RX0) (T := TX0) (N := 12) (fs := rF ad u_142) hx hb hts hin0 hown hK hP 0 rfl rfl 7 (by decide) fl_postCount (fun _ h9 => h9) (congrArg (fun z => some (Value.int z)) (show ra_postCount u_142 = (ra_postCount u) + 1 from by rw [hu_142, rq_postCount_postCount])) dX0_post_39 ?_
      have eT : ((ra_postCount u) + 1, u_142) = T := by subst hr_138 hu_141 hu_142; rw [← hf]; simp only [rf_post, if_neg c_139, if_pos c_140]
      exact W.iret (v := (ra_postCount u) + 1) hx hb hr (fun t ht hW => ⟨⟨(ra_postCount u) + 1, u_142, rfl, ⟨congrArg Prod.fst eT, congrArg Prod.snd eT⟩, by rw [ht]; exact hP, va_K.moved hW.alike hK, hD⟩, hS.F ht⟩) hS.2.2 dX0_post_42
    · refine lv_iconst (v := (-1)) hx hb dX0_post_16 (by decide) ?_
      have eT : ((-1), u) = T := by subst hr_138; rw [← hf]; simp only [rf_post, if_neg c_139, if_neg c_140]
      exact W.iret (v := (-1)) hx hb hr (fun t ht hW => ⟨⟨(-1), u, rfl, ⟨congrArg Prod.fst eT, congrArg Prod.snd eT⟩, by rw [ht]; exact hP, va_K.moved hW.alike hK, hD⟩, hS.F ht⟩) hS.2.2 dX0_post_17
set_option maxHeartbeats 4000000 in
set_option maxRecDepth 100000 in
theorem rc_step (l : Launch) (dC : Nat → ClassId) (dI : Nat → Nat → Nat) (ad : Nat → Nat) (cA : Nat → ClassId) (sz : Nat) (u : RS)  (hI : rInv u) (T : Int32 × RS) (hf : rf_step u = T) : Met l yX0_step wsX0_step ({ frames := 6, cells := 0, slots := 0, locals := 127 } : Room) (va_Pc [.ref (ad 0)] (fun U => U.heap.size = sz ∧ va_P (dC, dI) vwCl (rW ad cA u) U.heap ∧ va_K (dC, dI) vwCl (rT cA) U ∧ va_D (fun _ => True) (rW ad cA u))) (va_Qi (fun r u2 => r = T.1 ∧ u2 = T.2) (rAt dC dI (va_A (rW ad cA u) sz) ad cA) (va_A (rW ad cA u) sz)) 0 0 (va_A (rW ad cA u) sz) := by
  refine Met.ofW (cc := cX0_step) (maxL := 1) (ret := (some .int)) (by decide) rfl ?_
  intro p e s m args below meth c s₁ B hml hv
  obtain ⟨rfl, hsz, hP, hK, hD0⟩ := hv
  have hx := B.exec
  have hb := B.bytes
  have hr := B.returns
  have hts := atoms_spec (ws := wsX0_step) B.pre
  have hown : s.vm.findClass RX0 = some m.cls := findClass_of_methodNamed B.named
  have hlocks := B.notSynchronized
  have hin0 : ∀ w ∈ wsX00, w ∈ wsX0_step := by decide +kernel
  have fl_wanted := hts (.fieldLink RX0 41 "ProcessRoom" "wanted" "Z") (by decide +kernel)
  have fl_active := hts (.fieldLink RX0 35 "ProcessRoom" "active" "I") (by decide +kernel)
  subst hsz
  have hD := hD0.self (sz := s.heap.size)
  generalize hAe : va_A (rW ad cA u) s.heap.size = A at hD ⊢
  have hA : ∀ q : Nat, s.heap.size ≤ q → A q := fun q h => by rw [← hAe]; exact Or.inr h
  have hS : va_S A s.heap s.heap [] := va_S.rf
  have hl := lv_entry ([.ref (ad 0)]) (n := 1) (Nat.le_of_ble_eq_true rfl)
  rw [lg_entry_eq]
  generalize (lg_sl ([.ref (ad 0)]) ++ List.replicate (1 - (lg_sl ([.ref (ad 0)])).length) Slot.unset).toArray = ls at hl ⊢
  have hl : lv_has ls 1 [(0, .ref (ad 0))] := hl
  refine lv_aload_n hx hb dX0_step_0 rfl (lv_at hl 0 rfl) ?_
  have hFc := va_free (wc := (rW ad cA u)) hD hS hA [0, 1, 2, 3, 4, 5, 6] rfl
  refine va_callv (va_runV (As := []) (rest := []) ⟨hx, hb, hml, hown, hts⟩ (rc_signalPosted l dC dI ad cA _ u hI _ rfl) (cwV 0 hts gX0_step_X0_signalPosted rfl rfl rfl (by decide +kernel) ⟨Nat.le_of_ble_eq_true rfl, Nat.le_of_ble_eq_true rfl⟩) ⟨fun a U g mk q => by obtain ⟨q0, q1, qP, qK, qD⟩ := q; exact ⟨q0, q1, qP, va_K.moved (u := U) (U := U.calling g mk a) (Vm.Alike.refl U.vm) qK, qD⟩, va_recv hK hP (ci := 0) (q0 := 0) rfl rfl, fun U hU hW => ⟨rfl, by rw [hU], by rw [hU]; exact hP, va_K.moved hW.alike hK, hD.weaken (fun _ _ _ _ => trivial)⟩⟩ rfl rfl hl.1 rfl (lv_room (Nat.le_of_ble_eq_true rfl)) dX0_step_1 ⟨Nat.le_of_ble_eq_true rfl, Nat.le_of_ble_eq_true rfl⟩) hS (fun q _ h => hFc q h) hFc (fun u_144 t H1 locs ht hvm hu_144 hB hz1 hk1 hS => ?_)
  obtain ⟨hP, hK1, hD1⟩ := hB
  rw [ht] at hP
  have hD := hD1.weaken (fun _ _ _ h => hFc _ h)
  generalize H1 = H at hP hS ⊢
  have hP : va_P (dC, dI) vwCl (rW ad cA u_144) H := hP
  have hD : va_D A (rW ad cA u_144) := hD
  refine lv_aload_n hx hb dX0_step_4 rfl (lv_at hl 0 rfl) ?_
  refine va_get (D := (dC, dI)) (ci := 0) (v := .int (ra_wanted u_144)) (C := RX0) (T := TX0) (N := 12) (fs := rF ad u_144) hx hb hts hin0 hown hK hP 0 rfl rfl 10 (by decide) fl_wanted (fun _ h9 => h9) rfl dX0_step_5 ?_
  refine lv_if_eq (tgt := 15) hx hb dX0_step_8 (by decide) (fun c_145 => ?_) (fun c_145 => ?_)
  · refine lv_aload_n hx hb dX0_step_15 rfl (lv_at hl 0 rfl) ?_
    refine va_get (D := (dC, dI)) (ci := 0) (v := .int (ra_active u_144)) (C := RX0) (T := TX0) (N := 12) (fs := rF ad u_144) hx hb hts hin0 hown hK hP 0 rfl rfl 8 (by decide) fl_active (fun _ h9 => h9) rfl dX0_step_16 ?_
    have eT : (ra_active u_144, u_144) = T := by subst hu_144; rw [← hf]; simp only [rf_step, if_pos c_145]
    exact W.iret (v := ra_active u_144) hx hb hr (fun t ht hW => ⟨⟨ra_active u_144, u_144, rfl, ⟨congrArg Prod.fst eT, congrArg Prod.snd eT⟩, by rw [ht]; exact hP, va_K.moved hW.alike hK, hD⟩, hS.F ht⟩) hS.2.2 dX0_step_19
  · refine lv_aload_n hx hb dX0_step_11 rfl (lv_at hl 0 rfl) ?_
    have hFc := va_free (wc := (rW ad cA u_144)) hD hS hA [0, 1, 2, 3, 4, 5, 6] rfl
    refine va_callv (va_runV (As := []) (rest := []) ⟨hx, hb, hml, hown, hts⟩ (rc_change l dC dI ad cA _ u_144 _ rfl) (cwV 0 hts gX0_step_X0_change rfl rfl rfl (by decide +kernel) ⟨Nat.le_of_ble_eq_true rfl, Nat.le_of_ble_eq_true rfl⟩) ⟨fun a U g mk q => by obtain ⟨q0, q1, qP, qK, qD⟩ := q; exact ⟨q0, q1, qP, va_K.moved (u := U) (U := U.calling g mk a) (Vm.Alike.refl U.vm) qK, qD⟩, va_recv hK hP (ci := 0) (q0 := 0) rfl rfl, fun U hU hW => ⟨rfl, by rw [hU], by rw [hU]; exact hP, va_K.moved hW.alike hK, hD.weaken (fun _ _ _ _ => trivial)⟩⟩ rfl rfl hl.1 rfl (lv_room (Nat.le_of_ble_eq_true rfl)) dX0_step_12 ⟨Nat.le_of_ble_eq_true rfl, Nat.le_of_ble_eq_true rfl⟩) hS (fun q _ h => hFc q h) hFc (fun u_147 t H1 locs ht hvm hu_147 hB hz1 hk1 hS => ?_)
    obtain ⟨hP, hK1, hD1⟩ := hB
    rw [ht] at hP
    have hD := hD1.weaken (fun _ _ _ h => hFc _ h)
    generalize H1 = H at hP hS ⊢
    have hP : va_P (dC, dI) vwCl (rW ad cA u_147) H := hP
    have hD : va_D A (rW ad cA u_147) := hD
    refine lv_aload_n hx hb dX0_step_15 rfl (lv_at hl 0 rfl) ?_
    refine va_get (D := (dC, dI)) (ci := 0) (v := .int (ra_active u_147)) (C := RX0) (T := TX0) (N := 12) (fs := rF ad u_147) hx hb hts hin0 hown hK hP 0 rfl rfl 8 (by decide) fl_active (fun _ h9 => h9) rfl dX0_step_16 ?_
    have eT : (ra_active u_147, u_147) = T := by subst hu_144 hu_147; rw [← hf]; simp only [rf_step, if_neg c_145]
    exact W.iret (v := ra_active u_147) hx hb hr (fun t ht hW => ⟨⟨ra_active u_147, u_147, rfl, ⟨congrArg Prod.fst eT, congrArg Prod.snd eT⟩, by rw [ht]; exact hP, va_K.moved hW.alike hK, hD⟩, hS.F ht⟩) hS.2.2 dX0_step_19
set_option maxHeartbeats 4000000 in
set_option maxRecDepth 100000 in
theorem rc_work (l : Launch) (dC : Nat → ClassId) (dI : Nat → Nat → Nat) (ad : Nat → Nat) (cA : Nat → ClassId) (sz : Nat) (u : RS) (p1 : Int32) (T : Int32 × RS) (hf : rf_work u p1 = T) : Met l yX0_work wsX0_work ({ frames := 0, cells := 0, slots := 0, locals := 0 } : Room) (va_Pc [.ref (ad 0), .int p1] (fun U => U.heap.size = sz ∧ va_P (dC, dI) vwCl (rW ad cA u) U.heap ∧ va_K (dC, dI) vwCl (rT cA) U ∧ va_D (fun _ => True) (rW ad cA u))) (va_Qi (fun r u2 => r = T.1 ∧ u2 = T.2) (rAt dC dI (va_A (rW ad cA u) sz) ad cA) (va_A (rW ad cA u) sz)) 0 0 (va_A (rW ad cA u) sz) := by
  refine Met.ofW (cc := cX0_work) (maxL := 2) (ret := (some .boolean)) (by decide) rfl ?_
  intro p e s m args below meth c s₁ B hml hv
  obtain ⟨rfl, hsz, hP, hK, hD0⟩ := hv
  have hx := B.exec
  have hb := B.bytes
  have hr := B.returns
  have hts := atoms_spec (ws := wsX0_work) B.pre
  have hown : s.vm.findClass RX0 = some m.cls := findClass_of_methodNamed B.named
  have hlocks := B.notSynchronized
  have hin0 : ∀ w ∈ wsX00, w ∈ wsX0_work := by decide +kernel
  have fl_active := hts (.fieldLink RX0 35 "ProcessRoom" "active" "I") (by decide +kernel)
  have fl_wanted := hts (.fieldLink RX0 41 "ProcessRoom" "wanted" "Z") (by decide +kernel)
  have fl_here := hts (.fieldLink RX0 38 "ProcessRoom" "here" "I") (by decide +kernel)
  subst hsz
  have hD := hD0.self (sz := s.heap.size)
  generalize hAe : va_A (rW ad cA u) s.heap.size = A at hD ⊢
  have hA : ∀ q : Nat, s.heap.size ≤ q → A q := fun q h => by rw [← hAe]; exact Or.inr h
  have hS : va_S A s.heap s.heap [] := va_S.rf
  have hl := lv_entry ([.ref (ad 0), .int p1]) (n := 2) (Nat.le_of_ble_eq_true rfl)
  rw [lg_entry_eq]
  generalize (lg_sl ([.ref (ad 0), .int p1]) ++ List.replicate (2 - (lg_sl ([.ref (ad 0), .int p1])).length) Slot.unset).toArray = ls at hl ⊢
  have hl : lv_has ls 2 [(0, .ref (ad 0)), (1, .int p1)] := hl
  refine lv_iload_n hx hb dX0_work_0 rfl (lv_at hl 1 rfl) ?_
  refine lv_iconst (v := 1) hx hb dX0_work_1 (by decide) ?_
  refine lv_icmp_lt (tgt := 27) hx hb dX0_work_2 (by decide) (fun c_148 => ?_) (fun c_148 => ?_)
  · refine lv_iconst (v := 0) hx hb dX0_work_27 (by decide) ?_
    have eT : (0, u) = T := by rw [← hf]; simp only [rf_work, if_pos c_148]
    exact W.zret (v := 0) hx hb hr (rfl) (fun t ht hW => ⟨⟨0, u, rfl, ⟨congrArg Prod.fst eT, congrArg Prod.snd eT⟩, by rw [ht]; exact hP, va_K.moved hW.alike hK, hD⟩, hS.F ht⟩) hS.2.2 dX0_work_28
  · refine lv_iload_n hx hb dX0_work_5 rfl (lv_at hl 1 rfl) ?_
    refine lv_sipush (v := 1000) hx hb dX0_work_6 (by decide) ?_
    refine lv_icmp_gt (tgt := 27) hx hb dX0_work_9 (by decide) (fun c_149 => ?_) (fun c_149 => ?_)
    · refine lv_iconst (v := 0) hx hb dX0_work_27 (by decide) ?_
      have eT : (0, u) = T := by rw [← hf]; simp only [rf_work, if_neg c_148, if_pos c_149]
      exact W.zret (v := 0) hx hb hr (rfl) (fun t ht hW => ⟨⟨0, u, rfl, ⟨congrArg Prod.fst eT, congrArg Prod.snd eT⟩, by rw [ht]; exact hP, va_K.moved hW.alike hK, hD⟩, hS.F ht⟩) hS.2.2 dX0_work_28
    · refine lv_aload_n hx hb dX0_work_12 rfl (lv_at hl 0 rfl) ?_
      refine va_get (D := (dC, dI)) (ci := 0) (v := .int (ra_active u)) (C := RX0) (T := TX0) (N := 12) (fs := rF ad u) hx hb hts hin0 hown hK hP 0 rfl rfl 8 (by decide) fl_active (fun _ h9 => h9) rfl dX0_work_13 ?_
      refine lv_iconst (v := (-1)) hx hb dX0_work_16 (by decide) ?_
      refine lv_icmp_eq (tgt := 27) hx hb dX0_work_17 (by decide) (fun c_150 => ?_) (fun c_150 => ?_)
      · refine lv_iconst (v := 0) hx hb dX0_work_27 (by decide) ?_
        have eT : (0, u) = T := by rw [← hf]; simp only [rf_work, if_neg c_148, if_neg c_149, if_pos c_150]
        exact W.zret (v := 0) hx hb hr (rfl) (fun t ht hW => ⟨⟨0, u, rfl, ⟨congrArg Prod.fst eT, congrArg Prod.snd eT⟩, by rw [ht]; exact hP, va_K.moved hW.alike hK, hD⟩, hS.F ht⟩) hS.2.2 dX0_work_28
      · refine lv_aload_n hx hb dX0_work_20 rfl (lv_at hl 0 rfl) ?_
        refine va_get (D := (dC, dI)) (ci := 0) (v := .int (ra_wanted u)) (C := RX0) (T := TX0) (N := 12) (fs := rF ad u) hx hb hts hin0 hown hK hP 0 rfl rfl 10 (by decide) fl_wanted (fun _ h9 => h9) rfl dX0_work_21 ?_
        refine lv_if_eq (tgt := 29) hx hb dX0_work_24 (by decide) (fun c_151 => ?_) (fun c_151 => ?_)
        · refine lv_aload_n hx hb dX0_work_29 rfl (lv_at hl 0 rfl) ?_
          refine lv_dup hx hb dX0_work_30 rfl ?_
          refine va_get (D := (dC, dI)) (ci := 0) (v := .int (ra_here u)) (C := RX0) (T := TX0) (N := 12) (fs := rF ad u) hx hb hts hin0 hown hK hP 0 rfl rfl 9 (by decide) fl_here (fun _ h9 => h9) rfl dX0_work_31 ?_
          refine lv_iload_n hx hb dX0_work_34 rfl (lv_at hl 1 rfl) ?_
          refine lv_iadd hx hb dX0_work_35 ?_
          refine va_put (D := (dC, dI)) (ci := 0) (v := .int ((ra_here u) + p1)) (ty := .int) (C := RX0) (T := TX0) (N := 12) (fs := rF ad u) hx hb hts hin0 tyX0 tyX0_ok nmX0 hown hK hP hD hS 0 rfl rfl 9 (by decide) fl_here (fun _ h9 => h9) rfl (by decide +kernel) rfl rfl (Nat.le_of_ble_eq_true rfl) dX0_work_36 (fun H locs hP hD hS => ?_)
          rw [rw_here] at hP hD
          obtain ⟨u_152, hu_152⟩ : ∃ w : RS, w = rs_here u ((ra_here u) + p1) := ⟨_, rfl⟩
          rw [← hu_152] at hP hD
          refine lv_iconst (v := 1) hx hb dX0_work_39 (by decide) ?_
          have eT : (1, u_152) = T := by subst hu_152; rw [← hf]; simp only [rf_work, if_neg c_148, if_neg c_149, if_neg c_150, if_pos c_151]
          exact W.zret (v := 1) hx hb hr (rfl) (fun t ht hW => ⟨⟨1, u_152, rfl, ⟨congrArg Prod.fst eT, congrArg Prod.snd eT⟩, by rw [ht]; exact hP, va_K.moved hW.alike hK, hD⟩, hS.F ht⟩) hS.2.2 dX0_work_40
        · refine lv_iconst (v := 0) hx hb dX0_work_27 (by decide) ?_
          have eT : (0, u) = T := by rw [← hf]; simp only [rf_work, if_neg c_148, if_neg c_149, if_neg c_150, if_neg c_151]
          exact W.zret (v := 0) hx hb hr (rfl) (fun t ht hW => ⟨⟨0, u, rfl, ⟨congrArg Prod.fst eT, congrArg Prod.snd eT⟩, by rw [ht]; exact hP, va_K.moved hW.alike hK, hD⟩, hS.F ht⟩) hS.2.2 dX0_work_28
set_option maxHeartbeats 4000000 in
set_option maxRecDepth 100000 in
theorem rc_take (l : Launch) (dC : Nat → ClassId) (dI : Nat → Nat → Nat) (ad : Nat → Nat) (cA : Nat → ClassId) (sz : Nat) (u : RS) (p1 : Int32) (T : Int32 × RS) (hf : rf_take u p1 = T) : Met l yX0_take wsX0_take ({ frames := 2, cells := 0, slots := 0, locals := 43 } : Room) (va_Pc [.ref (ad 0), .int p1] (fun U => U.heap.size = sz ∧ va_P (dC, dI) vwCl (rW ad cA u) U.heap ∧ va_K (dC, dI) vwCl (rT cA) U ∧ va_D (fun _ => True) (rW ad cA u))) (va_Qi (fun r u2 => r = T.1 ∧ u2 = T.2) (rAt dC dI (va_A (rW ad cA u) sz) ad cA) (va_A (rW ad cA u) sz)) 0 0 (va_A (rW ad cA u) sz) := by
  refine Met.ofW (cc := cX0_take) (maxL := 2) (ret := (some .boolean)) (by decide) rfl ?_
  intro p e s m args below meth c s₁ B hml hv
  obtain ⟨rfl, hsz, hP, hK, hD0⟩ := hv
  have hx := B.exec
  have hb := B.bytes
  have hr := B.returns
  have hts := atoms_spec (ws := wsX0_take) B.pre
  have hown : s.vm.findClass RX0 = some m.cls := findClass_of_methodNamed B.named
  have hlocks := B.notSynchronized
  have hin0 : ∀ w ∈ wsX00, w ∈ wsX0_take := by decide +kernel
  have fl_rows := hts (.fieldLink RX0 16 "ProcessRoom" "rows" "[I") (by decide +kernel)
  subst hsz
  have hD := hD0.self (sz := s.heap.size)
  generalize hAe : va_A (rW ad cA u) s.heap.size = A at hD ⊢
  have hA : ∀ q : Nat, s.heap.size ≤ q → A q := fun q h => by rw [← hAe]; exact Or.inr h
  have hS : va_S A s.heap s.heap [] := va_S.rf
  have hl := lv_entry ([.ref (ad 0), .int p1]) (n := 2) (Nat.le_of_ble_eq_true rfl)
  rw [lg_entry_eq]
  generalize (lg_sl ([.ref (ad 0), .int p1]) ++ List.replicate (2 - (lg_sl ([.ref (ad 0), .int p1])).length) Slot.unset).toArray = ls at hl ⊢
  have hl : lv_has ls 2 [(0, .ref (ad 0)), (1, .int p1)] := hl
  refine lv_iload_n hx hb dX0_take_0 rfl (lv_at hl 1 rfl) ?_
  refine va_calli (va_runS (As := [.int p1]) (rest := []) ⟨hx, hb, hml, hown, hts⟩ (rc_isProcess l p1 _ rfl) (va_cwS 1 hts gX0_take_X0_isProcess rfl rfl rfl (by decide +kernel) ⟨Nat.le_of_ble_eq_true rfl, Nat.le_of_ble_eq_true rfl⟩) ⟨fun a U g mk q => ⟨q.1, trivial⟩, fun U hU hW => ⟨rfl, trivial⟩⟩ rfl rfl hl.1 rfl (lv_room (Nat.le_of_ble_eq_true rfl)) dX0_take_1 ⟨Nat.le_of_ble_eq_true rfl, Nat.le_of_ble_eq_true rfl⟩) hS (fun _ _ h => h.elim) (fun _ h => h.elim) (fun r_153 u_ t H1 locs ht hvm hr_153 hB hz1 hk1 hS => ?_)
  have hP := hP.kept (fun k x hx => hk1 x.1 ((hP k x hx).lt) (fun h => h))
  generalize H1 = H at hP hS ⊢
  refine lv_if_eq (tgt := 16) hx hb dX0_take_4 (by decide) (fun c_154 => ?_) (fun c_154 => ?_)
  · refine lv_iconst (v := 0) hx hb dX0_take_16 (by decide) ?_
    have eT : (0, u) = T := by subst hr_153; rw [← hf]; simp only [rf_take, if_pos c_154]
    exact W.zret (v := 0) hx hb hr (rfl) (fun t ht hW => ⟨⟨0, u, rfl, ⟨congrArg Prod.fst eT, congrArg Prod.snd eT⟩, by rw [ht]; exact hP, va_K.moved hW.alike hK, hD⟩, hS.F ht⟩) hS.2.2 dX0_take_17
  · refine lv_aload_n hx hb dX0_take_7 rfl (lv_at hl 0 rfl) ?_
    refine va_get (D := (dC, dI)) (ci := 0) (v := .ref (ad 3)) (C := RX0) (T := TX0) (N := 12) (fs := rF ad u) hx hb hts hin0 hown hK hP 0 rfl rfl 2 (by decide) fl_rows (fun _ h9 => h9) rfl dX0_take_8 ?_
    refine lv_iload_n hx hb dX0_take_11 rfl (lv_at hl 1 rfl) ?_
    refine va_iald hx hb hK hP 3 2 rfl rfl (ri_isProcess hr_153 c_154) dX0_take_12 ?_
    refine lv_if_ne (tgt := 18) hx hb dX0_take_13 (by decide) (fun c_155 => ?_) (fun c_155 => ?_)
    · refine lv_aload_n hx hb dX0_take_18 rfl (lv_at hl 0 rfl) ?_
      refine lv_iload_n hx hb dX0_take_19 rfl (lv_at hl 1 rfl) ?_
      have hFc := va_free (wc := (rW ad cA u)) hD hS hA [0, 1, 2, 3, 4, 5, 6] rfl
      refine va_callv (va_runV (As := [.int p1]) (rest := []) ⟨hx, hb, hml, hown, hts⟩ (rc_leave l dC dI ad cA _ u p1 _ rfl) (cwV 1 hts gX0_take_X0_leave rfl rfl rfl (by decide +kernel) ⟨Nat.le_of_ble_eq_true rfl, Nat.le_of_ble_eq_true rfl⟩) ⟨fun a U g mk q => by obtain ⟨q0, q1, qP, qK, qD⟩ := q; exact ⟨q0, q1, qP, va_K.moved (u := U) (U := U.calling g mk a) (Vm.Alike.refl U.vm) qK, qD⟩, va_recv hK hP (ci := 0) (q0 := 0) rfl rfl, fun U hU hW => ⟨rfl, by rw [hU], by rw [hU]; exact hP, va_K.moved hW.alike hK, hD.weaken (fun _ _ _ _ => trivial)⟩⟩ rfl rfl hl.1 rfl (lv_room (Nat.le_of_ble_eq_true rfl)) dX0_take_20 ⟨Nat.le_of_ble_eq_true rfl, Nat.le_of_ble_eq_true rfl⟩) hS (fun q _ h => hFc q h) hFc (fun u_157 t H1 locs ht hvm hu_157 hB hz1 hk1 hS => ?_)
      obtain ⟨hP, hK1, hD1⟩ := hB
      rw [ht] at hP
      have hD := hD1.weaken (fun _ _ _ h => hFc _ h)
      generalize H1 = H at hP hS ⊢
      have hP : va_P (dC, dI) vwCl (rW ad cA u_157) H := hP
      have hD : va_D A (rW ad cA u_157) := hD
      refine lv_iconst (v := 1) hx hb dX0_take_23 (by decide) ?_
      have eT : (1, u_157) = T := by subst hr_153 hu_157; rw [← hf]; simp only [rf_take, if_neg c_154, if_neg c_155]
      exact W.zret (v := 1) hx hb hr (rfl) (fun t ht hW => ⟨⟨1, u_157, rfl, ⟨congrArg Prod.fst eT, congrArg Prod.snd eT⟩, by rw [ht]; exact hP, va_K.moved hW.alike hK, hD⟩, hS.F ht⟩) hS.2.2 dX0_take_24
    · refine lv_iconst (v := 0) hx hb dX0_take_16 (by decide) ?_
      have eT : (0, u) = T := by subst hr_153; rw [← hf]; simp only [rf_take, if_neg c_154, if_pos c_155]
      exact W.zret (v := 0) hx hb hr (rfl) (fun t ht hW => ⟨⟨0, u, rfl, ⟨congrArg Prod.fst eT, congrArg Prod.snd eT⟩, by rw [ht]; exact hP, va_K.moved hW.alike hK, hD⟩, hS.F ht⟩) hS.2.2 dX0_take_17
set_option maxHeartbeats 4000000 in
set_option maxRecDepth 100000 in
theorem rc_rate (l : Launch) (dC : Nat → ClassId) (dI : Nat → Nat → Nat) (ad : Nat → Nat) (cA : Nat → ClassId) (sz : Nat) (u : RS) (p1 : Int32) (p2 : Int32) (T : Int32 × RS) (hf : rf_rate u p1 p2 = T) : Met l yX0_rate wsX0_rate ({ frames := 2, cells := 0, slots := 0, locals := 41 } : Room) (va_Pc [.ref (ad 0), .int p1, .int p2] (fun U => U.heap.size = sz ∧ va_P (dC, dI) vwCl (rW ad cA u) U.heap ∧ va_K (dC, dI) vwCl (rT cA) U ∧ va_D (fun _ => True) (rW ad cA u))) (va_Qi (fun r u2 => r = T.1 ∧ u2 = T.2) (rAt dC dI (va_A (rW ad cA u) sz) ad cA) (va_A (rW ad cA u) sz)) 0 0 (va_A (rW ad cA u) sz) := by
  refine Met.ofW (cc := cX0_rate) (maxL := 4) (ret := (some .int)) (by decide) rfl ?_
  intro p e s m args below meth c s₁ B hml hv
  obtain ⟨rfl, hsz, hP, hK, hD0⟩ := hv
  have hx := B.exec
  have hb := B.bytes
  have hr := B.returns
  have hts := atoms_spec (ws := wsX0_rate) B.pre
  have hown : s.vm.findClass RX0 = some m.cls := findClass_of_methodNamed B.named
  have hlocks := B.notSynchronized
  have hin0 : ∀ w ∈ wsX00, w ∈ wsX0_rate := by decide +kernel
  have fl_priorities := hts (.fieldLink RX0 9 "ProcessRoom" "priorities" "[I") (by decide +kernel)
  subst hsz
  have hD := hD0.self (sz := s.heap.size)
  generalize hAe : va_A (rW ad cA u) s.heap.size = A at hD ⊢
  have hA : ∀ q : Nat, s.heap.size ≤ q → A q := fun q h => by rw [← hAe]; exact Or.inr h
  have hS : va_S A s.heap s.heap [] := va_S.rf
  have hl := lv_entry ([.ref (ad 0), .int p1, .int p2]) (n := 4) (Nat.le_of_ble_eq_true rfl)
  rw [lg_entry_eq]
  generalize (lg_sl ([.ref (ad 0), .int p1, .int p2]) ++ List.replicate (4 - (lg_sl ([.ref (ad 0), .int p1, .int p2])).length) Slot.unset).toArray = ls at hl ⊢
  have hl : lv_has ls 4 [(0, .ref (ad 0)), (1, .int p1), (2, .int p2)] := hl
  refine lv_aload_n hx hb dX0_rate_0 rfl (lv_at hl 0 rfl) ?_
  refine lv_iload_n hx hb dX0_rate_1 rfl (lv_at hl 1 rfl) ?_
  refine va_calli (va_runV (As := [.int p1]) (rest := []) ⟨hx, hb, hml, hown, hts⟩ (rc_isMade l dC dI ad cA u p1 _ rfl) (cwV 1 hts gX0_rate_X0_isMade rfl rfl rfl (by decide +kernel) ⟨Nat.le_of_ble_eq_true rfl, Nat.le_of_ble_eq_true rfl⟩) ⟨fun a U g mk q => by obtain ⟨q0, qP, qK⟩ := q; exact ⟨q0, qP, va_K.moved (u := U) (U := U.calling g mk a) (Vm.Alike.refl U.vm) qK⟩, va_recv hK hP (ci := 0) (q0 := 0) rfl rfl, fun U hU hW => ⟨rfl, by rw [hU]; exact hP, va_K.moved hW.alike hK⟩⟩ rfl rfl hl.1 rfl (lv_room (Nat.le_of_ble_eq_true rfl)) dX0_rate_2 ⟨Nat.le_of_ble_eq_true rfl, Nat.le_of_ble_eq_true rfl⟩) hS (fun _ _ h => h.elim) (fun _ h => h.elim) (fun r_158 u_ t H1 locs ht hvm hr_158 hB hz1 hk1 hS => ?_)
  have hP := hP.kept (fun k x hx => hk1 x.1 ((hP k x hx).lt) (fun h => h))
  generalize H1 = H at hP hS ⊢
  refine lv_if_eq (tgt := 15) hx hb dX0_rate_5 (by decide) (fun c_159 => ?_) (fun c_159 => ?_)
  · refine lv_iconst (v := (-1)) hx hb dX0_rate_15 (by decide) ?_
    have eT : ((-1), u) = T := by subst hr_158; rw [← hf]; simp only [rf_rate, if_pos c_159]
    exact W.iret (v := (-1)) hx hb hr (fun t ht hW => ⟨⟨(-1), u, rfl, ⟨congrArg Prod.fst eT, congrArg Prod.snd eT⟩, by rw [ht]; exact hP, va_K.moved hW.alike hK, hD⟩, hS.F ht⟩) hS.2.2 dX0_rate_16
  · refine lv_iload_n hx hb dX0_rate_8 rfl (lv_at hl 2 rfl) ?_
    refine va_calli (va_runS (As := [.int p2]) (rest := []) ⟨hx, hb, hml, hown, hts⟩ (rc_isPriority l p2 _ rfl) (va_cwS 1 hts gX0_rate_X0_isPriority rfl rfl rfl (by decide +kernel) ⟨Nat.le_of_ble_eq_true rfl, Nat.le_of_ble_eq_true rfl⟩) ⟨fun a U g mk q => ⟨q.1, trivial⟩, fun U hU hW => ⟨rfl, trivial⟩⟩ rfl rfl hl.1 rfl (lv_room (Nat.le_of_ble_eq_true rfl)) dX0_rate_9 ⟨Nat.le_of_ble_eq_true rfl, Nat.le_of_ble_eq_true rfl⟩) hS (fun _ _ h => h.elim) (fun _ h => h.elim) (fun r_160 u_ t H1 locs ht hvm hr_160 hB hz1 hk1 hS => ?_)
    have hP := hP.kept (fun k x hx => hk1 x.1 ((hP k x hx).lt) (fun h => h))
    generalize H1 = H at hP hS ⊢
    refine lv_if_ne (tgt := 17) hx hb dX0_rate_12 (by decide) (fun c_161 => ?_) (fun c_161 => ?_)
    · refine lv_aload_n hx hb dX0_rate_17 rfl (lv_at hl 0 rfl) ?_
      refine va_get (D := (dC, dI)) (ci := 0) (v := .ref (ad 1)) (C := RX0) (T := TX0) (N := 12) (fs := rF ad u) hx hb hts hin0 hown hK hP 0 rfl rfl 0 (by decide) fl_priorities (fun _ h9 => h9) rfl dX0_rate_18 ?_
      refine lv_iload_n hx hb dX0_rate_21 rfl (lv_at hl 1 rfl) ?_
      refine va_iald hx hb hK hP 1 0 rfl rfl (ri_isMade hr_158 c_159) dX0_rate_22 ?_
      refine lv_istore_n (lv' := [(3, .int (ra_priorities u p1.toNatClampNeg)), (0, .ref (ad 0)), (1, .int p1), (2, .int p2)]) hx hb dX0_rate_23 rfl hl (by decide) rfl (fun ls hl => ?_)
      refine lv_aload_n hx hb dX0_rate_24 rfl (lv_at hl 1 rfl) ?_
      refine va_get (D := (dC, dI)) (ci := 0) (v := .ref (ad 1)) (C := RX0) (T := TX0) (N := 12) (fs := rF ad u) hx hb hts hin0 hown hK hP 0 rfl rfl 0 (by decide) fl_priorities (fun _ h9 => h9) rfl dX0_rate_25 ?_
      refine lv_iload_n hx hb dX0_rate_28 rfl (lv_at hl 2 rfl) ?_
      refine lv_iload_n hx hb dX0_rate_29 rfl (lv_at hl 3 rfl) ?_
      refine va_iast hx hb hK hP hD hS 1 0 rfl rfl (ri_isMade hr_158 c_159) dX0_rate_30 (fun H locs hP hD hS => ?_)
      rw [rw_priorities] at hP hD
      obtain ⟨u_162, hu_162⟩ : ∃ w : RS, w = rs_priorities u (upd (ra_priorities u) p1.toNatClampNeg p2) := ⟨_, rfl⟩
      rw [← hu_162] at hP hD
      refine lv_iload_n hx hb dX0_rate_31 rfl (lv_at hl 0 rfl) ?_
      have eT : (ra_priorities u p1.toNatClampNeg, u_162) = T := by subst hr_158 hr_160 hu_162; rw [← hf]; simp only [rf_rate, if_neg c_159, if_neg c_161]
      exact W.iret (v := ra_priorities u p1.toNatClampNeg) hx hb hr (fun t ht hW => ⟨⟨ra_priorities u p1.toNatClampNeg, u_162, rfl, ⟨congrArg Prod.fst eT, congrArg Prod.snd eT⟩, by rw [ht]; exact hP, va_K.moved hW.alike hK, hD⟩, hS.F ht⟩) hS.2.2 dX0_rate_32
    · refine lv_iconst (v := (-1)) hx hb dX0_rate_15 (by decide) ?_
      have eT : ((-1), u) = T := by subst hr_158 hr_160; rw [← hf]; simp only [rf_rate, if_neg c_159, if_pos c_161]
      exact W.iret (v := (-1)) hx hb hr (fun t ht hW => ⟨⟨(-1), u, rfl, ⟨congrArg Prod.fst eT, congrArg Prod.snd eT⟩, by rw [ht]; exact hP, va_K.moved hW.alike hK, hD⟩, hS.F ht⟩) hS.2.2 dX0_rate_16
set_option maxHeartbeats 4000000 in
set_option maxRecDepth 100000 in
theorem rc_yield (l : Launch) (dC : Nat → ClassId) (dI : Nat → Nat → Nat) (ad : Nat → Nat) (cA : Nat → ClassId) (sz : Nat) (u : RS)  (hI : rInv u) (T : Int32 × RS) (hf : rf_yield u = T) : Met l yX0_yield wsX0_yield ({ frames := 4, cells := 0, slots := 0, locals := 88 } : Room) (va_Pc [.ref (ad 0)] (fun U => U.heap.size = sz ∧ va_P (dC, dI) vwCl (rW ad cA u) U.heap ∧ va_K (dC, dI) vwCl (rT cA) U ∧ va_D (fun _ => True) (rW ad cA u))) (va_Qi (fun r u2 => r = T.1 ∧ u2 = T.2) (rAt dC dI (va_A (rW ad cA u) sz) ad cA) (va_A (rW ad cA u) sz)) 0 0 (va_A (rW ad cA u) sz) := by
  refine Met.ofW (cc := cX0_yield) (maxL := 2) (ret := (some .boolean)) (by decide) rfl ?_
  intro p e s m args below meth c s₁ B hml hv
  obtain ⟨rfl, hsz, hP, hK, hD0⟩ := hv
  have hx := B.exec
  have hb := B.bytes
  have hr := B.returns
  have hts := atoms_spec (ws := wsX0_yield) B.pre
  have hown : s.vm.findClass RX0 = some m.cls := findClass_of_methodNamed B.named
  have hlocks := B.notSynchronized
  have hin0 : ∀ w ∈ wsX00, w ∈ wsX0_yield := by decide +kernel
  have fl_priorities := hts (.fieldLink RX0 9 "ProcessRoom" "priorities" "[I") (by decide +kernel)
  subst hsz
  have hD := hD0.self (sz := s.heap.size)
  generalize hAe : va_A (rW ad cA u) s.heap.size = A at hD ⊢
  have hA : ∀ q : Nat, s.heap.size ≤ q → A q := fun q h => by rw [← hAe]; exact Or.inr h
  have hS : va_S A s.heap s.heap [] := va_S.rf
  have hl := lv_entry ([.ref (ad 0)]) (n := 2) (Nat.le_of_ble_eq_true rfl)
  rw [lg_entry_eq]
  generalize (lg_sl ([.ref (ad 0)]) ++ List.replicate (2 - (lg_sl ([.ref (ad 0)])).length) Slot.unset).toArray = ls at hl ⊢
  have hl : lv_has ls 2 [(0, .ref (ad 0))] := hl
  refine lv_aload_n hx hb dX0_yield_0 rfl (lv_at hl 0 rfl) ?_
  refine va_calli (va_runV (As := []) (rest := []) ⟨hx, hb, hml, hown, hts⟩ (rc_present l dC dI ad cA u _ rfl) (cwV 0 hts gX0_yield_X0_present rfl rfl rfl (by decide +kernel) ⟨Nat.le_of_ble_eq_true rfl, Nat.le_of_ble_eq_true rfl⟩) ⟨fun a U g mk q => by obtain ⟨q0, qP, qK⟩ := q; exact ⟨q0, qP, va_K.moved (u := U) (U := U.calling g mk a) (Vm.Alike.refl U.vm) qK⟩, va_recv hK hP (ci := 0) (q0 := 0) rfl rfl, fun U hU hW => ⟨rfl, by rw [hU]; exact hP, va_K.moved hW.alike hK⟩⟩ rfl rfl hl.1 rfl (lv_room (Nat.le_of_ble_eq_true rfl)) dX0_yield_1 ⟨Nat.le_of_ble_eq_true rfl, Nat.le_of_ble_eq_true rfl⟩) hS (fun _ _ h => h.elim) (fun _ h => h.elim) (fun r_163 u_ t H1 locs ht hvm hr_163 hB hz1 hk1 hS => ?_)
  have hP := hP.kept (fun k x hx => hk1 x.1 ((hP k x hx).lt) (fun h => h))
  generalize H1 = H at hP hS ⊢
  refine lv_istore_n (lv' := [(1, .int r_163), (0, .ref (ad 0))]) hx hb dX0_yield_4 rfl hl (by decide) rfl (fun ls hl => ?_)
  refine lv_aload_n hx hb dX0_yield_5 rfl (lv_at hl 1 rfl) ?_
  refine lv_iload_n hx hb dX0_yield_6 rfl (lv_at hl 0 rfl) ?_
  refine va_calli (va_runV (As := [.int r_163]) (rest := []) ⟨hx, hb, hml, hown, hts⟩ (rc_isMade l dC dI ad cA u r_163 _ rfl) (cwV 1 hts gX0_yield_X0_isMade rfl rfl rfl (by decide +kernel) ⟨Nat.le_of_ble_eq_true rfl, Nat.le_of_ble_eq_true rfl⟩) ⟨fun a U g mk q => by obtain ⟨q0, qP, qK⟩ := q; exact ⟨q0, qP, va_K.moved (u := U) (U := U.calling g mk a) (Vm.Alike.refl U.vm) qK⟩, va_recv hK hP (ci := 0) (q0 := 0) rfl rfl, fun U hU hW => ⟨rfl, by rw [hU]; exact hP, va_K.moved hW.alike hK⟩⟩ rfl rfl hl.1 rfl (lv_room (Nat.le_of_ble_eq_true rfl)) dX0_yield_7 ⟨Nat.le_of_ble_eq_true rfl, Nat.le_of_ble_eq_true rfl⟩) hS (fun _ _ h => h.elim) (fun _ h => h.elim) (fun r_164 u_ t H1 locs ht hvm hr_164 hB hz1 hk1 hS => ?_)
  have hP := hP.kept (fun k x hx => hk1 x.1 ((hP k x hx).lt) (fun h => h))
  generalize H1 = H at hP hS ⊢
  refine lv_if_eq (tgt := 28) hx hb dX0_yield_10 (by decide) (fun c_165 => ?_) (fun c_165 => ?_)
  · refine lv_iconst (v := 0) hx hb dX0_yield_28 (by decide) ?_
    have eT : (0, u) = T := by subst hr_163 hr_164; rw [← hf]; simp only [rf_yield, if_pos c_165]
    exact W.zret (v := 0) hx hb hr (rfl) (fun t ht hW => ⟨⟨0, u, rfl, ⟨congrArg Prod.fst eT, congrArg Prod.snd eT⟩, by rw [ht]; exact hP, va_K.moved hW.alike hK, hD⟩, hS.F ht⟩) hS.2.2 dX0_yield_29
  · refine lv_aload_n hx hb dX0_yield_13 rfl (lv_at hl 1 rfl) ?_
    refine lv_aload_n hx hb dX0_yield_14 rfl (lv_at hl 1 rfl) ?_
    refine va_get (D := (dC, dI)) (ci := 0) (v := .ref (ad 1)) (C := RX0) (T := TX0) (N := 12) (fs := rF ad u) hx hb hts hin0 hown hK hP 0 rfl rfl 0 (by decide) fl_priorities (fun _ h9 => h9) rfl dX0_yield_15 ?_
    refine lv_iload_n hx hb dX0_yield_18 rfl (lv_at hl 0 rfl) ?_
    refine va_iald hx hb hK hP 1 0 rfl rfl (ri_isMade hr_164 c_165) dX0_yield_19 ?_
    refine lv_iconst (v := 0) hx hb dX0_yield_20 (by decide) ?_
    refine va_calli (va_runV (As := [.int (ra_priorities u r_163.toNatClampNeg), .int 0]) (rest := []) ⟨hx, hb, hml, hown, hts⟩ (rc_at l dC dI ad cA u (ra_priorities u r_163.toNatClampNeg) 0 _ rfl) (cwV 2 hts gX0_yield_X0_at rfl rfl rfl (by decide +kernel) ⟨Nat.le_of_ble_eq_true rfl, Nat.le_of_ble_eq_true rfl⟩) ⟨fun a U g mk q => by obtain ⟨q0, qP, qK⟩ := q; exact ⟨q0, qP, va_K.moved (u := U) (U := U.calling g mk a) (Vm.Alike.refl U.vm) qK⟩, va_recv hK hP (ci := 0) (q0 := 0) rfl rfl, fun U hU hW => ⟨rfl, by rw [hU]; exact hP, va_K.moved hW.alike hK⟩⟩ rfl rfl hl.1 rfl (lv_room (Nat.le_of_ble_eq_true rfl)) dX0_yield_21 ⟨Nat.le_of_ble_eq_true rfl, Nat.le_of_ble_eq_true rfl⟩) hS (fun _ _ h => h.elim) (fun _ h => h.elim) (fun r_166 u_ t H1 locs ht hvm hr_166 hB hz1 hk1 hS => ?_)
    have hP := hP.kept (fun k x hx => hk1 x.1 ((hP k x hx).lt) (fun h => h))
    generalize H1 = H at hP hS ⊢
    refine lv_iconst (v := (-1)) hx hb dX0_yield_24 (by decide) ?_
    refine lv_icmp_ne (tgt := 30) hx hb dX0_yield_25 (by decide) (fun c_167 => ?_) (fun c_167 => ?_)
    · refine lv_aload_n hx hb dX0_yield_30 rfl (lv_at hl 1 rfl) ?_
      refine lv_iload_n hx hb dX0_yield_31 rfl (lv_at hl 0 rfl) ?_
      refine lv_aload_n hx hb dX0_yield_32 rfl (lv_at hl 1 rfl) ?_
      refine va_get (D := (dC, dI)) (ci := 0) (v := .ref (ad 1)) (C := RX0) (T := TX0) (N := 12) (fs := rF ad u) hx hb hts hin0 hown hK hP 0 rfl rfl 0 (by decide) fl_priorities (fun _ h9 => h9) rfl dX0_yield_33 ?_
      refine lv_iload_n hx hb dX0_yield_36 rfl (lv_at hl 0 rfl) ?_
      refine va_iald hx hb hK hP 1 0 rfl rfl (ri_isMade hr_164 c_165) dX0_yield_37 ?_
      have hFc := va_free (wc := (rW ad cA u)) hD hS hA [0, 1, 2, 3, 4, 5, 6] rfl
      refine va_callv (va_runV (As := [.int r_163, .int (ra_priorities u r_163.toNatClampNeg)]) (rest := []) ⟨hx, hb, hml, hown, hts⟩ (rc_enter l dC dI ad cA _ u r_163 (ra_priorities u r_163.toNatClampNeg) hI _ rfl) (cwV 2 hts gX0_yield_X0_enter rfl rfl rfl (by decide +kernel) ⟨Nat.le_of_ble_eq_true rfl, Nat.le_of_ble_eq_true rfl⟩) ⟨fun a U g mk q => by obtain ⟨q0, q1, qP, qK, qD⟩ := q; exact ⟨q0, q1, qP, va_K.moved (u := U) (U := U.calling g mk a) (Vm.Alike.refl U.vm) qK, qD⟩, va_recv hK hP (ci := 0) (q0 := 0) rfl rfl, fun U hU hW => ⟨rfl, by rw [hU], by rw [hU]; exact hP, va_K.moved hW.alike hK, hD.weaken (fun _ _ _ _ => trivial)⟩⟩ rfl rfl hl.1 rfl (lv_room (Nat.le_of_ble_eq_true rfl)) dX0_yield_38 ⟨Nat.le_of_ble_eq_true rfl, Nat.le_of_ble_eq_true rfl⟩) hS (fun q _ h => hFc q h) hFc (fun u_169 t H1 locs ht hvm hu_169 hB hz1 hk1 hS => ?_)
      obtain ⟨hP, hK1, hD1⟩ := hB
      rw [ht] at hP
      have hD := hD1.weaken (fun _ _ _ h => hFc _ h)
      generalize H1 = H at hP hS ⊢
      have hP : va_P (dC, dI) vwCl (rW ad cA u_169) H := hP
      have hD : va_D A (rW ad cA u_169) := hD
      refine lv_aload_n hx hb dX0_yield_41 rfl (lv_at hl 1 rfl) ?_
      have hFc := va_free (wc := (rW ad cA u_169)) hD hS hA [0, 1, 2, 3, 4, 5, 6] rfl
      refine va_callv (va_runV (As := []) (rest := []) ⟨hx, hb, hml, hown, hts⟩ (rc_putAside l dC dI ad cA _ u_169 _ rfl) (cwV 0 hts gX0_yield_X0_putAside rfl rfl rfl (by decide +kernel) ⟨Nat.le_of_ble_eq_true rfl, Nat.le_of_ble_eq_true rfl⟩) ⟨fun a U g mk q => by obtain ⟨q0, q1, qP, qK, qD⟩ := q; exact ⟨q0, q1, qP, va_K.moved (u := U) (U := U.calling g mk a) (Vm.Alike.refl U.vm) qK, qD⟩, va_recv hK hP (ci := 0) (q0 := 0) rfl rfl, fun U hU hW => ⟨rfl, by rw [hU], by rw [hU]; exact hP, va_K.moved hW.alike hK, hD.weaken (fun _ _ _ _ => trivial)⟩⟩ rfl rfl hl.1 rfl (lv_room (Nat.le_of_ble_eq_true rfl)) dX0_yield_42 ⟨Nat.le_of_ble_eq_true rfl, Nat.le_of_ble_eq_true rfl⟩) hS (fun q _ h => hFc q h) hFc (fun u_171 t H1 locs ht hvm hu_171 hB hz1 hk1 hS => ?_)
      obtain ⟨hP, hK1, hD1⟩ := hB
      rw [ht] at hP
      have hD := hD1.weaken (fun _ _ _ h => hFc _ h)
      generalize H1 = H at hP hS ⊢
      have hP : va_P (dC, dI) vwCl (rW ad cA u_171) H := hP
      have hD : va_D A (rW ad cA u_171) := hD
      refine lv_iconst (v := 1) hx hb dX0_yield_45 (by decide) ?_
      have eT : (1, u_171) = T := by subst hr_163 hr_164 hr_166 hu_169 hu_171; rw [← hf]; simp only [rf_yield, if_neg c_165, if_neg c_167]
      exact W.zret (v := 1) hx hb hr (rfl) (fun t ht hW => ⟨⟨1, u_171, rfl, ⟨congrArg Prod.fst eT, congrArg Prod.snd eT⟩, by rw [ht]; exact hP, va_K.moved hW.alike hK, hD⟩, hS.F ht⟩) hS.2.2 dX0_yield_46
    · refine lv_iconst (v := 0) hx hb dX0_yield_28 (by decide) ?_
      have eT : (0, u) = T := by subst hr_163 hr_164 hr_166; rw [← hf]; simp only [rf_yield, if_neg c_165, if_pos c_167]
      exact W.zret (v := 0) hx hb hr (rfl) (fun t ht hW => ⟨⟨0, u, rfl, ⟨congrArg Prod.fst eT, congrArg Prod.snd eT⟩, by rw [ht]; exact hP, va_K.moved hW.alike hK, hD⟩, hS.F ht⟩) hS.2.2 dX0_yield_29
def r0 : RS := ((fun _ => 0), (fun _ => 0), (fun _ => 0), (fun _ => 0), 0, (fun _ => 0), (fun _ => 0), 0, (-1), 0, 0, (-1))
def rNew (dC : Nat → ClassId) (dI : Nat → Nat → Nat) (A : Nat → Prop) (h0 : Nat) (u : RS) (t : State) : Prop := ∃ (ad : Nat → Nat) (cA : Nat → ClassId), ad 0 = h0 ∧ rAt dC dI A ad cA u t
set_option maxHeartbeats 4000000 in
set_option maxRecDepth 100000 in
theorem rc_init (l : Launch) (dC : Nat → ClassId) (dI : Nat → Nat → Nat) (h0 sz : Nat) : Met l yX0_init wsX0_init ({ frames := 1, cells := 6, slots := 184, locals := 12 } : Room) (va_Pc [.ref h0] (fun U => U.heap.size = sz ∧ va_P (dC, dI) vwCl [(h0, .inr (0, [.null, .null, .null, .null, .int 0, .null, .null, .int 0, .int 0, .int 0, .int 0, .int 0]))] U.heap ∧ va_K (dC, dI) vwCl [] U ∧ va_D (fun _ => True) [(h0, .inr (0, [.null, .null, .null, .null, .int 0, .null, .null, .int 0, .int 0, .int 0, .int 0, .int 0]))])) (va_Qv (fun u => u = r0) (rNew dC dI (va_A [(h0, .inr (0, [.null, .null, .null, .null, .int 0, .null, .null, .int 0, .int 0, .int 0, .int 0, .int 0]))] sz) h0) (va_A [(h0, .inr (0, [.null, .null, .null, .null, .int 0, .null, .null, .int 0, .int 0, .int 0, .int 0, .int 0]))] sz)) 6 184 (va_A [(h0, .inr (0, [.null, .null, .null, .null, .int 0, .null, .null, .int 0, .int 0, .int 0, .int 0, .int 0]))] sz) := by
  refine Met.ofW (cc := cX0_init) (maxL := 1) (ret := none) (by decide) rfl ?_
  intro p e s m args below meth c s₁ B hml hv
  obtain ⟨rfl, hsz, hP, hK, hD0⟩ := hv
  have hx := B.exec
  have hb := B.bytes
  have hr := B.returns
  have hts := atoms_spec (ws := wsX0_init) B.pre
  have hown : s.vm.findClass RX0 = some m.cls := findClass_of_methodNamed B.named
  have hlocks := B.notSynchronized
  have hin : meth.name = "<init>" := (name_of_methodNamed B.named B.method).1
  have hin0 : ∀ w ∈ wsX00, w ∈ wsX0_init := by decide +kernel
  have fl_priorities := hts (.fieldLink RX0 9 "ProcessRoom" "priorities" "[I") (by decide +kernel)
  have fl_places := hts (.fieldLink RX0 13 "ProcessRoom" "places" "[I") (by decide +kernel)
  have fl_rows := hts (.fieldLink RX0 16 "ProcessRoom" "rows" "[I") (by decide +kernel)
  have fl_line := hts (.fieldLink RX0 19 "ProcessRoom" "line" "[I") (by decide +kernel)
  have fl_lineLength := hts (.fieldLink RX0 22 "ProcessRoom" "lineLength" "I") (by decide +kernel)
  have fl_extras := hts (.fieldLink RX0 26 "ProcessRoom" "extras" "[I") (by decide +kernel)
  have fl_posts := hts (.fieldLink RX0 29 "ProcessRoom" "posts" "[I") (by decide +kernel)
  have fl_postCount := hts (.fieldLink RX0 32 "ProcessRoom" "postCount" "I") (by decide +kernel)
  have fl_active := hts (.fieldLink RX0 35 "ProcessRoom" "active" "I") (by decide +kernel)
  have fl_here := hts (.fieldLink RX0 38 "ProcessRoom" "here" "I") (by decide +kernel)
  have fl_wanted := hts (.fieldLink RX0 41 "ProcessRoom" "wanted" "Z") (by decide +kernel)
  have fl_wantedOne := hts (.fieldLink RX0 45 "ProcessRoom" "wantedOne" "I") (by decide +kernel)
  subst hsz
  have hD := hD0.self (sz := s.heap.size)
  generalize hAe : va_A [(h0, .inr (0, [.null, .null, .null, .null, .int 0, .null, .null, .int 0, .int 0, .int 0, .int 0, .int 0]))] s.heap.size = A at hD ⊢
  have hA : ∀ q : Nat, s.heap.size ≤ q → A q := fun q h => by rw [← hAe]; exact Or.inr h
  have hS : va_S A s.heap s.heap [] := va_S.rf
  have hl := lv_entry ([.ref h0]) (n := 1) (Nat.le_of_ble_eq_true rfl)
  rw [lg_entry_eq]
  generalize (lg_sl ([.ref h0]) ++ List.replicate (1 - (lg_sl ([.ref h0])).length) Slot.unset).toArray = ls at hl ⊢
  have hl : lv_has ls 1 [(0, .ref h0)] := hl
  refine lv_aload_n hx hb dX0_init_0 rfl (lv_at hl 0 rfl) ?_
  refine W.objInit hx hb hown (hts (.methodLink RX0 1 objectInit) (by decide +kernel)) (hts (.instanceMethod objectInit) (by decide +kernel)) (hts (.code objectInit ⟨#[0xb1]⟩ 1 none) (by decide +kernel)) rfl (by rw [hml]; exact hl.1) rfl dX0_init_1 (Nat.le_of_ble_eq_true rfl) (Nat.le_of_ble_eq_true rfl) ?_
  refine W.eq (g2 := F0 m 4 ls []) rfl ?_
  refine lv_aload_n hx hb dX0_init_4 rfl (lv_at hl 0 rfl) ?_
  refine lv_bipush (v := 32) hx hb dX0_init_5 (by decide) ?_
  refine va_newa (atype := .int) (ty := .int) (N' := 32) (a0 := (32, .inl (fun _ => 0))) hx hb (hts (.arrayClass .int) (by decide +kernel)) rfl hK hP hD hS hA (fun _ => rfl) (by decide) rfl (by decide) (Nat.le_of_ble_eq_true rfl) (Nat.le_of_ble_eq_true rfl) dX0_init_7 (fun q1 c1 H hK hP hD hS => ?_)
  have hK : va_K (dC, dI) vwCl [(c1, .int)] s := hK
  have hP : va_P (dC, dI) vwCl [(h0, .inr (0, [.null, .null, .null, .null, .int 0, .null, .null, .int 0, .int 0, .int 0, .int 0, .int 0])), (q1, .inl (c1, 32, .inl (fun _ => 0)))] H := hP
  have hD : va_D A [(h0, .inr (0, [.null, .null, .null, .null, .int 0, .null, .null, .int 0, .int 0, .int 0, .int 0, .int 0])), (q1, .inl (c1, 32, .inl (fun _ => 0)))] := hD
  refine W.widen (k := 1) (n := 32) (by omega) (by omega) ?_
  refine va_putF (D := (dC, dI)) (ci := 0) (v := .ref q1) (ty := (.array .int)) (C := RX0) (T := TX0) (N := 12) hx hb hts hin0 tyX0 tyX0_ok nmX0 hown hK hP hD hS 0 rfl rfl 0 (by decide) fl_priorities (fun _ h9 => h9) rfl hin rfl (by decide +kernel) rfl rfl (Nat.le_of_ble_eq_true rfl) dX0_init_9 (fun H locs hP hD hS => ?_)
  have hP : va_P (dC, dI) vwCl [(h0, .inr (0, [.ref q1, .null, .null, .null, .int 0, .null, .null, .int 0, .int 0, .int 0, .int 0, .int 0])), (q1, .inl (c1, 32, .inl (fun _ => 0)))] H := hP
  have hD : va_D A [(h0, .inr (0, [.ref q1, .null, .null, .null, .int 0, .null, .null, .int 0, .int 0, .int 0, .int 0, .int 0])), (q1, .inl (c1, 32, .inl (fun _ => 0)))] := hD
  refine lv_aload_n hx hb dX0_init_12 rfl (lv_at hl 0 rfl) ?_
  refine lv_bipush (v := 32) hx hb dX0_init_13 (by decide) ?_
  refine va_newa (atype := .int) (ty := .int) (N' := 32) (a0 := (32, .inl (fun _ => 0))) hx hb (hts (.arrayClass .int) (by decide +kernel)) rfl hK hP hD hS hA (fun _ => rfl) (by decide) rfl (by decide) (Nat.le_of_ble_eq_true rfl) (Nat.le_of_ble_eq_true rfl) dX0_init_15 (fun q2 c2 H hK hP hD hS => ?_)
  have hK : va_K (dC, dI) vwCl [(c1, .int), (c2, .int)] s := hK
  have hP : va_P (dC, dI) vwCl [(h0, .inr (0, [.ref q1, .null, .null, .null, .int 0, .null, .null, .int 0, .int 0, .int 0, .int 0, .int 0])), (q1, .inl (c1, 32, .inl (fun _ => 0))), (q2, .inl (c2, 32, .inl (fun _ => 0)))] H := hP
  have hD : va_D A [(h0, .inr (0, [.ref q1, .null, .null, .null, .int 0, .null, .null, .int 0, .int 0, .int 0, .int 0, .int 0])), (q1, .inl (c1, 32, .inl (fun _ => 0))), (q2, .inl (c2, 32, .inl (fun _ => 0)))] := hD
  refine W.widen (k := 2) (n := 64) (by omega) (by omega) ?_
  refine va_putF (D := (dC, dI)) (ci := 0) (v := .ref q2) (ty := (.array .int)) (C := RX0) (T := TX0) (N := 12) hx hb hts hin0 tyX0 tyX0_ok nmX0 hown hK hP hD hS 0 rfl rfl 1 (by decide) fl_places (fun _ h9 => h9) rfl hin rfl (by decide +kernel) rfl rfl (Nat.le_of_ble_eq_true rfl) dX0_init_17 (fun H locs hP hD hS => ?_)
  have hP : va_P (dC, dI) vwCl [(h0, .inr (0, [.ref q1, .ref q2, .null, .null, .int 0, .null, .null, .int 0, .int 0, .int 0, .int 0, .int 0])), (q1, .inl (c1, 32, .inl (fun _ => 0))), (q2, .inl (c2, 32, .inl (fun _ => 0)))] H := hP
  have hD : va_D A [(h0, .inr (0, [.ref q1, .ref q2, .null, .null, .int 0, .null, .null, .int 0, .int 0, .int 0, .int 0, .int 0])), (q1, .inl (c1, 32, .inl (fun _ => 0))), (q2, .inl (c2, 32, .inl (fun _ => 0)))] := hD
  refine lv_aload_n hx hb dX0_init_20 rfl (lv_at hl 0 rfl) ?_
  refine lv_bipush (v := 32) hx hb dX0_init_21 (by decide) ?_
  refine va_newa (atype := .int) (ty := .int) (N' := 32) (a0 := (32, .inl (fun _ => 0))) hx hb (hts (.arrayClass .int) (by decide +kernel)) rfl hK hP hD hS hA (fun _ => rfl) (by decide) rfl (by decide) (Nat.le_of_ble_eq_true rfl) (Nat.le_of_ble_eq_true rfl) dX0_init_23 (fun q3 c3 H hK hP hD hS => ?_)
  have hK : va_K (dC, dI) vwCl [(c1, .int), (c2, .int), (c3, .int)] s := hK
  have hP : va_P (dC, dI) vwCl [(h0, .inr (0, [.ref q1, .ref q2, .null, .null, .int 0, .null, .null, .int 0, .int 0, .int 0, .int 0, .int 0])), (q1, .inl (c1, 32, .inl (fun _ => 0))), (q2, .inl (c2, 32, .inl (fun _ => 0))), (q3, .inl (c3, 32, .inl (fun _ => 0)))] H := hP
  have hD : va_D A [(h0, .inr (0, [.ref q1, .ref q2, .null, .null, .int 0, .null, .null, .int 0, .int 0, .int 0, .int 0, .int 0])), (q1, .inl (c1, 32, .inl (fun _ => 0))), (q2, .inl (c2, 32, .inl (fun _ => 0))), (q3, .inl (c3, 32, .inl (fun _ => 0)))] := hD
  refine W.widen (k := 3) (n := 96) (by omega) (by omega) ?_
  refine va_putF (D := (dC, dI)) (ci := 0) (v := .ref q3) (ty := (.array .int)) (C := RX0) (T := TX0) (N := 12) hx hb hts hin0 tyX0 tyX0_ok nmX0 hown hK hP hD hS 0 rfl rfl 2 (by decide) fl_rows (fun _ h9 => h9) rfl hin rfl (by decide +kernel) rfl rfl (Nat.le_of_ble_eq_true rfl) dX0_init_25 (fun H locs hP hD hS => ?_)
  have hP : va_P (dC, dI) vwCl [(h0, .inr (0, [.ref q1, .ref q2, .ref q3, .null, .int 0, .null, .null, .int 0, .int 0, .int 0, .int 0, .int 0])), (q1, .inl (c1, 32, .inl (fun _ => 0))), (q2, .inl (c2, 32, .inl (fun _ => 0))), (q3, .inl (c3, 32, .inl (fun _ => 0)))] H := hP
  have hD : va_D A [(h0, .inr (0, [.ref q1, .ref q2, .ref q3, .null, .int 0, .null, .null, .int 0, .int 0, .int 0, .int 0, .int 0])), (q1, .inl (c1, 32, .inl (fun _ => 0))), (q2, .inl (c2, 32, .inl (fun _ => 0))), (q3, .inl (c3, 32, .inl (fun _ => 0)))] := hD
  refine lv_aload_n hx hb dX0_init_28 rfl (lv_at hl 0 rfl) ?_
  refine lv_bipush (v := 32) hx hb dX0_init_29 (by decide) ?_
  refine va_newa (atype := .int) (ty := .int) (N' := 32) (a0 := (32, .inl (fun _ => 0))) hx hb (hts (.arrayClass .int) (by decide +kernel)) rfl hK hP hD hS hA (fun _ => rfl) (by decide) rfl (by decide) (Nat.le_of_ble_eq_true rfl) (Nat.le_of_ble_eq_true rfl) dX0_init_31 (fun q4 c4 H hK hP hD hS => ?_)
  have hK : va_K (dC, dI) vwCl [(c1, .int), (c2, .int), (c3, .int), (c4, .int)] s := hK
  have hP : va_P (dC, dI) vwCl [(h0, .inr (0, [.ref q1, .ref q2, .ref q3, .null, .int 0, .null, .null, .int 0, .int 0, .int 0, .int 0, .int 0])), (q1, .inl (c1, 32, .inl (fun _ => 0))), (q2, .inl (c2, 32, .inl (fun _ => 0))), (q3, .inl (c3, 32, .inl (fun _ => 0))), (q4, .inl (c4, 32, .inl (fun _ => 0)))] H := hP
  have hD : va_D A [(h0, .inr (0, [.ref q1, .ref q2, .ref q3, .null, .int 0, .null, .null, .int 0, .int 0, .int 0, .int 0, .int 0])), (q1, .inl (c1, 32, .inl (fun _ => 0))), (q2, .inl (c2, 32, .inl (fun _ => 0))), (q3, .inl (c3, 32, .inl (fun _ => 0))), (q4, .inl (c4, 32, .inl (fun _ => 0)))] := hD
  refine W.widen (k := 4) (n := 128) (by omega) (by omega) ?_
  refine va_putF (D := (dC, dI)) (ci := 0) (v := .ref q4) (ty := (.array .int)) (C := RX0) (T := TX0) (N := 12) hx hb hts hin0 tyX0 tyX0_ok nmX0 hown hK hP hD hS 0 rfl rfl 3 (by decide) fl_line (fun _ h9 => h9) rfl hin rfl (by decide +kernel) rfl rfl (Nat.le_of_ble_eq_true rfl) dX0_init_33 (fun H locs hP hD hS => ?_)
  have hP : va_P (dC, dI) vwCl [(h0, .inr (0, [.ref q1, .ref q2, .ref q3, .ref q4, .int 0, .null, .null, .int 0, .int 0, .int 0, .int 0, .int 0])), (q1, .inl (c1, 32, .inl (fun _ => 0))), (q2, .inl (c2, 32, .inl (fun _ => 0))), (q3, .inl (c3, 32, .inl (fun _ => 0))), (q4, .inl (c4, 32, .inl (fun _ => 0)))] H := hP
  have hD : va_D A [(h0, .inr (0, [.ref q1, .ref q2, .ref q3, .ref q4, .int 0, .null, .null, .int 0, .int 0, .int 0, .int 0, .int 0])), (q1, .inl (c1, 32, .inl (fun _ => 0))), (q2, .inl (c2, 32, .inl (fun _ => 0))), (q3, .inl (c3, 32, .inl (fun _ => 0))), (q4, .inl (c4, 32, .inl (fun _ => 0)))] := hD
  refine lv_aload_n hx hb dX0_init_36 rfl (lv_at hl 0 rfl) ?_
  refine lv_iconst (v := 0) hx hb dX0_init_37 (by decide) ?_
  refine va_put (D := (dC, dI)) (ci := 0) (v := .int 0) (ty := .int) (C := RX0) (T := TX0) (N := 12) hx hb hts hin0 tyX0 tyX0_ok nmX0 hown hK hP hD hS 0 rfl rfl 4 (by decide) fl_lineLength (fun _ h9 => h9) rfl (by decide +kernel) rfl rfl (Nat.le_of_ble_eq_true rfl) dX0_init_38 (fun H locs hP hD hS => ?_)
  have hP : va_P (dC, dI) vwCl [(h0, .inr (0, [.ref q1, .ref q2, .ref q3, .ref q4, .int 0, .null, .null, .int 0, .int 0, .int 0, .int 0, .int 0])), (q1, .inl (c1, 32, .inl (fun _ => 0))), (q2, .inl (c2, 32, .inl (fun _ => 0))), (q3, .inl (c3, 32, .inl (fun _ => 0))), (q4, .inl (c4, 32, .inl (fun _ => 0)))] H := hP
  have hD : va_D A [(h0, .inr (0, [.ref q1, .ref q2, .ref q3, .ref q4, .int 0, .null, .null, .int 0, .int 0, .int 0, .int 0, .int 0])), (q1, .inl (c1, 32, .inl (fun _ => 0))), (q2, .inl (c2, 32, .inl (fun _ => 0))), (q3, .inl (c3, 32, .inl (fun _ => 0))), (q4, .inl (c4, 32, .inl (fun _ => 0)))] := hD
  refine lv_aload_n hx hb dX0_init_41 rfl (lv_at hl 0 rfl) ?_
  refine lv_bipush (v := 16) hx hb dX0_init_42 (by decide) ?_
  refine va_newa (atype := .int) (ty := .int) (N' := 16) (a0 := (16, .inl (fun _ => 0))) hx hb (hts (.arrayClass .int) (by decide +kernel)) rfl hK hP hD hS hA (fun _ => rfl) (by decide) rfl (by decide) (Nat.le_of_ble_eq_true rfl) (Nat.le_of_ble_eq_true rfl) dX0_init_44 (fun q5 c5 H hK hP hD hS => ?_)
  have hK : va_K (dC, dI) vwCl [(c1, .int), (c2, .int), (c3, .int), (c4, .int), (c5, .int)] s := hK
  have hP : va_P (dC, dI) vwCl [(h0, .inr (0, [.ref q1, .ref q2, .ref q3, .ref q4, .int 0, .null, .null, .int 0, .int 0, .int 0, .int 0, .int 0])), (q1, .inl (c1, 32, .inl (fun _ => 0))), (q2, .inl (c2, 32, .inl (fun _ => 0))), (q3, .inl (c3, 32, .inl (fun _ => 0))), (q4, .inl (c4, 32, .inl (fun _ => 0))), (q5, .inl (c5, 16, .inl (fun _ => 0)))] H := hP
  have hD : va_D A [(h0, .inr (0, [.ref q1, .ref q2, .ref q3, .ref q4, .int 0, .null, .null, .int 0, .int 0, .int 0, .int 0, .int 0])), (q1, .inl (c1, 32, .inl (fun _ => 0))), (q2, .inl (c2, 32, .inl (fun _ => 0))), (q3, .inl (c3, 32, .inl (fun _ => 0))), (q4, .inl (c4, 32, .inl (fun _ => 0))), (q5, .inl (c5, 16, .inl (fun _ => 0)))] := hD
  refine W.widen (k := 5) (n := 144) (by omega) (by omega) ?_
  refine va_putF (D := (dC, dI)) (ci := 0) (v := .ref q5) (ty := (.array .int)) (C := RX0) (T := TX0) (N := 12) hx hb hts hin0 tyX0 tyX0_ok nmX0 hown hK hP hD hS 0 rfl rfl 5 (by decide) fl_extras (fun _ h9 => h9) rfl hin rfl (by decide +kernel) rfl rfl (Nat.le_of_ble_eq_true rfl) dX0_init_46 (fun H locs hP hD hS => ?_)
  have hP : va_P (dC, dI) vwCl [(h0, .inr (0, [.ref q1, .ref q2, .ref q3, .ref q4, .int 0, .ref q5, .null, .int 0, .int 0, .int 0, .int 0, .int 0])), (q1, .inl (c1, 32, .inl (fun _ => 0))), (q2, .inl (c2, 32, .inl (fun _ => 0))), (q3, .inl (c3, 32, .inl (fun _ => 0))), (q4, .inl (c4, 32, .inl (fun _ => 0))), (q5, .inl (c5, 16, .inl (fun _ => 0)))] H := hP
  have hD : va_D A [(h0, .inr (0, [.ref q1, .ref q2, .ref q3, .ref q4, .int 0, .ref q5, .null, .int 0, .int 0, .int 0, .int 0, .int 0])), (q1, .inl (c1, 32, .inl (fun _ => 0))), (q2, .inl (c2, 32, .inl (fun _ => 0))), (q3, .inl (c3, 32, .inl (fun _ => 0))), (q4, .inl (c4, 32, .inl (fun _ => 0))), (q5, .inl (c5, 16, .inl (fun _ => 0)))] := hD
  refine lv_aload_n hx hb dX0_init_49 rfl (lv_at hl 0 rfl) ?_
  refine lv_bipush (v := 40) hx hb dX0_init_50 (by decide) ?_
  refine va_newa (atype := .int) (ty := .int) (N' := 40) (a0 := (40, .inl (fun _ => 0))) hx hb (hts (.arrayClass .int) (by decide +kernel)) rfl hK hP hD hS hA (fun _ => rfl) (by decide) rfl (by decide) (Nat.le_of_ble_eq_true rfl) (Nat.le_of_ble_eq_true rfl) dX0_init_52 (fun q6 c6 H hK hP hD hS => ?_)
  have hK : va_K (dC, dI) vwCl [(c1, .int), (c2, .int), (c3, .int), (c4, .int), (c5, .int), (c6, .int)] s := hK
  have hP : va_P (dC, dI) vwCl [(h0, .inr (0, [.ref q1, .ref q2, .ref q3, .ref q4, .int 0, .ref q5, .null, .int 0, .int 0, .int 0, .int 0, .int 0])), (q1, .inl (c1, 32, .inl (fun _ => 0))), (q2, .inl (c2, 32, .inl (fun _ => 0))), (q3, .inl (c3, 32, .inl (fun _ => 0))), (q4, .inl (c4, 32, .inl (fun _ => 0))), (q5, .inl (c5, 16, .inl (fun _ => 0))), (q6, .inl (c6, 40, .inl (fun _ => 0)))] H := hP
  have hD : va_D A [(h0, .inr (0, [.ref q1, .ref q2, .ref q3, .ref q4, .int 0, .ref q5, .null, .int 0, .int 0, .int 0, .int 0, .int 0])), (q1, .inl (c1, 32, .inl (fun _ => 0))), (q2, .inl (c2, 32, .inl (fun _ => 0))), (q3, .inl (c3, 32, .inl (fun _ => 0))), (q4, .inl (c4, 32, .inl (fun _ => 0))), (q5, .inl (c5, 16, .inl (fun _ => 0))), (q6, .inl (c6, 40, .inl (fun _ => 0)))] := hD
  refine W.widen (k := 6) (n := 184) (by omega) (by omega) ?_
  refine va_putF (D := (dC, dI)) (ci := 0) (v := .ref q6) (ty := (.array .int)) (C := RX0) (T := TX0) (N := 12) hx hb hts hin0 tyX0 tyX0_ok nmX0 hown hK hP hD hS 0 rfl rfl 6 (by decide) fl_posts (fun _ h9 => h9) rfl hin rfl (by decide +kernel) rfl rfl (Nat.le_of_ble_eq_true rfl) dX0_init_54 (fun H locs hP hD hS => ?_)
  have hP : va_P (dC, dI) vwCl [(h0, .inr (0, [.ref q1, .ref q2, .ref q3, .ref q4, .int 0, .ref q5, .ref q6, .int 0, .int 0, .int 0, .int 0, .int 0])), (q1, .inl (c1, 32, .inl (fun _ => 0))), (q2, .inl (c2, 32, .inl (fun _ => 0))), (q3, .inl (c3, 32, .inl (fun _ => 0))), (q4, .inl (c4, 32, .inl (fun _ => 0))), (q5, .inl (c5, 16, .inl (fun _ => 0))), (q6, .inl (c6, 40, .inl (fun _ => 0)))] H := hP
  have hD : va_D A [(h0, .inr (0, [.ref q1, .ref q2, .ref q3, .ref q4, .int 0, .ref q5, .ref q6, .int 0, .int 0, .int 0, .int 0, .int 0])), (q1, .inl (c1, 32, .inl (fun _ => 0))), (q2, .inl (c2, 32, .inl (fun _ => 0))), (q3, .inl (c3, 32, .inl (fun _ => 0))), (q4, .inl (c4, 32, .inl (fun _ => 0))), (q5, .inl (c5, 16, .inl (fun _ => 0))), (q6, .inl (c6, 40, .inl (fun _ => 0)))] := hD
  refine lv_aload_n hx hb dX0_init_57 rfl (lv_at hl 0 rfl) ?_
  refine lv_iconst (v := 0) hx hb dX0_init_58 (by decide) ?_
  refine va_put (D := (dC, dI)) (ci := 0) (v := .int 0) (ty := .int) (C := RX0) (T := TX0) (N := 12) hx hb hts hin0 tyX0 tyX0_ok nmX0 hown hK hP hD hS 0 rfl rfl 7 (by decide) fl_postCount (fun _ h9 => h9) rfl (by decide +kernel) rfl rfl (Nat.le_of_ble_eq_true rfl) dX0_init_59 (fun H locs hP hD hS => ?_)
  have hP : va_P (dC, dI) vwCl [(h0, .inr (0, [.ref q1, .ref q2, .ref q3, .ref q4, .int 0, .ref q5, .ref q6, .int 0, .int 0, .int 0, .int 0, .int 0])), (q1, .inl (c1, 32, .inl (fun _ => 0))), (q2, .inl (c2, 32, .inl (fun _ => 0))), (q3, .inl (c3, 32, .inl (fun _ => 0))), (q4, .inl (c4, 32, .inl (fun _ => 0))), (q5, .inl (c5, 16, .inl (fun _ => 0))), (q6, .inl (c6, 40, .inl (fun _ => 0)))] H := hP
  have hD : va_D A [(h0, .inr (0, [.ref q1, .ref q2, .ref q3, .ref q4, .int 0, .ref q5, .ref q6, .int 0, .int 0, .int 0, .int 0, .int 0])), (q1, .inl (c1, 32, .inl (fun _ => 0))), (q2, .inl (c2, 32, .inl (fun _ => 0))), (q3, .inl (c3, 32, .inl (fun _ => 0))), (q4, .inl (c4, 32, .inl (fun _ => 0))), (q5, .inl (c5, 16, .inl (fun _ => 0))), (q6, .inl (c6, 40, .inl (fun _ => 0)))] := hD
  refine lv_aload_n hx hb dX0_init_62 rfl (lv_at hl 0 rfl) ?_
  refine lv_iconst (v := (-1)) hx hb dX0_init_63 (by decide) ?_
  refine va_put (D := (dC, dI)) (ci := 0) (v := .int (-1)) (ty := .int) (C := RX0) (T := TX0) (N := 12) hx hb hts hin0 tyX0 tyX0_ok nmX0 hown hK hP hD hS 0 rfl rfl 8 (by decide) fl_active (fun _ h9 => h9) rfl (by decide +kernel) rfl rfl (Nat.le_of_ble_eq_true rfl) dX0_init_64 (fun H locs hP hD hS => ?_)
  have hP : va_P (dC, dI) vwCl [(h0, .inr (0, [.ref q1, .ref q2, .ref q3, .ref q4, .int 0, .ref q5, .ref q6, .int 0, .int (-1), .int 0, .int 0, .int 0])), (q1, .inl (c1, 32, .inl (fun _ => 0))), (q2, .inl (c2, 32, .inl (fun _ => 0))), (q3, .inl (c3, 32, .inl (fun _ => 0))), (q4, .inl (c4, 32, .inl (fun _ => 0))), (q5, .inl (c5, 16, .inl (fun _ => 0))), (q6, .inl (c6, 40, .inl (fun _ => 0)))] H := hP
  have hD : va_D A [(h0, .inr (0, [.ref q1, .ref q2, .ref q3, .ref q4, .int 0, .ref q5, .ref q6, .int 0, .int (-1), .int 0, .int 0, .int 0])), (q1, .inl (c1, 32, .inl (fun _ => 0))), (q2, .inl (c2, 32, .inl (fun _ => 0))), (q3, .inl (c3, 32, .inl (fun _ => 0))), (q4, .inl (c4, 32, .inl (fun _ => 0))), (q5, .inl (c5, 16, .inl (fun _ => 0))), (q6, .inl (c6, 40, .inl (fun _ => 0)))] := hD
  refine lv_aload_n hx hb dX0_init_67 rfl (lv_at hl 0 rfl) ?_
  refine lv_iconst (v := 0) hx hb dX0_init_68 (by decide) ?_
  refine va_put (D := (dC, dI)) (ci := 0) (v := .int 0) (ty := .int) (C := RX0) (T := TX0) (N := 12) hx hb hts hin0 tyX0 tyX0_ok nmX0 hown hK hP hD hS 0 rfl rfl 9 (by decide) fl_here (fun _ h9 => h9) rfl (by decide +kernel) rfl rfl (Nat.le_of_ble_eq_true rfl) dX0_init_69 (fun H locs hP hD hS => ?_)
  have hP : va_P (dC, dI) vwCl [(h0, .inr (0, [.ref q1, .ref q2, .ref q3, .ref q4, .int 0, .ref q5, .ref q6, .int 0, .int (-1), .int 0, .int 0, .int 0])), (q1, .inl (c1, 32, .inl (fun _ => 0))), (q2, .inl (c2, 32, .inl (fun _ => 0))), (q3, .inl (c3, 32, .inl (fun _ => 0))), (q4, .inl (c4, 32, .inl (fun _ => 0))), (q5, .inl (c5, 16, .inl (fun _ => 0))), (q6, .inl (c6, 40, .inl (fun _ => 0)))] H := hP
  have hD : va_D A [(h0, .inr (0, [.ref q1, .ref q2, .ref q3, .ref q4, .int 0, .ref q5, .ref q6, .int 0, .int (-1), .int 0, .int 0, .int 0])), (q1, .inl (c1, 32, .inl (fun _ => 0))), (q2, .inl (c2, 32, .inl (fun _ => 0))), (q3, .inl (c3, 32, .inl (fun _ => 0))), (q4, .inl (c4, 32, .inl (fun _ => 0))), (q5, .inl (c5, 16, .inl (fun _ => 0))), (q6, .inl (c6, 40, .inl (fun _ => 0)))] := hD
  refine lv_aload_n hx hb dX0_init_72 rfl (lv_at hl 0 rfl) ?_
  refine lv_iconst (v := 0) hx hb dX0_init_73 (by decide) ?_
  refine va_put (D := (dC, dI)) (ci := 0) (v := .int 0) (ty := .boolean) (C := RX0) (T := TX0) (N := 12) hx hb hts hin0 tyX0 tyX0_ok nmX0 hown hK hP hD hS 0 rfl rfl 10 (by decide) fl_wanted (fun _ h9 => h9) rfl (by decide +kernel) rfl rfl (Nat.le_of_ble_eq_true rfl) dX0_init_74 (fun H locs hP hD hS => ?_)
  have hP : va_P (dC, dI) vwCl [(h0, .inr (0, [.ref q1, .ref q2, .ref q3, .ref q4, .int 0, .ref q5, .ref q6, .int 0, .int (-1), .int 0, .int 0, .int 0])), (q1, .inl (c1, 32, .inl (fun _ => 0))), (q2, .inl (c2, 32, .inl (fun _ => 0))), (q3, .inl (c3, 32, .inl (fun _ => 0))), (q4, .inl (c4, 32, .inl (fun _ => 0))), (q5, .inl (c5, 16, .inl (fun _ => 0))), (q6, .inl (c6, 40, .inl (fun _ => 0)))] H := hP
  have hD : va_D A [(h0, .inr (0, [.ref q1, .ref q2, .ref q3, .ref q4, .int 0, .ref q5, .ref q6, .int 0, .int (-1), .int 0, .int 0, .int 0])), (q1, .inl (c1, 32, .inl (fun _ => 0))), (q2, .inl (c2, 32, .inl (fun _ => 0))), (q3, .inl (c3, 32, .inl (fun _ => 0))), (q4, .inl (c4, 32, .inl (fun _ => 0))), (q5, .inl (c5, 16, .inl (fun _ => 0))), (q6, .inl (c6, 40, .inl (fun _ => 0)))] := hD
  refine lv_aload_n hx hb dX0_init_77 rfl (lv_at hl 0 rfl) ?_
  refine lv_iconst (v := (-1)) hx hb dX0_init_78 (by decide) ?_
  refine va_put (D := (dC, dI)) (ci := 0) (v := .int (-1)) (ty := .int) (C := RX0) (T := TX0) (N := 12) hx hb hts hin0 tyX0 tyX0_ok nmX0 hown hK hP hD hS 0 rfl rfl 11 (by decide) fl_wantedOne (fun _ h9 => h9) rfl (by decide +kernel) rfl rfl (Nat.le_of_ble_eq_true rfl) dX0_init_79 (fun H locs hP hD hS => ?_)
  have hP : va_P (dC, dI) vwCl [(h0, .inr (0, [.ref q1, .ref q2, .ref q3, .ref q4, .int 0, .ref q5, .ref q6, .int 0, .int (-1), .int 0, .int 0, .int (-1)])), (q1, .inl (c1, 32, .inl (fun _ => 0))), (q2, .inl (c2, 32, .inl (fun _ => 0))), (q3, .inl (c3, 32, .inl (fun _ => 0))), (q4, .inl (c4, 32, .inl (fun _ => 0))), (q5, .inl (c5, 16, .inl (fun _ => 0))), (q6, .inl (c6, 40, .inl (fun _ => 0)))] H := hP
  have hD : va_D A [(h0, .inr (0, [.ref q1, .ref q2, .ref q3, .ref q4, .int 0, .ref q5, .ref q6, .int 0, .int (-1), .int 0, .int 0, .int (-1)])), (q1, .inl (c1, 32, .inl (fun _ => 0))), (q2, .inl (c2, 32, .inl (fun _ => 0))), (q3, .inl (c3, 32, .inl (fun _ => 0))), (q4, .inl (c4, 32, .inl (fun _ => 0))), (q5, .inl (c5, 16, .inl (fun _ => 0))), (q6, .inl (c6, 40, .inl (fun _ => 0)))] := hD
  exact W.vret hx hb hr (fun t ht hW => ⟨⟨r0, rfl, rfl, (fun k => match k with | 0 => h0 | 1 => q1 | 2 => q2 | 3 => q3 | 4 => q4 | 5 => q5 | 6 => q6 | _ => 0), (fun k => match k with | 1 => c1 | 2 => c2 | 3 => c3 | 4 => c4 | 5 => c5 | 6 => c6 | _ => c1), rfl, by rw [ht]; exact hP.sub [0, 1, 2, 3, 4, 5, 6] rfl, va_K.moved hW.alike (hK.sub [0, 1, 2, 3, 4, 5] rfl), hD.sub [0, 1, 2, 3, 4, 5, 6] (by decide) rfl⟩, hS.F ht⟩) hS.2.2 dX0_init_82
end
section
abbrev cM_isProcess : ByteArray := prog_3_method_2_code
def yM_isProcess : MethodName := ⟨RX1, "isProcess", "(I)Z"⟩
abbrev cM_isSemaphore : ByteArray := prog_3_method_4_code
def yM_isSemaphore : MethodName := ⟨RX1, "isSemaphore", "(I)Z"⟩
abbrev cM_isPriority : ByteArray := prog_3_method_5_code
def yM_isPriority : MethodName := ⟨RX1, "isPriority", "(I)Z"⟩
abbrev cM_isMade : ByteArray := prog_3_method_3_code
def yM_isMade : MethodName := ⟨RX1, "isMade", "(I)Z"⟩
abbrev cM_presentOne : ByteArray := prog_3_method_8_code
def yM_presentOne : MethodName := ⟨RX1, "presentOne", "()I"⟩
abbrev cM_present : ByteArray := prog_3_method_26_code
def yM_present : MethodName := ⟨RX1, "present", "()I"⟩
abbrev cM_active : ByteArray := prog_3_method_25_code
def yM_active : MethodName := ⟨RX1, "active", "()I"⟩
abbrev cM_wanted : ByteArray := prog_3_method_27_code
def yM_wanted : MethodName := ⟨RX1, "wanted", "()Z"⟩
abbrev cM_here : ByteArray := prog_3_method_28_code
def yM_here : MethodName := ⟨RX1, "here", "()I"⟩
abbrev cM_place : ByteArray := prog_3_method_29_code
def yM_place : MethodName := ⟨RX1, "place", "(I)I"⟩
abbrev cM_priority : ByteArray := prog_3_method_30_code
def yM_priority : MethodName := ⟨RX1, "priority", "(I)I"⟩
abbrev cM_row : ByteArray := prog_3_method_31_code
def yM_row : MethodName := ⟨RX1, "row", "(I)I"⟩
abbrev cM_find : ByteArray := prog_3_method_7_code
def yM_find : MethodName := ⟨RX1, "find", "(II)I"⟩
abbrev cM_at : ByteArray := prog_3_method_32_code
def yM_at : MethodName := ⟨RX1, "at", "(II)I"⟩
abbrev cM_extra : ByteArray := prog_3_method_33_code
def yM_extra : MethodName := ⟨RX1, "extra", "(I)I"⟩
abbrev cM_posted : ByteArray := prog_3_method_34_code
def yM_posted : MethodName := ⟨RX1, "posted", "(I)I"⟩
abbrev cM_want : ByteArray := prog_3_method_9_code
def yM_want : MethodName := ⟨RX1, "want", "(I)V"⟩
abbrev cM_enter : ByteArray := prog_3_method_6_code
def yM_enter : MethodName := ⟨RX1, "enter", "(II)V"⟩
abbrev cM_wake : ByteArray := prog_3_method_10_code
def yM_wake : MethodName := ⟨RX1, "wake", "(I)V"⟩
abbrev cM_putAside : ByteArray := prog_3_method_11_code
def yM_putAside : MethodName := ⟨RX1, "putAside", "()V"⟩
abbrev cM_give : ByteArray := prog_3_method_12_code
def yM_give : MethodName := ⟨RX1, "give", "(I)V"⟩
abbrev cM_signal : ByteArray := prog_3_method_18_code
def yM_signal : MethodName := ⟨RX1, "signal", "(I)Z"⟩
abbrev cM_make : ByteArray := prog_3_method_13_code
def yM_make : MethodName := ⟨RX1, "make", "(III)Z"⟩
abbrev cM_resume : ByteArray := prog_3_method_14_code
def yM_resume : MethodName := ⟨RX1, "resume", "(I)Z"⟩
abbrev cM_suspend : ByteArray := prog_3_method_15_code
def yM_suspend : MethodName := ⟨RX1, "suspend", "()I"⟩
abbrev cM_end : ByteArray := prog_3_method_16_code
def yM_end : MethodName := ⟨RX1, "end", "()I"⟩
abbrev cM_await : ByteArray := prog_3_method_17_code
def yM_await : MethodName := ⟨RX1, "await", "(I)I"⟩
abbrev cM_post : ByteArray := prog_3_method_19_code
def yM_post : MethodName := ⟨RX1, "post", "(I)I"⟩
abbrev cM_step : ByteArray := prog_3_method_20_code
def yM_step : MethodName := ⟨RX1, "step", "()I"⟩
abbrev cM_work : ByteArray := prog_3_method_21_code
def yM_work : MethodName := ⟨RX1, "work", "(I)Z"⟩
abbrev cM_take : ByteArray := prog_3_method_22_code
def yM_take : MethodName := ⟨RX1, "take", "(I)Z"⟩
abbrev cM_rate : ByteArray := prog_3_method_23_code
def yM_rate : MethodName := ⟨RX1, "rate", "(II)I"⟩
abbrev cM_yield : ByteArray := prog_3_method_24_code
def yM_yield : MethodName := ⟨RX1, "yield", "()Z"⟩
def wM0 : List Cond := [.code yM_isProcess cM_isProcess 1 (some .boolean), .code yM_isSemaphore cM_isSemaphore 1 (some .boolean), .code yM_isPriority cM_isPriority 1 (some .boolean), .code yM_isMade cM_isMade 2 (some .boolean), .code yM_presentOne cM_presentOne 1 (some .int), .code yM_present cM_present 1 (some .int), .code yM_active cM_active 1 (some .int), .code yM_wanted cM_wanted 1 (some .boolean), .code yM_here cM_here 1 (some .int), .code yM_place cM_place 2 (some .int), .code yM_priority cM_priority 2 (some .int), .code yM_row cM_row 2 (some .int), .code yM_find cM_find 8 (some .int), .code yM_at cM_at 4 (some .int), .code yM_extra cM_extra 2 (some .int), .code yM_posted cM_posted 2 (some .int), .code yM_want cM_want 2 none, .code yM_enter cM_enter 3 none, .code yM_wake cM_wake 3 none, .code yM_putAside cM_putAside 4 none, .code yM_give cM_give 3 none, .code yM_signal cM_signal 2 (some .boolean), .code yM_make cM_make 4 (some .boolean), .code yM_resume cM_resume 2 (some .boolean), .code yM_suspend cM_suspend 2 (some .int), .code yM_end cM_end 2 (some .int), .code yM_await cM_await 3 (some .int), .code yM_post cM_post 2 (some .int), .code yM_step cM_step 2 (some .int), .code yM_work cM_work 2 (some .boolean), .code yM_take cM_take 2 (some .boolean), .code yM_rate cM_rate 4 (some .int), .code yM_yield cM_yield 2 (some .boolean), .initialized RX1, .fieldLink RX1 7 "ProcessRoomModel" "made" "[Z", .fieldLink RX1 48 "ProcessRoomModel" "wanted" "Z", .fieldLink RX1 37 "ProcessRoomModel" "change" "I", .fieldLink RX1 33 "ProcessRoomModel" "active" "I", .fieldLink RX1 89 "ProcessRoomModel" "here" "I", .fieldLink RX1 17 "ProcessRoomModel" "places" "[I", .fieldLink RX1 13 "ProcessRoomModel" "priorities" "[I", .fieldLink RX1 20 "ProcessRoomModel" "rows" "[I", .fieldLink RX1 23 "ProcessRoomModel" "when" "[J", .fieldLink RX1 27 "ProcessRoomModel" "extras" "[I", .fieldLink RX1 86 "ProcessRoomModel" "posts" "I", .fieldLink RX1 30 "ProcessRoomModel" "posted" "[I", .fieldLink RX1 44 "ProcessRoomModel" "now" "J", .methodLink RX1 40 yM_isProcess, .methodLink RX1 52 yM_presentOne, .methodLink RX1 74 yM_isMade, .methodLink RX1 71 yM_isPriority, .methodLink RX1 64 yM_find, .methodLink RX1 80 yM_isSemaphore, .methodLink RX1 56 yM_enter, .methodLink RX1 60 yM_want, .methodLink RX1 68 yM_wake, .methodLink RX1 83 yM_give, .methodLink RX1 77 yM_putAside, .static yM_isProcess, .instanceMethod yM_presentOne, .selects RX1 yM_presentOne yM_presentOne, .instanceMethod yM_isMade, .selects RX1 yM_isMade yM_isMade, .static yM_isPriority, .instanceMethod yM_find, .selects RX1 yM_find yM_find, .static yM_isSemaphore, .instanceMethod yM_enter, .selects RX1 yM_enter yM_enter, .instanceMethod yM_want, .selects RX1 yM_want yM_want, .instanceMethod yM_wake, .selects RX1 yM_wake yM_wake, .instanceMethod yM_give, .selects RX1 yM_give yM_give, .instanceMethod yM_putAside, .selects RX1 yM_putAside yM_putAside] ++ wsX10
set_option maxRecDepth 20000 in
theorem gM0 : GoodIn wM0 wM0 := goodIn_sub (fun _ h => h) (by decide +kernel)
theorem gM_any {a b : Cond} (hb : b ∈ wM0) : GoodIn (a :: wM0) (b :: wM0) := fun w h => by
  rcases List.mem_cons.mp h with rfl | h
  · exact ⟨List.mem_cons_of_mem _ hb, (gM0 _ hb).2⟩
  · exact ⟨List.mem_cons_of_mem _ h, (gM0 w h).2⟩
def wM_isProcess : List Cond := .code yM_isProcess cM_isProcess 1 (some .boolean) :: wM0
theorem eM_isProcess : Cond.code yM_isProcess cM_isProcess 1 (some .boolean) ∈ wM0 := List.mem_of_getElem? (i := 0) rfl
def wM_isSemaphore : List Cond := .code yM_isSemaphore cM_isSemaphore 1 (some .boolean) :: wM0
theorem eM_isSemaphore : Cond.code yM_isSemaphore cM_isSemaphore 1 (some .boolean) ∈ wM0 := List.mem_of_getElem? (i := 1) rfl
def wM_isPriority : List Cond := .code yM_isPriority cM_isPriority 1 (some .boolean) :: wM0
theorem eM_isPriority : Cond.code yM_isPriority cM_isPriority 1 (some .boolean) ∈ wM0 := List.mem_of_getElem? (i := 2) rfl
def wM_isMade : List Cond := .code yM_isMade cM_isMade 2 (some .boolean) :: wM0
theorem eM_isMade : Cond.code yM_isMade cM_isMade 2 (some .boolean) ∈ wM0 := List.mem_of_getElem? (i := 3) rfl
def wM_presentOne : List Cond := .code yM_presentOne cM_presentOne 1 (some .int) :: wM0
theorem eM_presentOne : Cond.code yM_presentOne cM_presentOne 1 (some .int) ∈ wM0 := List.mem_of_getElem? (i := 4) rfl
def wM_present : List Cond := .code yM_present cM_present 1 (some .int) :: wM0
theorem eM_present : Cond.code yM_present cM_present 1 (some .int) ∈ wM0 := List.mem_of_getElem? (i := 5) rfl
def wM_active : List Cond := .code yM_active cM_active 1 (some .int) :: wM0
theorem eM_active : Cond.code yM_active cM_active 1 (some .int) ∈ wM0 := List.mem_of_getElem? (i := 6) rfl
def wM_wanted : List Cond := .code yM_wanted cM_wanted 1 (some .boolean) :: wM0
theorem eM_wanted : Cond.code yM_wanted cM_wanted 1 (some .boolean) ∈ wM0 := List.mem_of_getElem? (i := 7) rfl
def wM_here : List Cond := .code yM_here cM_here 1 (some .int) :: wM0
theorem eM_here : Cond.code yM_here cM_here 1 (some .int) ∈ wM0 := List.mem_of_getElem? (i := 8) rfl
def wM_place : List Cond := .code yM_place cM_place 2 (some .int) :: wM0
theorem eM_place : Cond.code yM_place cM_place 2 (some .int) ∈ wM0 := List.mem_of_getElem? (i := 9) rfl
def wM_priority : List Cond := .code yM_priority cM_priority 2 (some .int) :: wM0
theorem eM_priority : Cond.code yM_priority cM_priority 2 (some .int) ∈ wM0 := List.mem_of_getElem? (i := 10) rfl
def wM_row : List Cond := .code yM_row cM_row 2 (some .int) :: wM0
theorem eM_row : Cond.code yM_row cM_row 2 (some .int) ∈ wM0 := List.mem_of_getElem? (i := 11) rfl
def wM_find : List Cond := .code yM_find cM_find 8 (some .int) :: wM0
theorem eM_find : Cond.code yM_find cM_find 8 (some .int) ∈ wM0 := List.mem_of_getElem? (i := 12) rfl
def wM_at : List Cond := .code yM_at cM_at 4 (some .int) :: wM0
theorem eM_at : Cond.code yM_at cM_at 4 (some .int) ∈ wM0 := List.mem_of_getElem? (i := 13) rfl
def wM_extra : List Cond := .code yM_extra cM_extra 2 (some .int) :: wM0
theorem eM_extra : Cond.code yM_extra cM_extra 2 (some .int) ∈ wM0 := List.mem_of_getElem? (i := 14) rfl
def wM_posted : List Cond := .code yM_posted cM_posted 2 (some .int) :: wM0
theorem eM_posted : Cond.code yM_posted cM_posted 2 (some .int) ∈ wM0 := List.mem_of_getElem? (i := 15) rfl
def wM_want : List Cond := .code yM_want cM_want 2 none :: wM0
theorem eM_want : Cond.code yM_want cM_want 2 none ∈ wM0 := List.mem_of_getElem? (i := 16) rfl
def wM_enter : List Cond := .code yM_enter cM_enter 3 none :: wM0
theorem eM_enter : Cond.code yM_enter cM_enter 3 none ∈ wM0 := List.mem_of_getElem? (i := 17) rfl
def wM_wake : List Cond := .code yM_wake cM_wake 3 none :: wM0
theorem eM_wake : Cond.code yM_wake cM_wake 3 none ∈ wM0 := List.mem_of_getElem? (i := 18) rfl
def wM_putAside : List Cond := .code yM_putAside cM_putAside 4 none :: wM0
theorem eM_putAside : Cond.code yM_putAside cM_putAside 4 none ∈ wM0 := List.mem_of_getElem? (i := 19) rfl
def wM_give : List Cond := .code yM_give cM_give 3 none :: wM0
theorem eM_give : Cond.code yM_give cM_give 3 none ∈ wM0 := List.mem_of_getElem? (i := 20) rfl
def wM_signal : List Cond := .code yM_signal cM_signal 2 (some .boolean) :: wM0
theorem eM_signal : Cond.code yM_signal cM_signal 2 (some .boolean) ∈ wM0 := List.mem_of_getElem? (i := 21) rfl
def wM_make : List Cond := .code yM_make cM_make 4 (some .boolean) :: wM0
theorem eM_make : Cond.code yM_make cM_make 4 (some .boolean) ∈ wM0 := List.mem_of_getElem? (i := 22) rfl
def wM_resume : List Cond := .code yM_resume cM_resume 2 (some .boolean) :: wM0
theorem eM_resume : Cond.code yM_resume cM_resume 2 (some .boolean) ∈ wM0 := List.mem_of_getElem? (i := 23) rfl
def wM_suspend : List Cond := .code yM_suspend cM_suspend 2 (some .int) :: wM0
theorem eM_suspend : Cond.code yM_suspend cM_suspend 2 (some .int) ∈ wM0 := List.mem_of_getElem? (i := 24) rfl
def wM_end : List Cond := .code yM_end cM_end 2 (some .int) :: wM0
theorem eM_end : Cond.code yM_end cM_end 2 (some .int) ∈ wM0 := List.mem_of_getElem? (i := 25) rfl
def wM_await : List Cond := .code yM_await cM_await 3 (some .int) :: wM0
theorem eM_await : Cond.code yM_await cM_await 3 (some .int) ∈ wM0 := List.mem_of_getElem? (i := 26) rfl
def wM_post : List Cond := .code yM_post cM_post 2 (some .int) :: wM0
theorem eM_post : Cond.code yM_post cM_post 2 (some .int) ∈ wM0 := List.mem_of_getElem? (i := 27) rfl
def wM_step : List Cond := .code yM_step cM_step 2 (some .int) :: wM0
theorem eM_step : Cond.code yM_step cM_step 2 (some .int) ∈ wM0 := List.mem_of_getElem? (i := 28) rfl
def wM_work : List Cond := .code yM_work cM_work 2 (some .boolean) :: wM0
theorem eM_work : Cond.code yM_work cM_work 2 (some .boolean) ∈ wM0 := List.mem_of_getElem? (i := 29) rfl
def wM_take : List Cond := .code yM_take cM_take 2 (some .boolean) :: wM0
theorem eM_take : Cond.code yM_take cM_take 2 (some .boolean) ∈ wM0 := List.mem_of_getElem? (i := 30) rfl
def wM_rate : List Cond := .code yM_rate cM_rate 4 (some .int) :: wM0
theorem eM_rate : Cond.code yM_rate cM_rate 4 (some .int) ∈ wM0 := List.mem_of_getElem? (i := 31) rfl
def wM_yield : List Cond := .code yM_yield cM_yield 2 (some .boolean) :: wM0
theorem eM_yield : Cond.code yM_yield cM_yield 2 (some .boolean) ∈ wM0 := List.mem_of_getElem? (i := 32) rfl
set_option maxRecDepth 20000 in
theorem gM_isMade_isProcess : GoodIn wM_isMade (va_wsS RX1 40 yM_isProcess wM_isProcess) := goodIn_app (goodIn_of _ (by decide +kernel)) (gM_any eM_isProcess)
set_option maxRecDepth 20000 in
theorem gM_present_presentOne : GoodIn wM_present (wsV RX1 52 RX1 yM_presentOne wM_presentOne) := goodIn_app (goodIn_of _ (by decide +kernel)) (gM_any eM_presentOne)
set_option maxRecDepth 20000 in
theorem gM_place_isMade : GoodIn wM_place (wsV RX1 74 RX1 yM_isMade wM_isMade) := goodIn_app (goodIn_of _ (by decide +kernel)) (gM_any eM_isMade)
set_option maxRecDepth 20000 in
theorem gM_priority_isMade : GoodIn wM_priority (wsV RX1 74 RX1 yM_isMade wM_isMade) := goodIn_app (goodIn_of _ (by decide +kernel)) (gM_any eM_isMade)
set_option maxRecDepth 20000 in
theorem gM_row_isMade : GoodIn wM_row (wsV RX1 74 RX1 yM_isMade wM_isMade) := goodIn_app (goodIn_of _ (by decide +kernel)) (gM_any eM_isMade)
set_option maxRecDepth 20000 in
theorem gM_at_isPriority : GoodIn wM_at (va_wsS RX1 71 yM_isPriority wM_isPriority) := goodIn_app (goodIn_of _ (by decide +kernel)) (gM_any eM_isPriority)
set_option maxRecDepth 20000 in
theorem gM_at_find : GoodIn wM_at (wsV RX1 64 RX1 yM_find wM_find) := goodIn_app (goodIn_of _ (by decide +kernel)) (gM_any eM_find)
set_option maxRecDepth 20000 in
theorem gM_extra_isSemaphore : GoodIn wM_extra (va_wsS RX1 80 yM_isSemaphore wM_isSemaphore) := goodIn_app (goodIn_of _ (by decide +kernel)) (gM_any eM_isSemaphore)
set_option maxRecDepth 20000 in
theorem gM_wake_presentOne : GoodIn wM_wake (wsV RX1 52 RX1 yM_presentOne wM_presentOne) := goodIn_app (goodIn_of _ (by decide +kernel)) (gM_any eM_presentOne)
set_option maxRecDepth 20000 in
theorem gM_wake_enter : GoodIn wM_wake (wsV RX1 56 RX1 yM_enter wM_enter) := goodIn_app (goodIn_of _ (by decide +kernel)) (gM_any eM_enter)
set_option maxRecDepth 20000 in
theorem gM_wake_want : GoodIn wM_wake (wsV RX1 60 RX1 yM_want wM_want) := goodIn_app (goodIn_of _ (by decide +kernel)) (gM_any eM_want)
set_option maxRecDepth 20000 in
theorem gM_putAside_find : GoodIn wM_putAside (wsV RX1 64 RX1 yM_find wM_find) := goodIn_app (goodIn_of _ (by decide +kernel)) (gM_any eM_find)
set_option maxRecDepth 20000 in
theorem gM_putAside_want : GoodIn wM_putAside (wsV RX1 60 RX1 yM_want wM_want) := goodIn_app (goodIn_of _ (by decide +kernel)) (gM_any eM_want)
set_option maxRecDepth 20000 in
theorem gM_give_find : GoodIn wM_give (wsV RX1 64 RX1 yM_find wM_find) := goodIn_app (goodIn_of _ (by decide +kernel)) (gM_any eM_find)
set_option maxRecDepth 20000 in
theorem gM_give_wake : GoodIn wM_give (wsV RX1 68 RX1 yM_wake wM_wake) := goodIn_app (goodIn_of _ (by decide +kernel)) (gM_any eM_wake)
set_option maxRecDepth 20000 in
theorem gM_signal_isSemaphore : GoodIn wM_signal (va_wsS RX1 80 yM_isSemaphore wM_isSemaphore) := goodIn_app (goodIn_of _ (by decide +kernel)) (gM_any eM_isSemaphore)
set_option maxRecDepth 20000 in
theorem gM_signal_give : GoodIn wM_signal (wsV RX1 83 RX1 yM_give wM_give) := goodIn_app (goodIn_of _ (by decide +kernel)) (gM_any eM_give)
set_option maxRecDepth 20000 in
theorem gM_make_isProcess : GoodIn wM_make (va_wsS RX1 40 yM_isProcess wM_isProcess) := goodIn_app (goodIn_of _ (by decide +kernel)) (gM_any eM_isProcess)
set_option maxRecDepth 20000 in
theorem gM_make_isPriority : GoodIn wM_make (va_wsS RX1 71 yM_isPriority wM_isPriority) := goodIn_app (goodIn_of _ (by decide +kernel)) (gM_any eM_isPriority)
set_option maxRecDepth 20000 in
theorem gM_resume_isMade : GoodIn wM_resume (wsV RX1 74 RX1 yM_isMade wM_isMade) := goodIn_app (goodIn_of _ (by decide +kernel)) (gM_any eM_isMade)
set_option maxRecDepth 20000 in
theorem gM_resume_presentOne : GoodIn wM_resume (wsV RX1 52 RX1 yM_presentOne wM_presentOne) := goodIn_app (goodIn_of _ (by decide +kernel)) (gM_any eM_presentOne)
set_option maxRecDepth 20000 in
theorem gM_resume_wake : GoodIn wM_resume (wsV RX1 68 RX1 yM_wake wM_wake) := goodIn_app (goodIn_of _ (by decide +kernel)) (gM_any eM_wake)
set_option maxRecDepth 20000 in
theorem gM_suspend_presentOne : GoodIn wM_suspend (wsV RX1 52 RX1 yM_presentOne wM_presentOne) := goodIn_app (goodIn_of _ (by decide +kernel)) (gM_any eM_presentOne)
set_option maxRecDepth 20000 in
theorem gM_suspend_putAside : GoodIn wM_suspend (wsV RX1 77 RX1 yM_putAside wM_putAside) := goodIn_app (goodIn_of _ (by decide +kernel)) (gM_any eM_putAside)
set_option maxRecDepth 20000 in
theorem gM_end_presentOne : GoodIn wM_end (wsV RX1 52 RX1 yM_presentOne wM_presentOne) := goodIn_app (goodIn_of _ (by decide +kernel)) (gM_any eM_presentOne)
set_option maxRecDepth 20000 in
theorem gM_end_putAside : GoodIn wM_end (wsV RX1 77 RX1 yM_putAside wM_putAside) := goodIn_app (goodIn_of _ (by decide +kernel)) (gM_any eM_putAside)
set_option maxRecDepth 20000 in
theorem gM_await_presentOne : GoodIn wM_await (wsV RX1 52 RX1 yM_presentOne wM_presentOne) := goodIn_app (goodIn_of _ (by decide +kernel)) (gM_any eM_presentOne)
set_option maxRecDepth 20000 in
theorem gM_await_isSemaphore : GoodIn wM_await (va_wsS RX1 80 yM_isSemaphore wM_isSemaphore) := goodIn_app (goodIn_of _ (by decide +kernel)) (gM_any eM_isSemaphore)
set_option maxRecDepth 20000 in
theorem gM_await_enter : GoodIn wM_await (wsV RX1 56 RX1 yM_enter wM_enter) := goodIn_app (goodIn_of _ (by decide +kernel)) (gM_any eM_enter)
set_option maxRecDepth 20000 in
theorem gM_await_putAside : GoodIn wM_await (wsV RX1 77 RX1 yM_putAside wM_putAside) := goodIn_app (goodIn_of _ (by decide +kernel)) (gM_any eM_putAside)
set_option maxRecDepth 20000 in
theorem gM_post_isSemaphore : GoodIn wM_post (va_wsS RX1 80 yM_isSemaphore wM_isSemaphore) := goodIn_app (goodIn_of _ (by decide +kernel)) (gM_any eM_isSemaphore)
set_option maxRecDepth 20000 in
theorem gM_step_give : GoodIn wM_step (wsV RX1 83 RX1 yM_give wM_give) := goodIn_app (goodIn_of _ (by decide +kernel)) (gM_any eM_give)
set_option maxRecDepth 20000 in
theorem gM_take_isMade : GoodIn wM_take (wsV RX1 74 RX1 yM_isMade wM_isMade) := goodIn_app (goodIn_of _ (by decide +kernel)) (gM_any eM_isMade)
set_option maxRecDepth 20000 in
theorem gM_rate_isMade : GoodIn wM_rate (wsV RX1 74 RX1 yM_isMade wM_isMade) := goodIn_app (goodIn_of _ (by decide +kernel)) (gM_any eM_isMade)
set_option maxRecDepth 20000 in
theorem gM_rate_isPriority : GoodIn wM_rate (va_wsS RX1 71 yM_isPriority wM_isPriority) := goodIn_app (goodIn_of _ (by decide +kernel)) (gM_any eM_isPriority)
set_option maxRecDepth 20000 in
theorem gM_yield_presentOne : GoodIn wM_yield (wsV RX1 52 RX1 yM_presentOne wM_presentOne) := goodIn_app (goodIn_of _ (by decide +kernel)) (gM_any eM_presentOne)
set_option maxRecDepth 20000 in
theorem gM_yield_find : GoodIn wM_yield (wsV RX1 64 RX1 yM_find wM_find) := goodIn_app (goodIn_of _ (by decide +kernel)) (gM_any eM_find)
set_option maxRecDepth 20000 in
theorem gM_yield_enter : GoodIn wM_yield (wsV RX1 56 RX1 yM_enter wM_enter) := goodIn_app (goodIn_of _ (by decide +kernel)) (gM_any eM_enter)
set_option maxRecDepth 20000 in
theorem gM_yield_putAside : GoodIn wM_yield (wsV RX1 77 RX1 yM_putAside wM_putAside) := goodIn_app (goodIn_of _ (by decide +kernel)) (gM_any eM_putAside)
end
section
theorem dM_isProcess_0 : decode cM_isProcess 0 = .ok (.iload_n 0, 1) := by decide +kernel
theorem dM_isProcess_1 : decode cM_isProcess 1 = .ok (.ifCond .lt 13, 3) := by decide +kernel
theorem dM_isProcess_4 : decode cM_isProcess 4 = .ok (.iload_n 0, 1) := by decide +kernel
theorem dM_isProcess_5 : decode cM_isProcess 5 = .ok (.bipush 32, 2) := by decide +kernel
theorem dM_isProcess_7 : decode cM_isProcess 7 = .ok (.if_icmp .ge 7, 3) := by decide +kernel
theorem dM_isProcess_10 : decode cM_isProcess 10 = .ok (.iconst 1, 1) := by decide +kernel
theorem dM_isProcess_11 : decode cM_isProcess 11 = .ok (.goto 4, 3) := by decide +kernel
theorem dM_isProcess_14 : decode cM_isProcess 14 = .ok (.iconst 0, 1) := by decide +kernel
theorem dM_isProcess_15 : decode cM_isProcess 15 = .ok (.ireturn, 1) := by decide +kernel
theorem dM_isSemaphore_0 : decode cM_isSemaphore 0 = .ok (.iload_n 0, 1) := by decide +kernel
theorem dM_isSemaphore_1 : decode cM_isSemaphore 1 = .ok (.ifCond .lt 13, 3) := by decide +kernel
theorem dM_isSemaphore_4 : decode cM_isSemaphore 4 = .ok (.iload_n 0, 1) := by decide +kernel
theorem dM_isSemaphore_5 : decode cM_isSemaphore 5 = .ok (.bipush 16, 2) := by decide +kernel
theorem dM_isSemaphore_7 : decode cM_isSemaphore 7 = .ok (.if_icmp .ge 7, 3) := by decide +kernel
theorem dM_isSemaphore_10 : decode cM_isSemaphore 10 = .ok (.iconst 1, 1) := by decide +kernel
theorem dM_isSemaphore_11 : decode cM_isSemaphore 11 = .ok (.goto 4, 3) := by decide +kernel
theorem dM_isSemaphore_14 : decode cM_isSemaphore 14 = .ok (.iconst 0, 1) := by decide +kernel
theorem dM_isSemaphore_15 : decode cM_isSemaphore 15 = .ok (.ireturn, 1) := by decide +kernel
theorem dM_isPriority_0 : decode cM_isPriority 0 = .ok (.iload_n 0, 1) := by decide +kernel
theorem dM_isPriority_1 : decode cM_isPriority 1 = .ok (.iconst 1, 1) := by decide +kernel
theorem dM_isPriority_2 : decode cM_isPriority 2 = .ok (.if_icmp .lt 13, 3) := by decide +kernel
theorem dM_isPriority_5 : decode cM_isPriority 5 = .ok (.iload_n 0, 1) := by decide +kernel
theorem dM_isPriority_6 : decode cM_isPriority 6 = .ok (.bipush 8, 2) := by decide +kernel
theorem dM_isPriority_8 : decode cM_isPriority 8 = .ok (.if_icmp .gt 7, 3) := by decide +kernel
theorem dM_isPriority_11 : decode cM_isPriority 11 = .ok (.iconst 1, 1) := by decide +kernel
theorem dM_isPriority_12 : decode cM_isPriority 12 = .ok (.goto 4, 3) := by decide +kernel
theorem dM_isPriority_15 : decode cM_isPriority 15 = .ok (.iconst 0, 1) := by decide +kernel
theorem dM_isPriority_16 : decode cM_isPriority 16 = .ok (.ireturn, 1) := by decide +kernel
theorem dM_isMade_0 : decode cM_isMade 0 = .ok (.iload_n 1, 1) := by decide +kernel
theorem dM_isMade_1 : decode cM_isMade 1 = .ok (.invokestatic 40, 3) := by decide +kernel
theorem dM_isMade_4 : decode cM_isMade 4 = .ok (.ifCond .eq 16, 3) := by decide +kernel
theorem dM_isMade_7 : decode cM_isMade 7 = .ok (.aload_n 0, 1) := by decide +kernel
theorem dM_isMade_8 : decode cM_isMade 8 = .ok (.getfield 7, 3) := by decide +kernel
theorem dM_isMade_11 : decode cM_isMade 11 = .ok (.iload_n 1, 1) := by decide +kernel
theorem dM_isMade_12 : decode cM_isMade 12 = .ok (.baload, 1) := by decide +kernel
theorem dM_isMade_13 : decode cM_isMade 13 = .ok (.ifCond .eq 7, 3) := by decide +kernel
theorem dM_isMade_16 : decode cM_isMade 16 = .ok (.iconst 1, 1) := by decide +kernel
theorem dM_isMade_17 : decode cM_isMade 17 = .ok (.goto 4, 3) := by decide +kernel
theorem dM_isMade_20 : decode cM_isMade 20 = .ok (.iconst 0, 1) := by decide +kernel
theorem dM_isMade_21 : decode cM_isMade 21 = .ok (.ireturn, 1) := by decide +kernel
theorem dM_presentOne_0 : decode cM_presentOne 0 = .ok (.aload_n 0, 1) := by decide +kernel
theorem dM_presentOne_1 : decode cM_presentOne 1 = .ok (.getfield 48, 3) := by decide +kernel
theorem dM_presentOne_4 : decode cM_presentOne 4 = .ok (.ifCond .eq 10, 3) := by decide +kernel
theorem dM_presentOne_7 : decode cM_presentOne 7 = .ok (.aload_n 0, 1) := by decide +kernel
theorem dM_presentOne_8 : decode cM_presentOne 8 = .ok (.getfield 37, 3) := by decide +kernel
theorem dM_presentOne_11 : decode cM_presentOne 11 = .ok (.goto 7, 3) := by decide +kernel
theorem dM_presentOne_14 : decode cM_presentOne 14 = .ok (.aload_n 0, 1) := by decide +kernel
theorem dM_presentOne_15 : decode cM_presentOne 15 = .ok (.getfield 33, 3) := by decide +kernel
theorem dM_presentOne_18 : decode cM_presentOne 18 = .ok (.ireturn, 1) := by decide +kernel
theorem dM_present_0 : decode cM_present 0 = .ok (.aload_n 0, 1) := by decide +kernel
theorem dM_present_1 : decode cM_present 1 = .ok (.invokevirtual 52, 3) := by decide +kernel
theorem dM_present_4 : decode cM_present 4 = .ok (.ireturn, 1) := by decide +kernel
theorem dM_active_0 : decode cM_active 0 = .ok (.aload_n 0, 1) := by decide +kernel
theorem dM_active_1 : decode cM_active 1 = .ok (.getfield 33, 3) := by decide +kernel
theorem dM_active_4 : decode cM_active 4 = .ok (.ireturn, 1) := by decide +kernel
theorem dM_wanted_0 : decode cM_wanted 0 = .ok (.aload_n 0, 1) := by decide +kernel
theorem dM_wanted_1 : decode cM_wanted 1 = .ok (.getfield 48, 3) := by decide +kernel
theorem dM_wanted_4 : decode cM_wanted 4 = .ok (.ireturn, 1) := by decide +kernel
theorem dM_here_0 : decode cM_here 0 = .ok (.aload_n 0, 1) := by decide +kernel
theorem dM_here_1 : decode cM_here 1 = .ok (.getfield 89, 3) := by decide +kernel
theorem dM_here_4 : decode cM_here 4 = .ok (.ireturn, 1) := by decide +kernel
theorem dM_place_0 : decode cM_place 0 = .ok (.aload_n 0, 1) := by decide +kernel
theorem dM_place_1 : decode cM_place 1 = .ok (.iload_n 1, 1) := by decide +kernel
theorem dM_place_2 : decode cM_place 2 = .ok (.invokevirtual 74, 3) := by decide +kernel
theorem dM_place_5 : decode cM_place 5 = .ok (.ifCond .eq 12, 3) := by decide +kernel
theorem dM_place_8 : decode cM_place 8 = .ok (.aload_n 0, 1) := by decide +kernel
theorem dM_place_9 : decode cM_place 9 = .ok (.getfield 17, 3) := by decide +kernel
theorem dM_place_12 : decode cM_place 12 = .ok (.iload_n 1, 1) := by decide +kernel
theorem dM_place_13 : decode cM_place 13 = .ok (.iaload, 1) := by decide +kernel
theorem dM_place_14 : decode cM_place 14 = .ok (.goto 4, 3) := by decide +kernel
theorem dM_place_17 : decode cM_place 17 = .ok (.iconst 0, 1) := by decide +kernel
theorem dM_place_18 : decode cM_place 18 = .ok (.ireturn, 1) := by decide +kernel
theorem dM_priority_0 : decode cM_priority 0 = .ok (.aload_n 0, 1) := by decide +kernel
theorem dM_priority_1 : decode cM_priority 1 = .ok (.iload_n 1, 1) := by decide +kernel
theorem dM_priority_2 : decode cM_priority 2 = .ok (.invokevirtual 74, 3) := by decide +kernel
theorem dM_priority_5 : decode cM_priority 5 = .ok (.ifCond .eq 12, 3) := by decide +kernel
theorem dM_priority_8 : decode cM_priority 8 = .ok (.aload_n 0, 1) := by decide +kernel
theorem dM_priority_9 : decode cM_priority 9 = .ok (.getfield 13, 3) := by decide +kernel
theorem dM_priority_12 : decode cM_priority 12 = .ok (.iload_n 1, 1) := by decide +kernel
theorem dM_priority_13 : decode cM_priority 13 = .ok (.iaload, 1) := by decide +kernel
theorem dM_priority_14 : decode cM_priority 14 = .ok (.goto 4, 3) := by decide +kernel
theorem dM_priority_17 : decode cM_priority 17 = .ok (.iconst (-1), 1) := by decide +kernel
theorem dM_priority_18 : decode cM_priority 18 = .ok (.ireturn, 1) := by decide +kernel
theorem dM_row_0 : decode cM_row 0 = .ok (.aload_n 0, 1) := by decide +kernel
theorem dM_row_1 : decode cM_row 1 = .ok (.iload_n 1, 1) := by decide +kernel
theorem dM_row_2 : decode cM_row 2 = .ok (.invokevirtual 74, 3) := by decide +kernel
theorem dM_row_5 : decode cM_row 5 = .ok (.ifCond .eq 12, 3) := by decide +kernel
theorem dM_row_8 : decode cM_row 8 = .ok (.aload_n 0, 1) := by decide +kernel
theorem dM_row_9 : decode cM_row 9 = .ok (.getfield 20, 3) := by decide +kernel
theorem dM_row_12 : decode cM_row 12 = .ok (.iload_n 1, 1) := by decide +kernel
theorem dM_row_13 : decode cM_row 13 = .ok (.iaload, 1) := by decide +kernel
theorem dM_row_14 : decode cM_row 14 = .ok (.goto 4, 3) := by decide +kernel
theorem dM_row_17 : decode cM_row 17 = .ok (.iconst (-1), 1) := by decide +kernel
theorem dM_row_18 : decode cM_row 18 = .ok (.ireturn, 1) := by decide +kernel
theorem dM_find_0 : decode cM_find 0 = .ok (.iload_n 2, 1) := by decide +kernel
theorem dM_find_1 : decode cM_find 1 = .ok (.istore_n 3, 1) := by decide +kernel
theorem dM_find_2 : decode cM_find 2 = .ok (.iconst (-1), 1) := by decide +kernel
theorem dM_find_3 : decode cM_find 3 = .ok (.istore 4, 2) := by decide +kernel
theorem dM_find_5 : decode cM_find 5 = .ok (.iload_n 3, 1) := by decide +kernel
theorem dM_find_6 : decode cM_find 6 = .ok (.ifCond .lt 128, 3) := by decide +kernel
theorem dM_find_9 : decode cM_find 9 = .ok (.iconst (-1), 1) := by decide +kernel
theorem dM_find_10 : decode cM_find 10 = .ok (.istore 5, 2) := by decide +kernel
theorem dM_find_12 : decode cM_find 12 = .ok (.iconst 0, 1) := by decide +kernel
theorem dM_find_13 : decode cM_find 13 = .ok (.istore 6, 2) := by decide +kernel
theorem dM_find_15 : decode cM_find 15 = .ok (.iload 6, 2) := by decide +kernel
theorem dM_find_17 : decode cM_find 17 = .ok (.bipush 32, 2) := by decide +kernel
theorem dM_find_19 : decode cM_find 19 = .ok (.if_icmp .ge 97, 3) := by decide +kernel
theorem dM_find_22 : decode cM_find 22 = .ok (.iload 4, 2) := by decide +kernel
theorem dM_find_24 : decode cM_find 24 = .ok (.ifCond .lt 21, 3) := by decide +kernel
theorem dM_find_27 : decode cM_find 27 = .ok (.aload_n 0, 1) := by decide +kernel
theorem dM_find_28 : decode cM_find 28 = .ok (.getfield 23, 3) := by decide +kernel
theorem dM_find_31 : decode cM_find 31 = .ok (.iload 6, 2) := by decide +kernel
theorem dM_find_33 : decode cM_find 33 = .ok (.laload, 1) := by decide +kernel
theorem dM_find_34 : decode cM_find 34 = .ok (.aload_n 0, 1) := by decide +kernel
theorem dM_find_35 : decode cM_find 35 = .ok (.getfield 23, 3) := by decide +kernel
theorem dM_find_38 : decode cM_find 38 = .ok (.iload 4, 2) := by decide +kernel
theorem dM_find_40 : decode cM_find 40 = .ok (.laload, 1) := by decide +kernel
theorem dM_find_41 : decode cM_find 41 = .ok (.lcmp, 1) := by decide +kernel
theorem dM_find_42 : decode cM_find 42 = .ok (.ifCond .le 7, 3) := by decide +kernel
theorem dM_find_45 : decode cM_find 45 = .ok (.iconst 1, 1) := by decide +kernel
theorem dM_find_46 : decode cM_find 46 = .ok (.goto 4, 3) := by decide +kernel
theorem dM_find_49 : decode cM_find 49 = .ok (.iconst 0, 1) := by decide +kernel
theorem dM_find_50 : decode cM_find 50 = .ok (.istore 7, 2) := by decide +kernel
theorem dM_find_52 : decode cM_find 52 = .ok (.aload_n 0, 1) := by decide +kernel
theorem dM_find_53 : decode cM_find 53 = .ok (.getfield 7, 3) := by decide +kernel
theorem dM_find_56 : decode cM_find 56 = .ok (.iload 6, 2) := by decide +kernel
theorem dM_find_58 : decode cM_find 58 = .ok (.baload, 1) := by decide +kernel
theorem dM_find_59 : decode cM_find 59 = .ok (.ifCond .eq 47, 3) := by decide +kernel
theorem dM_find_62 : decode cM_find 62 = .ok (.aload_n 0, 1) := by decide +kernel
theorem dM_find_63 : decode cM_find 63 = .ok (.getfield 20, 3) := by decide +kernel
theorem dM_find_66 : decode cM_find 66 = .ok (.iload 6, 2) := by decide +kernel
theorem dM_find_68 : decode cM_find 68 = .ok (.iaload, 1) := by decide +kernel
theorem dM_find_69 : decode cM_find 69 = .ok (.iload_n 1, 1) := by decide +kernel
theorem dM_find_70 : decode cM_find 70 = .ok (.if_icmp .ne 36, 3) := by decide +kernel
theorem dM_find_73 : decode cM_find 73 = .ok (.iload 7, 2) := by decide +kernel
theorem dM_find_75 : decode cM_find 75 = .ok (.ifCond .eq 31, 3) := by decide +kernel
theorem dM_find_78 : decode cM_find 78 = .ok (.iload 5, 2) := by decide +kernel
theorem dM_find_80 : decode cM_find 80 = .ok (.ifCond .lt 21, 3) := by decide +kernel
theorem dM_find_83 : decode cM_find 83 = .ok (.aload_n 0, 1) := by decide +kernel
theorem dM_find_84 : decode cM_find 84 = .ok (.getfield 23, 3) := by decide +kernel
theorem dM_find_87 : decode cM_find 87 = .ok (.iload 6, 2) := by decide +kernel
theorem dM_find_89 : decode cM_find 89 = .ok (.laload, 1) := by decide +kernel
theorem dM_find_90 : decode cM_find 90 = .ok (.aload_n 0, 1) := by decide +kernel
theorem dM_find_91 : decode cM_find 91 = .ok (.getfield 23, 3) := by decide +kernel
theorem dM_find_94 : decode cM_find 94 = .ok (.iload 5, 2) := by decide +kernel
theorem dM_find_96 : decode cM_find 96 = .ok (.laload, 1) := by decide +kernel
theorem dM_find_97 : decode cM_find 97 = .ok (.lcmp, 1) := by decide +kernel
theorem dM_find_98 : decode cM_find 98 = .ok (.ifCond .ge 8, 3) := by decide +kernel
theorem dM_find_101 : decode cM_find 101 = .ok (.iload 6, 2) := by decide +kernel
theorem dM_find_103 : decode cM_find 103 = .ok (.goto 5, 3) := by decide +kernel
theorem dM_find_106 : decode cM_find 106 = .ok (.iload 5, 2) := by decide +kernel
theorem dM_find_108 : decode cM_find 108 = .ok (.istore 5, 2) := by decide +kernel
theorem dM_find_110 : decode cM_find 110 = .ok (.iinc 6 1, 3) := by decide +kernel
theorem dM_find_113 : decode cM_find 113 = .ok (.goto (-98), 3) := by decide +kernel
theorem dM_find_116 : decode cM_find 116 = .ok (.iload 5, 2) := by decide +kernel
theorem dM_find_118 : decode cM_find 118 = .ok (.ifCond .ge 5, 3) := by decide +kernel
theorem dM_find_121 : decode cM_find 121 = .ok (.iconst (-1), 1) := by decide +kernel
theorem dM_find_122 : decode cM_find 122 = .ok (.ireturn, 1) := by decide +kernel
theorem dM_find_123 : decode cM_find 123 = .ok (.iload 5, 2) := by decide +kernel
theorem dM_find_125 : decode cM_find 125 = .ok (.istore 4, 2) := by decide +kernel
theorem dM_find_127 : decode cM_find 127 = .ok (.iload_n 3, 1) := by decide +kernel
theorem dM_find_128 : decode cM_find 128 = .ok (.iconst 1, 1) := by decide +kernel
theorem dM_find_129 : decode cM_find 129 = .ok (.isub, 1) := by decide +kernel
theorem dM_find_130 : decode cM_find 130 = .ok (.istore_n 3, 1) := by decide +kernel
theorem dM_find_131 : decode cM_find 131 = .ok (.goto (-126), 3) := by decide +kernel
theorem dM_find_134 : decode cM_find 134 = .ok (.iload 4, 2) := by decide +kernel
theorem dM_find_136 : decode cM_find 136 = .ok (.ireturn, 1) := by decide +kernel
theorem dM_at_0 : decode cM_at 0 = .ok (.iload_n 1, 1) := by decide +kernel
theorem dM_at_1 : decode cM_at 1 = .ok (.invokestatic 71, 3) := by decide +kernel
theorem dM_at_4 : decode cM_at 4 = .ok (.ifCond .ne 15, 3) := by decide +kernel
theorem dM_at_7 : decode cM_at 7 = .ok (.iload_n 1, 1) := by decide +kernel
theorem dM_at_8 : decode cM_at 8 = .ok (.bipush 16, 2) := by decide +kernel
theorem dM_at_10 : decode cM_at 10 = .ok (.if_icmp .lt 13, 3) := by decide +kernel
theorem dM_at_13 : decode cM_at 13 = .ok (.iload_n 1, 1) := by decide +kernel
theorem dM_at_14 : decode cM_at 14 = .ok (.bipush 32, 2) := by decide +kernel
theorem dM_at_16 : decode cM_at 16 = .ok (.if_icmp .ge 7, 3) := by decide +kernel
theorem dM_at_19 : decode cM_at 19 = .ok (.iconst 1, 1) := by decide +kernel
theorem dM_at_20 : decode cM_at 20 = .ok (.goto 4, 3) := by decide +kernel
theorem dM_at_23 : decode cM_at 23 = .ok (.iconst 0, 1) := by decide +kernel
theorem dM_at_24 : decode cM_at 24 = .ok (.istore_n 3, 1) := by decide +kernel
theorem dM_at_25 : decode cM_at 25 = .ok (.iload_n 3, 1) := by decide +kernel
theorem dM_at_26 : decode cM_at 26 = .ok (.ifCond .eq 22, 3) := by decide +kernel
theorem dM_at_29 : decode cM_at 29 = .ok (.iload_n 2, 1) := by decide +kernel
theorem dM_at_30 : decode cM_at 30 = .ok (.ifCond .lt 18, 3) := by decide +kernel
theorem dM_at_33 : decode cM_at 33 = .ok (.iload_n 2, 1) := by decide +kernel
theorem dM_at_34 : decode cM_at 34 = .ok (.bipush 32, 2) := by decide +kernel
theorem dM_at_36 : decode cM_at 36 = .ok (.if_icmp .ge 12, 3) := by decide +kernel
theorem dM_at_39 : decode cM_at 39 = .ok (.aload_n 0, 1) := by decide +kernel
theorem dM_at_40 : decode cM_at 40 = .ok (.iload_n 1, 1) := by decide +kernel
theorem dM_at_41 : decode cM_at 41 = .ok (.iload_n 2, 1) := by decide +kernel
theorem dM_at_42 : decode cM_at 42 = .ok (.invokevirtual 64, 3) := by decide +kernel
theorem dM_at_45 : decode cM_at 45 = .ok (.goto 4, 3) := by decide +kernel
theorem dM_at_48 : decode cM_at 48 = .ok (.iconst (-1), 1) := by decide +kernel
theorem dM_at_49 : decode cM_at 49 = .ok (.ireturn, 1) := by decide +kernel
theorem dM_extra_0 : decode cM_extra 0 = .ok (.iload_n 1, 1) := by decide +kernel
theorem dM_extra_1 : decode cM_extra 1 = .ok (.invokestatic 80, 3) := by decide +kernel
theorem dM_extra_4 : decode cM_extra 4 = .ok (.ifCond .eq 12, 3) := by decide +kernel
theorem dM_extra_7 : decode cM_extra 7 = .ok (.aload_n 0, 1) := by decide +kernel
theorem dM_extra_8 : decode cM_extra 8 = .ok (.getfield 27, 3) := by decide +kernel
theorem dM_extra_11 : decode cM_extra 11 = .ok (.iload_n 1, 1) := by decide +kernel
theorem dM_extra_12 : decode cM_extra 12 = .ok (.iaload, 1) := by decide +kernel
theorem dM_extra_13 : decode cM_extra 13 = .ok (.goto 4, 3) := by decide +kernel
theorem dM_extra_16 : decode cM_extra 16 = .ok (.iconst (-1), 1) := by decide +kernel
theorem dM_extra_17 : decode cM_extra 17 = .ok (.ireturn, 1) := by decide +kernel
theorem dM_posted_0 : decode cM_posted 0 = .ok (.iload_n 1, 1) := by decide +kernel
theorem dM_posted_1 : decode cM_posted 1 = .ok (.ifCond .lt 20, 3) := by decide +kernel
theorem dM_posted_4 : decode cM_posted 4 = .ok (.iload_n 1, 1) := by decide +kernel
theorem dM_posted_5 : decode cM_posted 5 = .ok (.aload_n 0, 1) := by decide +kernel
theorem dM_posted_6 : decode cM_posted 6 = .ok (.getfield 86, 3) := by decide +kernel
theorem dM_posted_9 : decode cM_posted 9 = .ok (.if_icmp .ge 12, 3) := by decide +kernel
theorem dM_posted_12 : decode cM_posted 12 = .ok (.aload_n 0, 1) := by decide +kernel
theorem dM_posted_13 : decode cM_posted 13 = .ok (.getfield 30, 3) := by decide +kernel
theorem dM_posted_16 : decode cM_posted 16 = .ok (.iload_n 1, 1) := by decide +kernel
theorem dM_posted_17 : decode cM_posted 17 = .ok (.iaload, 1) := by decide +kernel
theorem dM_posted_18 : decode cM_posted 18 = .ok (.goto 4, 3) := by decide +kernel
theorem dM_posted_21 : decode cM_posted 21 = .ok (.iconst (-1), 1) := by decide +kernel
theorem dM_posted_22 : decode cM_posted 22 = .ok (.ireturn, 1) := by decide +kernel
theorem dM_want_0 : decode cM_want 0 = .ok (.aload_n 0, 1) := by decide +kernel
theorem dM_want_1 : decode cM_want 1 = .ok (.iconst 1, 1) := by decide +kernel
theorem dM_want_2 : decode cM_want 2 = .ok (.putfield 48, 3) := by decide +kernel
theorem dM_want_5 : decode cM_want 5 = .ok (.aload_n 0, 1) := by decide +kernel
theorem dM_want_6 : decode cM_want 6 = .ok (.iload_n 1, 1) := by decide +kernel
theorem dM_want_7 : decode cM_want 7 = .ok (.putfield 37, 3) := by decide +kernel
theorem dM_want_10 : decode cM_want 10 = .ok (.return_, 1) := by decide +kernel
theorem dM_enter_0 : decode cM_enter 0 = .ok (.aload_n 0, 1) := by decide +kernel
theorem dM_enter_1 : decode cM_enter 1 = .ok (.getfield 20, 3) := by decide +kernel
theorem dM_enter_4 : decode cM_enter 4 = .ok (.iload_n 1, 1) := by decide +kernel
theorem dM_enter_5 : decode cM_enter 5 = .ok (.iload_n 2, 1) := by decide +kernel
theorem dM_enter_6 : decode cM_enter 6 = .ok (.iastore, 1) := by decide +kernel
theorem dM_enter_7 : decode cM_enter 7 = .ok (.aload_n 0, 1) := by decide +kernel
theorem dM_enter_8 : decode cM_enter 8 = .ok (.getfield 23, 3) := by decide +kernel
theorem dM_enter_11 : decode cM_enter 11 = .ok (.iload_n 1, 1) := by decide +kernel
theorem dM_enter_12 : decode cM_enter 12 = .ok (.aload_n 0, 1) := by decide +kernel
theorem dM_enter_13 : decode cM_enter 13 = .ok (.getfield 44, 3) := by decide +kernel
theorem dM_enter_16 : decode cM_enter 16 = .ok (.lastore, 1) := by decide +kernel
theorem dM_enter_17 : decode cM_enter 17 = .ok (.aload_n 0, 1) := by decide +kernel
theorem dM_enter_18 : decode cM_enter 18 = .ok (.aload_n 0, 1) := by decide +kernel
theorem dM_enter_19 : decode cM_enter 19 = .ok (.getfield 44, 3) := by decide +kernel
theorem dM_enter_22 : decode cM_enter 22 = .ok (.lconst 1, 1) := by decide +kernel
theorem dM_enter_23 : decode cM_enter 23 = .ok (.ladd, 1) := by decide +kernel
theorem dM_enter_24 : decode cM_enter 24 = .ok (.putfield 44, 3) := by decide +kernel
theorem dM_enter_27 : decode cM_enter 27 = .ok (.return_, 1) := by decide +kernel
theorem dM_wake_0 : decode cM_wake 0 = .ok (.aload_n 0, 1) := by decide +kernel
theorem dM_wake_1 : decode cM_wake 1 = .ok (.invokevirtual 52, 3) := by decide +kernel
theorem dM_wake_4 : decode cM_wake 4 = .ok (.istore_n 2, 1) := by decide +kernel
theorem dM_wake_5 : decode cM_wake 5 = .ok (.iload_n 2, 1) := by decide +kernel
theorem dM_wake_6 : decode cM_wake 6 = .ok (.ifCond .lt 30, 3) := by decide +kernel
theorem dM_wake_9 : decode cM_wake 9 = .ok (.aload_n 0, 1) := by decide +kernel
theorem dM_wake_10 : decode cM_wake 10 = .ok (.getfield 13, 3) := by decide +kernel
theorem dM_wake_13 : decode cM_wake 13 = .ok (.iload_n 2, 1) := by decide +kernel
theorem dM_wake_14 : decode cM_wake 14 = .ok (.iaload, 1) := by decide +kernel
theorem dM_wake_15 : decode cM_wake 15 = .ok (.aload_n 0, 1) := by decide +kernel
theorem dM_wake_16 : decode cM_wake 16 = .ok (.getfield 13, 3) := by decide +kernel
theorem dM_wake_19 : decode cM_wake 19 = .ok (.iload_n 1, 1) := by decide +kernel
theorem dM_wake_20 : decode cM_wake 20 = .ok (.iaload, 1) := by decide +kernel
theorem dM_wake_21 : decode cM_wake 21 = .ok (.if_icmp .lt 15, 3) := by decide +kernel
theorem dM_wake_24 : decode cM_wake 24 = .ok (.aload_n 0, 1) := by decide +kernel
theorem dM_wake_25 : decode cM_wake 25 = .ok (.iload_n 1, 1) := by decide +kernel
theorem dM_wake_26 : decode cM_wake 26 = .ok (.aload_n 0, 1) := by decide +kernel
theorem dM_wake_27 : decode cM_wake 27 = .ok (.getfield 13, 3) := by decide +kernel
theorem dM_wake_30 : decode cM_wake 30 = .ok (.iload_n 1, 1) := by decide +kernel
theorem dM_wake_31 : decode cM_wake 31 = .ok (.iaload, 1) := by decide +kernel
theorem dM_wake_32 : decode cM_wake 32 = .ok (.invokevirtual 56, 3) := by decide +kernel
theorem dM_wake_35 : decode cM_wake 35 = .ok (.return_, 1) := by decide +kernel
theorem dM_wake_36 : decode cM_wake 36 = .ok (.iload_n 2, 1) := by decide +kernel
theorem dM_wake_37 : decode cM_wake 37 = .ok (.ifCond .lt 14, 3) := by decide +kernel
theorem dM_wake_40 : decode cM_wake 40 = .ok (.aload_n 0, 1) := by decide +kernel
theorem dM_wake_41 : decode cM_wake 41 = .ok (.iload_n 2, 1) := by decide +kernel
theorem dM_wake_42 : decode cM_wake 42 = .ok (.aload_n 0, 1) := by decide +kernel
theorem dM_wake_43 : decode cM_wake 43 = .ok (.getfield 13, 3) := by decide +kernel
theorem dM_wake_46 : decode cM_wake 46 = .ok (.iload_n 2, 1) := by decide +kernel
theorem dM_wake_47 : decode cM_wake 47 = .ok (.iaload, 1) := by decide +kernel
theorem dM_wake_48 : decode cM_wake 48 = .ok (.invokevirtual 56, 3) := by decide +kernel
theorem dM_wake_51 : decode cM_wake 51 = .ok (.aload_n 0, 1) := by decide +kernel
theorem dM_wake_52 : decode cM_wake 52 = .ok (.getfield 20, 3) := by decide +kernel
theorem dM_wake_55 : decode cM_wake 55 = .ok (.iload_n 1, 1) := by decide +kernel
theorem dM_wake_56 : decode cM_wake 56 = .ok (.iconst 0, 1) := by decide +kernel
theorem dM_wake_57 : decode cM_wake 57 = .ok (.iastore, 1) := by decide +kernel
theorem dM_wake_58 : decode cM_wake 58 = .ok (.aload_n 0, 1) := by decide +kernel
theorem dM_wake_59 : decode cM_wake 59 = .ok (.iload_n 1, 1) := by decide +kernel
theorem dM_wake_60 : decode cM_wake 60 = .ok (.invokevirtual 60, 3) := by decide +kernel
theorem dM_wake_63 : decode cM_wake 63 = .ok (.return_, 1) := by decide +kernel
theorem dM_putAside_0 : decode cM_putAside 0 = .ok (.iconst (-1), 1) := by decide +kernel
theorem dM_putAside_1 : decode cM_putAside 1 = .ok (.istore_n 1, 1) := by decide +kernel
theorem dM_putAside_2 : decode cM_putAside 2 = .ok (.iconst 1, 1) := by decide +kernel
theorem dM_putAside_3 : decode cM_putAside 3 = .ok (.istore_n 2, 1) := by decide +kernel
theorem dM_putAside_4 : decode cM_putAside 4 = .ok (.iload_n 2, 1) := by decide +kernel
theorem dM_putAside_5 : decode cM_putAside 5 = .ok (.bipush 8, 2) := by decide +kernel
theorem dM_putAside_7 : decode cM_putAside 7 = .ok (.if_icmp .gt 26, 3) := by decide +kernel
theorem dM_putAside_10 : decode cM_putAside 10 = .ok (.aload_n 0, 1) := by decide +kernel
theorem dM_putAside_11 : decode cM_putAside 11 = .ok (.iload_n 2, 1) := by decide +kernel
theorem dM_putAside_12 : decode cM_putAside 12 = .ok (.iconst 0, 1) := by decide +kernel
theorem dM_putAside_13 : decode cM_putAside 13 = .ok (.invokevirtual 64, 3) := by decide +kernel
theorem dM_putAside_16 : decode cM_putAside 16 = .ok (.istore_n 3, 1) := by decide +kernel
theorem dM_putAside_17 : decode cM_putAside 17 = .ok (.iload_n 3, 1) := by decide +kernel
theorem dM_putAside_18 : decode cM_putAside 18 = .ok (.ifCond .lt 7, 3) := by decide +kernel
theorem dM_putAside_21 : decode cM_putAside 21 = .ok (.iload_n 3, 1) := by decide +kernel
theorem dM_putAside_22 : decode cM_putAside 22 = .ok (.goto 4, 3) := by decide +kernel
theorem dM_putAside_25 : decode cM_putAside 25 = .ok (.iload_n 1, 1) := by decide +kernel
theorem dM_putAside_26 : decode cM_putAside 26 = .ok (.istore_n 1, 1) := by decide +kernel
theorem dM_putAside_27 : decode cM_putAside 27 = .ok (.iinc 2 1, 3) := by decide +kernel
theorem dM_putAside_30 : decode cM_putAside 30 = .ok (.goto (-26), 3) := by decide +kernel
theorem dM_putAside_33 : decode cM_putAside 33 = .ok (.iload_n 1, 1) := by decide +kernel
theorem dM_putAside_34 : decode cM_putAside 34 = .ok (.ifCond .lt 10, 3) := by decide +kernel
theorem dM_putAside_37 : decode cM_putAside 37 = .ok (.aload_n 0, 1) := by decide +kernel
theorem dM_putAside_38 : decode cM_putAside 38 = .ok (.getfield 20, 3) := by decide +kernel
theorem dM_putAside_41 : decode cM_putAside 41 = .ok (.iload_n 1, 1) := by decide +kernel
theorem dM_putAside_42 : decode cM_putAside 42 = .ok (.iconst 0, 1) := by decide +kernel
theorem dM_putAside_43 : decode cM_putAside 43 = .ok (.iastore, 1) := by decide +kernel
theorem dM_putAside_44 : decode cM_putAside 44 = .ok (.aload_n 0, 1) := by decide +kernel
theorem dM_putAside_45 : decode cM_putAside 45 = .ok (.iload_n 1, 1) := by decide +kernel
theorem dM_putAside_46 : decode cM_putAside 46 = .ok (.invokevirtual 60, 3) := by decide +kernel
theorem dM_putAside_49 : decode cM_putAside 49 = .ok (.return_, 1) := by decide +kernel
theorem dM_give_0 : decode cM_give 0 = .ok (.aload_n 0, 1) := by decide +kernel
theorem dM_give_1 : decode cM_give 1 = .ok (.bipush 16, 2) := by decide +kernel
theorem dM_give_3 : decode cM_give 3 = .ok (.iload_n 1, 1) := by decide +kernel
theorem dM_give_4 : decode cM_give 4 = .ok (.iadd, 1) := by decide +kernel
theorem dM_give_5 : decode cM_give 5 = .ok (.iconst 0, 1) := by decide +kernel
theorem dM_give_6 : decode cM_give 6 = .ok (.invokevirtual 64, 3) := by decide +kernel
theorem dM_give_9 : decode cM_give 9 = .ok (.istore_n 2, 1) := by decide +kernel
theorem dM_give_10 : decode cM_give 10 = .ok (.iload_n 2, 1) := by decide +kernel
theorem dM_give_11 : decode cM_give 11 = .ok (.ifCond .ge 20, 3) := by decide +kernel
theorem dM_give_14 : decode cM_give 14 = .ok (.aload_n 0, 1) := by decide +kernel
theorem dM_give_15 : decode cM_give 15 = .ok (.getfield 27, 3) := by decide +kernel
theorem dM_give_18 : decode cM_give 18 = .ok (.iload_n 1, 1) := by decide +kernel
theorem dM_give_19 : decode cM_give 19 = .ok (.aload_n 0, 1) := by decide +kernel
theorem dM_give_20 : decode cM_give 20 = .ok (.getfield 27, 3) := by decide +kernel
theorem dM_give_23 : decode cM_give 23 = .ok (.iload_n 1, 1) := by decide +kernel
theorem dM_give_24 : decode cM_give 24 = .ok (.iaload, 1) := by decide +kernel
theorem dM_give_25 : decode cM_give 25 = .ok (.iconst 1, 1) := by decide +kernel
theorem dM_give_26 : decode cM_give 26 = .ok (.iadd, 1) := by decide +kernel
theorem dM_give_27 : decode cM_give 27 = .ok (.iastore, 1) := by decide +kernel
theorem dM_give_28 : decode cM_give 28 = .ok (.goto 15, 3) := by decide +kernel
theorem dM_give_31 : decode cM_give 31 = .ok (.aload_n 0, 1) := by decide +kernel
theorem dM_give_32 : decode cM_give 32 = .ok (.getfield 20, 3) := by decide +kernel
theorem dM_give_35 : decode cM_give 35 = .ok (.iload_n 2, 1) := by decide +kernel
theorem dM_give_36 : decode cM_give 36 = .ok (.iconst 0, 1) := by decide +kernel
theorem dM_give_37 : decode cM_give 37 = .ok (.iastore, 1) := by decide +kernel
theorem dM_give_38 : decode cM_give 38 = .ok (.aload_n 0, 1) := by decide +kernel
theorem dM_give_39 : decode cM_give 39 = .ok (.iload_n 2, 1) := by decide +kernel
theorem dM_give_40 : decode cM_give 40 = .ok (.invokevirtual 68, 3) := by decide +kernel
theorem dM_give_43 : decode cM_give 43 = .ok (.return_, 1) := by decide +kernel
theorem dM_signal_0 : decode cM_signal 0 = .ok (.iload_n 1, 1) := by decide +kernel
theorem dM_signal_1 : decode cM_signal 1 = .ok (.invokestatic 80, 3) := by decide +kernel
theorem dM_signal_4 : decode cM_signal 4 = .ok (.ifCond .ne 5, 3) := by decide +kernel
theorem dM_signal_7 : decode cM_signal 7 = .ok (.iconst 0, 1) := by decide +kernel
theorem dM_signal_8 : decode cM_signal 8 = .ok (.ireturn, 1) := by decide +kernel
theorem dM_signal_9 : decode cM_signal 9 = .ok (.aload_n 0, 1) := by decide +kernel
theorem dM_signal_10 : decode cM_signal 10 = .ok (.iload_n 1, 1) := by decide +kernel
theorem dM_signal_11 : decode cM_signal 11 = .ok (.invokevirtual 83, 3) := by decide +kernel
theorem dM_signal_14 : decode cM_signal 14 = .ok (.iconst 1, 1) := by decide +kernel
theorem dM_signal_15 : decode cM_signal 15 = .ok (.ireturn, 1) := by decide +kernel
theorem dM_make_0 : decode cM_make 0 = .ok (.iload_n 1, 1) := by decide +kernel
theorem dM_make_1 : decode cM_make 1 = .ok (.invokestatic 40, 3) := by decide +kernel
theorem dM_make_4 : decode cM_make 4 = .ok (.ifCond .eq 19, 3) := by decide +kernel
theorem dM_make_7 : decode cM_make 7 = .ok (.aload_n 0, 1) := by decide +kernel
theorem dM_make_8 : decode cM_make 8 = .ok (.getfield 7, 3) := by decide +kernel
theorem dM_make_11 : decode cM_make 11 = .ok (.iload_n 1, 1) := by decide +kernel
theorem dM_make_12 : decode cM_make 12 = .ok (.baload, 1) := by decide +kernel
theorem dM_make_13 : decode cM_make 13 = .ok (.ifCond .ne 10, 3) := by decide +kernel
theorem dM_make_16 : decode cM_make 16 = .ok (.iload_n 2, 1) := by decide +kernel
theorem dM_make_17 : decode cM_make 17 = .ok (.invokestatic 71, 3) := by decide +kernel
theorem dM_make_20 : decode cM_make 20 = .ok (.ifCond .ne 5, 3) := by decide +kernel
theorem dM_make_23 : decode cM_make 23 = .ok (.iconst 0, 1) := by decide +kernel
theorem dM_make_24 : decode cM_make 24 = .ok (.ireturn, 1) := by decide +kernel
theorem dM_make_25 : decode cM_make 25 = .ok (.aload_n 0, 1) := by decide +kernel
theorem dM_make_26 : decode cM_make 26 = .ok (.getfield 7, 3) := by decide +kernel
theorem dM_make_29 : decode cM_make 29 = .ok (.iload_n 1, 1) := by decide +kernel
theorem dM_make_30 : decode cM_make 30 = .ok (.iconst 1, 1) := by decide +kernel
theorem dM_make_31 : decode cM_make 31 = .ok (.bastore, 1) := by decide +kernel
theorem dM_make_32 : decode cM_make 32 = .ok (.aload_n 0, 1) := by decide +kernel
theorem dM_make_33 : decode cM_make 33 = .ok (.getfield 13, 3) := by decide +kernel
theorem dM_make_36 : decode cM_make 36 = .ok (.iload_n 1, 1) := by decide +kernel
theorem dM_make_37 : decode cM_make 37 = .ok (.iload_n 2, 1) := by decide +kernel
theorem dM_make_38 : decode cM_make 38 = .ok (.iastore, 1) := by decide +kernel
theorem dM_make_39 : decode cM_make 39 = .ok (.aload_n 0, 1) := by decide +kernel
theorem dM_make_40 : decode cM_make 40 = .ok (.getfield 17, 3) := by decide +kernel
theorem dM_make_43 : decode cM_make 43 = .ok (.iload_n 1, 1) := by decide +kernel
theorem dM_make_44 : decode cM_make 44 = .ok (.iload_n 3, 1) := by decide +kernel
theorem dM_make_45 : decode cM_make 45 = .ok (.iastore, 1) := by decide +kernel
theorem dM_make_46 : decode cM_make 46 = .ok (.aload_n 0, 1) := by decide +kernel
theorem dM_make_47 : decode cM_make 47 = .ok (.getfield 20, 3) := by decide +kernel
theorem dM_make_50 : decode cM_make 50 = .ok (.iload_n 1, 1) := by decide +kernel
theorem dM_make_51 : decode cM_make 51 = .ok (.iconst 0, 1) := by decide +kernel
theorem dM_make_52 : decode cM_make 52 = .ok (.iastore, 1) := by decide +kernel
theorem dM_make_53 : decode cM_make 53 = .ok (.iconst 1, 1) := by decide +kernel
theorem dM_make_54 : decode cM_make 54 = .ok (.ireturn, 1) := by decide +kernel
theorem dM_resume_0 : decode cM_resume 0 = .ok (.aload_n 0, 1) := by decide +kernel
theorem dM_resume_1 : decode cM_resume 1 = .ok (.iload_n 1, 1) := by decide +kernel
theorem dM_resume_2 : decode cM_resume 2 = .ok (.invokevirtual 74, 3) := by decide +kernel
theorem dM_resume_5 : decode cM_resume 5 = .ok (.ifCond .eq 28, 3) := by decide +kernel
theorem dM_resume_8 : decode cM_resume 8 = .ok (.aload_n 0, 1) := by decide +kernel
theorem dM_resume_9 : decode cM_resume 9 = .ok (.getfield 20, 3) := by decide +kernel
theorem dM_resume_12 : decode cM_resume 12 = .ok (.iload_n 1, 1) := by decide +kernel
theorem dM_resume_13 : decode cM_resume 13 = .ok (.iaload, 1) := by decide +kernel
theorem dM_resume_14 : decode cM_resume 14 = .ok (.ifCond .ne 19, 3) := by decide +kernel
theorem dM_resume_17 : decode cM_resume 17 = .ok (.iload_n 1, 1) := by decide +kernel
theorem dM_resume_18 : decode cM_resume 18 = .ok (.aload_n 0, 1) := by decide +kernel
theorem dM_resume_19 : decode cM_resume 19 = .ok (.invokevirtual 52, 3) := by decide +kernel
theorem dM_resume_22 : decode cM_resume 22 = .ok (.if_icmp .eq 11, 3) := by decide +kernel
theorem dM_resume_25 : decode cM_resume 25 = .ok (.iload_n 1, 1) := by decide +kernel
theorem dM_resume_26 : decode cM_resume 26 = .ok (.aload_n 0, 1) := by decide +kernel
theorem dM_resume_27 : decode cM_resume 27 = .ok (.getfield 33, 3) := by decide +kernel
theorem dM_resume_30 : decode cM_resume 30 = .ok (.if_icmp .ne 5, 3) := by decide +kernel
theorem dM_resume_33 : decode cM_resume 33 = .ok (.iconst 0, 1) := by decide +kernel
theorem dM_resume_34 : decode cM_resume 34 = .ok (.ireturn, 1) := by decide +kernel
theorem dM_resume_35 : decode cM_resume 35 = .ok (.aload_n 0, 1) := by decide +kernel
theorem dM_resume_36 : decode cM_resume 36 = .ok (.iload_n 1, 1) := by decide +kernel
theorem dM_resume_37 : decode cM_resume 37 = .ok (.invokevirtual 68, 3) := by decide +kernel
theorem dM_resume_40 : decode cM_resume 40 = .ok (.iconst 1, 1) := by decide +kernel
theorem dM_resume_41 : decode cM_resume 41 = .ok (.ireturn, 1) := by decide +kernel
theorem dM_suspend_0 : decode cM_suspend 0 = .ok (.aload_n 0, 1) := by decide +kernel
theorem dM_suspend_1 : decode cM_suspend 1 = .ok (.invokevirtual 52, 3) := by decide +kernel
theorem dM_suspend_4 : decode cM_suspend 4 = .ok (.istore_n 1, 1) := by decide +kernel
theorem dM_suspend_5 : decode cM_suspend 5 = .ok (.iload_n 1, 1) := by decide +kernel
theorem dM_suspend_6 : decode cM_suspend 6 = .ok (.ifCond .lt 7, 3) := by decide +kernel
theorem dM_suspend_9 : decode cM_suspend 9 = .ok (.aload_n 0, 1) := by decide +kernel
theorem dM_suspend_10 : decode cM_suspend 10 = .ok (.invokevirtual 77, 3) := by decide +kernel
theorem dM_suspend_13 : decode cM_suspend 13 = .ok (.iload_n 1, 1) := by decide +kernel
theorem dM_suspend_14 : decode cM_suspend 14 = .ok (.ireturn, 1) := by decide +kernel
theorem dM_end_0 : decode cM_end 0 = .ok (.aload_n 0, 1) := by decide +kernel
theorem dM_end_1 : decode cM_end 1 = .ok (.invokevirtual 52, 3) := by decide +kernel
theorem dM_end_4 : decode cM_end 4 = .ok (.istore_n 1, 1) := by decide +kernel
theorem dM_end_5 : decode cM_end 5 = .ok (.iload_n 1, 1) := by decide +kernel
theorem dM_end_6 : decode cM_end 6 = .ok (.ifCond .lt 34, 3) := by decide +kernel
theorem dM_end_9 : decode cM_end 9 = .ok (.aload_n 0, 1) := by decide +kernel
theorem dM_end_10 : decode cM_end 10 = .ok (.getfield 7, 3) := by decide +kernel
theorem dM_end_13 : decode cM_end 13 = .ok (.iload_n 1, 1) := by decide +kernel
theorem dM_end_14 : decode cM_end 14 = .ok (.iconst 0, 1) := by decide +kernel
theorem dM_end_15 : decode cM_end 15 = .ok (.bastore, 1) := by decide +kernel
theorem dM_end_16 : decode cM_end 16 = .ok (.aload_n 0, 1) := by decide +kernel
theorem dM_end_17 : decode cM_end 17 = .ok (.invokevirtual 77, 3) := by decide +kernel
theorem dM_end_20 : decode cM_end 20 = .ok (.aload_n 0, 1) := by decide +kernel
theorem dM_end_21 : decode cM_end 21 = .ok (.iload_n 1, 1) := by decide +kernel
theorem dM_end_22 : decode cM_end 22 = .ok (.aload_n 0, 1) := by decide +kernel
theorem dM_end_23 : decode cM_end 23 = .ok (.getfield 33, 3) := by decide +kernel
theorem dM_end_26 : decode cM_end 26 = .ok (.if_icmp .ne 7, 3) := by decide +kernel
theorem dM_end_29 : decode cM_end 29 = .ok (.iconst (-1), 1) := by decide +kernel
theorem dM_end_30 : decode cM_end 30 = .ok (.goto 7, 3) := by decide +kernel
theorem dM_end_33 : decode cM_end 33 = .ok (.aload_n 0, 1) := by decide +kernel
theorem dM_end_34 : decode cM_end 34 = .ok (.getfield 33, 3) := by decide +kernel
theorem dM_end_37 : decode cM_end 37 = .ok (.putfield 33, 3) := by decide +kernel
theorem dM_end_40 : decode cM_end 40 = .ok (.iload_n 1, 1) := by decide +kernel
theorem dM_end_41 : decode cM_end 41 = .ok (.ireturn, 1) := by decide +kernel
theorem dM_await_0 : decode cM_await 0 = .ok (.aload_n 0, 1) := by decide +kernel
theorem dM_await_1 : decode cM_await 1 = .ok (.invokevirtual 52, 3) := by decide +kernel
theorem dM_await_4 : decode cM_await 4 = .ok (.istore_n 2, 1) := by decide +kernel
theorem dM_await_5 : decode cM_await 5 = .ok (.iload_n 1, 1) := by decide +kernel
theorem dM_await_6 : decode cM_await 6 = .ok (.invokestatic 80, 3) := by decide +kernel
theorem dM_await_9 : decode cM_await 9 = .ok (.ifCond .eq 7, 3) := by decide +kernel
theorem dM_await_12 : decode cM_await 12 = .ok (.iload_n 2, 1) := by decide +kernel
theorem dM_await_13 : decode cM_await 13 = .ok (.ifCond .ge 5, 3) := by decide +kernel
theorem dM_await_16 : decode cM_await 16 = .ok (.iconst (-1), 1) := by decide +kernel
theorem dM_await_17 : decode cM_await 17 = .ok (.ireturn, 1) := by decide +kernel
theorem dM_await_18 : decode cM_await 18 = .ok (.aload_n 0, 1) := by decide +kernel
theorem dM_await_19 : decode cM_await 19 = .ok (.getfield 27, 3) := by decide +kernel
theorem dM_await_22 : decode cM_await 22 = .ok (.iload_n 1, 1) := by decide +kernel
theorem dM_await_23 : decode cM_await 23 = .ok (.iaload, 1) := by decide +kernel
theorem dM_await_24 : decode cM_await 24 = .ok (.ifCond .le 19, 3) := by decide +kernel
theorem dM_await_27 : decode cM_await 27 = .ok (.aload_n 0, 1) := by decide +kernel
theorem dM_await_28 : decode cM_await 28 = .ok (.getfield 27, 3) := by decide +kernel
theorem dM_await_31 : decode cM_await 31 = .ok (.iload_n 1, 1) := by decide +kernel
theorem dM_await_32 : decode cM_await 32 = .ok (.aload_n 0, 1) := by decide +kernel
theorem dM_await_33 : decode cM_await 33 = .ok (.getfield 27, 3) := by decide +kernel
theorem dM_await_36 : decode cM_await 36 = .ok (.iload_n 1, 1) := by decide +kernel
theorem dM_await_37 : decode cM_await 37 = .ok (.iaload, 1) := by decide +kernel
theorem dM_await_38 : decode cM_await 38 = .ok (.iconst 1, 1) := by decide +kernel
theorem dM_await_39 : decode cM_await 39 = .ok (.isub, 1) := by decide +kernel
theorem dM_await_40 : decode cM_await 40 = .ok (.iastore, 1) := by decide +kernel
theorem dM_await_41 : decode cM_await 41 = .ok (.iconst 1, 1) := by decide +kernel
theorem dM_await_42 : decode cM_await 42 = .ok (.ireturn, 1) := by decide +kernel
theorem dM_await_43 : decode cM_await 43 = .ok (.aload_n 0, 1) := by decide +kernel
theorem dM_await_44 : decode cM_await 44 = .ok (.iload_n 2, 1) := by decide +kernel
theorem dM_await_45 : decode cM_await 45 = .ok (.bipush 16, 2) := by decide +kernel
theorem dM_await_47 : decode cM_await 47 = .ok (.iload_n 1, 1) := by decide +kernel
theorem dM_await_48 : decode cM_await 48 = .ok (.iadd, 1) := by decide +kernel
theorem dM_await_49 : decode cM_await 49 = .ok (.invokevirtual 56, 3) := by decide +kernel
theorem dM_await_52 : decode cM_await 52 = .ok (.aload_n 0, 1) := by decide +kernel
theorem dM_await_53 : decode cM_await 53 = .ok (.invokevirtual 77, 3) := by decide +kernel
theorem dM_await_56 : decode cM_await 56 = .ok (.iconst 0, 1) := by decide +kernel
theorem dM_await_57 : decode cM_await 57 = .ok (.ireturn, 1) := by decide +kernel
theorem dM_post_0 : decode cM_post 0 = .ok (.iload_n 1, 1) := by decide +kernel
theorem dM_post_1 : decode cM_post 1 = .ok (.invokestatic 80, 3) := by decide +kernel
theorem dM_post_4 : decode cM_post 4 = .ok (.ifCond .eq 12, 3) := by decide +kernel
theorem dM_post_7 : decode cM_post 7 = .ok (.aload_n 0, 1) := by decide +kernel
theorem dM_post_8 : decode cM_post 8 = .ok (.getfield 86, 3) := by decide +kernel
theorem dM_post_11 : decode cM_post 11 = .ok (.bipush 40, 2) := by decide +kernel
theorem dM_post_13 : decode cM_post 13 = .ok (.if_icmp .ne 5, 3) := by decide +kernel
theorem dM_post_16 : decode cM_post 16 = .ok (.iconst (-1), 1) := by decide +kernel
theorem dM_post_17 : decode cM_post 17 = .ok (.ireturn, 1) := by decide +kernel
theorem dM_post_18 : decode cM_post 18 = .ok (.aload_n 0, 1) := by decide +kernel
theorem dM_post_19 : decode cM_post 19 = .ok (.getfield 30, 3) := by decide +kernel
theorem dM_post_22 : decode cM_post 22 = .ok (.aload_n 0, 1) := by decide +kernel
theorem dM_post_23 : decode cM_post 23 = .ok (.getfield 86, 3) := by decide +kernel
theorem dM_post_26 : decode cM_post 26 = .ok (.iload_n 1, 1) := by decide +kernel
theorem dM_post_27 : decode cM_post 27 = .ok (.iastore, 1) := by decide +kernel
theorem dM_post_28 : decode cM_post 28 = .ok (.aload_n 0, 1) := by decide +kernel
theorem dM_post_29 : decode cM_post 29 = .ok (.aload_n 0, 1) := by decide +kernel
theorem dM_post_30 : decode cM_post 30 = .ok (.getfield 86, 3) := by decide +kernel
theorem dM_post_33 : decode cM_post 33 = .ok (.iconst 1, 1) := by decide +kernel
theorem dM_post_34 : decode cM_post 34 = .ok (.iadd, 1) := by decide +kernel
theorem dM_post_35 : decode cM_post 35 = .ok (.putfield 86, 3) := by decide +kernel
theorem dM_post_38 : decode cM_post 38 = .ok (.aload_n 0, 1) := by decide +kernel
theorem dM_post_39 : decode cM_post 39 = .ok (.getfield 86, 3) := by decide +kernel
theorem dM_post_42 : decode cM_post 42 = .ok (.ireturn, 1) := by decide +kernel
theorem dM_step_0 : decode cM_step 0 = .ok (.iconst 0, 1) := by decide +kernel
theorem dM_step_1 : decode cM_step 1 = .ok (.istore_n 1, 1) := by decide +kernel
theorem dM_step_2 : decode cM_step 2 = .ok (.iload_n 1, 1) := by decide +kernel
theorem dM_step_3 : decode cM_step 3 = .ok (.aload_n 0, 1) := by decide +kernel
theorem dM_step_4 : decode cM_step 4 = .ok (.getfield 86, 3) := by decide +kernel
theorem dM_step_7 : decode cM_step 7 = .ok (.if_icmp .ge 19, 3) := by decide +kernel
theorem dM_step_10 : decode cM_step 10 = .ok (.aload_n 0, 1) := by decide +kernel
theorem dM_step_11 : decode cM_step 11 = .ok (.aload_n 0, 1) := by decide +kernel
theorem dM_step_12 : decode cM_step 12 = .ok (.getfield 30, 3) := by decide +kernel
theorem dM_step_15 : decode cM_step 15 = .ok (.iload_n 1, 1) := by decide +kernel
theorem dM_step_16 : decode cM_step 16 = .ok (.iaload, 1) := by decide +kernel
theorem dM_step_17 : decode cM_step 17 = .ok (.invokevirtual 83, 3) := by decide +kernel
theorem dM_step_20 : decode cM_step 20 = .ok (.iinc 1 1, 3) := by decide +kernel
theorem dM_step_23 : decode cM_step 23 = .ok (.goto (-21), 3) := by decide +kernel
theorem dM_step_26 : decode cM_step 26 = .ok (.aload_n 0, 1) := by decide +kernel
theorem dM_step_27 : decode cM_step 27 = .ok (.iconst 0, 1) := by decide +kernel
theorem dM_step_28 : decode cM_step 28 = .ok (.putfield 86, 3) := by decide +kernel
theorem dM_step_31 : decode cM_step 31 = .ok (.aload_n 0, 1) := by decide +kernel
theorem dM_step_32 : decode cM_step 32 = .ok (.getfield 48, 3) := by decide +kernel
theorem dM_step_35 : decode cM_step 35 = .ok (.ifCond .eq 60, 3) := by decide +kernel
theorem dM_step_38 : decode cM_step 38 = .ok (.aload_n 0, 1) := by decide +kernel
theorem dM_step_39 : decode cM_step 39 = .ok (.getfield 33, 3) := by decide +kernel
theorem dM_step_42 : decode cM_step 42 = .ok (.ifCond .lt 16, 3) := by decide +kernel
theorem dM_step_45 : decode cM_step 45 = .ok (.aload_n 0, 1) := by decide +kernel
theorem dM_step_46 : decode cM_step 46 = .ok (.getfield 17, 3) := by decide +kernel
theorem dM_step_49 : decode cM_step 49 = .ok (.aload_n 0, 1) := by decide +kernel
theorem dM_step_50 : decode cM_step 50 = .ok (.getfield 33, 3) := by decide +kernel
theorem dM_step_53 : decode cM_step 53 = .ok (.aload_n 0, 1) := by decide +kernel
theorem dM_step_54 : decode cM_step 54 = .ok (.getfield 89, 3) := by decide +kernel
theorem dM_step_57 : decode cM_step 57 = .ok (.iastore, 1) := by decide +kernel
theorem dM_step_58 : decode cM_step 58 = .ok (.aload_n 0, 1) := by decide +kernel
theorem dM_step_59 : decode cM_step 59 = .ok (.aload_n 0, 1) := by decide +kernel
theorem dM_step_60 : decode cM_step 60 = .ok (.getfield 37, 3) := by decide +kernel
theorem dM_step_63 : decode cM_step 63 = .ok (.putfield 33, 3) := by decide +kernel
theorem dM_step_66 : decode cM_step 66 = .ok (.aload_n 0, 1) := by decide +kernel
theorem dM_step_67 : decode cM_step 67 = .ok (.aload_n 0, 1) := by decide +kernel
theorem dM_step_68 : decode cM_step 68 = .ok (.getfield 33, 3) := by decide +kernel
theorem dM_step_71 : decode cM_step 71 = .ok (.ifCond .lt 15, 3) := by decide +kernel
theorem dM_step_74 : decode cM_step 74 = .ok (.aload_n 0, 1) := by decide +kernel
theorem dM_step_75 : decode cM_step 75 = .ok (.getfield 17, 3) := by decide +kernel
theorem dM_step_78 : decode cM_step 78 = .ok (.aload_n 0, 1) := by decide +kernel
theorem dM_step_79 : decode cM_step 79 = .ok (.getfield 33, 3) := by decide +kernel
theorem dM_step_82 : decode cM_step 82 = .ok (.iaload, 1) := by decide +kernel
theorem dM_step_83 : decode cM_step 83 = .ok (.goto 4, 3) := by decide +kernel
theorem dM_step_86 : decode cM_step 86 = .ok (.iconst 0, 1) := by decide +kernel
theorem dM_step_87 : decode cM_step 87 = .ok (.putfield 89, 3) := by decide +kernel
theorem dM_step_90 : decode cM_step 90 = .ok (.aload_n 0, 1) := by decide +kernel
theorem dM_step_91 : decode cM_step 91 = .ok (.iconst 0, 1) := by decide +kernel
theorem dM_step_92 : decode cM_step 92 = .ok (.putfield 48, 3) := by decide +kernel
theorem dM_step_95 : decode cM_step 95 = .ok (.aload_n 0, 1) := by decide +kernel
theorem dM_step_96 : decode cM_step 96 = .ok (.getfield 33, 3) := by decide +kernel
theorem dM_step_99 : decode cM_step 99 = .ok (.ireturn, 1) := by decide +kernel
theorem dM_work_0 : decode cM_work 0 = .ok (.iload_n 1, 1) := by decide +kernel
theorem dM_work_1 : decode cM_work 1 = .ok (.iconst 1, 1) := by decide +kernel
theorem dM_work_2 : decode cM_work 2 = .ok (.if_icmp .lt 24, 3) := by decide +kernel
theorem dM_work_5 : decode cM_work 5 = .ok (.iload_n 1, 1) := by decide +kernel
theorem dM_work_6 : decode cM_work 6 = .ok (.sipush 1000, 3) := by decide +kernel
theorem dM_work_9 : decode cM_work 9 = .ok (.if_icmp .gt 17, 3) := by decide +kernel
theorem dM_work_12 : decode cM_work 12 = .ok (.aload_n 0, 1) := by decide +kernel
theorem dM_work_13 : decode cM_work 13 = .ok (.getfield 33, 3) := by decide +kernel
theorem dM_work_16 : decode cM_work 16 = .ok (.ifCond .lt 10, 3) := by decide +kernel
theorem dM_work_19 : decode cM_work 19 = .ok (.aload_n 0, 1) := by decide +kernel
theorem dM_work_20 : decode cM_work 20 = .ok (.getfield 48, 3) := by decide +kernel
theorem dM_work_23 : decode cM_work 23 = .ok (.ifCond .eq 5, 3) := by decide +kernel
theorem dM_work_26 : decode cM_work 26 = .ok (.iconst 0, 1) := by decide +kernel
theorem dM_work_27 : decode cM_work 27 = .ok (.ireturn, 1) := by decide +kernel
theorem dM_work_28 : decode cM_work 28 = .ok (.aload_n 0, 1) := by decide +kernel
theorem dM_work_29 : decode cM_work 29 = .ok (.aload_n 0, 1) := by decide +kernel
theorem dM_work_30 : decode cM_work 30 = .ok (.getfield 89, 3) := by decide +kernel
theorem dM_work_33 : decode cM_work 33 = .ok (.iload_n 1, 1) := by decide +kernel
theorem dM_work_34 : decode cM_work 34 = .ok (.iadd, 1) := by decide +kernel
theorem dM_work_35 : decode cM_work 35 = .ok (.putfield 89, 3) := by decide +kernel
theorem dM_work_38 : decode cM_work 38 = .ok (.iconst 1, 1) := by decide +kernel
theorem dM_work_39 : decode cM_work 39 = .ok (.ireturn, 1) := by decide +kernel
theorem dM_take_0 : decode cM_take 0 = .ok (.aload_n 0, 1) := by decide +kernel
theorem dM_take_1 : decode cM_take 1 = .ok (.iload_n 1, 1) := by decide +kernel
theorem dM_take_2 : decode cM_take 2 = .ok (.invokevirtual 74, 3) := by decide +kernel
theorem dM_take_5 : decode cM_take 5 = .ok (.ifCond .eq 12, 3) := by decide +kernel
theorem dM_take_8 : decode cM_take 8 = .ok (.aload_n 0, 1) := by decide +kernel
theorem dM_take_9 : decode cM_take 9 = .ok (.getfield 20, 3) := by decide +kernel
theorem dM_take_12 : decode cM_take 12 = .ok (.iload_n 1, 1) := by decide +kernel
theorem dM_take_13 : decode cM_take 13 = .ok (.iaload, 1) := by decide +kernel
theorem dM_take_14 : decode cM_take 14 = .ok (.ifCond .ne 5, 3) := by decide +kernel
theorem dM_take_17 : decode cM_take 17 = .ok (.iconst 0, 1) := by decide +kernel
theorem dM_take_18 : decode cM_take 18 = .ok (.ireturn, 1) := by decide +kernel
theorem dM_take_19 : decode cM_take 19 = .ok (.aload_n 0, 1) := by decide +kernel
theorem dM_take_20 : decode cM_take 20 = .ok (.getfield 20, 3) := by decide +kernel
theorem dM_take_23 : decode cM_take 23 = .ok (.iload_n 1, 1) := by decide +kernel
theorem dM_take_24 : decode cM_take 24 = .ok (.iconst 0, 1) := by decide +kernel
theorem dM_take_25 : decode cM_take 25 = .ok (.iastore, 1) := by decide +kernel
theorem dM_take_26 : decode cM_take 26 = .ok (.iconst 1, 1) := by decide +kernel
theorem dM_take_27 : decode cM_take 27 = .ok (.ireturn, 1) := by decide +kernel
theorem dM_rate_0 : decode cM_rate 0 = .ok (.aload_n 0, 1) := by decide +kernel
theorem dM_rate_1 : decode cM_rate 1 = .ok (.iload_n 1, 1) := by decide +kernel
theorem dM_rate_2 : decode cM_rate 2 = .ok (.invokevirtual 74, 3) := by decide +kernel
theorem dM_rate_5 : decode cM_rate 5 = .ok (.ifCond .eq 10, 3) := by decide +kernel
theorem dM_rate_8 : decode cM_rate 8 = .ok (.iload_n 2, 1) := by decide +kernel
theorem dM_rate_9 : decode cM_rate 9 = .ok (.invokestatic 71, 3) := by decide +kernel
theorem dM_rate_12 : decode cM_rate 12 = .ok (.ifCond .ne 5, 3) := by decide +kernel
theorem dM_rate_15 : decode cM_rate 15 = .ok (.iconst (-1), 1) := by decide +kernel
theorem dM_rate_16 : decode cM_rate 16 = .ok (.ireturn, 1) := by decide +kernel
theorem dM_rate_17 : decode cM_rate 17 = .ok (.aload_n 0, 1) := by decide +kernel
theorem dM_rate_18 : decode cM_rate 18 = .ok (.getfield 13, 3) := by decide +kernel
theorem dM_rate_21 : decode cM_rate 21 = .ok (.iload_n 1, 1) := by decide +kernel
theorem dM_rate_22 : decode cM_rate 22 = .ok (.iaload, 1) := by decide +kernel
theorem dM_rate_23 : decode cM_rate 23 = .ok (.istore_n 3, 1) := by decide +kernel
theorem dM_rate_24 : decode cM_rate 24 = .ok (.aload_n 0, 1) := by decide +kernel
theorem dM_rate_25 : decode cM_rate 25 = .ok (.getfield 13, 3) := by decide +kernel
theorem dM_rate_28 : decode cM_rate 28 = .ok (.iload_n 1, 1) := by decide +kernel
theorem dM_rate_29 : decode cM_rate 29 = .ok (.iload_n 2, 1) := by decide +kernel
theorem dM_rate_30 : decode cM_rate 30 = .ok (.iastore, 1) := by decide +kernel
theorem dM_rate_31 : decode cM_rate 31 = .ok (.iload_n 3, 1) := by decide +kernel
theorem dM_rate_32 : decode cM_rate 32 = .ok (.ireturn, 1) := by decide +kernel
theorem dM_yield_0 : decode cM_yield 0 = .ok (.aload_n 0, 1) := by decide +kernel
theorem dM_yield_1 : decode cM_yield 1 = .ok (.invokevirtual 52, 3) := by decide +kernel
theorem dM_yield_4 : decode cM_yield 4 = .ok (.istore_n 1, 1) := by decide +kernel
theorem dM_yield_5 : decode cM_yield 5 = .ok (.iload_n 1, 1) := by decide +kernel
theorem dM_yield_6 : decode cM_yield 6 = .ok (.ifCond .lt 17, 3) := by decide +kernel
theorem dM_yield_9 : decode cM_yield 9 = .ok (.aload_n 0, 1) := by decide +kernel
theorem dM_yield_10 : decode cM_yield 10 = .ok (.aload_n 0, 1) := by decide +kernel
theorem dM_yield_11 : decode cM_yield 11 = .ok (.getfield 13, 3) := by decide +kernel
theorem dM_yield_14 : decode cM_yield 14 = .ok (.iload_n 1, 1) := by decide +kernel
theorem dM_yield_15 : decode cM_yield 15 = .ok (.iaload, 1) := by decide +kernel
theorem dM_yield_16 : decode cM_yield 16 = .ok (.iconst 0, 1) := by decide +kernel
theorem dM_yield_17 : decode cM_yield 17 = .ok (.invokevirtual 64, 3) := by decide +kernel
theorem dM_yield_20 : decode cM_yield 20 = .ok (.ifCond .ge 5, 3) := by decide +kernel
theorem dM_yield_23 : decode cM_yield 23 = .ok (.iconst 0, 1) := by decide +kernel
theorem dM_yield_24 : decode cM_yield 24 = .ok (.ireturn, 1) := by decide +kernel
theorem dM_yield_25 : decode cM_yield 25 = .ok (.aload_n 0, 1) := by decide +kernel
theorem dM_yield_26 : decode cM_yield 26 = .ok (.iload_n 1, 1) := by decide +kernel
theorem dM_yield_27 : decode cM_yield 27 = .ok (.aload_n 0, 1) := by decide +kernel
theorem dM_yield_28 : decode cM_yield 28 = .ok (.getfield 13, 3) := by decide +kernel
theorem dM_yield_31 : decode cM_yield 31 = .ok (.iload_n 1, 1) := by decide +kernel
theorem dM_yield_32 : decode cM_yield 32 = .ok (.iaload, 1) := by decide +kernel
theorem dM_yield_33 : decode cM_yield 33 = .ok (.invokevirtual 56, 3) := by decide +kernel
theorem dM_yield_36 : decode cM_yield 36 = .ok (.aload_n 0, 1) := by decide +kernel
theorem dM_yield_37 : decode cM_yield 37 = .ok (.invokevirtual 77, 3) := by decide +kernel
theorem dM_yield_40 : decode cM_yield 40 = .ok (.iconst 1, 1) := by decide +kernel
theorem dM_yield_41 : decode cM_yield 41 = .ok (.ireturn, 1) := by decide +kernel
end
section
abbrev MS : Type := (Nat → Int32) × (Nat → Int32) × (Nat → Int32) × (Nat → Int32) × (Nat → Int64) × Int64 × (Nat → Int32) × Int32 × (Nat → Int32) × Int32 × Int32 × Int32 × Int32
def ma_made (u : MS) : Nat → Int32 := u.1
def ma_priorities (u : MS) : Nat → Int32 := u.2.1
def ma_places (u : MS) : Nat → Int32 := u.2.2.1
def ma_rows (u : MS) : Nat → Int32 := u.2.2.2.1
def ma_when (u : MS) : Nat → Int64 := u.2.2.2.2.1
def ma_now (u : MS) : Int64 := u.2.2.2.2.2.1
def ma_extras (u : MS) : Nat → Int32 := u.2.2.2.2.2.2.1
def ma_posts (u : MS) : Int32 := u.2.2.2.2.2.2.2.1
def ma_posted (u : MS) : Nat → Int32 := u.2.2.2.2.2.2.2.2.1
def ma_active (u : MS) : Int32 := u.2.2.2.2.2.2.2.2.2.1
def ma_here (u : MS) : Int32 := u.2.2.2.2.2.2.2.2.2.2.1
def ma_wanted (u : MS) : Int32 := u.2.2.2.2.2.2.2.2.2.2.2.1
def ma_change (u : MS) : Int32 := u.2.2.2.2.2.2.2.2.2.2.2.2
def ms_made (u : MS) (v : Nat → Int32) : MS := (v, ma_priorities u, ma_places u, ma_rows u, ma_when u, ma_now u, ma_extras u, ma_posts u, ma_posted u, ma_active u, ma_here u, ma_wanted u, ma_change u)
def ms_priorities (u : MS) (v : Nat → Int32) : MS := (ma_made u, v, ma_places u, ma_rows u, ma_when u, ma_now u, ma_extras u, ma_posts u, ma_posted u, ma_active u, ma_here u, ma_wanted u, ma_change u)
def ms_places (u : MS) (v : Nat → Int32) : MS := (ma_made u, ma_priorities u, v, ma_rows u, ma_when u, ma_now u, ma_extras u, ma_posts u, ma_posted u, ma_active u, ma_here u, ma_wanted u, ma_change u)
def ms_rows (u : MS) (v : Nat → Int32) : MS := (ma_made u, ma_priorities u, ma_places u, v, ma_when u, ma_now u, ma_extras u, ma_posts u, ma_posted u, ma_active u, ma_here u, ma_wanted u, ma_change u)
def ms_when (u : MS) (v : Nat → Int64) : MS := (ma_made u, ma_priorities u, ma_places u, ma_rows u, v, ma_now u, ma_extras u, ma_posts u, ma_posted u, ma_active u, ma_here u, ma_wanted u, ma_change u)
def ms_now (u : MS) (v : Int64) : MS := (ma_made u, ma_priorities u, ma_places u, ma_rows u, ma_when u, v, ma_extras u, ma_posts u, ma_posted u, ma_active u, ma_here u, ma_wanted u, ma_change u)
def ms_extras (u : MS) (v : Nat → Int32) : MS := (ma_made u, ma_priorities u, ma_places u, ma_rows u, ma_when u, ma_now u, v, ma_posts u, ma_posted u, ma_active u, ma_here u, ma_wanted u, ma_change u)
def ms_posts (u : MS) (v : Int32) : MS := (ma_made u, ma_priorities u, ma_places u, ma_rows u, ma_when u, ma_now u, ma_extras u, v, ma_posted u, ma_active u, ma_here u, ma_wanted u, ma_change u)
def ms_posted (u : MS) (v : Nat → Int32) : MS := (ma_made u, ma_priorities u, ma_places u, ma_rows u, ma_when u, ma_now u, ma_extras u, ma_posts u, v, ma_active u, ma_here u, ma_wanted u, ma_change u)
def ms_active (u : MS) (v : Int32) : MS := (ma_made u, ma_priorities u, ma_places u, ma_rows u, ma_when u, ma_now u, ma_extras u, ma_posts u, ma_posted u, v, ma_here u, ma_wanted u, ma_change u)
def ms_here (u : MS) (v : Int32) : MS := (ma_made u, ma_priorities u, ma_places u, ma_rows u, ma_when u, ma_now u, ma_extras u, ma_posts u, ma_posted u, ma_active u, v, ma_wanted u, ma_change u)
def ms_wanted (u : MS) (v : Int32) : MS := (ma_made u, ma_priorities u, ma_places u, ma_rows u, ma_when u, ma_now u, ma_extras u, ma_posts u, ma_posted u, ma_active u, ma_here u, v, ma_change u)
def ms_change (u : MS) (v : Int32) : MS := (ma_made u, ma_priorities u, ma_places u, ma_rows u, ma_when u, ma_now u, ma_extras u, ma_posts u, ma_posted u, ma_active u, ma_here u, ma_wanted u, v)
theorem mq_made_made (u : MS) (v : Nat → Int32) : ma_made (ms_made u v) = v := rfl
theorem mq_made_priorities (u : MS) (v : Nat → Int32) : ma_made (ms_priorities u v) = ma_made u := rfl
theorem mq_made_places (u : MS) (v : Nat → Int32) : ma_made (ms_places u v) = ma_made u := rfl
theorem mq_made_rows (u : MS) (v : Nat → Int32) : ma_made (ms_rows u v) = ma_made u := rfl
theorem mq_made_when (u : MS) (v : Nat → Int64) : ma_made (ms_when u v) = ma_made u := rfl
theorem mq_made_now (u : MS) (v : Int64) : ma_made (ms_now u v) = ma_made u := rfl
theorem mq_made_extras (u : MS) (v : Nat → Int32) : ma_made (ms_extras u v) = ma_made u := rfl
theorem mq_made_posts (u : MS) (v : Int32) : ma_made (ms_posts u v) = ma_made u := rfl
theorem mq_made_posted (u : MS) (v : Nat → Int32) : ma_made (ms_posted u v) = ma_made u := rfl
theorem mq_made_active (u : MS) (v : Int32) : ma_made (ms_active u v) = ma_made u := rfl
theorem mq_made_here (u : MS) (v : Int32) : ma_made (ms_here u v) = ma_made u := rfl
theorem mq_made_wanted (u : MS) (v : Int32) : ma_made (ms_wanted u v) = ma_made u := rfl
theorem mq_made_change (u : MS) (v : Int32) : ma_made (ms_change u v) = ma_made u := rfl
theorem mq_priorities_made (u : MS) (v : Nat → Int32) : ma_priorities (ms_made u v) = ma_priorities u := rfl
theorem mq_priorities_priorities (u : MS) (v : Nat → Int32) : ma_priorities (ms_priorities u v) = v := rfl
theorem mq_priorities_places (u : MS) (v : Nat → Int32) : ma_priorities (ms_places u v) = ma_priorities u := rfl
theorem mq_priorities_rows (u : MS) (v : Nat → Int32) : ma_priorities (ms_rows u v) = ma_priorities u := rfl
theorem mq_priorities_when (u : MS) (v : Nat → Int64) : ma_priorities (ms_when u v) = ma_priorities u := rfl
theorem mq_priorities_now (u : MS) (v : Int64) : ma_priorities (ms_now u v) = ma_priorities u := rfl
theorem mq_priorities_extras (u : MS) (v : Nat → Int32) : ma_priorities (ms_extras u v) = ma_priorities u := rfl
theorem mq_priorities_posts (u : MS) (v : Int32) : ma_priorities (ms_posts u v) = ma_priorities u := rfl
theorem mq_priorities_posted (u : MS) (v : Nat → Int32) : ma_priorities (ms_posted u v) = ma_priorities u := rfl
theorem mq_priorities_active (u : MS) (v : Int32) : ma_priorities (ms_active u v) = ma_priorities u := rfl
theorem mq_priorities_here (u : MS) (v : Int32) : ma_priorities (ms_here u v) = ma_priorities u := rfl
theorem mq_priorities_wanted (u : MS) (v : Int32) : ma_priorities (ms_wanted u v) = ma_priorities u := rfl
theorem mq_priorities_change (u : MS) (v : Int32) : ma_priorities (ms_change u v) = ma_priorities u := rfl
theorem mq_places_made (u : MS) (v : Nat → Int32) : ma_places (ms_made u v) = ma_places u := rfl
theorem mq_places_priorities (u : MS) (v : Nat → Int32) : ma_places (ms_priorities u v) = ma_places u := rfl
theorem mq_places_places (u : MS) (v : Nat → Int32) : ma_places (ms_places u v) = v := rfl
theorem mq_places_rows (u : MS) (v : Nat → Int32) : ma_places (ms_rows u v) = ma_places u := rfl
theorem mq_places_when (u : MS) (v : Nat → Int64) : ma_places (ms_when u v) = ma_places u := rfl
theorem mq_places_now (u : MS) (v : Int64) : ma_places (ms_now u v) = ma_places u := rfl
theorem mq_places_extras (u : MS) (v : Nat → Int32) : ma_places (ms_extras u v) = ma_places u := rfl
theorem mq_places_posts (u : MS) (v : Int32) : ma_places (ms_posts u v) = ma_places u := rfl
theorem mq_places_posted (u : MS) (v : Nat → Int32) : ma_places (ms_posted u v) = ma_places u := rfl
theorem mq_places_active (u : MS) (v : Int32) : ma_places (ms_active u v) = ma_places u := rfl
theorem mq_places_here (u : MS) (v : Int32) : ma_places (ms_here u v) = ma_places u := rfl
theorem mq_places_wanted (u : MS) (v : Int32) : ma_places (ms_wanted u v) = ma_places u := rfl
theorem mq_places_change (u : MS) (v : Int32) : ma_places (ms_change u v) = ma_places u := rfl
theorem mq_rows_made (u : MS) (v : Nat → Int32) : ma_rows (ms_made u v) = ma_rows u := rfl
theorem mq_rows_priorities (u : MS) (v : Nat → Int32) : ma_rows (ms_priorities u v) = ma_rows u := rfl
theorem mq_rows_places (u : MS) (v : Nat → Int32) : ma_rows (ms_places u v) = ma_rows u := rfl
theorem mq_rows_rows (u : MS) (v : Nat → Int32) : ma_rows (ms_rows u v) = v := rfl
theorem mq_rows_when (u : MS) (v : Nat → Int64) : ma_rows (ms_when u v) = ma_rows u := rfl
theorem mq_rows_now (u : MS) (v : Int64) : ma_rows (ms_now u v) = ma_rows u := rfl
theorem mq_rows_extras (u : MS) (v : Nat → Int32) : ma_rows (ms_extras u v) = ma_rows u := rfl
theorem mq_rows_posts (u : MS) (v : Int32) : ma_rows (ms_posts u v) = ma_rows u := rfl
theorem mq_rows_posted (u : MS) (v : Nat → Int32) : ma_rows (ms_posted u v) = ma_rows u := rfl
theorem mq_rows_active (u : MS) (v : Int32) : ma_rows (ms_active u v) = ma_rows u := rfl
theorem mq_rows_here (u : MS) (v : Int32) : ma_rows (ms_here u v) = ma_rows u := rfl
theorem mq_rows_wanted (u : MS) (v : Int32) : ma_rows (ms_wanted u v) = ma_rows u := rfl
theorem mq_rows_change (u : MS) (v : Int32) : ma_rows (ms_change u v) = ma_rows u := rfl
theorem mq_when_made (u : MS) (v : Nat → Int32) : ma_when (ms_made u v) = ma_when u := rfl
theorem mq_when_priorities (u : MS) (v : Nat → Int32) : ma_when (ms_priorities u v) = ma_when u := rfl
theorem mq_when_places (u : MS) (v : Nat → Int32) : ma_when (ms_places u v) = ma_when u := rfl
theorem mq_when_rows (u : MS) (v : Nat → Int32) : ma_when (ms_rows u v) = ma_when u := rfl
theorem mq_when_when (u : MS) (v : Nat → Int64) : ma_when (ms_when u v) = v := rfl
theorem mq_when_now (u : MS) (v : Int64) : ma_when (ms_now u v) = ma_when u := rfl
theorem mq_when_extras (u : MS) (v : Nat → Int32) : ma_when (ms_extras u v) = ma_when u := rfl
theorem mq_when_posts (u : MS) (v : Int32) : ma_when (ms_posts u v) = ma_when u := rfl
theorem mq_when_posted (u : MS) (v : Nat → Int32) : ma_when (ms_posted u v) = ma_when u := rfl
theorem mq_when_active (u : MS) (v : Int32) : ma_when (ms_active u v) = ma_when u := rfl
theorem mq_when_here (u : MS) (v : Int32) : ma_when (ms_here u v) = ma_when u := rfl
theorem mq_when_wanted (u : MS) (v : Int32) : ma_when (ms_wanted u v) = ma_when u := rfl
theorem mq_when_change (u : MS) (v : Int32) : ma_when (ms_change u v) = ma_when u := rfl
theorem mq_now_made (u : MS) (v : Nat → Int32) : ma_now (ms_made u v) = ma_now u := rfl
theorem mq_now_priorities (u : MS) (v : Nat → Int32) : ma_now (ms_priorities u v) = ma_now u := rfl
theorem mq_now_places (u : MS) (v : Nat → Int32) : ma_now (ms_places u v) = ma_now u := rfl
theorem mq_now_rows (u : MS) (v : Nat → Int32) : ma_now (ms_rows u v) = ma_now u := rfl
theorem mq_now_when (u : MS) (v : Nat → Int64) : ma_now (ms_when u v) = ma_now u := rfl
theorem mq_now_now (u : MS) (v : Int64) : ma_now (ms_now u v) = v := rfl
theorem mq_now_extras (u : MS) (v : Nat → Int32) : ma_now (ms_extras u v) = ma_now u := rfl
theorem mq_now_posts (u : MS) (v : Int32) : ma_now (ms_posts u v) = ma_now u := rfl
theorem mq_now_posted (u : MS) (v : Nat → Int32) : ma_now (ms_posted u v) = ma_now u := rfl
theorem mq_now_active (u : MS) (v : Int32) : ma_now (ms_active u v) = ma_now u := rfl
theorem mq_now_here (u : MS) (v : Int32) : ma_now (ms_here u v) = ma_now u := rfl
theorem mq_now_wanted (u : MS) (v : Int32) : ma_now (ms_wanted u v) = ma_now u := rfl
theorem mq_now_change (u : MS) (v : Int32) : ma_now (ms_change u v) = ma_now u := rfl
theorem mq_extras_made (u : MS) (v : Nat → Int32) : ma_extras (ms_made u v) = ma_extras u := rfl
theorem mq_extras_priorities (u : MS) (v : Nat → Int32) : ma_extras (ms_priorities u v) = ma_extras u := rfl
theorem mq_extras_places (u : MS) (v : Nat → Int32) : ma_extras (ms_places u v) = ma_extras u := rfl
theorem mq_extras_rows (u : MS) (v : Nat → Int32) : ma_extras (ms_rows u v) = ma_extras u := rfl
theorem mq_extras_when (u : MS) (v : Nat → Int64) : ma_extras (ms_when u v) = ma_extras u := rfl
theorem mq_extras_now (u : MS) (v : Int64) : ma_extras (ms_now u v) = ma_extras u := rfl
theorem mq_extras_extras (u : MS) (v : Nat → Int32) : ma_extras (ms_extras u v) = v := rfl
theorem mq_extras_posts (u : MS) (v : Int32) : ma_extras (ms_posts u v) = ma_extras u := rfl
theorem mq_extras_posted (u : MS) (v : Nat → Int32) : ma_extras (ms_posted u v) = ma_extras u := rfl
theorem mq_extras_active (u : MS) (v : Int32) : ma_extras (ms_active u v) = ma_extras u := rfl
theorem mq_extras_here (u : MS) (v : Int32) : ma_extras (ms_here u v) = ma_extras u := rfl
theorem mq_extras_wanted (u : MS) (v : Int32) : ma_extras (ms_wanted u v) = ma_extras u := rfl
theorem mq_extras_change (u : MS) (v : Int32) : ma_extras (ms_change u v) = ma_extras u := rfl
theorem mq_posts_made (u : MS) (v : Nat → Int32) : ma_posts (ms_made u v) = ma_posts u := rfl
theorem mq_posts_priorities (u : MS) (v : Nat → Int32) : ma_posts (ms_priorities u v) = ma_posts u := rfl
theorem mq_posts_places (u : MS) (v : Nat → Int32) : ma_posts (ms_places u v) = ma_posts u := rfl
theorem mq_posts_rows (u : MS) (v : Nat → Int32) : ma_posts (ms_rows u v) = ma_posts u := rfl
theorem mq_posts_when (u : MS) (v : Nat → Int64) : ma_posts (ms_when u v) = ma_posts u := rfl
theorem mq_posts_now (u : MS) (v : Int64) : ma_posts (ms_now u v) = ma_posts u := rfl
theorem mq_posts_extras (u : MS) (v : Nat → Int32) : ma_posts (ms_extras u v) = ma_posts u := rfl
theorem mq_posts_posts (u : MS) (v : Int32) : ma_posts (ms_posts u v) = v := rfl
theorem mq_posts_posted (u : MS) (v : Nat → Int32) : ma_posts (ms_posted u v) = ma_posts u := rfl
theorem mq_posts_active (u : MS) (v : Int32) : ma_posts (ms_active u v) = ma_posts u := rfl
theorem mq_posts_here (u : MS) (v : Int32) : ma_posts (ms_here u v) = ma_posts u := rfl
theorem mq_posts_wanted (u : MS) (v : Int32) : ma_posts (ms_wanted u v) = ma_posts u := rfl
theorem mq_posts_change (u : MS) (v : Int32) : ma_posts (ms_change u v) = ma_posts u := rfl
theorem mq_posted_made (u : MS) (v : Nat → Int32) : ma_posted (ms_made u v) = ma_posted u := rfl
theorem mq_posted_priorities (u : MS) (v : Nat → Int32) : ma_posted (ms_priorities u v) = ma_posted u := rfl
theorem mq_posted_places (u : MS) (v : Nat → Int32) : ma_posted (ms_places u v) = ma_posted u := rfl
theorem mq_posted_rows (u : MS) (v : Nat → Int32) : ma_posted (ms_rows u v) = ma_posted u := rfl
theorem mq_posted_when (u : MS) (v : Nat → Int64) : ma_posted (ms_when u v) = ma_posted u := rfl
theorem mq_posted_now (u : MS) (v : Int64) : ma_posted (ms_now u v) = ma_posted u := rfl
theorem mq_posted_extras (u : MS) (v : Nat → Int32) : ma_posted (ms_extras u v) = ma_posted u := rfl
theorem mq_posted_posts (u : MS) (v : Int32) : ma_posted (ms_posts u v) = ma_posted u := rfl
theorem mq_posted_posted (u : MS) (v : Nat → Int32) : ma_posted (ms_posted u v) = v := rfl
theorem mq_posted_active (u : MS) (v : Int32) : ma_posted (ms_active u v) = ma_posted u := rfl
theorem mq_posted_here (u : MS) (v : Int32) : ma_posted (ms_here u v) = ma_posted u := rfl
theorem mq_posted_wanted (u : MS) (v : Int32) : ma_posted (ms_wanted u v) = ma_posted u := rfl
theorem mq_posted_change (u : MS) (v : Int32) : ma_posted (ms_change u v) = ma_posted u := rfl
theorem mq_active_made (u : MS) (v : Nat → Int32) : ma_active (ms_made u v) = ma_active u := rfl
theorem mq_active_priorities (u : MS) (v : Nat → Int32) : ma_active (ms_priorities u v) = ma_active u := rfl
theorem mq_active_places (u : MS) (v : Nat → Int32) : ma_active (ms_places u v) = ma_active u := rfl
theorem mq_active_rows (u : MS) (v : Nat → Int32) : ma_active (ms_rows u v) = ma_active u := rfl
theorem mq_active_when (u : MS) (v : Nat → Int64) : ma_active (ms_when u v) = ma_active u := rfl
theorem mq_active_now (u : MS) (v : Int64) : ma_active (ms_now u v) = ma_active u := rfl
theorem mq_active_extras (u : MS) (v : Nat → Int32) : ma_active (ms_extras u v) = ma_active u := rfl
theorem mq_active_posts (u : MS) (v : Int32) : ma_active (ms_posts u v) = ma_active u := rfl
theorem mq_active_posted (u : MS) (v : Nat → Int32) : ma_active (ms_posted u v) = ma_active u := rfl
theorem mq_active_active (u : MS) (v : Int32) : ma_active (ms_active u v) = v := rfl
theorem mq_active_here (u : MS) (v : Int32) : ma_active (ms_here u v) = ma_active u := rfl
theorem mq_active_wanted (u : MS) (v : Int32) : ma_active (ms_wanted u v) = ma_active u := rfl
theorem mq_active_change (u : MS) (v : Int32) : ma_active (ms_change u v) = ma_active u := rfl
theorem mq_here_made (u : MS) (v : Nat → Int32) : ma_here (ms_made u v) = ma_here u := rfl
theorem mq_here_priorities (u : MS) (v : Nat → Int32) : ma_here (ms_priorities u v) = ma_here u := rfl
theorem mq_here_places (u : MS) (v : Nat → Int32) : ma_here (ms_places u v) = ma_here u := rfl
theorem mq_here_rows (u : MS) (v : Nat → Int32) : ma_here (ms_rows u v) = ma_here u := rfl
theorem mq_here_when (u : MS) (v : Nat → Int64) : ma_here (ms_when u v) = ma_here u := rfl
theorem mq_here_now (u : MS) (v : Int64) : ma_here (ms_now u v) = ma_here u := rfl
theorem mq_here_extras (u : MS) (v : Nat → Int32) : ma_here (ms_extras u v) = ma_here u := rfl
theorem mq_here_posts (u : MS) (v : Int32) : ma_here (ms_posts u v) = ma_here u := rfl
theorem mq_here_posted (u : MS) (v : Nat → Int32) : ma_here (ms_posted u v) = ma_here u := rfl
theorem mq_here_active (u : MS) (v : Int32) : ma_here (ms_active u v) = ma_here u := rfl
theorem mq_here_here (u : MS) (v : Int32) : ma_here (ms_here u v) = v := rfl
theorem mq_here_wanted (u : MS) (v : Int32) : ma_here (ms_wanted u v) = ma_here u := rfl
theorem mq_here_change (u : MS) (v : Int32) : ma_here (ms_change u v) = ma_here u := rfl
theorem mq_wanted_made (u : MS) (v : Nat → Int32) : ma_wanted (ms_made u v) = ma_wanted u := rfl
theorem mq_wanted_priorities (u : MS) (v : Nat → Int32) : ma_wanted (ms_priorities u v) = ma_wanted u := rfl
theorem mq_wanted_places (u : MS) (v : Nat → Int32) : ma_wanted (ms_places u v) = ma_wanted u := rfl
theorem mq_wanted_rows (u : MS) (v : Nat → Int32) : ma_wanted (ms_rows u v) = ma_wanted u := rfl
theorem mq_wanted_when (u : MS) (v : Nat → Int64) : ma_wanted (ms_when u v) = ma_wanted u := rfl
theorem mq_wanted_now (u : MS) (v : Int64) : ma_wanted (ms_now u v) = ma_wanted u := rfl
theorem mq_wanted_extras (u : MS) (v : Nat → Int32) : ma_wanted (ms_extras u v) = ma_wanted u := rfl
theorem mq_wanted_posts (u : MS) (v : Int32) : ma_wanted (ms_posts u v) = ma_wanted u := rfl
theorem mq_wanted_posted (u : MS) (v : Nat → Int32) : ma_wanted (ms_posted u v) = ma_wanted u := rfl
theorem mq_wanted_active (u : MS) (v : Int32) : ma_wanted (ms_active u v) = ma_wanted u := rfl
theorem mq_wanted_here (u : MS) (v : Int32) : ma_wanted (ms_here u v) = ma_wanted u := rfl
theorem mq_wanted_wanted (u : MS) (v : Int32) : ma_wanted (ms_wanted u v) = v := rfl
theorem mq_wanted_change (u : MS) (v : Int32) : ma_wanted (ms_change u v) = ma_wanted u := rfl
theorem mq_change_made (u : MS) (v : Nat → Int32) : ma_change (ms_made u v) = ma_change u := rfl
theorem mq_change_priorities (u : MS) (v : Nat → Int32) : ma_change (ms_priorities u v) = ma_change u := rfl
theorem mq_change_places (u : MS) (v : Nat → Int32) : ma_change (ms_places u v) = ma_change u := rfl
theorem mq_change_rows (u : MS) (v : Nat → Int32) : ma_change (ms_rows u v) = ma_change u := rfl
theorem mq_change_when (u : MS) (v : Nat → Int64) : ma_change (ms_when u v) = ma_change u := rfl
theorem mq_change_now (u : MS) (v : Int64) : ma_change (ms_now u v) = ma_change u := rfl
theorem mq_change_extras (u : MS) (v : Nat → Int32) : ma_change (ms_extras u v) = ma_change u := rfl
theorem mq_change_posts (u : MS) (v : Int32) : ma_change (ms_posts u v) = ma_change u := rfl
theorem mq_change_posted (u : MS) (v : Nat → Int32) : ma_change (ms_posted u v) = ma_change u := rfl
theorem mq_change_active (u : MS) (v : Int32) : ma_change (ms_active u v) = ma_change u := rfl
theorem mq_change_here (u : MS) (v : Int32) : ma_change (ms_here u v) = ma_change u := rfl
theorem mq_change_wanted (u : MS) (v : Int32) : ma_change (ms_wanted u v) = ma_change u := rfl
theorem mq_change_change (u : MS) (v : Int32) : ma_change (ms_change u v) = v := rfl
def mF (ad : Nat → Nat) (u : MS) : List Value := [.ref (ad 1), .ref (ad 2), .ref (ad 3), .ref (ad 4), .ref (ad 5), .long (ma_now u), .ref (ad 6), .int (ma_posts u), .ref (ad 7), .int (ma_active u), .int (ma_here u), .int (ma_wanted u), .int (ma_change u)]
def mW (ad : Nat → Nat) (cA : Nat → ClassId) (u : MS) : va_W := [(ad 0, .inr (1, mF ad u)), (ad 1, .inl (cA 1, 32, .inl (ma_made u))), (ad 2, .inl (cA 2, 32, .inl (ma_priorities u))), (ad 3, .inl (cA 3, 32, .inl (ma_places u))), (ad 4, .inl (cA 4, 32, .inl (ma_rows u))), (ad 5, .inl (cA 5, 32, .inr (.inl (ma_when u)))), (ad 6, .inl (cA 6, 16, .inl (ma_extras u))), (ad 7, .inl (cA 7, 40, .inl (ma_posted u)))]
theorem mw_made (ad : Nat → Nat) (cA : Nat → ClassId) (u : MS) (f : Nat → Int32) : (mW ad cA u).set 1 (ad 1, .inl (cA 1, 32, .inl f)) = mW ad cA (ms_made u f) := rfl
theorem mw_priorities (ad : Nat → Nat) (cA : Nat → ClassId) (u : MS) (f : Nat → Int32) : (mW ad cA u).set 2 (ad 2, .inl (cA 2, 32, .inl f)) = mW ad cA (ms_priorities u f) := rfl
theorem mw_places (ad : Nat → Nat) (cA : Nat → ClassId) (u : MS) (f : Nat → Int32) : (mW ad cA u).set 3 (ad 3, .inl (cA 3, 32, .inl f)) = mW ad cA (ms_places u f) := rfl
theorem mw_rows (ad : Nat → Nat) (cA : Nat → ClassId) (u : MS) (f : Nat → Int32) : (mW ad cA u).set 4 (ad 4, .inl (cA 4, 32, .inl f)) = mW ad cA (ms_rows u f) := rfl
theorem mw_when (ad : Nat → Nat) (cA : Nat → ClassId) (u : MS) (f : Nat → Int64) : (mW ad cA u).set 5 (ad 5, .inl (cA 5, 32, .inr (.inl f))) = mW ad cA (ms_when u f) := rfl
theorem mw_now (ad : Nat → Nat) (cA : Nat → ClassId) (u : MS) (v : Int64) : (mW ad cA u).set 0 (ad 0, .inr (1, (mF ad u).set 5 (.long v))) = mW ad cA (ms_now u v) := rfl
theorem mw_extras (ad : Nat → Nat) (cA : Nat → ClassId) (u : MS) (f : Nat → Int32) : (mW ad cA u).set 6 (ad 6, .inl (cA 6, 16, .inl f)) = mW ad cA (ms_extras u f) := rfl
theorem mw_posts (ad : Nat → Nat) (cA : Nat → ClassId) (u : MS) (v : Int32) : (mW ad cA u).set 0 (ad 0, .inr (1, (mF ad u).set 7 (.int v))) = mW ad cA (ms_posts u v) := rfl
theorem mw_posted (ad : Nat → Nat) (cA : Nat → ClassId) (u : MS) (f : Nat → Int32) : (mW ad cA u).set 7 (ad 7, .inl (cA 7, 40, .inl f)) = mW ad cA (ms_posted u f) := rfl
theorem mw_active (ad : Nat → Nat) (cA : Nat → ClassId) (u : MS) (v : Int32) : (mW ad cA u).set 0 (ad 0, .inr (1, (mF ad u).set 9 (.int v))) = mW ad cA (ms_active u v) := rfl
theorem mw_here (ad : Nat → Nat) (cA : Nat → ClassId) (u : MS) (v : Int32) : (mW ad cA u).set 0 (ad 0, .inr (1, (mF ad u).set 10 (.int v))) = mW ad cA (ms_here u v) := rfl
theorem mw_wanted (ad : Nat → Nat) (cA : Nat → ClassId) (u : MS) (v : Int32) : (mW ad cA u).set 0 (ad 0, .inr (1, (mF ad u).set 11 (.int v))) = mW ad cA (ms_wanted u v) := rfl
theorem mw_change (ad : Nat → Nat) (cA : Nat → ClassId) (u : MS) (v : Int32) : (mW ad cA u).set 0 (ad 0, .inr (1, (mF ad u).set 12 (.int v))) = mW ad cA (ms_change u v) := rfl
def mT (cA : Nat → ClassId) : List (ClassId × FieldType) := [(cA 1, .boolean), (cA 2, .int), (cA 3, .int), (cA 4, .int), (cA 5, .long), (cA 6, .int), (cA 7, .int)]
def mAt (dC : Nat → ClassId) (dI : Nat → Nat → Nat) (A : Nat → Prop) (ad : Nat → Nat) (cA : Nat → ClassId) (u : MS) (t : State) : Prop := va_P (dC, dI) vwCl (mW ad cA u) t.heap ∧ va_K (dC, dI) vwCl (mT cA) t ∧ va_D A (mW ad cA u)
def mf_isProcess (p1 : Int32) : Int32 := (if p1 < 0 then 0 else (if 32 ≤ p1 then 0 else 1))
def mf_isSemaphore (p1 : Int32) : Int32 := (if p1 < 0 then 0 else (if 16 ≤ p1 then 0 else 1))
def mf_isPriority (p1 : Int32) : Int32 := (if p1 < 1 then 0 else (if 8 < p1 then 0 else 1))
def mf_isMade (u : MS) (p1 : Int32) : Int32 := (if (mf_isProcess p1) = 0 then 0 else (if ma_made u p1.toNatClampNeg = 0 then 0 else 1))
def mf_presentOne (u : MS)  : Int32 := (if ma_wanted u = 0 then ma_active u else ma_change u)
def mf_present (u : MS)  : Int32 := (mf_presentOne u)
def mf_active (u : MS)  : Int32 := ma_active u
def mf_wanted (u : MS)  : Int32 := ma_wanted u
def mf_here (u : MS)  : Int32 := ma_here u
def mf_place (u : MS) (p1 : Int32) : Int32 := (if (mf_isMade u p1) = 0 then 0 else ma_places u p1.toNatClampNeg)
def mf_priority (u : MS) (p1 : Int32) : Int32 := (if (mf_isMade u p1) = 0 then (-1) else ma_priorities u p1.toNatClampNeg)
def mf_row (u : MS) (p1 : Int32) : Int32 := (if (mf_isMade u p1) = 0 then (-1) else ma_rows u p1.toNatClampNeg)
def ml_find2 (u : MS) (p1 : Int32) (p2 : Int32) (x4 : Int32) : Nat → Int32 → Int32 → Int32
  | 0, _, _ => 0
  | n + 1, x5, x6 => (if 32 ≤ x6 then x5 else (if x4 < 0 then (if ma_made u x6.toNatClampNeg = 0 then (ml_find2 u p1 p2 x4 n x5 (x6 + 1)) else (if ma_rows u x6.toNatClampNeg = p1 then (if x5 < 0 then (ml_find2 u p1 p2 x4 n x6 (x6 + 1)) else (if 0 ≤ lg_cmp (ma_when u x6.toNatClampNeg) (ma_when u x5.toNatClampNeg) then (ml_find2 u p1 p2 x4 n x5 (x6 + 1)) else (ml_find2 u p1 p2 x4 n x6 (x6 + 1)))) else (ml_find2 u p1 p2 x4 n x5 (x6 + 1)))) else (if lg_cmp (ma_when u x6.toNatClampNeg) (ma_when u x4.toNatClampNeg) ≤ 0 then (if ma_made u x6.toNatClampNeg = 0 then (ml_find2 u p1 p2 x4 n x5 (x6 + 1)) else (if ma_rows u x6.toNatClampNeg = p1 then (ml_find2 u p1 p2 x4 n x5 (x6 + 1)) else (ml_find2 u p1 p2 x4 n x5 (x6 + 1)))) else (if ma_made u x6.toNatClampNeg = 0 then (ml_find2 u p1 p2 x4 n x5 (x6 + 1)) else (if ma_rows u x6.toNatClampNeg = p1 then (if x5 < 0 then (ml_find2 u p1 p2 x4 n x6 (x6 + 1)) else (if 0 ≤ lg_cmp (ma_when u x6.toNatClampNeg) (ma_when u x5.toNatClampNeg) then (ml_find2 u p1 p2 x4 n x5 (x6 + 1)) else (ml_find2 u p1 p2 x4 n x6 (x6 + 1)))) else (ml_find2 u p1 p2 x4 n x5 (x6 + 1)))))))
def ml_find (u : MS) (p1 : Int32) (p2 : Int32) : Nat → Int32 → Int32 → Int32
  | 0, _, _ => 0
  | n + 1, x3, x4 => (if x3 < 0 then x4 else (if 0 ≤ (ml_find2 u p1 p2 x4 33 (-1) 0) then (ml_find u p1 p2 n (x3 - 1) (ml_find2 u p1 p2 x4 33 (-1) 0)) else (-1)))
def mf_find (u : MS) (p1 : Int32) (p2 : Int32) : Int32 := (ml_find u p1 p2 33 p2 (-1))
def mf_at (u : MS) (p1 : Int32) (p2 : Int32) : Int32 := (if (mf_isPriority p1) = 0 then (if p1 < 16 then (-1) else (if 32 ≤ p1 then (-1) else (if p2 < 0 then (-1) else (if 32 ≤ p2 then (-1) else (mf_find u p1 p2))))) else (if p2 < 0 then (-1) else (if 32 ≤ p2 then (-1) else (mf_find u p1 p2))))
def mf_extra (u : MS) (p1 : Int32) : Int32 := (if (mf_isSemaphore p1) = 0 then (-1) else ma_extras u p1.toNatClampNeg)
def mf_posted (u : MS) (p1 : Int32) : Int32 := (if p1 < 0 then (-1) else (if ma_posts u ≤ p1 then (-1) else ma_posted u p1.toNatClampNeg))
def mf_want (u : MS) (p1 : Int32) : MS := (ms_change (ms_wanted u 1) p1)
def mf_enter (u : MS) (p1 : Int32) (p2 : Int32) : MS := (ms_now (ms_when (ms_rows u (upd (ma_rows u) p1.toNatClampNeg p2)) (vp_updL (ma_when u) p1.toNatClampNeg (ma_now u))) ((ma_now u) + 1))
def mf_wake (u : MS) (p1 : Int32) : MS := (if (mf_presentOne u) < 0 then (mf_want (ms_rows u (upd (ma_rows u) p1.toNatClampNeg 0)) p1) else (if ma_priorities u (mf_presentOne u).toNatClampNeg < ma_priorities u p1.toNatClampNeg then (mf_want (ms_rows (mf_enter u (mf_presentOne u) (ma_priorities u (mf_presentOne u).toNatClampNeg)) (upd (ma_rows (mf_enter u (mf_presentOne u) (ma_priorities u (mf_presentOne u).toNatClampNeg))) p1.toNatClampNeg 0)) p1) else (mf_enter u p1 (ma_priorities u p1.toNatClampNeg))))
def ml_putAside (u : MS) : Nat → Int32 → Int32 → MS
  | 0, _, _ => u
  | n + 1, x1, x2 => (if 8 < x2 then (if x1 < 0 then (mf_want u x1) else (mf_want (ms_rows u (upd (ma_rows u) x1.toNatClampNeg 0)) x1)) else (if (mf_find u x2 0) < 0 then (ml_putAside u n x1 (x2 + 1)) else (ml_putAside u n (mf_find u x2 0) (x2 + 1))))
def mf_putAside (u : MS)  : MS := (ml_putAside u 9 (-1) 1)
def mf_give (u : MS) (p1 : Int32) : MS := (if 0 ≤ (mf_find u (16 + p1) 0) then (mf_wake (ms_rows u (upd (ma_rows u) (mf_find u (16 + p1) 0).toNatClampNeg 0)) (mf_find u (16 + p1) 0)) else (ms_extras u (upd (ma_extras u) p1.toNatClampNeg ((ma_extras u p1.toNatClampNeg) + 1))))
def mf_signal (u : MS) (p1 : Int32) : Int32 × MS := (if (mf_isSemaphore p1) = 0 then (0, u) else (1, (mf_give u p1)))
def mf_make (u : MS) (p1 : Int32) (p2 : Int32) (p3 : Int32) : Int32 × MS := (if (mf_isProcess p1) = 0 then (0, u) else (if ma_made u p1.toNatClampNeg = 0 then (if (mf_isPriority p2) = 0 then (0, u) else (1, (ms_rows (ms_places (ms_priorities (ms_made u (upd (ma_made u) p1.toNatClampNeg 1)) (upd (ma_priorities u) p1.toNatClampNeg p2)) (upd (ma_places u) p1.toNatClampNeg p3)) (upd (ma_rows u) p1.toNatClampNeg 0)))) else (0, u)))
def mf_resume (u : MS) (p1 : Int32) : Int32 × MS := (if (mf_isMade u p1) = 0 then (0, u) else (if ma_rows u p1.toNatClampNeg = 0 then (if p1 = (mf_presentOne u) then (0, u) else (if p1 = ma_active u then (0, u) else (1, (mf_wake u p1)))) else (0, u)))
def mf_suspend (u : MS)  : Int32 × MS := (if (mf_presentOne u) < 0 then ((mf_presentOne u), u) else ((mf_presentOne u), (mf_putAside u)))
def mf_end (u : MS)  : Int32 × MS := (if (mf_presentOne u) < 0 then ((mf_presentOne u), u) else (if (mf_presentOne u) = ma_active (mf_putAside (ms_made u (upd (ma_made u) (mf_presentOne u).toNatClampNeg 0))) then ((mf_presentOne u), (ms_active (mf_putAside (ms_made u (upd (ma_made u) (mf_presentOne u).toNatClampNeg 0))) (-1))) else ((mf_presentOne u), (ms_active (mf_putAside (ms_made u (upd (ma_made u) (mf_presentOne u).toNatClampNeg 0))) (ma_active (mf_putAside (ms_made u (upd (ma_made u) (mf_presentOne u).toNatClampNeg 0))))))))
def mf_await (u : MS) (p1 : Int32) : Int32 × MS := (if (mf_isSemaphore p1) = 0 then ((-1), u) else (if 0 ≤ (mf_presentOne u) then (if ma_extras u p1.toNatClampNeg ≤ 0 then (0, (mf_putAside (mf_enter u (mf_presentOne u) (16 + p1)))) else (1, (ms_extras u (upd (ma_extras u) p1.toNatClampNeg ((ma_extras u p1.toNatClampNeg) - 1))))) else ((-1), u)))
def mf_post (u : MS) (p1 : Int32) : Int32 × MS := (if (mf_isSemaphore p1) = 0 then ((-1), u) else (if ma_posts u = 40 then ((-1), u) else ((ma_posts u) + 1, (ms_posts (ms_posted u (upd (ma_posted u) (ma_posts u).toNatClampNeg p1)) ((ma_posts u) + 1)))))
def ml_step  : Nat → MS → Int32 → Int32 × MS
  | 0, u2, _ => (0, u2)
  | n + 1, u2, x1 => (if ma_posts u2 ≤ x1 then (if ma_wanted u2 = 0 then (ma_active u2, (ms_posts u2 0)) else (if ma_active u2 < 0 then (if ma_change u2 < 0 then (ma_change u2, (ms_wanted (ms_here (ms_active (ms_posts u2 0) (ma_change u2)) 0) 0)) else (ma_change u2, (ms_wanted (ms_here (ms_active (ms_posts u2 0) (ma_change u2)) (ma_places u2 (ma_change u2).toNatClampNeg)) 0))) else (if ma_change u2 < 0 then (ma_change u2, (ms_wanted (ms_here (ms_active (ms_places (ms_posts u2 0) (upd (ma_places u2) (ma_active u2).toNatClampNeg (ma_here u2))) (ma_change u2)) 0) 0)) else (ma_change u2, (ms_wanted (ms_here (ms_active (ms_places (ms_posts u2 0) (upd (ma_places u2) (ma_active u2).toNatClampNeg (ma_here u2))) (ma_change u2)) ((upd (ma_places u2) (ma_active u2).toNatClampNeg (ma_here u2)) (ma_change u2).toNatClampNeg)) 0))))) else (ml_step  n (mf_give u2 (ma_posted u2 x1.toNatClampNeg)) (x1 + 1)))
def mf_step (u : MS)  : Int32 × MS := (ml_step  41 u 0)
def mf_work (u : MS) (p1 : Int32) : Int32 × MS := (if p1 < 1 then (0, u) else (if 1000 < p1 then (0, u) else (if ma_active u < 0 then (0, u) else (if ma_wanted u = 0 then (1, (ms_here u ((ma_here u) + p1))) else (0, u)))))
def mf_take (u : MS) (p1 : Int32) : Int32 × MS := (if (mf_isMade u p1) = 0 then (0, u) else (if ma_rows u p1.toNatClampNeg = 0 then (0, u) else (1, (ms_rows u (upd (ma_rows u) p1.toNatClampNeg 0)))))
def mf_rate (u : MS) (p1 : Int32) (p2 : Int32) : Int32 × MS := (if (mf_isMade u p1) = 0 then ((-1), u) else (if (mf_isPriority p2) = 0 then ((-1), u) else (ma_priorities u p1.toNatClampNeg, (ms_priorities u (upd (ma_priorities u) p1.toNatClampNeg p2)))))
def mf_yield (u : MS)  : Int32 × MS := (if (mf_presentOne u) < 0 then (0, u) else (if 0 ≤ (mf_find u (ma_priorities u (mf_presentOne u).toNatClampNeg) 0) then (1, (mf_putAside (mf_enter u (mf_presentOne u) (ma_priorities u (mf_presentOne u).toNatClampNeg)))) else (0, u)))
end
section
theorem k_nle {a b : Nat} (h : a < b) (hb : b < 2147483648) : ¬ nI b ≤ nI a := nI_ge h (by omega)
theorem k_clamp {n : Nat} (h : n < 2147483648) : (nI n).toNatClampNeg = n := nI_clamp (by omega)
def mOk (x : Int32) : Prop := x < 0 ∨ vp_in x 32
def mInv (u : MS) : Prop := (ma_active u < 0 ∨ vp_in (ma_active u) 32) ∧ (ma_change u < 0 ∨ vp_in (ma_change u) 32) ∧ (∃ a : Nat, a ≤ 40 ∧ ma_posts u = nI a ∧ ∀ k : Nat, k < a → vp_in (ma_posted u k) 16) ∧ (ma_wanted u = 0 ∨ ma_wanted u = 1)
theorem mi_isProcess {r x : Int32} (h : r = mf_isProcess x) (c : ¬ r = 0) : vp_in x 32 := ri_isProcess h c
theorem mi_isSemaphore {r x : Int32} (h : r = mf_isSemaphore x) (c : ¬ r = 0) : vp_in x 16 := ri_isSemaphore h c
theorem mi_isMade {u : MS} {r x : Int32} (h : r = mf_isMade u x) (c : ¬ r = 0) : vp_in x 32 := by
  subst h
  unfold mf_isMade at c
  by_cases h1 : mf_isProcess x = 0
  · rw [if_pos h1] at c
    exact absurd rfl c
  · exact mi_isProcess rfl h1
theorem mi_ge {x : Int32} (h : x < 0 ∨ vp_in x 32) (c : ¬ x < 0) : vp_in x 32 := h.resolve_left c
theorem mi_nlt {x : Int32} (c : 0 ≤ x) : ¬ x < 0 := by
  rw [Int32.le_iff_toInt_le] at c
  rw [Int32.lt_iff_toInt_lt]
  omega
theorem mi_le {x : Int32} (h : x < 0 ∨ vp_in x 32) (c : 0 ≤ x) : vp_in x 32 := mi_ge h (mi_nlt c)
theorem mi_presentOk {u : MS} (hI : mInv u) : mf_presentOne u < 0 ∨ vp_in (mf_presentOne u) 32 := by
  unfold mf_presentOne
  split
  · exact hI.1
  · exact hI.2.1
theorem mi_presentOne {u : MS} {r : Int32} (h : r = mf_presentOne u) (hI : mInv u) (c : ¬ r < 0) : vp_in r 32 := by
  subst h
  exact mi_ge (mi_presentOk hI) c
theorem mi_presentOne2 {u : MS} {r : Int32} (h : r = mf_presentOne u) (hI : mInv u) (c : 0 ≤ r) : vp_in r 32 := mi_presentOne h hI (mi_nlt c)
theorem mi_find2L (u : MS) (a b x4 : Int32) : ∀ (n : Nat) (x5 x6 : Int32), (x5 < 0 ∨ vp_in x5 32) → (∃ k : Nat, x6 = nI k ∧ k + n = 33) → (ml_find2 u a b x4 n x5 x6 < 0 ∨ vp_in (ml_find2 u a b x4 n x5 x6) 32) := by
  intro n
  induction n with
  | zero => intro x5 x6 _ _; exact Or.inr (by unfold ml_find2; exact vp_in_nI (n := 0) (N := 32) (by omega) (by omega))
  | succ n ih =>
    intro x5 x6 h5 ⟨k, hk, hkn⟩
    by_cases hc : 32 ≤ x6
    · simp only [ml_find2, if_pos hc]
      exact h5
    · have hk2 := k_lt 32 hk (by omega) rfl hc
      have h6 : x6 < 0 ∨ vp_in x6 32 := Or.inr (k_in hk hk2 (by omega))
      have hn : ∃ k : Nat, x6 + 1 = nI k ∧ k + n = 33 := ⟨k + 1, by rw [hk, nI_1], by omega⟩
      have i5 := ih x5 (x6 + 1) h5 hn
      have i6 := ih x6 (x6 + 1) h6 hn
      generalize e5 : ml_find2 u a b x4 n x5 (x6 + 1) = r5 at i5
      generalize e6 : ml_find2 u a b x4 n x6 (x6 + 1) = r6 at i6
      simp only [ml_find2, if_neg hc, e5, e6]
      repeat' split
      all_goals first | exact i5 | exact i6
theorem mi_find2 {u : MS} {a b x4 B : Int32} (h : B = ml_find2 u a b x4 33 (-1) 0) : B < 0 ∨ vp_in B 32 := by
  rw [h]
  exact mi_find2L u a b x4 33 (-1) 0 (Or.inl (by decide)) ⟨0, nI_0.symm, by omega⟩
theorem mi_findL (u : MS) (a b : Int32) : ∀ (n : Nat) (x3 x4 : Int32), (x4 < 0 ∨ vp_in x4 32) → (ml_find u a b n x3 x4 < 0 ∨ vp_in (ml_find u a b n x3 x4) 32) := by
  intro n
  induction n with
  | zero => intro x3 x4 _; exact Or.inr (by unfold ml_find; exact vp_in_nI (n := 0) (N := 32) (by omega) (by omega))
  | succ n ih =>
    intro x3 x4 h4
    obtain ⟨B, hB⟩ : ∃ B, B = ml_find2 u a b x4 33 (-1) 0 := ⟨_, rfl⟩
    have i1 := ih (x3 - 1) B (mi_find2 hB)
    generalize e1 : ml_find u a b n (x3 - 1) B = r1 at i1
    simp only [ml_find, ← hB, e1]
    split
    · exact h4
    · split
      · exact i1
      · exact Or.inl (by decide)
theorem mi_find {u : MS} {r a b : Int32} (h : r = mf_find u a b) : r < 0 ∨ vp_in r 32 := by
  rw [h]
  exact mi_findL u a b 33 b (-1) (Or.inl (by decide))
theorem mi_arg {x : Int32} (c0 : ¬ x < 0) (c1 : ¬ 32 ≤ x) : ∃ a : Nat, a < 32 ∧ x = nI a := vp_in_of (k_in2 c0 c1 rfl) (by omega)
theorem mi_pos {x : Int32} {j : Nat} (hj : x = nI j + (-1)) (_ : j < 2147483648) (c : ¬ x < 0) : 1 ≤ j := by
  rcases Nat.eq_zero_or_pos j with h | h
  · subst h
    subst hj
    exact absurd (by decide) c
  · exact h
theorem mi_pred {j : Nat} (h : 1 ≤ j) : nI j + (-1) - 1 = nI (j - 1) + (-1) := by
  rw [k_pred h, Int32.sub_eq_add_neg]
theorem mi_le8 {x : Int32} {j : Nat} (hj : x = nI j) (hb : j < 2147483648) (c : ¬ 8 < x) : j ≤ 8 := by
  rw [Int32.lt_iff_toInt_lt, hj, nI_toInt (by omega), show (8 : Int32).toInt = 8 from rfl] at c
  omega
theorem mi_nn {x : Int32} {j : Nat} (hj : x = nI j) (hb : j < 2147483648) : ¬ x < 0 := by
  rw [hj]
  exact nI_pos (by omega)
theorem mi_post {u : MS} (hI : mInv u) (c : ¬ ma_posts u = 40) : vp_in (ma_posts u) 40 := by
  obtain ⟨a, h1, h2, -⟩ := hI.2.2.1
  have : a ≠ 40 := fun e => c (by rw [h2, e]; rfl)
  exact k_in h2 (by omega) (by omega)
theorem mi_below {u : MS} (hI : mInv u) {x : Int32} (c0 : ¬ x < 0) (c1 : ¬ ma_posts u ≤ x) : ∃ j : Nat, x = nI j ∧ j < 40 ∧ vp_in (ma_posted u j) 16 := by
  obtain ⟨a, h1, h2, h3⟩ := hI.2.2.1
  obtain ⟨j, hj, e⟩ := nI_of c0
  have hlt : j < a := by
    rw [h2, e, nI_leI (by omega) hj] at c1
    omega
  exact ⟨j, e, by omega, h3 j hlt⟩
theorem mi_posted {u : MS} (hI : mInv u) {x : Int32} (c0 : ¬ x < 0) (c1 : ¬ ma_posts u ≤ x) : vp_in x 40 := by
  obtain ⟨j, e, hj, -⟩ := mi_below hI c0 c1
  exact k_in e hj (by omega)
theorem mi_sem {u : MS} (hI : mInv u) {x : Int32} (c0 : ¬ x < 0) (c1 : ¬ ma_posts u ≤ x) : vp_in (ma_posted u x.toNatClampNeg) 16 := by
  obtain ⟨j, e, hj, h⟩ := mi_below hI c0 c1
  rw [e, nI_clamp (by omega)]
  exact h
theorem mi_jlt {u : MS} (hI : mInv u) {x : Int32} {j : Nat} (hj : x = nI j) (hb : j < 2147483648) (c1 : ¬ ma_posts u ≤ x) : j < 40 := by
  obtain ⟨i, e, hi, -⟩ := mi_below hI (mi_nn hj hb) c1
  rw [hj, nI_eq (by omega) (by omega)] at e
  omega
theorem mi_want {u : MS} {p1 : Int32} (hI : mInv u) (hp : p1 < 0 ∨ vp_in p1 32) : mInv (mf_want u p1) := ⟨hI.1, hp, hI.2.2.1, Or.inr rfl⟩
theorem mi_wake {u : MS} {p1 : Int32} (hI : mInv u) (hp : vp_in p1 32) : mInv (mf_wake u p1) := by
  unfold mf_wake
  split
  · exact ⟨hI.1, Or.inr hp, hI.2.2.1, Or.inr rfl⟩
  · split
    · exact ⟨hI.1, Or.inr hp, hI.2.2.1, Or.inr rfl⟩
    · exact hI
theorem mi_give {u v : MS} {p1 : Int32} (h : v = mf_give u p1) (hI : mInv u) : mInv v := by
  rw [h]
  obtain ⟨r, hr⟩ : ∃ r, r = mf_find u (16 + p1) 0 := ⟨_, rfl⟩
  have h1 : 0 ≤ r → mInv (mf_wake (ms_rows u (upd (ma_rows u) r.toNatClampNeg 0)) r) := fun c => mi_wake (u := ms_rows u (upd (ma_rows u) r.toNatClampNeg 0)) hI (mi_le (mi_find hr) c)
  generalize ew : mf_wake (ms_rows u (upd (ma_rows u) r.toNatClampNeg 0)) r = w at h1
  simp only [mf_give, ← hr, ew]
  split
  · rename_i c
    exact h1 c
  · exact hI
end
section
set_option maxHeartbeats 4000000 in
set_option maxRecDepth 100000 in
theorem mc_isProcess (l : Launch) (p1 : Int32) (T : Int32) (hf : mf_isProcess p1 = T) : Met l yM_isProcess wM_isProcess ({ frames := 0, cells := 0, slots := 0, locals := 0 } : Room) (va_Pc [.int p1] (fun _ => True)) (va_Qi (fun r (_ : Unit) => r = T) (fun _ _ => True) (fun _ => False)) 0 0 (fun _ => False) := by
  refine Met.ofW (cc := cM_isProcess) (maxL := 1) (ret := (some .boolean)) (by decide) rfl ?_
  intro p e s m args below meth c s₁ B hml hv
  obtain ⟨rfl, -⟩ := hv
  have hx := B.exec
  have hb := B.bytes
  have hr := B.returns
  have hts := atoms_spec (ws := wM_isProcess) B.pre
  have hown : s.vm.findClass RX1 = some m.cls := findClass_of_methodNamed B.named
  have hlocks := B.notSynchronized
  have hS : va_S (fun _ => False) s.heap s.heap [] := va_S.rf
  have hl := lv_entry ([.int p1]) (n := 1) (Nat.le_of_ble_eq_true rfl)
  rw [lg_entry_eq]
  generalize (lg_sl ([.int p1]) ++ List.replicate (1 - (lg_sl ([.int p1])).length) Slot.unset).toArray = ls at hl ⊢
  have hl : lv_has ls 1 [(0, .int p1)] := hl
  refine lv_iload_n hx hb dM_isProcess_0 rfl (lv_at hl 0 rfl) ?_
  refine lv_if_lt (tgt := 14) hx hb dM_isProcess_1 (by decide) (fun c_1 => ?_) (fun c_1 => ?_)
  · refine lv_iconst (v := 0) hx hb dM_isProcess_14 (by decide) ?_
    have eT : 0 = T := by rw [← hf]; simp only [mf_isProcess, if_pos c_1]
    exact W.zret (v := 0) hx hb hr (rfl) (fun t ht hW => ⟨⟨0, (), rfl, eT, trivial⟩, hS.F ht⟩) hS.2.2 dM_isProcess_15
  · refine lv_iload_n hx hb dM_isProcess_4 rfl (lv_at hl 0 rfl) ?_
    refine lv_bipush (v := 32) hx hb dM_isProcess_5 (by decide) ?_
    refine lv_icmp_ge (tgt := 14) hx hb dM_isProcess_7 (by decide) (fun c_2 => ?_) (fun c_2 => ?_)
    · refine lv_iconst (v := 0) hx hb dM_isProcess_14 (by decide) ?_
      have eT : 0 = T := by rw [← hf]; simp only [mf_isProcess, if_neg c_1, if_pos c_2]
      exact W.zret (v := 0) hx hb hr (rfl) (fun t ht hW => ⟨⟨0, (), rfl, eT, trivial⟩, hS.F ht⟩) hS.2.2 dM_isProcess_15
    · refine lv_iconst (v := 1) hx hb dM_isProcess_10 (by decide) ?_
      refine lv_goto (tgt := 15) hx hb dM_isProcess_11 (by decide) ?_
      have eT : 1 = T := by rw [← hf]; simp only [mf_isProcess, if_neg c_1, if_neg c_2]
      exact W.zret (v := 1) hx hb hr (rfl) (fun t ht hW => ⟨⟨1, (), rfl, eT, trivial⟩, hS.F ht⟩) hS.2.2 dM_isProcess_15
set_option maxHeartbeats 4000000 in
set_option maxRecDepth 100000 in
theorem mc_isSemaphore (l : Launch) (p1 : Int32) (T : Int32) (hf : mf_isSemaphore p1 = T) : Met l yM_isSemaphore wM_isSemaphore ({ frames := 0, cells := 0, slots := 0, locals := 0 } : Room) (va_Pc [.int p1] (fun _ => True)) (va_Qi (fun r (_ : Unit) => r = T) (fun _ _ => True) (fun _ => False)) 0 0 (fun _ => False) := by
  refine Met.ofW (cc := cM_isSemaphore) (maxL := 1) (ret := (some .boolean)) (by decide) rfl ?_
  intro p e s m args below meth c s₁ B hml hv
  obtain ⟨rfl, -⟩ := hv
  have hx := B.exec
  have hb := B.bytes
  have hr := B.returns
  have hts := atoms_spec (ws := wM_isSemaphore) B.pre
  have hown : s.vm.findClass RX1 = some m.cls := findClass_of_methodNamed B.named
  have hlocks := B.notSynchronized
  have hS : va_S (fun _ => False) s.heap s.heap [] := va_S.rf
  have hl := lv_entry ([.int p1]) (n := 1) (Nat.le_of_ble_eq_true rfl)
  rw [lg_entry_eq]
  generalize (lg_sl ([.int p1]) ++ List.replicate (1 - (lg_sl ([.int p1])).length) Slot.unset).toArray = ls at hl ⊢
  have hl : lv_has ls 1 [(0, .int p1)] := hl
  refine lv_iload_n hx hb dM_isSemaphore_0 rfl (lv_at hl 0 rfl) ?_
  refine lv_if_lt (tgt := 14) hx hb dM_isSemaphore_1 (by decide) (fun c_3 => ?_) (fun c_3 => ?_)
  · refine lv_iconst (v := 0) hx hb dM_isSemaphore_14 (by decide) ?_
    have eT : 0 = T := by rw [← hf]; simp only [mf_isSemaphore, if_pos c_3]
    exact W.zret (v := 0) hx hb hr (rfl) (fun t ht hW => ⟨⟨0, (), rfl, eT, trivial⟩, hS.F ht⟩) hS.2.2 dM_isSemaphore_15
  · refine lv_iload_n hx hb dM_isSemaphore_4 rfl (lv_at hl 0 rfl) ?_
    refine lv_bipush (v := 16) hx hb dM_isSemaphore_5 (by decide) ?_
    refine lv_icmp_ge (tgt := 14) hx hb dM_isSemaphore_7 (by decide) (fun c_4 => ?_) (fun c_4 => ?_)
    · refine lv_iconst (v := 0) hx hb dM_isSemaphore_14 (by decide) ?_
      have eT : 0 = T := by rw [← hf]; simp only [mf_isSemaphore, if_neg c_3, if_pos c_4]
      exact W.zret (v := 0) hx hb hr (rfl) (fun t ht hW => ⟨⟨0, (), rfl, eT, trivial⟩, hS.F ht⟩) hS.2.2 dM_isSemaphore_15
    · refine lv_iconst (v := 1) hx hb dM_isSemaphore_10 (by decide) ?_
      refine lv_goto (tgt := 15) hx hb dM_isSemaphore_11 (by decide) ?_
      have eT : 1 = T := by rw [← hf]; simp only [mf_isSemaphore, if_neg c_3, if_neg c_4]
      exact W.zret (v := 1) hx hb hr (rfl) (fun t ht hW => ⟨⟨1, (), rfl, eT, trivial⟩, hS.F ht⟩) hS.2.2 dM_isSemaphore_15
set_option maxHeartbeats 4000000 in
set_option maxRecDepth 100000 in
theorem mc_isPriority (l : Launch) (p1 : Int32) (T : Int32) (hf : mf_isPriority p1 = T) : Met l yM_isPriority wM_isPriority ({ frames := 0, cells := 0, slots := 0, locals := 0 } : Room) (va_Pc [.int p1] (fun _ => True)) (va_Qi (fun r (_ : Unit) => r = T) (fun _ _ => True) (fun _ => False)) 0 0 (fun _ => False) := by
  refine Met.ofW (cc := cM_isPriority) (maxL := 1) (ret := (some .boolean)) (by decide) rfl ?_
  intro p e s m args below meth c s₁ B hml hv
  obtain ⟨rfl, -⟩ := hv
  have hx := B.exec
  have hb := B.bytes
  have hr := B.returns
  have hts := atoms_spec (ws := wM_isPriority) B.pre
  have hown : s.vm.findClass RX1 = some m.cls := findClass_of_methodNamed B.named
  have hlocks := B.notSynchronized
  have hS : va_S (fun _ => False) s.heap s.heap [] := va_S.rf
  have hl := lv_entry ([.int p1]) (n := 1) (Nat.le_of_ble_eq_true rfl)
  rw [lg_entry_eq]
  generalize (lg_sl ([.int p1]) ++ List.replicate (1 - (lg_sl ([.int p1])).length) Slot.unset).toArray = ls at hl ⊢
  have hl : lv_has ls 1 [(0, .int p1)] := hl
  refine lv_iload_n hx hb dM_isPriority_0 rfl (lv_at hl 0 rfl) ?_
  refine lv_iconst (v := 1) hx hb dM_isPriority_1 (by decide) ?_
  refine lv_icmp_lt (tgt := 15) hx hb dM_isPriority_2 (by decide) (fun c_5 => ?_) (fun c_5 => ?_)
  · refine lv_iconst (v := 0) hx hb dM_isPriority_15 (by decide) ?_
    have eT : 0 = T := by rw [← hf]; simp only [mf_isPriority, if_pos c_5]
    exact W.zret (v := 0) hx hb hr (rfl) (fun t ht hW => ⟨⟨0, (), rfl, eT, trivial⟩, hS.F ht⟩) hS.2.2 dM_isPriority_16
  · refine lv_iload_n hx hb dM_isPriority_5 rfl (lv_at hl 0 rfl) ?_
    refine lv_bipush (v := 8) hx hb dM_isPriority_6 (by decide) ?_
    refine lv_icmp_gt (tgt := 15) hx hb dM_isPriority_8 (by decide) (fun c_6 => ?_) (fun c_6 => ?_)
    · refine lv_iconst (v := 0) hx hb dM_isPriority_15 (by decide) ?_
      have eT : 0 = T := by rw [← hf]; simp only [mf_isPriority, if_neg c_5, if_pos c_6]
      exact W.zret (v := 0) hx hb hr (rfl) (fun t ht hW => ⟨⟨0, (), rfl, eT, trivial⟩, hS.F ht⟩) hS.2.2 dM_isPriority_16
    · refine lv_iconst (v := 1) hx hb dM_isPriority_11 (by decide) ?_
      refine lv_goto (tgt := 16) hx hb dM_isPriority_12 (by decide) ?_
      have eT : 1 = T := by rw [← hf]; simp only [mf_isPriority, if_neg c_5, if_neg c_6]
      exact W.zret (v := 1) hx hb hr (rfl) (fun t ht hW => ⟨⟨1, (), rfl, eT, trivial⟩, hS.F ht⟩) hS.2.2 dM_isPriority_16
set_option maxHeartbeats 4000000 in
set_option maxRecDepth 100000 in
theorem mc_isMade (l : Launch) (dC : Nat → ClassId) (dI : Nat → Nat → Nat) (ad : Nat → Nat) (cA : Nat → ClassId) (u : MS) (p1 : Int32) (T : Int32) (hf : mf_isMade u p1 = T) : Met l yM_isMade wM_isMade ({ frames := 1, cells := 0, slots := 0, locals := 20 } : Room) (va_Pc [.ref (ad 0), .int p1] (fun U => va_P (dC, dI) vwCl (mW ad cA u) U.heap ∧ va_K (dC, dI) vwCl (mT cA) U)) (va_Qi (fun r (_ : Unit) => r = T) (fun _ _ => True) (fun _ => False)) 0 0 (fun _ => False) := by
  refine Met.ofW (cc := cM_isMade) (maxL := 2) (ret := (some .boolean)) (by decide) rfl ?_
  intro p e s m args below meth c s₁ B hml hv
  obtain ⟨rfl, hP, hK⟩ := hv
  have hx := B.exec
  have hb := B.bytes
  have hr := B.returns
  have hts := atoms_spec (ws := wM_isMade) B.pre
  have hown : s.vm.findClass RX1 = some m.cls := findClass_of_methodNamed B.named
  have hlocks := B.notSynchronized
  have hin0 : ∀ w ∈ wsX10, w ∈ wM_isMade := by decide +kernel
  have fl_made := hts (.fieldLink RX1 7 "ProcessRoomModel" "made" "[Z") (by decide +kernel)
  have hS : va_S (fun _ => False) s.heap s.heap [] := va_S.rf
  have hl := lv_entry ([.ref (ad 0), .int p1]) (n := 2) (Nat.le_of_ble_eq_true rfl)
  rw [lg_entry_eq]
  generalize (lg_sl ([.ref (ad 0), .int p1]) ++ List.replicate (2 - (lg_sl ([.ref (ad 0), .int p1])).length) Slot.unset).toArray = ls at hl ⊢
  have hl : lv_has ls 2 [(0, .ref (ad 0)), (1, .int p1)] := hl
  refine lv_iload_n hx hb dM_isMade_0 rfl (lv_at hl 1 rfl) ?_
  refine va_calli (va_runS (As := [.int p1]) (rest := []) ⟨hx, hb, hml, hown, hts⟩ (mc_isProcess l p1 _ rfl) (va_cwS 1 hts gM_isMade_isProcess rfl rfl rfl (by decide +kernel) ⟨Nat.le_of_ble_eq_true rfl, Nat.le_of_ble_eq_true rfl⟩) ⟨fun a U g mk q => ⟨q.1, trivial⟩, fun U hU hW => ⟨rfl, trivial⟩⟩ rfl rfl hl.1 rfl (lv_room (Nat.le_of_ble_eq_true rfl)) dM_isMade_1 ⟨Nat.le_of_ble_eq_true rfl, Nat.le_of_ble_eq_true rfl⟩) hS (fun _ _ h => h.elim) (fun _ h => h.elim) (fun r_7 u_ t H1 locs ht hvm hr_7 hB hz1 hk1 hS => ?_)
  have hP := hP.kept (fun k x hx => hk1 x.1 ((hP k x hx).lt) (fun h => h))
  generalize H1 = H at hP hS ⊢
  refine lv_if_eq (tgt := 20) hx hb dM_isMade_4 (by decide) (fun c_8 => ?_) (fun c_8 => ?_)
  · refine lv_iconst (v := 0) hx hb dM_isMade_20 (by decide) ?_
    have eT : 0 = T := by subst hr_7; rw [← hf]; simp only [mf_isMade, if_pos c_8]
    exact W.zret (v := 0) hx hb hr (rfl) (fun t ht hW => ⟨⟨0, (), rfl, eT, trivial⟩, hS.F ht⟩) hS.2.2 dM_isMade_21
  · refine lv_aload_n hx hb dM_isMade_7 rfl (lv_at hl 0 rfl) ?_
    refine va_get (D := (dC, dI)) (ci := 1) (v := .ref (ad 1)) (C := RX1) (T := TX1) (N := 13) (fs := mF ad u) hx hb hts hin0 hown hK hP 0 rfl rfl 0 (by decide) fl_made (fun _ h9 => h9) rfl dM_isMade_8 ?_
    refine lv_iload_n hx hb dM_isMade_11 rfl (lv_at hl 1 rfl) ?_
    refine va_zald hx hb hK hP 1 0 rfl rfl (mi_isProcess hr_7 c_8) dM_isMade_12 ?_
    refine lv_if_eq (tgt := 20) hx hb dM_isMade_13 (by decide) (fun c_9 => ?_) (fun c_9 => ?_)
    · refine lv_iconst (v := 0) hx hb dM_isMade_20 (by decide) ?_
      have eT : 0 = T := by subst hr_7; rw [← hf]; simp only [mf_isMade, if_neg c_8, if_pos c_9]
      exact W.zret (v := 0) hx hb hr (rfl) (fun t ht hW => ⟨⟨0, (), rfl, eT, trivial⟩, hS.F ht⟩) hS.2.2 dM_isMade_21
    · refine lv_iconst (v := 1) hx hb dM_isMade_16 (by decide) ?_
      refine lv_goto (tgt := 21) hx hb dM_isMade_17 (by decide) ?_
      have eT : 1 = T := by subst hr_7; rw [← hf]; simp only [mf_isMade, if_neg c_8, if_neg c_9]
      exact W.zret (v := 1) hx hb hr (rfl) (fun t ht hW => ⟨⟨1, (), rfl, eT, trivial⟩, hS.F ht⟩) hS.2.2 dM_isMade_21
set_option maxHeartbeats 4000000 in
set_option maxRecDepth 100000 in
theorem mc_presentOne (l : Launch) (dC : Nat → ClassId) (dI : Nat → Nat → Nat) (ad : Nat → Nat) (cA : Nat → ClassId) (u : MS)  (T : Int32) (hf : mf_presentOne u = T) : Met l yM_presentOne wM_presentOne ({ frames := 0, cells := 0, slots := 0, locals := 0 } : Room) (va_Pc [.ref (ad 0)] (fun U => va_P (dC, dI) vwCl (mW ad cA u) U.heap ∧ va_K (dC, dI) vwCl (mT cA) U)) (va_Qi (fun r (_ : Unit) => r = T) (fun _ _ => True) (fun _ => False)) 0 0 (fun _ => False) := by
  refine Met.ofW (cc := cM_presentOne) (maxL := 1) (ret := (some .int)) (by decide) rfl ?_
  intro p e s m args below meth c s₁ B hml hv
  obtain ⟨rfl, hP, hK⟩ := hv
  have hx := B.exec
  have hb := B.bytes
  have hr := B.returns
  have hts := atoms_spec (ws := wM_presentOne) B.pre
  have hown : s.vm.findClass RX1 = some m.cls := findClass_of_methodNamed B.named
  have hlocks := B.notSynchronized
  have hin0 : ∀ w ∈ wsX10, w ∈ wM_presentOne := by decide +kernel
  have fl_wanted := hts (.fieldLink RX1 48 "ProcessRoomModel" "wanted" "Z") (by decide +kernel)
  have fl_change := hts (.fieldLink RX1 37 "ProcessRoomModel" "change" "I") (by decide +kernel)
  have fl_active := hts (.fieldLink RX1 33 "ProcessRoomModel" "active" "I") (by decide +kernel)
  have hS : va_S (fun _ => False) s.heap s.heap [] := va_S.rf
  have hl := lv_entry ([.ref (ad 0)]) (n := 1) (Nat.le_of_ble_eq_true rfl)
  rw [lg_entry_eq]
  generalize (lg_sl ([.ref (ad 0)]) ++ List.replicate (1 - (lg_sl ([.ref (ad 0)])).length) Slot.unset).toArray = ls at hl ⊢
  have hl : lv_has ls 1 [(0, .ref (ad 0))] := hl
  refine lv_aload_n hx hb dM_presentOne_0 rfl (lv_at hl 0 rfl) ?_
  refine va_get (D := (dC, dI)) (ci := 1) (v := .int (ma_wanted u)) (C := RX1) (T := TX1) (N := 13) (fs := mF ad u) hx hb hts hin0 hown hK hP 0 rfl rfl 11 (by decide) fl_wanted (fun _ h9 => h9) rfl dM_presentOne_1 ?_
  refine lv_if_eq (tgt := 14) hx hb dM_presentOne_4 (by decide) (fun c_10 => ?_) (fun c_10 => ?_)
  · refine lv_aload_n hx hb dM_presentOne_14 rfl (lv_at hl 0 rfl) ?_
    refine va_get (D := (dC, dI)) (ci := 1) (v := .int (ma_active u)) (C := RX1) (T := TX1) (N := 13) (fs := mF ad u) hx hb hts hin0 hown hK hP 0 rfl rfl 9 (by decide) fl_active (fun _ h9 => h9) rfl dM_presentOne_15 ?_
    have eT : ma_active u = T := by rw [← hf]; simp only [mf_presentOne, if_pos c_10]
    exact W.iret (v := ma_active u) hx hb hr (fun t ht hW => ⟨⟨ma_active u, (), rfl, eT, trivial⟩, hS.F ht⟩) hS.2.2 dM_presentOne_18
  · refine lv_aload_n hx hb dM_presentOne_7 rfl (lv_at hl 0 rfl) ?_
    refine va_get (D := (dC, dI)) (ci := 1) (v := .int (ma_change u)) (C := RX1) (T := TX1) (N := 13) (fs := mF ad u) hx hb hts hin0 hown hK hP 0 rfl rfl 12 (by decide) fl_change (fun _ h9 => h9) rfl dM_presentOne_8 ?_
    refine lv_goto (tgt := 18) hx hb dM_presentOne_11 (by decide) ?_
    have eT : ma_change u = T := by rw [← hf]; simp only [mf_presentOne, if_neg c_10]
    exact W.iret (v := ma_change u) hx hb hr (fun t ht hW => ⟨⟨ma_change u, (), rfl, eT, trivial⟩, hS.F ht⟩) hS.2.2 dM_presentOne_18
set_option maxHeartbeats 4000000 in
set_option maxRecDepth 100000 in
theorem mc_present (l : Launch) (dC : Nat → ClassId) (dI : Nat → Nat → Nat) (ad : Nat → Nat) (cA : Nat → ClassId) (u : MS)  (T : Int32) (hf : mf_present u = T) : Met l yM_present wM_present ({ frames := 1, cells := 0, slots := 0, locals := 20 } : Room) (va_Pc [.ref (ad 0)] (fun U => va_P (dC, dI) vwCl (mW ad cA u) U.heap ∧ va_K (dC, dI) vwCl (mT cA) U)) (va_Qi (fun r (_ : Unit) => r = T) (fun _ _ => True) (fun _ => False)) 0 0 (fun _ => False) := by
  refine Met.ofW (cc := cM_present) (maxL := 1) (ret := (some .int)) (by decide) rfl ?_
  intro p e s m args below meth c s₁ B hml hv
  obtain ⟨rfl, hP, hK⟩ := hv
  have hx := B.exec
  have hb := B.bytes
  have hr := B.returns
  have hts := atoms_spec (ws := wM_present) B.pre
  have hown : s.vm.findClass RX1 = some m.cls := findClass_of_methodNamed B.named
  have hlocks := B.notSynchronized
  have hS : va_S (fun _ => False) s.heap s.heap [] := va_S.rf
  have hl := lv_entry ([.ref (ad 0)]) (n := 1) (Nat.le_of_ble_eq_true rfl)
  rw [lg_entry_eq]
  generalize (lg_sl ([.ref (ad 0)]) ++ List.replicate (1 - (lg_sl ([.ref (ad 0)])).length) Slot.unset).toArray = ls at hl ⊢
  have hl : lv_has ls 1 [(0, .ref (ad 0))] := hl
  refine lv_aload_n hx hb dM_present_0 rfl (lv_at hl 0 rfl) ?_
  refine va_calli (va_runV (As := []) (rest := []) ⟨hx, hb, hml, hown, hts⟩ (mc_presentOne l dC dI ad cA u _ rfl) (cwV 0 hts gM_present_presentOne rfl rfl rfl (by decide +kernel) ⟨Nat.le_of_ble_eq_true rfl, Nat.le_of_ble_eq_true rfl⟩) ⟨fun a U g mk q => by obtain ⟨q0, qP, qK⟩ := q; exact ⟨q0, qP, va_K.moved (u := U) (U := U.calling g mk a) (Vm.Alike.refl U.vm) qK⟩, va_recv hK hP (ci := 1) (q0 := 0) rfl rfl, fun U hU hW => ⟨rfl, by rw [hU]; exact hP, va_K.moved hW.alike hK⟩⟩ rfl rfl hl.1 rfl (lv_room (Nat.le_of_ble_eq_true rfl)) dM_present_1 ⟨Nat.le_of_ble_eq_true rfl, Nat.le_of_ble_eq_true rfl⟩) hS (fun _ _ h => h.elim) (fun _ h => h.elim) (fun r_11 u_ t H1 locs ht hvm hr_11 hB hz1 hk1 hS => ?_)
  have hP := hP.kept (fun k x hx => hk1 x.1 ((hP k x hx).lt) (fun h => h))
  generalize H1 = H at hP hS ⊢
  have eT : r_11 = T := by subst hr_11; rw [← hf]; simp only [mf_present]
  exact W.iret (v := r_11) hx hb hr (fun t ht hW => ⟨⟨r_11, (), rfl, eT, trivial⟩, hS.F ht⟩) hS.2.2 dM_present_4
set_option maxHeartbeats 4000000 in
set_option maxRecDepth 100000 in
theorem mc_active (l : Launch) (dC : Nat → ClassId) (dI : Nat → Nat → Nat) (ad : Nat → Nat) (cA : Nat → ClassId) (u : MS)  (T : Int32) (hf : mf_active u = T) : Met l yM_active wM_active ({ frames := 0, cells := 0, slots := 0, locals := 0 } : Room) (va_Pc [.ref (ad 0)] (fun U => va_P (dC, dI) vwCl (mW ad cA u) U.heap ∧ va_K (dC, dI) vwCl (mT cA) U)) (va_Qi (fun r (_ : Unit) => r = T) (fun _ _ => True) (fun _ => False)) 0 0 (fun _ => False) := by
  refine Met.ofW (cc := cM_active) (maxL := 1) (ret := (some .int)) (by decide) rfl ?_
  intro p e s m args below meth c s₁ B hml hv
  obtain ⟨rfl, hP, hK⟩ := hv
  have hx := B.exec
  have hb := B.bytes
  have hr := B.returns
  have hts := atoms_spec (ws := wM_active) B.pre
  have hown : s.vm.findClass RX1 = some m.cls := findClass_of_methodNamed B.named
  have hlocks := B.notSynchronized
  have hin0 : ∀ w ∈ wsX10, w ∈ wM_active := by decide +kernel
  have fl_active := hts (.fieldLink RX1 33 "ProcessRoomModel" "active" "I") (by decide +kernel)
  have hS : va_S (fun _ => False) s.heap s.heap [] := va_S.rf
  have hl := lv_entry ([.ref (ad 0)]) (n := 1) (Nat.le_of_ble_eq_true rfl)
  rw [lg_entry_eq]
  generalize (lg_sl ([.ref (ad 0)]) ++ List.replicate (1 - (lg_sl ([.ref (ad 0)])).length) Slot.unset).toArray = ls at hl ⊢
  have hl : lv_has ls 1 [(0, .ref (ad 0))] := hl
  refine lv_aload_n hx hb dM_active_0 rfl (lv_at hl 0 rfl) ?_
  refine va_get (D := (dC, dI)) (ci := 1) (v := .int (ma_active u)) (C := RX1) (T := TX1) (N := 13) (fs := mF ad u) hx hb hts hin0 hown hK hP 0 rfl rfl 9 (by decide) fl_active (fun _ h9 => h9) rfl dM_active_1 ?_
  have eT : ma_active u = T := by rw [← hf]; simp only [mf_active]
  exact W.iret (v := ma_active u) hx hb hr (fun t ht hW => ⟨⟨ma_active u, (), rfl, eT, trivial⟩, hS.F ht⟩) hS.2.2 dM_active_4
set_option maxHeartbeats 4000000 in
set_option maxRecDepth 100000 in
theorem mc_wanted (l : Launch) (dC : Nat → ClassId) (dI : Nat → Nat → Nat) (ad : Nat → Nat) (cA : Nat → ClassId) (u : MS)  (hI : mInv u) (T : Int32) (hf : mf_wanted u = T) : Met l yM_wanted wM_wanted ({ frames := 0, cells := 0, slots := 0, locals := 0 } : Room) (va_Pc [.ref (ad 0)] (fun U => va_P (dC, dI) vwCl (mW ad cA u) U.heap ∧ va_K (dC, dI) vwCl (mT cA) U)) (va_Qi (fun r (_ : Unit) => r = T) (fun _ _ => True) (fun _ => False)) 0 0 (fun _ => False) := by
  refine Met.ofW (cc := cM_wanted) (maxL := 1) (ret := (some .boolean)) (by decide) rfl ?_
  intro p e s m args below meth c s₁ B hml hv
  obtain ⟨rfl, hP, hK⟩ := hv
  have hx := B.exec
  have hb := B.bytes
  have hr := B.returns
  have hts := atoms_spec (ws := wM_wanted) B.pre
  have hown : s.vm.findClass RX1 = some m.cls := findClass_of_methodNamed B.named
  have hlocks := B.notSynchronized
  have hin0 : ∀ w ∈ wsX10, w ∈ wM_wanted := by decide +kernel
  have fl_wanted := hts (.fieldLink RX1 48 "ProcessRoomModel" "wanted" "Z") (by decide +kernel)
  have hS : va_S (fun _ => False) s.heap s.heap [] := va_S.rf
  have hl := lv_entry ([.ref (ad 0)]) (n := 1) (Nat.le_of_ble_eq_true rfl)
  rw [lg_entry_eq]
  generalize (lg_sl ([.ref (ad 0)]) ++ List.replicate (1 - (lg_sl ([.ref (ad 0)])).length) Slot.unset).toArray = ls at hl ⊢
  have hl : lv_has ls 1 [(0, .ref (ad 0))] := hl
  refine lv_aload_n hx hb dM_wanted_0 rfl (lv_at hl 0 rfl) ?_
  refine va_get (D := (dC, dI)) (ci := 1) (v := .int (ma_wanted u)) (C := RX1) (T := TX1) (N := 13) (fs := mF ad u) hx hb hts hin0 hown hK hP 0 rfl rfl 11 (by decide) fl_wanted (fun _ h9 => h9) rfl dM_wanted_1 ?_
  have eT : ma_wanted u = T := by rw [← hf]; simp only [mf_wanted]
  exact W.zret (v := ma_wanted u) hx hb hr (k_nar hI.2.2.2) (fun t ht hW => ⟨⟨ma_wanted u, (), rfl, eT, trivial⟩, hS.F ht⟩) hS.2.2 dM_wanted_4
set_option maxHeartbeats 4000000 in
set_option maxRecDepth 100000 in
theorem mc_here (l : Launch) (dC : Nat → ClassId) (dI : Nat → Nat → Nat) (ad : Nat → Nat) (cA : Nat → ClassId) (u : MS)  (T : Int32) (hf : mf_here u = T) : Met l yM_here wM_here ({ frames := 0, cells := 0, slots := 0, locals := 0 } : Room) (va_Pc [.ref (ad 0)] (fun U => va_P (dC, dI) vwCl (mW ad cA u) U.heap ∧ va_K (dC, dI) vwCl (mT cA) U)) (va_Qi (fun r (_ : Unit) => r = T) (fun _ _ => True) (fun _ => False)) 0 0 (fun _ => False) := by
  refine Met.ofW (cc := cM_here) (maxL := 1) (ret := (some .int)) (by decide) rfl ?_
  intro p e s m args below meth c s₁ B hml hv
  obtain ⟨rfl, hP, hK⟩ := hv
  have hx := B.exec
  have hb := B.bytes
  have hr := B.returns
  have hts := atoms_spec (ws := wM_here) B.pre
  have hown : s.vm.findClass RX1 = some m.cls := findClass_of_methodNamed B.named
  have hlocks := B.notSynchronized
  have hin0 : ∀ w ∈ wsX10, w ∈ wM_here := by decide +kernel
  have fl_here := hts (.fieldLink RX1 89 "ProcessRoomModel" "here" "I") (by decide +kernel)
  have hS : va_S (fun _ => False) s.heap s.heap [] := va_S.rf
  have hl := lv_entry ([.ref (ad 0)]) (n := 1) (Nat.le_of_ble_eq_true rfl)
  rw [lg_entry_eq]
  generalize (lg_sl ([.ref (ad 0)]) ++ List.replicate (1 - (lg_sl ([.ref (ad 0)])).length) Slot.unset).toArray = ls at hl ⊢
  have hl : lv_has ls 1 [(0, .ref (ad 0))] := hl
  refine lv_aload_n hx hb dM_here_0 rfl (lv_at hl 0 rfl) ?_
  refine va_get (D := (dC, dI)) (ci := 1) (v := .int (ma_here u)) (C := RX1) (T := TX1) (N := 13) (fs := mF ad u) hx hb hts hin0 hown hK hP 0 rfl rfl 10 (by decide) fl_here (fun _ h9 => h9) rfl dM_here_1 ?_
  have eT : ma_here u = T := by rw [← hf]; simp only [mf_here]
  exact W.iret (v := ma_here u) hx hb hr (fun t ht hW => ⟨⟨ma_here u, (), rfl, eT, trivial⟩, hS.F ht⟩) hS.2.2 dM_here_4
set_option maxHeartbeats 4000000 in
set_option maxRecDepth 100000 in
theorem mc_place (l : Launch) (dC : Nat → ClassId) (dI : Nat → Nat → Nat) (ad : Nat → Nat) (cA : Nat → ClassId) (u : MS) (p1 : Int32) (T : Int32) (hf : mf_place u p1 = T) : Met l yM_place wM_place ({ frames := 2, cells := 0, slots := 0, locals := 41 } : Room) (va_Pc [.ref (ad 0), .int p1] (fun U => va_P (dC, dI) vwCl (mW ad cA u) U.heap ∧ va_K (dC, dI) vwCl (mT cA) U)) (va_Qi (fun r (_ : Unit) => r = T) (fun _ _ => True) (fun _ => False)) 0 0 (fun _ => False) := by
  refine Met.ofW (cc := cM_place) (maxL := 2) (ret := (some .int)) (by decide) rfl ?_
  intro p e s m args below meth c s₁ B hml hv
  obtain ⟨rfl, hP, hK⟩ := hv
  have hx := B.exec
  have hb := B.bytes
  have hr := B.returns
  have hts := atoms_spec (ws := wM_place) B.pre
  have hown : s.vm.findClass RX1 = some m.cls := findClass_of_methodNamed B.named
  have hlocks := B.notSynchronized
  have hin0 : ∀ w ∈ wsX10, w ∈ wM_place := by decide +kernel
  have fl_places := hts (.fieldLink RX1 17 "ProcessRoomModel" "places" "[I") (by decide +kernel)
  have hS : va_S (fun _ => False) s.heap s.heap [] := va_S.rf
  have hl := lv_entry ([.ref (ad 0), .int p1]) (n := 2) (Nat.le_of_ble_eq_true rfl)
  rw [lg_entry_eq]
  generalize (lg_sl ([.ref (ad 0), .int p1]) ++ List.replicate (2 - (lg_sl ([.ref (ad 0), .int p1])).length) Slot.unset).toArray = ls at hl ⊢
  have hl : lv_has ls 2 [(0, .ref (ad 0)), (1, .int p1)] := hl
  refine lv_aload_n hx hb dM_place_0 rfl (lv_at hl 0 rfl) ?_
  refine lv_iload_n hx hb dM_place_1 rfl (lv_at hl 1 rfl) ?_
  refine va_calli (va_runV (As := [.int p1]) (rest := []) ⟨hx, hb, hml, hown, hts⟩ (mc_isMade l dC dI ad cA u p1 _ rfl) (cwV 1 hts gM_place_isMade rfl rfl rfl (by decide +kernel) ⟨Nat.le_of_ble_eq_true rfl, Nat.le_of_ble_eq_true rfl⟩) ⟨fun a U g mk q => by obtain ⟨q0, qP, qK⟩ := q; exact ⟨q0, qP, va_K.moved (u := U) (U := U.calling g mk a) (Vm.Alike.refl U.vm) qK⟩, va_recv hK hP (ci := 1) (q0 := 0) rfl rfl, fun U hU hW => ⟨rfl, by rw [hU]; exact hP, va_K.moved hW.alike hK⟩⟩ rfl rfl hl.1 rfl (lv_room (Nat.le_of_ble_eq_true rfl)) dM_place_2 ⟨Nat.le_of_ble_eq_true rfl, Nat.le_of_ble_eq_true rfl⟩) hS (fun _ _ h => h.elim) (fun _ h => h.elim) (fun r_12 u_ t H1 locs ht hvm hr_12 hB hz1 hk1 hS => ?_)
  have hP := hP.kept (fun k x hx => hk1 x.1 ((hP k x hx).lt) (fun h => h))
  generalize H1 = H at hP hS ⊢
  refine lv_if_eq (tgt := 17) hx hb dM_place_5 (by decide) (fun c_13 => ?_) (fun c_13 => ?_)
  · refine lv_iconst (v := 0) hx hb dM_place_17 (by decide) ?_
    have eT : 0 = T := by subst hr_12; rw [← hf]; simp only [mf_place, if_pos c_13]
    exact W.iret (v := 0) hx hb hr (fun t ht hW => ⟨⟨0, (), rfl, eT, trivial⟩, hS.F ht⟩) hS.2.2 dM_place_18
  · refine lv_aload_n hx hb dM_place_8 rfl (lv_at hl 0 rfl) ?_
    refine va_get (D := (dC, dI)) (ci := 1) (v := .ref (ad 3)) (C := RX1) (T := TX1) (N := 13) (fs := mF ad u) hx hb hts hin0 hown hK hP 0 rfl rfl 2 (by decide) fl_places (fun _ h9 => h9) rfl dM_place_9 ?_
    refine lv_iload_n hx hb dM_place_12 rfl (lv_at hl 1 rfl) ?_
    refine va_iald hx hb hK hP 3 2 rfl rfl (mi_isMade hr_12 c_13) dM_place_13 ?_
    refine lv_goto (tgt := 18) hx hb dM_place_14 (by decide) ?_
    have eT : ma_places u p1.toNatClampNeg = T := by subst hr_12; rw [← hf]; simp only [mf_place, if_neg c_13]
    exact W.iret (v := ma_places u p1.toNatClampNeg) hx hb hr (fun t ht hW => ⟨⟨ma_places u p1.toNatClampNeg, (), rfl, eT, trivial⟩, hS.F ht⟩) hS.2.2 dM_place_18
set_option maxHeartbeats 4000000 in
set_option maxRecDepth 100000 in
theorem mc_priority (l : Launch) (dC : Nat → ClassId) (dI : Nat → Nat → Nat) (ad : Nat → Nat) (cA : Nat → ClassId) (u : MS) (p1 : Int32) (T : Int32) (hf : mf_priority u p1 = T) : Met l yM_priority wM_priority ({ frames := 2, cells := 0, slots := 0, locals := 41 } : Room) (va_Pc [.ref (ad 0), .int p1] (fun U => va_P (dC, dI) vwCl (mW ad cA u) U.heap ∧ va_K (dC, dI) vwCl (mT cA) U)) (va_Qi (fun r (_ : Unit) => r = T) (fun _ _ => True) (fun _ => False)) 0 0 (fun _ => False) := by
  refine Met.ofW (cc := cM_priority) (maxL := 2) (ret := (some .int)) (by decide) rfl ?_
  intro p e s m args below meth c s₁ B hml hv
  obtain ⟨rfl, hP, hK⟩ := hv
  have hx := B.exec
  have hb := B.bytes
  have hr := B.returns
  have hts := atoms_spec (ws := wM_priority) B.pre
  have hown : s.vm.findClass RX1 = some m.cls := findClass_of_methodNamed B.named
  have hlocks := B.notSynchronized
  have hin0 : ∀ w ∈ wsX10, w ∈ wM_priority := by decide +kernel
  have fl_priorities := hts (.fieldLink RX1 13 "ProcessRoomModel" "priorities" "[I") (by decide +kernel)
  have hS : va_S (fun _ => False) s.heap s.heap [] := va_S.rf
  have hl := lv_entry ([.ref (ad 0), .int p1]) (n := 2) (Nat.le_of_ble_eq_true rfl)
  rw [lg_entry_eq]
  generalize (lg_sl ([.ref (ad 0), .int p1]) ++ List.replicate (2 - (lg_sl ([.ref (ad 0), .int p1])).length) Slot.unset).toArray = ls at hl ⊢
  have hl : lv_has ls 2 [(0, .ref (ad 0)), (1, .int p1)] := hl
  refine lv_aload_n hx hb dM_priority_0 rfl (lv_at hl 0 rfl) ?_
  refine lv_iload_n hx hb dM_priority_1 rfl (lv_at hl 1 rfl) ?_
  refine va_calli (va_runV (As := [.int p1]) (rest := []) ⟨hx, hb, hml, hown, hts⟩ (mc_isMade l dC dI ad cA u p1 _ rfl) (cwV 1 hts gM_priority_isMade rfl rfl rfl (by decide +kernel) ⟨Nat.le_of_ble_eq_true rfl, Nat.le_of_ble_eq_true rfl⟩) ⟨fun a U g mk q => by obtain ⟨q0, qP, qK⟩ := q; exact ⟨q0, qP, va_K.moved (u := U) (U := U.calling g mk a) (Vm.Alike.refl U.vm) qK⟩, va_recv hK hP (ci := 1) (q0 := 0) rfl rfl, fun U hU hW => ⟨rfl, by rw [hU]; exact hP, va_K.moved hW.alike hK⟩⟩ rfl rfl hl.1 rfl (lv_room (Nat.le_of_ble_eq_true rfl)) dM_priority_2 ⟨Nat.le_of_ble_eq_true rfl, Nat.le_of_ble_eq_true rfl⟩) hS (fun _ _ h => h.elim) (fun _ h => h.elim) (fun r_14 u_ t H1 locs ht hvm hr_14 hB hz1 hk1 hS => ?_)
  have hP := hP.kept (fun k x hx => hk1 x.1 ((hP k x hx).lt) (fun h => h))
  generalize H1 = H at hP hS ⊢
  refine lv_if_eq (tgt := 17) hx hb dM_priority_5 (by decide) (fun c_15 => ?_) (fun c_15 => ?_)
  · refine lv_iconst (v := (-1)) hx hb dM_priority_17 (by decide) ?_
    have eT : (-1) = T := by subst hr_14; rw [← hf]; simp only [mf_priority, if_pos c_15]
    exact W.iret (v := (-1)) hx hb hr (fun t ht hW => ⟨⟨(-1), (), rfl, eT, trivial⟩, hS.F ht⟩) hS.2.2 dM_priority_18
  · refine lv_aload_n hx hb dM_priority_8 rfl (lv_at hl 0 rfl) ?_
    refine va_get (D := (dC, dI)) (ci := 1) (v := .ref (ad 2)) (C := RX1) (T := TX1) (N := 13) (fs := mF ad u) hx hb hts hin0 hown hK hP 0 rfl rfl 1 (by decide) fl_priorities (fun _ h9 => h9) rfl dM_priority_9 ?_
    refine lv_iload_n hx hb dM_priority_12 rfl (lv_at hl 1 rfl) ?_
    refine va_iald hx hb hK hP 2 1 rfl rfl (mi_isMade hr_14 c_15) dM_priority_13 ?_
    refine lv_goto (tgt := 18) hx hb dM_priority_14 (by decide) ?_
    have eT : ma_priorities u p1.toNatClampNeg = T := by subst hr_14; rw [← hf]; simp only [mf_priority, if_neg c_15]
    exact W.iret (v := ma_priorities u p1.toNatClampNeg) hx hb hr (fun t ht hW => ⟨⟨ma_priorities u p1.toNatClampNeg, (), rfl, eT, trivial⟩, hS.F ht⟩) hS.2.2 dM_priority_18
set_option maxHeartbeats 4000000 in
set_option maxRecDepth 100000 in
theorem mc_row (l : Launch) (dC : Nat → ClassId) (dI : Nat → Nat → Nat) (ad : Nat → Nat) (cA : Nat → ClassId) (u : MS) (p1 : Int32) (T : Int32) (hf : mf_row u p1 = T) : Met l yM_row wM_row ({ frames := 2, cells := 0, slots := 0, locals := 41 } : Room) (va_Pc [.ref (ad 0), .int p1] (fun U => va_P (dC, dI) vwCl (mW ad cA u) U.heap ∧ va_K (dC, dI) vwCl (mT cA) U)) (va_Qi (fun r (_ : Unit) => r = T) (fun _ _ => True) (fun _ => False)) 0 0 (fun _ => False) := by
  refine Met.ofW (cc := cM_row) (maxL := 2) (ret := (some .int)) (by decide) rfl ?_
  intro p e s m args below meth c s₁ B hml hv
  obtain ⟨rfl, hP, hK⟩ := hv
  have hx := B.exec
  have hb := B.bytes
  have hr := B.returns
  have hts := atoms_spec (ws := wM_row) B.pre
  have hown : s.vm.findClass RX1 = some m.cls := findClass_of_methodNamed B.named
  have hlocks := B.notSynchronized
  have hin0 : ∀ w ∈ wsX10, w ∈ wM_row := by decide +kernel
  have fl_rows := hts (.fieldLink RX1 20 "ProcessRoomModel" "rows" "[I") (by decide +kernel)
  have hS : va_S (fun _ => False) s.heap s.heap [] := va_S.rf
  have hl := lv_entry ([.ref (ad 0), .int p1]) (n := 2) (Nat.le_of_ble_eq_true rfl)
  rw [lg_entry_eq]
  generalize (lg_sl ([.ref (ad 0), .int p1]) ++ List.replicate (2 - (lg_sl ([.ref (ad 0), .int p1])).length) Slot.unset).toArray = ls at hl ⊢
  have hl : lv_has ls 2 [(0, .ref (ad 0)), (1, .int p1)] := hl
  refine lv_aload_n hx hb dM_row_0 rfl (lv_at hl 0 rfl) ?_
  refine lv_iload_n hx hb dM_row_1 rfl (lv_at hl 1 rfl) ?_
  refine va_calli (va_runV (As := [.int p1]) (rest := []) ⟨hx, hb, hml, hown, hts⟩ (mc_isMade l dC dI ad cA u p1 _ rfl) (cwV 1 hts gM_row_isMade rfl rfl rfl (by decide +kernel) ⟨Nat.le_of_ble_eq_true rfl, Nat.le_of_ble_eq_true rfl⟩) ⟨fun a U g mk q => by obtain ⟨q0, qP, qK⟩ := q; exact ⟨q0, qP, va_K.moved (u := U) (U := U.calling g mk a) (Vm.Alike.refl U.vm) qK⟩, va_recv hK hP (ci := 1) (q0 := 0) rfl rfl, fun U hU hW => ⟨rfl, by rw [hU]; exact hP, va_K.moved hW.alike hK⟩⟩ rfl rfl hl.1 rfl (lv_room (Nat.le_of_ble_eq_true rfl)) dM_row_2 ⟨Nat.le_of_ble_eq_true rfl, Nat.le_of_ble_eq_true rfl⟩) hS (fun _ _ h => h.elim) (fun _ h => h.elim) (fun r_16 u_ t H1 locs ht hvm hr_16 hB hz1 hk1 hS => ?_)
  have hP := hP.kept (fun k x hx => hk1 x.1 ((hP k x hx).lt) (fun h => h))
  generalize H1 = H at hP hS ⊢
  refine lv_if_eq (tgt := 17) hx hb dM_row_5 (by decide) (fun c_17 => ?_) (fun c_17 => ?_)
  · refine lv_iconst (v := (-1)) hx hb dM_row_17 (by decide) ?_
    have eT : (-1) = T := by subst hr_16; rw [← hf]; simp only [mf_row, if_pos c_17]
    exact W.iret (v := (-1)) hx hb hr (fun t ht hW => ⟨⟨(-1), (), rfl, eT, trivial⟩, hS.F ht⟩) hS.2.2 dM_row_18
  · refine lv_aload_n hx hb dM_row_8 rfl (lv_at hl 0 rfl) ?_
    refine va_get (D := (dC, dI)) (ci := 1) (v := .ref (ad 4)) (C := RX1) (T := TX1) (N := 13) (fs := mF ad u) hx hb hts hin0 hown hK hP 0 rfl rfl 3 (by decide) fl_rows (fun _ h9 => h9) rfl dM_row_9 ?_
    refine lv_iload_n hx hb dM_row_12 rfl (lv_at hl 1 rfl) ?_
    refine va_iald hx hb hK hP 4 3 rfl rfl (mi_isMade hr_16 c_17) dM_row_13 ?_
    refine lv_goto (tgt := 18) hx hb dM_row_14 (by decide) ?_
    have eT : ma_rows u p1.toNatClampNeg = T := by subst hr_16; rw [← hf]; simp only [mf_row, if_neg c_17]
    exact W.iret (v := ma_rows u p1.toNatClampNeg) hx hb hr (fun t ht hW => ⟨⟨ma_rows u p1.toNatClampNeg, (), rfl, eT, trivial⟩, hS.F ht⟩) hS.2.2 dM_row_18
set_option maxHeartbeats 4000000 in
set_option maxRecDepth 100000 in
theorem mc_find (l : Launch) (dC : Nat → ClassId) (dI : Nat → Nat → Nat) (ad : Nat → Nat) (cA : Nat → ClassId) (u : MS) (p1 : Int32) (p2 : Int32) (hp : ∃ a : Nat, a < 32 ∧ p2 = nI a) (T : Int32) (hf : mf_find u p1 p2 = T) : Met l yM_find wM_find ({ frames := 0, cells := 0, slots := 0, locals := 0 } : Room) (va_Pc [.ref (ad 0), .int p1, .int p2] (fun U => va_P (dC, dI) vwCl (mW ad cA u) U.heap ∧ va_K (dC, dI) vwCl (mT cA) U)) (va_Qi (fun r (_ : Unit) => r = T) (fun _ _ => True) (fun _ => False)) 0 0 (fun _ => False) := by
  refine Met.ofW (cc := cM_find) (maxL := 8) (ret := (some .int)) (by decide) rfl ?_
  intro p e s m args below meth c s₁ B hml hv
  obtain ⟨rfl, hP, hK⟩ := hv
  have hx := B.exec
  have hb := B.bytes
  have hr := B.returns
  have hts := atoms_spec (ws := wM_find) B.pre
  have hown : s.vm.findClass RX1 = some m.cls := findClass_of_methodNamed B.named
  have hlocks := B.notSynchronized
  have hin0 : ∀ w ∈ wsX10, w ∈ wM_find := by decide +kernel
  have fl_when := hts (.fieldLink RX1 23 "ProcessRoomModel" "when" "[J") (by decide +kernel)
  have fl_made := hts (.fieldLink RX1 7 "ProcessRoomModel" "made" "[Z") (by decide +kernel)
  have fl_rows := hts (.fieldLink RX1 20 "ProcessRoomModel" "rows" "[I") (by decide +kernel)
  have hS : va_S (fun _ => False) s.heap s.heap [] := va_S.rf
  have hl := lv_entry ([.ref (ad 0), .int p1, .int p2]) (n := 8) (Nat.le_of_ble_eq_true rfl)
  rw [lg_entry_eq]
  generalize (lg_sl ([.ref (ad 0), .int p1, .int p2]) ++ List.replicate (8 - (lg_sl ([.ref (ad 0), .int p1, .int p2])).length) Slot.unset).toArray = ls at hl ⊢
  have hl : lv_has ls 8 [(0, .ref (ad 0)), (1, .int p1), (2, .int p2)] := hl
  refine lv_iload_n hx hb dM_find_0 rfl (lv_at hl 2 rfl) ?_
  refine lv_istore_n (lv' := [(3, .int p2), (0, .ref (ad 0)), (1, .int p1), (2, .int p2)]) hx hb dM_find_1 rfl hl (by decide) rfl (fun ls hl => ?_)
  refine lv_iconst (v := (-1)) hx hb dM_find_2 (by decide) ?_
  refine lv_istore (lv' := [(4, .int (-1)), (3, .int p2), (0, .ref (ad 0)), (1, .int p1), (2, .int p2)]) hx hb dM_find_3 hl (by decide) rfl (fun ls hl => ?_)
  refine k_nameQ (fun Q hQ => ?_)
  have key : ∀ (n : Nat) (x3 : Int32) (x4 : Int32) (H : Heap) (locs : List Loc) (ls : Array Slot), (∃ j : Nat, x3 = nI j + (-1) ∧ n = j + 1 + (32 - p2.toNatClampNeg - 1) ∧ j ≤ p2.toNatClampNeg + 1 ∧ p2.toNatClampNeg < 32 ∧ (x4 < 0 ∨ vp_in x4 32)) → ml_find u p1 p2 n x3 x4 = T → va_P (dC, dI) vwCl (mW ad cA u) H → va_S (fun _ => False) s.heap H locs → lv_has ls 8 [(0, .ref (ad 0)), (1, .int p1), (2, .int p2), (3, .int x3), (4, .int x4)] → W p l e (headSpec wM_find ({ frames := 0, cells := 0, slots := 0, locals := 0 } : Room)).room s m ([.ref (ad 0), .int p1, .int p2] : List Value).toArray below meth c H locs 0 0 Q (F0 m 5 ls []) := by
    intro n
    induction n with
    | zero =>
      intro x3 x4 H locs ls hinv
      exact absurd hinv (by rintro ⟨j, -, h1, h2, h3, -⟩; omega)
    | succ n ih =>
      intro x3 x4 H locs ls hinv hf2 hP hS hl
      obtain ⟨j, hj, hjn, hjl, hjp, hlast⟩ := hinv
      refine lv_iload_n hx hb dM_find_5 rfl (lv_at hl 3 rfl) ?_
      refine lv_if_lt (tgt := 134) hx hb dM_find_6 (by decide) (fun c_18 => ?_) (fun c_18 => ?_)
      · refine lv_iload hx hb dM_find_134 (lv_at hl 4 rfl) ?_
        subst hQ
        have eT : x4 = T := by rw [← hf2]; simp only [ml_find, if_pos c_18]
        exact W.iret (v := x4) hx hb hr (fun t ht hW => ⟨⟨x4, (), rfl, eT, trivial⟩, hS.F ht⟩) hS.2.2 dM_find_136
      · refine lv_iconst (v := (-1)) hx hb dM_find_9 (by decide) ?_
        refine lv_istore (lv' := [(5, .int (-1)), (0, .ref (ad 0)), (1, .int p1), (2, .int p2), (3, .int x3), (4, .int x4)]) hx hb dM_find_10 hl (by decide) rfl (fun ls hl => ?_)
        refine lv_iconst (v := 0) hx hb dM_find_12 (by decide) ?_
        refine lv_istore (lv' := [(6, .int 0), (5, .int (-1)), (0, .ref (ad 0)), (1, .int p1), (2, .int p2), (3, .int x3), (4, .int x4)]) hx hb dM_find_13 hl (by decide) rfl (fun ls hl => ?_)
        obtain ⟨B_19, hB_19⟩ : ∃ B : Int32, B = ml_find2 u p1 p2 x4 33 (-1) 0 := ⟨_, rfl⟩
        have kin : ∀ (n : Nat) (x5 : Int32) (x6 : Int32) (H : Heap) (locs : List Loc) (ls : Array Slot), (∃ k : Nat, x6 = nI k ∧ k + n = 33 ∧ k ≤ 32 ∧ (x5 < 0 ∨ vp_in x5 32)) → ml_find2 u p1 p2 x4 n x5 x6 = B_19 → va_P (dC, dI) vwCl (mW ad cA u) H → va_S (fun _ => False) s.heap H locs → lv_has ls 8 [(0, .ref (ad 0)), (1, .int p1), (2, .int p2), (3, .int x3), (4, .int x4), (5, .int x5), (6, .int x6)] → (∀ (H : Heap) (locs : List Loc) (ls : Array Slot), va_P (dC, dI) vwCl (mW ad cA u) H → va_S (fun _ => False) s.heap H locs → lv_has ls 8 [(0, .ref (ad 0)), (1, .int p1), (2, .int p2), (3, .int x3), (4, .int x4), (5, .int B_19)] → W p l e (headSpec wM_find ({ frames := 0, cells := 0, slots := 0, locals := 0 } : Room)).room s m ([.ref (ad 0), .int p1, .int p2] : List Value).toArray below meth c H locs 0 0 Q (F0 m 116 ls [])) → W p l e (headSpec wM_find ({ frames := 0, cells := 0, slots := 0, locals := 0 } : Room)).room s m ([.ref (ad 0), .int p1, .int p2] : List Value).toArray below meth c H locs 0 0 Q (F0 m 15 ls []) := by
          intro n
          induction n with
          | zero =>
            intro x5 x6 H locs ls hinv
            exact absurd hinv (by rintro ⟨k, -, h1, h2, -⟩; omega)
          | succ n ih =>
            intro x5 x6 H locs ls hinv hB2 hP hS hl kx
            obtain ⟨k, hk, hkn, hkl, hbest⟩ := hinv
            refine lv_iload hx hb dM_find_15 (lv_at hl 6 rfl) ?_
            refine lv_bipush (v := 32) hx hb dM_find_17 (by decide) ?_
            refine lv_icmp_ge (tgt := 116) hx hb dM_find_19 (by decide) (fun c_20 => ?_) (fun c_20 => ?_)
            · have eB : x5 = B_19 := by rw [← hB2]; simp only [ml_find2, if_pos c_20]
              rw [eB] at hl
              exact kx _ _ _ hP hS (lv_sub hl [0, 1, 2, 3, 4, 5] rfl)
            · refine lv_iload hx hb dM_find_22 (lv_at hl 4 rfl) ?_
              refine lv_if_lt (tgt := 45) hx hb dM_find_24 (by decide) (fun c_21 => ?_) (fun c_21 => ?_)
              · refine lv_iconst (v := 1) hx hb dM_find_45 (by decide) ?_
                refine lv_goto (tgt := 50) hx hb dM_find_46 (by decide) ?_
                refine lv_istore (lv' := [(7, .int 1), (0, .ref (ad 0)), (1, .int p1), (2, .int p2), (3, .int x3), (4, .int x4), (5, .int x5), (6, .int x6)]) hx hb dM_find_50 hl (by decide) rfl (fun ls hl => ?_)
                refine lv_aload_n hx hb dM_find_52 rfl (lv_at hl 1 rfl) ?_
                refine va_get (D := (dC, dI)) (ci := 1) (v := .ref (ad 1)) (C := RX1) (T := TX1) (N := 13) (fs := mF ad u) hx hb hts hin0 hown hK hP 0 rfl rfl 0 (by decide) fl_made (fun _ h9 => h9) rfl dM_find_53 ?_
                refine lv_iload hx hb dM_find_56 (lv_at hl 7 rfl) ?_
                refine va_zald hx hb hK hP 1 0 rfl rfl (k_in hk (k_lt 32 hk (by omega) rfl c_20) (by omega)) dM_find_58 ?_
                refine lv_if_eq (tgt := 106) hx hb dM_find_59 (by decide) (fun c_22 => ?_) (fun c_22 => ?_)
                · refine lv_iload hx hb dM_find_106 (lv_at hl 6 rfl) ?_
                  refine lv_istore (lv' := [(5, .int x5), (7, .int 1), (0, .ref (ad 0)), (1, .int p1), (2, .int p2), (3, .int x3), (4, .int x4), (6, .int x6)]) hx hb dM_find_108 hl (by decide) rfl (fun ls hl => ?_)
                  refine lv_iinc (v := x6 + 1) (lv' := [(6, .int (x6 + 1)), (5, .int x5), (7, .int 1), (0, .ref (ad 0)), (1, .int p1), (2, .int p2), (3, .int x3), (4, .int x4)]) hx hb dM_find_110 hl (k := 7) rfl rfl (by decide) rfl (fun ls hl => ?_)
                  refine lv_goto (tgt := 15) hx hb dM_find_113 (by decide) ?_
                  have hk2 := (k_lt 32 hk (by omega) rfl c_20)
                  exact ih x5 (x6 + 1) _ _ _ (⟨k + 1, by rw [hk, nI_1], by omega, by omega, hbest⟩) (by rw [← hB2]; simp only [ml_find2, if_neg c_20, if_pos c_21, if_pos c_22]) hP hS (lv_sub hl [3, 4, 5, 6, 7, 1, 0] rfl) kx
                · refine lv_aload_n hx hb dM_find_62 rfl (lv_at hl 1 rfl) ?_
                  refine va_get (D := (dC, dI)) (ci := 1) (v := .ref (ad 4)) (C := RX1) (T := TX1) (N := 13) (fs := mF ad u) hx hb hts hin0 hown hK hP 0 rfl rfl 3 (by decide) fl_rows (fun _ h9 => h9) rfl dM_find_63 ?_
                  refine lv_iload hx hb dM_find_66 (lv_at hl 7 rfl) ?_
                  refine va_iald hx hb hK hP 4 3 rfl rfl (k_in hk (k_lt 32 hk (by omega) rfl c_20) (by omega)) dM_find_68 ?_
                  refine lv_iload_n hx hb dM_find_69 rfl (lv_at hl 2 rfl) ?_
                  refine lv_icmp_ne (tgt := 106) hx hb dM_find_70 (by decide) (fun c_23 => ?_) (fun c_23 => ?_)
                  · refine lv_iload hx hb dM_find_106 (lv_at hl 6 rfl) ?_
                    refine lv_istore (lv' := [(5, .int x5), (7, .int 1), (0, .ref (ad 0)), (1, .int p1), (2, .int p2), (3, .int x3), (4, .int x4), (6, .int x6)]) hx hb dM_find_108 hl (by decide) rfl (fun ls hl => ?_)
                    refine lv_iinc (v := x6 + 1) (lv' := [(6, .int (x6 + 1)), (5, .int x5), (7, .int 1), (0, .ref (ad 0)), (1, .int p1), (2, .int p2), (3, .int x3), (4, .int x4)]) hx hb dM_find_110 hl (k := 7) rfl rfl (by decide) rfl (fun ls hl => ?_)
                    refine lv_goto (tgt := 15) hx hb dM_find_113 (by decide) ?_
                    have hk2 := (k_lt 32 hk (by omega) rfl c_20)
                    exact ih x5 (x6 + 1) _ _ _ (⟨k + 1, by rw [hk, nI_1], by omega, by omega, hbest⟩) (by rw [← hB2]; simp only [ml_find2, if_neg c_20, if_pos c_21, if_neg c_22, if_neg c_23]) hP hS (lv_sub hl [3, 4, 5, 6, 7, 1, 0] rfl) kx
                  · refine lv_iload hx hb dM_find_73 (lv_at hl 0 rfl) ?_
                    refine lv_if_eq (tgt := 106) hx hb dM_find_75 (by decide) (fun c_24 => ?_) (fun c_24 => ?_)
                    · exact absurd c_24 (by decide)
                    · refine lv_iload hx hb dM_find_78 (lv_at hl 6 rfl) ?_
                      refine lv_if_lt (tgt := 101) hx hb dM_find_80 (by decide) (fun c_25 => ?_) (fun c_25 => ?_)
                      · refine lv_iload hx hb dM_find_101 (lv_at hl 7 rfl) ?_
                        refine lv_goto (tgt := 108) hx hb dM_find_103 (by decide) ?_
                        refine lv_istore (lv' := [(5, .int x6), (7, .int 1), (0, .ref (ad 0)), (1, .int p1), (2, .int p2), (3, .int x3), (4, .int x4), (6, .int x6)]) hx hb dM_find_108 hl (by decide) rfl (fun ls hl => ?_)
                        refine lv_iinc (v := x6 + 1) (lv' := [(6, .int (x6 + 1)), (5, .int x6), (7, .int 1), (0, .ref (ad 0)), (1, .int p1), (2, .int p2), (3, .int x3), (4, .int x4)]) hx hb dM_find_110 hl (k := 7) rfl rfl (by decide) rfl (fun ls hl => ?_)
                        refine lv_goto (tgt := 15) hx hb dM_find_113 (by decide) ?_
                        have hk2 := (k_lt 32 hk (by omega) rfl c_20)
                        exact ih x6 (x6 + 1) _ _ _ (⟨k + 1, by rw [hk, nI_1], by omega, by omega, Or.inr (k_in hk hk2 (by omega))⟩) (by rw [← hB2]; simp only [ml_find2, if_neg c_20, if_pos c_21, if_neg c_22, if_pos c_23, if_pos c_25]) hP hS (lv_sub hl [3, 4, 5, 6, 7, 1, 0] rfl) kx
                      · refine lv_aload_n hx hb dM_find_83 rfl (lv_at hl 1 rfl) ?_
                        refine va_get (D := (dC, dI)) (ci := 1) (v := .ref (ad 5)) (C := RX1) (T := TX1) (N := 13) (fs := mF ad u) hx hb hts hin0 hown hK hP 0 rfl rfl 4 (by decide) fl_when (fun _ h9 => h9) rfl dM_find_84 ?_
                        refine lv_iload hx hb dM_find_87 (lv_at hl 7 rfl) ?_
                        refine va_lald hx hb hK hP 5 4 rfl rfl (k_in hk (k_lt 32 hk (by omega) rfl c_20) (by omega)) dM_find_89 ?_
                        refine lv_aload_n hx hb dM_find_90 rfl (lv_at hl 1 rfl) ?_
                        refine va_get (D := (dC, dI)) (ci := 1) (v := .ref (ad 5)) (C := RX1) (T := TX1) (N := 13) (fs := mF ad u) hx hb hts hin0 hown hK hP 0 rfl rfl 4 (by decide) fl_when (fun _ h9 => h9) rfl dM_find_91 ?_
                        refine lv_iload hx hb dM_find_94 (lv_at hl 6 rfl) ?_
                        refine va_lald hx hb hK hP 5 4 rfl rfl (mi_ge hbest c_25) dM_find_96 ?_
                        refine W.lcmp hx hb dM_find_97 ?_
                        refine lv_if_ge (tgt := 106) hx hb dM_find_98 (by decide) (fun c_26 => ?_) (fun c_26 => ?_)
                        · refine lv_iload hx hb dM_find_106 (lv_at hl 6 rfl) ?_
                          refine lv_istore (lv' := [(5, .int x5), (7, .int 1), (0, .ref (ad 0)), (1, .int p1), (2, .int p2), (3, .int x3), (4, .int x4), (6, .int x6)]) hx hb dM_find_108 hl (by decide) rfl (fun ls hl => ?_)
                          refine lv_iinc (v := x6 + 1) (lv' := [(6, .int (x6 + 1)), (5, .int x5), (7, .int 1), (0, .ref (ad 0)), (1, .int p1), (2, .int p2), (3, .int x3), (4, .int x4)]) hx hb dM_find_110 hl (k := 7) rfl rfl (by decide) rfl (fun ls hl => ?_)
                          refine lv_goto (tgt := 15) hx hb dM_find_113 (by decide) ?_
                          have hk2 := (k_lt 32 hk (by omega) rfl c_20)
                          exact ih x5 (x6 + 1) _ _ _ (⟨k + 1, by rw [hk, nI_1], by omega, by omega, hbest⟩) (by rw [← hB2]; simp only [ml_find2, if_neg c_20, if_pos c_21, if_neg c_22, if_pos c_23, if_neg c_25, if_pos c_26]) hP hS (lv_sub hl [3, 4, 5, 6, 7, 1, 0] rfl) kx
                        · refine lv_iload hx hb dM_find_101 (lv_at hl 7 rfl) ?_
                          refine lv_goto (tgt := 108) hx hb dM_find_103 (by decide) ?_
                          refine lv_istore (lv' := [(5, .int x6), (7, .int 1), (0, .ref (ad 0)), (1, .int p1), (2, .int p2), (3, .int x3), (4, .int x4), (6, .int x6)]) hx hb dM_find_108 hl (by decide) rfl (fun ls hl => ?_)
                          refine lv_iinc (v := x6 + 1) (lv' := [(6, .int (x6 + 1)), (5, .int x6), (7, .int 1), (0, .ref (ad 0)), (1, .int p1), (2, .int p2), (3, .int x3), (4, .int x4)]) hx hb dM_find_110 hl (k := 7) rfl rfl (by decide) rfl (fun ls hl => ?_)
                          refine lv_goto (tgt := 15) hx hb dM_find_113 (by decide) ?_
                          have hk2 := (k_lt 32 hk (by omega) rfl c_20)
                          exact ih x6 (x6 + 1) _ _ _ (⟨k + 1, by rw [hk, nI_1], by omega, by omega, Or.inr (k_in hk hk2 (by omega))⟩) (by rw [← hB2]; simp only [ml_find2, if_neg c_20, if_pos c_21, if_neg c_22, if_pos c_23, if_neg c_25, if_neg c_26]) hP hS (lv_sub hl [3, 4, 5, 6, 7, 1, 0] rfl) kx
              · refine lv_aload_n hx hb dM_find_27 rfl (lv_at hl 0 rfl) ?_
                refine va_get (D := (dC, dI)) (ci := 1) (v := .ref (ad 5)) (C := RX1) (T := TX1) (N := 13) (fs := mF ad u) hx hb hts hin0 hown hK hP 0 rfl rfl 4 (by decide) fl_when (fun _ h9 => h9) rfl dM_find_28 ?_
                refine lv_iload hx hb dM_find_31 (lv_at hl 6 rfl) ?_
                refine va_lald hx hb hK hP 5 4 rfl rfl (k_in hk (k_lt 32 hk (by omega) rfl c_20) (by omega)) dM_find_33 ?_
                refine lv_aload_n hx hb dM_find_34 rfl (lv_at hl 0 rfl) ?_
                refine va_get (D := (dC, dI)) (ci := 1) (v := .ref (ad 5)) (C := RX1) (T := TX1) (N := 13) (fs := mF ad u) hx hb hts hin0 hown hK hP 0 rfl rfl 4 (by decide) fl_when (fun _ h9 => h9) rfl dM_find_35 ?_
                refine lv_iload hx hb dM_find_38 (lv_at hl 4 rfl) ?_
                refine va_lald hx hb hK hP 5 4 rfl rfl (mi_ge hlast c_21) dM_find_40 ?_
                refine W.lcmp hx hb dM_find_41 ?_
                refine lv_if_le (tgt := 49) hx hb dM_find_42 (by decide) (fun c_27 => ?_) (fun c_27 => ?_)
                · refine lv_iconst (v := 0) hx hb dM_find_49 (by decide) ?_
                  refine lv_istore (lv' := [(7, .int 0), (0, .ref (ad 0)), (1, .int p1), (2, .int p2), (3, .int x3), (4, .int x4), (5, .int x5), (6, .int x6)]) hx hb dM_find_50 hl (by decide) rfl (fun ls hl => ?_)
                  refine lv_aload_n hx hb dM_find_52 rfl (lv_at hl 1 rfl) ?_
                  refine va_get (D := (dC, dI)) (ci := 1) (v := .ref (ad 1)) (C := RX1) (T := TX1) (N := 13) (fs := mF ad u) hx hb hts hin0 hown hK hP 0 rfl rfl 0 (by decide) fl_made (fun _ h9 => h9) rfl dM_find_53 ?_
                  refine lv_iload hx hb dM_find_56 (lv_at hl 7 rfl) ?_
                  refine va_zald hx hb hK hP 1 0 rfl rfl (k_in hk (k_lt 32 hk (by omega) rfl c_20) (by omega)) dM_find_58 ?_
                  refine lv_if_eq (tgt := 106) hx hb dM_find_59 (by decide) (fun c_28 => ?_) (fun c_28 => ?_)
                  · refine lv_iload hx hb dM_find_106 (lv_at hl 6 rfl) ?_
                    refine lv_istore (lv' := [(5, .int x5), (7, .int 0), (0, .ref (ad 0)), (1, .int p1), (2, .int p2), (3, .int x3), (4, .int x4), (6, .int x6)]) hx hb dM_find_108 hl (by decide) rfl (fun ls hl => ?_)
                    refine lv_iinc (v := x6 + 1) (lv' := [(6, .int (x6 + 1)), (5, .int x5), (7, .int 0), (0, .ref (ad 0)), (1, .int p1), (2, .int p2), (3, .int x3), (4, .int x4)]) hx hb dM_find_110 hl (k := 7) rfl rfl (by decide) rfl (fun ls hl => ?_)
                    refine lv_goto (tgt := 15) hx hb dM_find_113 (by decide) ?_
                    have hk2 := (k_lt 32 hk (by omega) rfl c_20)
                    exact ih x5 (x6 + 1) _ _ _ (⟨k + 1, by rw [hk, nI_1], by omega, by omega, hbest⟩) (by rw [← hB2]; simp only [ml_find2, if_neg c_20, if_neg c_21, if_pos c_27, if_pos c_28]) hP hS (lv_sub hl [3, 4, 5, 6, 7, 1, 0] rfl) kx
                  · refine lv_aload_n hx hb dM_find_62 rfl (lv_at hl 1 rfl) ?_
                    refine va_get (D := (dC, dI)) (ci := 1) (v := .ref (ad 4)) (C := RX1) (T := TX1) (N := 13) (fs := mF ad u) hx hb hts hin0 hown hK hP 0 rfl rfl 3 (by decide) fl_rows (fun _ h9 => h9) rfl dM_find_63 ?_
                    refine lv_iload hx hb dM_find_66 (lv_at hl 7 rfl) ?_
                    refine va_iald hx hb hK hP 4 3 rfl rfl (k_in hk (k_lt 32 hk (by omega) rfl c_20) (by omega)) dM_find_68 ?_
                    refine lv_iload_n hx hb dM_find_69 rfl (lv_at hl 2 rfl) ?_
                    refine lv_icmp_ne (tgt := 106) hx hb dM_find_70 (by decide) (fun c_29 => ?_) (fun c_29 => ?_)
                    · refine lv_iload hx hb dM_find_106 (lv_at hl 6 rfl) ?_
                      refine lv_istore (lv' := [(5, .int x5), (7, .int 0), (0, .ref (ad 0)), (1, .int p1), (2, .int p2), (3, .int x3), (4, .int x4), (6, .int x6)]) hx hb dM_find_108 hl (by decide) rfl (fun ls hl => ?_)
                      refine lv_iinc (v := x6 + 1) (lv' := [(6, .int (x6 + 1)), (5, .int x5), (7, .int 0), (0, .ref (ad 0)), (1, .int p1), (2, .int p2), (3, .int x3), (4, .int x4)]) hx hb dM_find_110 hl (k := 7) rfl rfl (by decide) rfl (fun ls hl => ?_)
                      refine lv_goto (tgt := 15) hx hb dM_find_113 (by decide) ?_
                      have hk2 := (k_lt 32 hk (by omega) rfl c_20)
                      exact ih x5 (x6 + 1) _ _ _ (⟨k + 1, by rw [hk, nI_1], by omega, by omega, hbest⟩) (by rw [← hB2]; simp only [ml_find2, if_neg c_20, if_neg c_21, if_pos c_27, if_neg c_28, if_neg c_29]) hP hS (lv_sub hl [3, 4, 5, 6, 7, 1, 0] rfl) kx
                    · refine lv_iload hx hb dM_find_73 (lv_at hl 0 rfl) ?_
                      refine lv_if_eq (tgt := 106) hx hb dM_find_75 (by decide) (fun c_30 => ?_) (fun c_30 => ?_)
                      · refine lv_iload hx hb dM_find_106 (lv_at hl 6 rfl) ?_
                        refine lv_istore (lv' := [(5, .int x5), (7, .int 0), (0, .ref (ad 0)), (1, .int p1), (2, .int p2), (3, .int x3), (4, .int x4), (6, .int x6)]) hx hb dM_find_108 hl (by decide) rfl (fun ls hl => ?_)
                        refine lv_iinc (v := x6 + 1) (lv' := [(6, .int (x6 + 1)), (5, .int x5), (7, .int 0), (0, .ref (ad 0)), (1, .int p1), (2, .int p2), (3, .int x3), (4, .int x4)]) hx hb dM_find_110 hl (k := 7) rfl rfl (by decide) rfl (fun ls hl => ?_)
                        refine lv_goto (tgt := 15) hx hb dM_find_113 (by decide) ?_
                        have hk2 := (k_lt 32 hk (by omega) rfl c_20)
                        exact ih x5 (x6 + 1) _ _ _ (⟨k + 1, by rw [hk, nI_1], by omega, by omega, hbest⟩) (by rw [← hB2]; simp only [ml_find2, if_neg c_20, if_neg c_21, if_pos c_27, if_neg c_28, if_pos c_29]) hP hS (lv_sub hl [3, 4, 5, 6, 7, 1, 0] rfl) kx
                      · exact absurd rfl c_30
                · refine lv_iconst (v := 1) hx hb dM_find_45 (by decide) ?_
                  refine lv_goto (tgt := 50) hx hb dM_find_46 (by decide) ?_
                  refine lv_istore (lv' := [(7, .int 1), (0, .ref (ad 0)), (1, .int p1), (2, .int p2), (3, .int x3), (4, .int x4), (5, .int x5), (6, .int x6)]) hx hb dM_find_50 hl (by decide) rfl (fun ls hl => ?_)
                  refine lv_aload_n hx hb dM_find_52 rfl (lv_at hl 1 rfl) ?_
                  refine va_get (D := (dC, dI)) (ci := 1) (v := .ref (ad 1)) (C := RX1) (T := TX1) (N := 13) (fs := mF ad u) hx hb hts hin0 hown hK hP 0 rfl rfl 0 (by decide) fl_made (fun _ h9 => h9) rfl dM_find_53 ?_
                  refine lv_iload hx hb dM_find_56 (lv_at hl 7 rfl) ?_
                  refine va_zald hx hb hK hP 1 0 rfl rfl (k_in hk (k_lt 32 hk (by omega) rfl c_20) (by omega)) dM_find_58 ?_
                  refine lv_if_eq (tgt := 106) hx hb dM_find_59 (by decide) (fun c_31 => ?_) (fun c_31 => ?_)
                  · refine lv_iload hx hb dM_find_106 (lv_at hl 6 rfl) ?_
                    refine lv_istore (lv' := [(5, .int x5), (7, .int 1), (0, .ref (ad 0)), (1, .int p1), (2, .int p2), (3, .int x3), (4, .int x4), (6, .int x6)]) hx hb dM_find_108 hl (by decide) rfl (fun ls hl => ?_)
                    refine lv_iinc (v := x6 + 1) (lv' := [(6, .int (x6 + 1)), (5, .int x5), (7, .int 1), (0, .ref (ad 0)), (1, .int p1), (2, .int p2), (3, .int x3), (4, .int x4)]) hx hb dM_find_110 hl (k := 7) rfl rfl (by decide) rfl (fun ls hl => ?_)
                    refine lv_goto (tgt := 15) hx hb dM_find_113 (by decide) ?_
                    have hk2 := (k_lt 32 hk (by omega) rfl c_20)
                    exact ih x5 (x6 + 1) _ _ _ (⟨k + 1, by rw [hk, nI_1], by omega, by omega, hbest⟩) (by rw [← hB2]; simp only [ml_find2, if_neg c_20, if_neg c_21, if_neg c_27, if_pos c_31]) hP hS (lv_sub hl [3, 4, 5, 6, 7, 1, 0] rfl) kx
                  · refine lv_aload_n hx hb dM_find_62 rfl (lv_at hl 1 rfl) ?_
                    refine va_get (D := (dC, dI)) (ci := 1) (v := .ref (ad 4)) (C := RX1) (T := TX1) (N := 13) (fs := mF ad u) hx hb hts hin0 hown hK hP 0 rfl rfl 3 (by decide) fl_rows (fun _ h9 => h9) rfl dM_find_63 ?_
                    refine lv_iload hx hb dM_find_66 (lv_at hl 7 rfl) ?_
                    refine va_iald hx hb hK hP 4 3 rfl rfl (k_in hk (k_lt 32 hk (by omega) rfl c_20) (by omega)) dM_find_68 ?_
                    refine lv_iload_n hx hb dM_find_69 rfl (lv_at hl 2 rfl) ?_
                    refine lv_icmp_ne (tgt := 106) hx hb dM_find_70 (by decide) (fun c_32 => ?_) (fun c_32 => ?_)
                    · refine lv_iload hx hb dM_find_106 (lv_at hl 6 rfl) ?_
                      refine lv_istore (lv' := [(5, .int x5), (7, .int 1), (0, .ref (ad 0)), (1, .int p1), (2, .int p2), (3, .int x3), (4, .int x4), (6, .int x6)]) hx hb dM_find_108 hl (by decide) rfl (fun ls hl => ?_)
                      refine lv_iinc (v := x6 + 1) (lv' := [(6, .int (x6 + 1)), (5, .int x5), (7, .int 1), (0, .ref (ad 0)), (1, .int p1), (2, .int p2), (3, .int x3), (4, .int x4)]) hx hb dM_find_110 hl (k := 7) rfl rfl (by decide) rfl (fun ls hl => ?_)
                      refine lv_goto (tgt := 15) hx hb dM_find_113 (by decide) ?_
                      have hk2 := (k_lt 32 hk (by omega) rfl c_20)
                      exact ih x5 (x6 + 1) _ _ _ (⟨k + 1, by rw [hk, nI_1], by omega, by omega, hbest⟩) (by rw [← hB2]; simp only [ml_find2, if_neg c_20, if_neg c_21, if_neg c_27, if_neg c_31, if_neg c_32]) hP hS (lv_sub hl [3, 4, 5, 6, 7, 1, 0] rfl) kx
                    · refine lv_iload hx hb dM_find_73 (lv_at hl 0 rfl) ?_
                      refine lv_if_eq (tgt := 106) hx hb dM_find_75 (by decide) (fun c_33 => ?_) (fun c_33 => ?_)
                      · exact absurd c_33 (by decide)
                      · refine lv_iload hx hb dM_find_78 (lv_at hl 6 rfl) ?_
                        refine lv_if_lt (tgt := 101) hx hb dM_find_80 (by decide) (fun c_34 => ?_) (fun c_34 => ?_)
                        · refine lv_iload hx hb dM_find_101 (lv_at hl 7 rfl) ?_
                          refine lv_goto (tgt := 108) hx hb dM_find_103 (by decide) ?_
                          refine lv_istore (lv' := [(5, .int x6), (7, .int 1), (0, .ref (ad 0)), (1, .int p1), (2, .int p2), (3, .int x3), (4, .int x4), (6, .int x6)]) hx hb dM_find_108 hl (by decide) rfl (fun ls hl => ?_)
                          refine lv_iinc (v := x6 + 1) (lv' := [(6, .int (x6 + 1)), (5, .int x6), (7, .int 1), (0, .ref (ad 0)), (1, .int p1), (2, .int p2), (3, .int x3), (4, .int x4)]) hx hb dM_find_110 hl (k := 7) rfl rfl (by decide) rfl (fun ls hl => ?_)
                          refine lv_goto (tgt := 15) hx hb dM_find_113 (by decide) ?_
                          have hk2 := (k_lt 32 hk (by omega) rfl c_20)
                          exact ih x6 (x6 + 1) _ _ _ (⟨k + 1, by rw [hk, nI_1], by omega, by omega, Or.inr (k_in hk hk2 (by omega))⟩) (by rw [← hB2]; simp only [ml_find2, if_neg c_20, if_neg c_21, if_neg c_27, if_neg c_31, if_pos c_32, if_pos c_34]) hP hS (lv_sub hl [3, 4, 5, 6, 7, 1, 0] rfl) kx
                        · refine lv_aload_n hx hb dM_find_83 rfl (lv_at hl 1 rfl) ?_
                          refine va_get (D := (dC, dI)) (ci := 1) (v := .ref (ad 5)) (C := RX1) (T := TX1) (N := 13) (fs := mF ad u) hx hb hts hin0 hown hK hP 0 rfl rfl 4 (by decide) fl_when (fun _ h9 => h9) rfl dM_find_84 ?_
                          refine lv_iload hx hb dM_find_87 (lv_at hl 7 rfl) ?_
                          refine va_lald hx hb hK hP 5 4 rfl rfl (k_in hk (k_lt 32 hk (by omega) rfl c_20) (by omega)) dM_find_89 ?_
                          refine lv_aload_n hx hb dM_find_90 rfl (lv_at hl 1 rfl) ?_
                          refine va_get (D := (dC, dI)) (ci := 1) (v := .ref (ad 5)) (C := RX1) (T := TX1) (N := 13) (fs := mF ad u) hx hb hts hin0 hown hK hP 0 rfl rfl 4 (by decide) fl_when (fun _ h9 => h9) rfl dM_find_91 ?_
                          refine lv_iload hx hb dM_find_94 (lv_at hl 6 rfl) ?_
                          refine va_lald hx hb hK hP 5 4 rfl rfl (mi_ge hbest c_34) dM_find_96 ?_
                          refine W.lcmp hx hb dM_find_97 ?_
                          refine lv_if_ge (tgt := 106) hx hb dM_find_98 (by decide) (fun c_35 => ?_) (fun c_35 => ?_)
                          · refine lv_iload hx hb dM_find_106 (lv_at hl 6 rfl) ?_
                            refine lv_istore (lv' := [(5, .int x5), (7, .int 1), (0, .ref (ad 0)), (1, .int p1), (2, .int p2), (3, .int x3), (4, .int x4), (6, .int x6)]) hx hb dM_find_108 hl (by decide) rfl (fun ls hl => ?_)
                            refine lv_iinc (v := x6 + 1) (lv' := [(6, .int (x6 + 1)), (5, .int x5), (7, .int 1), (0, .ref (ad 0)), (1, .int p1), (2, .int p2), (3, .int x3), (4, .int x4)]) hx hb dM_find_110 hl (k := 7) rfl rfl (by decide) rfl (fun ls hl => ?_)
                            refine lv_goto (tgt := 15) hx hb dM_find_113 (by decide) ?_
                            have hk2 := (k_lt 32 hk (by omega) rfl c_20)
                            exact ih x5 (x6 + 1) _ _ _ (⟨k + 1, by rw [hk, nI_1], by omega, by omega, hbest⟩) (by rw [← hB2]; simp only [ml_find2, if_neg c_20, if_neg c_21, if_neg c_27, if_neg c_31, if_pos c_32, if_neg c_34, if_pos c_35]) hP hS (lv_sub hl [3, 4, 5, 6, 7, 1, 0] rfl) kx
                          · refine lv_iload hx hb dM_find_101 (lv_at hl 7 rfl) ?_
                            refine lv_goto (tgt := 108) hx hb dM_find_103 (by decide) ?_
                            refine lv_istore (lv' := [(5, .int x6), (7, .int 1), (0, .ref (ad 0)), (1, .int p1), (2, .int p2), (3, .int x3), (4, .int x4), (6, .int x6)]) hx hb dM_find_108 hl (by decide) rfl (fun ls hl => ?_)
                            refine lv_iinc (v := x6 + 1) (lv' := [(6, .int (x6 + 1)), (5, .int x6), (7, .int 1), (0, .ref (ad 0)), (1, .int p1), (2, .int p2), (3, .int x3), (4, .int x4)]) hx hb dM_find_110 hl (k := 7) rfl rfl (by decide) rfl (fun ls hl => ?_)
                            refine lv_goto (tgt := 15) hx hb dM_find_113 (by decide) ?_
                            have hk2 := (k_lt 32 hk (by omega) rfl c_20)
                            exact ih x6 (x6 + 1) _ _ _ (⟨k + 1, by rw [hk, nI_1], by omega, by omega, Or.inr (k_in hk hk2 (by omega))⟩) (by rw [← hB2]; simp only [ml_find2, if_neg c_20, if_neg c_21, if_neg c_27, if_neg c_31, if_pos c_32, if_neg c_34, if_neg c_35]) hP hS (lv_sub hl [3, 4, 5, 6, 7, 1, 0] rfl) kx
        refine kin 33 (-1) 0 _ _ _ (⟨0, nI_0.symm, by omega, by omega, Or.inl (by decide)⟩) hB_19.symm hP hS (lv_sub hl [2, 3, 4, 5, 6, 1, 0] rfl) (fun H locs ls hP hS hl => ?_)
        refine lv_iload hx hb dM_find_116 (lv_at hl 5 rfl) ?_
        refine lv_if_ge (tgt := 123) hx hb dM_find_118 (by decide) (fun c_36 => ?_) (fun c_36 => ?_)
        · refine lv_iload hx hb dM_find_123 (lv_at hl 5 rfl) ?_
          refine lv_istore (lv' := [(4, .int B_19), (0, .ref (ad 0)), (1, .int p1), (2, .int p2), (3, .int x3), (5, .int B_19)]) hx hb dM_find_125 hl (by decide) rfl (fun ls hl => ?_)
          refine lv_iload_n hx hb dM_find_127 rfl (lv_at hl 4 rfl) ?_
          refine lv_iconst (v := 1) hx hb dM_find_128 (by decide) ?_
          refine lv_isub hx hb dM_find_129 ?_
          refine lv_istore_n (lv' := [(3, .int (x3 - 1)), (4, .int B_19), (0, .ref (ad 0)), (1, .int p1), (2, .int p2), (5, .int B_19)]) hx hb dM_find_130 rfl hl (by decide) rfl (fun ls hl => ?_)
          refine lv_goto (tgt := 5) hx hb dM_find_131 (by decide) ?_
          have hj2 : 1 ≤ j := mi_pos hj (by omega) c_18
          exact ih (x3 - 1) B_19 _ _ _ (⟨j - 1, by rw [hj]; exact mi_pred hj2, by omega, by omega, hjp, mi_find2 hB_19⟩) (by subst hB_19; rw [← hf2]; simp only [ml_find, if_neg c_18, if_pos c_36]) hP hS (lv_sub hl [2, 3, 4, 0, 1] rfl)
        · refine lv_iconst (v := (-1)) hx hb dM_find_121 (by decide) ?_
          subst hQ
          have eT : (-1) = T := by subst hB_19; rw [← hf2]; simp only [ml_find, if_neg c_18, if_neg c_36]
          exact W.iret (v := (-1)) hx hb hr (fun t ht hW => ⟨⟨(-1), (), rfl, eT, trivial⟩, hS.F ht⟩) hS.2.2 dM_find_122
  exact key 33 p2 (-1) _ _ _ (by obtain ⟨a, ha, e⟩ := hp; subst e; rw [k_clamp (by omega)]; exact ⟨a + 1, (pk_m1 a).symm, by omega, by omega, ha, Or.inl (by decide)⟩) (by rw [← hf]; simp only [mf_find]) hP hS (lv_sub hl [2, 3, 4, 1, 0] rfl)
set_option maxHeartbeats 4000000 in
set_option maxRecDepth 100000 in
theorem mc_at (l : Launch) (dC : Nat → ClassId) (dI : Nat → Nat → Nat) (ad : Nat → Nat) (cA : Nat → ClassId) (u : MS) (p1 : Int32) (p2 : Int32) (T : Int32) (hf : mf_at u p1 p2 = T) : Met l yM_at wM_at ({ frames := 1, cells := 0, slots := 0, locals := 27 } : Room) (va_Pc [.ref (ad 0), .int p1, .int p2] (fun U => va_P (dC, dI) vwCl (mW ad cA u) U.heap ∧ va_K (dC, dI) vwCl (mT cA) U)) (va_Qi (fun r (_ : Unit) => r = T) (fun _ _ => True) (fun _ => False)) 0 0 (fun _ => False) := by
  refine Met.ofW (cc := cM_at) (maxL := 4) (ret := (some .int)) (by decide) rfl ?_
  intro p e s m args below meth c s₁ B hml hv
  obtain ⟨rfl, hP, hK⟩ := hv
  have hx := B.exec
  have hb := B.bytes
  have hr := B.returns
  have hts := atoms_spec (ws := wM_at) B.pre
  have hown : s.vm.findClass RX1 = some m.cls := findClass_of_methodNamed B.named
  have hlocks := B.notSynchronized
  have hS : va_S (fun _ => False) s.heap s.heap [] := va_S.rf
  have hl := lv_entry ([.ref (ad 0), .int p1, .int p2]) (n := 4) (Nat.le_of_ble_eq_true rfl)
  rw [lg_entry_eq]
  generalize (lg_sl ([.ref (ad 0), .int p1, .int p2]) ++ List.replicate (4 - (lg_sl ([.ref (ad 0), .int p1, .int p2])).length) Slot.unset).toArray = ls at hl ⊢
  have hl : lv_has ls 4 [(0, .ref (ad 0)), (1, .int p1), (2, .int p2)] := hl
  refine lv_iload_n hx hb dM_at_0 rfl (lv_at hl 1 rfl) ?_
  refine va_calli (va_runS (As := [.int p1]) (rest := []) ⟨hx, hb, hml, hown, hts⟩ (mc_isPriority l p1 _ rfl) (va_cwS 1 hts gM_at_isPriority rfl rfl rfl (by decide +kernel) ⟨Nat.le_of_ble_eq_true rfl, Nat.le_of_ble_eq_true rfl⟩) ⟨fun a U g mk q => ⟨q.1, trivial⟩, fun U hU hW => ⟨rfl, trivial⟩⟩ rfl rfl hl.1 rfl (lv_room (Nat.le_of_ble_eq_true rfl)) dM_at_1 ⟨Nat.le_of_ble_eq_true rfl, Nat.le_of_ble_eq_true rfl⟩) hS (fun _ _ h => h.elim) (fun _ h => h.elim) (fun r_37 u_ t H1 locs ht hvm hr_37 hB hz1 hk1 hS => ?_)
  have hP := hP.kept (fun k x hx => hk1 x.1 ((hP k x hx).lt) (fun h => h))
  generalize H1 = H at hP hS ⊢
  refine lv_if_ne (tgt := 19) hx hb dM_at_4 (by decide) (fun c_38 => ?_) (fun c_38 => ?_)
  · refine lv_iconst (v := 1) hx hb dM_at_19 (by decide) ?_
    refine lv_goto (tgt := 24) hx hb dM_at_20 (by decide) ?_
    refine lv_istore_n (lv' := [(3, .int 1), (0, .ref (ad 0)), (1, .int p1), (2, .int p2)]) hx hb dM_at_24 rfl hl (by decide) rfl (fun ls hl => ?_)
    refine lv_iload_n hx hb dM_at_25 rfl (lv_at hl 0 rfl) ?_
    refine lv_if_eq (tgt := 48) hx hb dM_at_26 (by decide) (fun c_39 => ?_) (fun c_39 => ?_)
    · exact absurd c_39 (by decide)
    · refine lv_iload_n hx hb dM_at_29 rfl (lv_at hl 3 rfl) ?_
      refine lv_if_lt (tgt := 48) hx hb dM_at_30 (by decide) (fun c_40 => ?_) (fun c_40 => ?_)
      · refine lv_iconst (v := (-1)) hx hb dM_at_48 (by decide) ?_
        have eT : (-1) = T := by subst hr_37; rw [← hf]; simp only [mf_at, if_neg c_38, if_pos c_40]
        exact W.iret (v := (-1)) hx hb hr (fun t ht hW => ⟨⟨(-1), (), rfl, eT, trivial⟩, hS.F ht⟩) hS.2.2 dM_at_49
      · refine lv_iload_n hx hb dM_at_33 rfl (lv_at hl 3 rfl) ?_
        refine lv_bipush (v := 32) hx hb dM_at_34 (by decide) ?_
        refine lv_icmp_ge (tgt := 48) hx hb dM_at_36 (by decide) (fun c_41 => ?_) (fun c_41 => ?_)
        · refine lv_iconst (v := (-1)) hx hb dM_at_48 (by decide) ?_
          have eT : (-1) = T := by subst hr_37; rw [← hf]; simp only [mf_at, if_neg c_38, if_neg c_40, if_pos c_41]
          exact W.iret (v := (-1)) hx hb hr (fun t ht hW => ⟨⟨(-1), (), rfl, eT, trivial⟩, hS.F ht⟩) hS.2.2 dM_at_49
        · refine lv_aload_n hx hb dM_at_39 rfl (lv_at hl 1 rfl) ?_
          refine lv_iload_n hx hb dM_at_40 rfl (lv_at hl 2 rfl) ?_
          refine lv_iload_n hx hb dM_at_41 rfl (lv_at hl 3 rfl) ?_
          refine va_calli (va_runV (As := [.int p1, .int p2]) (rest := []) ⟨hx, hb, hml, hown, hts⟩ (mc_find l dC dI ad cA u p1 p2 (mi_arg c_40 c_41) _ rfl) (cwV 2 hts gM_at_find rfl rfl rfl (by decide +kernel) ⟨Nat.le_of_ble_eq_true rfl, Nat.le_of_ble_eq_true rfl⟩) ⟨fun a U g mk q => by obtain ⟨q0, qP, qK⟩ := q; exact ⟨q0, qP, va_K.moved (u := U) (U := U.calling g mk a) (Vm.Alike.refl U.vm) qK⟩, va_recv hK hP (ci := 1) (q0 := 0) rfl rfl, fun U hU hW => ⟨rfl, by rw [hU]; exact hP, va_K.moved hW.alike hK⟩⟩ rfl rfl hl.1 rfl (lv_room (Nat.le_of_ble_eq_true rfl)) dM_at_42 ⟨Nat.le_of_ble_eq_true rfl, Nat.le_of_ble_eq_true rfl⟩) hS (fun _ _ h => h.elim) (fun _ h => h.elim) (fun r_42 u_ t H1 locs ht hvm hr_42 hB hz1 hk1 hS => ?_)
          have hP := hP.kept (fun k x hx => hk1 x.1 ((hP k x hx).lt) (fun h => h))
          generalize H1 = H at hP hS ⊢
          refine lv_goto (tgt := 49) hx hb dM_at_45 (by decide) ?_
          have eT : r_42 = T := by subst hr_37 hr_42; rw [← hf]; simp only [mf_at, if_neg c_38, if_neg c_40, if_neg c_41]
          exact W.iret (v := r_42) hx hb hr (fun t ht hW => ⟨⟨r_42, (), rfl, eT, trivial⟩, hS.F ht⟩) hS.2.2 dM_at_49
  · refine lv_iload_n hx hb dM_at_7 rfl (lv_at hl 1 rfl) ?_
    refine lv_bipush (v := 16) hx hb dM_at_8 (by decide) ?_
    refine lv_icmp_lt (tgt := 23) hx hb dM_at_10 (by decide) (fun c_43 => ?_) (fun c_43 => ?_)
    · refine lv_iconst (v := 0) hx hb dM_at_23 (by decide) ?_
      refine lv_istore_n (lv' := [(3, .int 0), (0, .ref (ad 0)), (1, .int p1), (2, .int p2)]) hx hb dM_at_24 rfl hl (by decide) rfl (fun ls hl => ?_)
      refine lv_iload_n hx hb dM_at_25 rfl (lv_at hl 0 rfl) ?_
      refine lv_if_eq (tgt := 48) hx hb dM_at_26 (by decide) (fun c_44 => ?_) (fun c_44 => ?_)
      · refine lv_iconst (v := (-1)) hx hb dM_at_48 (by decide) ?_
        have eT : (-1) = T := by subst hr_37; rw [← hf]; simp only [mf_at, if_pos c_38, if_pos c_43]
        exact W.iret (v := (-1)) hx hb hr (fun t ht hW => ⟨⟨(-1), (), rfl, eT, trivial⟩, hS.F ht⟩) hS.2.2 dM_at_49
      · exact absurd rfl c_44
    · refine lv_iload_n hx hb dM_at_13 rfl (lv_at hl 1 rfl) ?_
      refine lv_bipush (v := 32) hx hb dM_at_14 (by decide) ?_
      refine lv_icmp_ge (tgt := 23) hx hb dM_at_16 (by decide) (fun c_45 => ?_) (fun c_45 => ?_)
      · refine lv_iconst (v := 0) hx hb dM_at_23 (by decide) ?_
        refine lv_istore_n (lv' := [(3, .int 0), (0, .ref (ad 0)), (1, .int p1), (2, .int p2)]) hx hb dM_at_24 rfl hl (by decide) rfl (fun ls hl => ?_)
        refine lv_iload_n hx hb dM_at_25 rfl (lv_at hl 0 rfl) ?_
        refine lv_if_eq (tgt := 48) hx hb dM_at_26 (by decide) (fun c_46 => ?_) (fun c_46 => ?_)
        · refine lv_iconst (v := (-1)) hx hb dM_at_48 (by decide) ?_
          have eT : (-1) = T := by subst hr_37; rw [← hf]; simp only [mf_at, if_pos c_38, if_neg c_43, if_pos c_45]
          exact W.iret (v := (-1)) hx hb hr (fun t ht hW => ⟨⟨(-1), (), rfl, eT, trivial⟩, hS.F ht⟩) hS.2.2 dM_at_49
        · exact absurd rfl c_46
      · refine lv_iconst (v := 1) hx hb dM_at_19 (by decide) ?_
        refine lv_goto (tgt := 24) hx hb dM_at_20 (by decide) ?_
        refine lv_istore_n (lv' := [(3, .int 1), (0, .ref (ad 0)), (1, .int p1), (2, .int p2)]) hx hb dM_at_24 rfl hl (by decide) rfl (fun ls hl => ?_)
        refine lv_iload_n hx hb dM_at_25 rfl (lv_at hl 0 rfl) ?_
        refine lv_if_eq (tgt := 48) hx hb dM_at_26 (by decide) (fun c_47 => ?_) (fun c_47 => ?_)
        · exact absurd c_47 (by decide)
        · refine lv_iload_n hx hb dM_at_29 rfl (lv_at hl 3 rfl) ?_
          refine lv_if_lt (tgt := 48) hx hb dM_at_30 (by decide) (fun c_48 => ?_) (fun c_48 => ?_)
          · refine lv_iconst (v := (-1)) hx hb dM_at_48 (by decide) ?_
            have eT : (-1) = T := by subst hr_37; rw [← hf]; simp only [mf_at, if_pos c_38, if_neg c_43, if_neg c_45, if_pos c_48]
            exact W.iret (v := (-1)) hx hb hr (fun t ht hW => ⟨⟨(-1), (), rfl, eT, trivial⟩, hS.F ht⟩) hS.2.2 dM_at_49
          · refine lv_iload_n hx hb dM_at_33 rfl (lv_at hl 3 rfl) ?_
            refine lv_bipush (v := 32) hx hb dM_at_34 (by decide) ?_
            refine lv_icmp_ge (tgt := 48) hx hb dM_at_36 (by decide) (fun c_49 => ?_) (fun c_49 => ?_)
            · refine lv_iconst (v := (-1)) hx hb dM_at_48 (by decide) ?_
              have eT : (-1) = T := by subst hr_37; rw [← hf]; simp only [mf_at, if_pos c_38, if_neg c_43, if_neg c_45, if_neg c_48, if_pos c_49]
              exact W.iret (v := (-1)) hx hb hr (fun t ht hW => ⟨⟨(-1), (), rfl, eT, trivial⟩, hS.F ht⟩) hS.2.2 dM_at_49
            · refine lv_aload_n hx hb dM_at_39 rfl (lv_at hl 1 rfl) ?_
              refine lv_iload_n hx hb dM_at_40 rfl (lv_at hl 2 rfl) ?_
              refine lv_iload_n hx hb dM_at_41 rfl (lv_at hl 3 rfl) ?_
              refine va_calli (va_runV (As := [.int p1, .int p2]) (rest := []) ⟨hx, hb, hml, hown, hts⟩ (mc_find l dC dI ad cA u p1 p2 (mi_arg c_48 c_49) _ rfl) (cwV 2 hts gM_at_find rfl rfl rfl (by decide +kernel) ⟨Nat.le_of_ble_eq_true rfl, Nat.le_of_ble_eq_true rfl⟩) ⟨fun a U g mk q => by obtain ⟨q0, qP, qK⟩ := q; exact ⟨q0, qP, va_K.moved (u := U) (U := U.calling g mk a) (Vm.Alike.refl U.vm) qK⟩, va_recv hK hP (ci := 1) (q0 := 0) rfl rfl, fun U hU hW => ⟨rfl, by rw [hU]; exact hP, va_K.moved hW.alike hK⟩⟩ rfl rfl hl.1 rfl (lv_room (Nat.le_of_ble_eq_true rfl)) dM_at_42 ⟨Nat.le_of_ble_eq_true rfl, Nat.le_of_ble_eq_true rfl⟩) hS (fun _ _ h => h.elim) (fun _ h => h.elim) (fun r_50 u_ t H1 locs ht hvm hr_50 hB hz1 hk1 hS => ?_)
              have hP := hP.kept (fun k x hx => hk1 x.1 ((hP k x hx).lt) (fun h => h))
              generalize H1 = H at hP hS ⊢
              refine lv_goto (tgt := 49) hx hb dM_at_45 (by decide) ?_
              have eT : r_50 = T := by subst hr_37 hr_50; rw [← hf]; simp only [mf_at, if_pos c_38, if_neg c_43, if_neg c_45, if_neg c_48, if_neg c_49]
              exact W.iret (v := r_50) hx hb hr (fun t ht hW => ⟨⟨r_50, (), rfl, eT, trivial⟩, hS.F ht⟩) hS.2.2 dM_at_49
set_option maxHeartbeats 4000000 in
set_option maxRecDepth 100000 in
theorem mc_extra (l : Launch) (dC : Nat → ClassId) (dI : Nat → Nat → Nat) (ad : Nat → Nat) (cA : Nat → ClassId) (u : MS) (p1 : Int32) (T : Int32) (hf : mf_extra u p1 = T) : Met l yM_extra wM_extra ({ frames := 1, cells := 0, slots := 0, locals := 20 } : Room) (va_Pc [.ref (ad 0), .int p1] (fun U => va_P (dC, dI) vwCl (mW ad cA u) U.heap ∧ va_K (dC, dI) vwCl (mT cA) U)) (va_Qi (fun r (_ : Unit) => r = T) (fun _ _ => True) (fun _ => False)) 0 0 (fun _ => False) := by
  refine Met.ofW (cc := cM_extra) (maxL := 2) (ret := (some .int)) (by decide) rfl ?_
  intro p e s m args below meth c s₁ B hml hv
  obtain ⟨rfl, hP, hK⟩ := hv
  have hx := B.exec
  have hb := B.bytes
  have hr := B.returns
  have hts := atoms_spec (ws := wM_extra) B.pre
  have hown : s.vm.findClass RX1 = some m.cls := findClass_of_methodNamed B.named
  have hlocks := B.notSynchronized
  have hin0 : ∀ w ∈ wsX10, w ∈ wM_extra := by decide +kernel
  have fl_extras := hts (.fieldLink RX1 27 "ProcessRoomModel" "extras" "[I") (by decide +kernel)
  have hS : va_S (fun _ => False) s.heap s.heap [] := va_S.rf
  have hl := lv_entry ([.ref (ad 0), .int p1]) (n := 2) (Nat.le_of_ble_eq_true rfl)
  rw [lg_entry_eq]
  generalize (lg_sl ([.ref (ad 0), .int p1]) ++ List.replicate (2 - (lg_sl ([.ref (ad 0), .int p1])).length) Slot.unset).toArray = ls at hl ⊢
  have hl : lv_has ls 2 [(0, .ref (ad 0)), (1, .int p1)] := hl
  refine lv_iload_n hx hb dM_extra_0 rfl (lv_at hl 1 rfl) ?_
  refine va_calli (va_runS (As := [.int p1]) (rest := []) ⟨hx, hb, hml, hown, hts⟩ (mc_isSemaphore l p1 _ rfl) (va_cwS 1 hts gM_extra_isSemaphore rfl rfl rfl (by decide +kernel) ⟨Nat.le_of_ble_eq_true rfl, Nat.le_of_ble_eq_true rfl⟩) ⟨fun a U g mk q => ⟨q.1, trivial⟩, fun U hU hW => ⟨rfl, trivial⟩⟩ rfl rfl hl.1 rfl (lv_room (Nat.le_of_ble_eq_true rfl)) dM_extra_1 ⟨Nat.le_of_ble_eq_true rfl, Nat.le_of_ble_eq_true rfl⟩) hS (fun _ _ h => h.elim) (fun _ h => h.elim) (fun r_51 u_ t H1 locs ht hvm hr_51 hB hz1 hk1 hS => ?_)
  have hP := hP.kept (fun k x hx => hk1 x.1 ((hP k x hx).lt) (fun h => h))
  generalize H1 = H at hP hS ⊢
  refine lv_if_eq (tgt := 16) hx hb dM_extra_4 (by decide) (fun c_52 => ?_) (fun c_52 => ?_)
  · refine lv_iconst (v := (-1)) hx hb dM_extra_16 (by decide) ?_
    have eT : (-1) = T := by subst hr_51; rw [← hf]; simp only [mf_extra, if_pos c_52]
    exact W.iret (v := (-1)) hx hb hr (fun t ht hW => ⟨⟨(-1), (), rfl, eT, trivial⟩, hS.F ht⟩) hS.2.2 dM_extra_17
  · refine lv_aload_n hx hb dM_extra_7 rfl (lv_at hl 0 rfl) ?_
    refine va_get (D := (dC, dI)) (ci := 1) (v := .ref (ad 6)) (C := RX1) (T := TX1) (N := 13) (fs := mF ad u) hx hb hts hin0 hown hK hP 0 rfl rfl 6 (by decide) fl_extras (fun _ h9 => h9) rfl dM_extra_8 ?_
    refine lv_iload_n hx hb dM_extra_11 rfl (lv_at hl 1 rfl) ?_
    refine va_iald hx hb hK hP 6 5 rfl rfl (mi_isSemaphore hr_51 c_52) dM_extra_12 ?_
    refine lv_goto (tgt := 17) hx hb dM_extra_13 (by decide) ?_
    have eT : ma_extras u p1.toNatClampNeg = T := by subst hr_51; rw [← hf]; simp only [mf_extra, if_neg c_52]
    exact W.iret (v := ma_extras u p1.toNatClampNeg) hx hb hr (fun t ht hW => ⟨⟨ma_extras u p1.toNatClampNeg, (), rfl, eT, trivial⟩, hS.F ht⟩) hS.2.2 dM_extra_17
set_option maxHeartbeats 4000000 in
set_option maxRecDepth 100000 in
theorem mc_posted (l : Launch) (dC : Nat → ClassId) (dI : Nat → Nat → Nat) (ad : Nat → Nat) (cA : Nat → ClassId) (u : MS) (p1 : Int32) (hI : mInv u) (T : Int32) (hf : mf_posted u p1 = T) : Met l yM_posted wM_posted ({ frames := 0, cells := 0, slots := 0, locals := 0 } : Room) (va_Pc [.ref (ad 0), .int p1] (fun U => va_P (dC, dI) vwCl (mW ad cA u) U.heap ∧ va_K (dC, dI) vwCl (mT cA) U)) (va_Qi (fun r (_ : Unit) => r = T) (fun _ _ => True) (fun _ => False)) 0 0 (fun _ => False) := by
  refine Met.ofW (cc := cM_posted) (maxL := 2) (ret := (some .int)) (by decide) rfl ?_
  intro p e s m args below meth c s₁ B hml hv
  obtain ⟨rfl, hP, hK⟩ := hv
  have hx := B.exec
  have hb := B.bytes
  have hr := B.returns
  have hts := atoms_spec (ws := wM_posted) B.pre
  have hown : s.vm.findClass RX1 = some m.cls := findClass_of_methodNamed B.named
  have hlocks := B.notSynchronized
  have hin0 : ∀ w ∈ wsX10, w ∈ wM_posted := by decide +kernel
  have fl_posts := hts (.fieldLink RX1 86 "ProcessRoomModel" "posts" "I") (by decide +kernel)
  have fl_posted := hts (.fieldLink RX1 30 "ProcessRoomModel" "posted" "[I") (by decide +kernel)
  have hS : va_S (fun _ => False) s.heap s.heap [] := va_S.rf
  have hl := lv_entry ([.ref (ad 0), .int p1]) (n := 2) (Nat.le_of_ble_eq_true rfl)
  rw [lg_entry_eq]
  generalize (lg_sl ([.ref (ad 0), .int p1]) ++ List.replicate (2 - (lg_sl ([.ref (ad 0), .int p1])).length) Slot.unset).toArray = ls at hl ⊢
  have hl : lv_has ls 2 [(0, .ref (ad 0)), (1, .int p1)] := hl
  refine lv_iload_n hx hb dM_posted_0 rfl (lv_at hl 1 rfl) ?_
  refine lv_if_lt (tgt := 21) hx hb dM_posted_1 (by decide) (fun c_53 => ?_) (fun c_53 => ?_)
  · refine lv_iconst (v := (-1)) hx hb dM_posted_21 (by decide) ?_
    have eT : (-1) = T := by rw [← hf]; simp only [mf_posted, if_pos c_53]
    exact W.iret (v := (-1)) hx hb hr (fun t ht hW => ⟨⟨(-1), (), rfl, eT, trivial⟩, hS.F ht⟩) hS.2.2 dM_posted_22
  · refine lv_iload_n hx hb dM_posted_4 rfl (lv_at hl 1 rfl) ?_
    refine lv_aload_n hx hb dM_posted_5 rfl (lv_at hl 0 rfl) ?_
    refine va_get (D := (dC, dI)) (ci := 1) (v := .int (ma_posts u)) (C := RX1) (T := TX1) (N := 13) (fs := mF ad u) hx hb hts hin0 hown hK hP 0 rfl rfl 7 (by decide) fl_posts (fun _ h9 => h9) rfl dM_posted_6 ?_
    refine lv_icmp_ge (tgt := 21) hx hb dM_posted_9 (by decide) (fun c_54 => ?_) (fun c_54 => ?_)
    · refine lv_iconst (v := (-1)) hx hb dM_posted_21 (by decide) ?_
      have eT : (-1) = T := by rw [← hf]; simp only [mf_posted, if_neg c_53, if_pos c_54]
      exact W.iret (v := (-1)) hx hb hr (fun t ht hW => ⟨⟨(-1), (), rfl, eT, trivial⟩, hS.F ht⟩) hS.2.2 dM_posted_22
    · refine lv_aload_n hx hb dM_posted_12 rfl (lv_at hl 0 rfl) ?_
      refine va_get (D := (dC, dI)) (ci := 1) (v := .ref (ad 7)) (C := RX1) (T := TX1) (N := 13) (fs := mF ad u) hx hb hts hin0 hown hK hP 0 rfl rfl 8 (by decide) fl_posted (fun _ h9 => h9) rfl dM_posted_13 ?_
      refine lv_iload_n hx hb dM_posted_16 rfl (lv_at hl 1 rfl) ?_
      refine va_iald hx hb hK hP 7 6 rfl rfl (mi_posted hI c_53 c_54) dM_posted_17 ?_
      refine lv_goto (tgt := 22) hx hb dM_posted_18 (by decide) ?_
      have eT : ma_posted u p1.toNatClampNeg = T := by rw [← hf]; simp only [mf_posted, if_neg c_53, if_neg c_54]
      exact W.iret (v := ma_posted u p1.toNatClampNeg) hx hb hr (fun t ht hW => ⟨⟨ma_posted u p1.toNatClampNeg, (), rfl, eT, trivial⟩, hS.F ht⟩) hS.2.2 dM_posted_22
end
section
set_option maxHeartbeats 4000000 in
set_option maxRecDepth 100000 in
theorem mc_want (l : Launch) (dC : Nat → ClassId) (dI : Nat → Nat → Nat) (ad : Nat → Nat) (cA : Nat → ClassId) (sz : Nat) (u : MS) (p1 : Int32) (T : MS) (hf : mf_want u p1 = T) : Met l yM_want wM_want ({ frames := 0, cells := 0, slots := 0, locals := 0 } : Room) (va_Pc [.ref (ad 0), .int p1] (fun U => U.heap.size = sz ∧ va_P (dC, dI) vwCl (mW ad cA u) U.heap ∧ va_K (dC, dI) vwCl (mT cA) U ∧ va_D (fun _ => True) (mW ad cA u))) (va_Qv (fun u2 => u2 = T) (mAt dC dI (va_A (mW ad cA u) sz) ad cA) (va_A (mW ad cA u) sz)) 0 0 (va_A (mW ad cA u) sz) := by
  refine Met.ofW (cc := cM_want) (maxL := 2) (ret := none) (by decide) rfl ?_
  intro p e s m args below meth c s₁ B hml hv
  obtain ⟨rfl, hsz, hP, hK, hD0⟩ := hv
  have hx := B.exec
  have hb := B.bytes
  have hr := B.returns
  have hts := atoms_spec (ws := wM_want) B.pre
  have hown : s.vm.findClass RX1 = some m.cls := findClass_of_methodNamed B.named
  have hlocks := B.notSynchronized
  have hin0 : ∀ w ∈ wsX10, w ∈ wM_want := by decide +kernel
  have fl_wanted := hts (.fieldLink RX1 48 "ProcessRoomModel" "wanted" "Z") (by decide +kernel)
  have fl_change := hts (.fieldLink RX1 37 "ProcessRoomModel" "change" "I") (by decide +kernel)
  subst hsz
  have hD := hD0.self (sz := s.heap.size)
  generalize hAe : va_A (mW ad cA u) s.heap.size = A at hD ⊢
  have hA : ∀ q : Nat, s.heap.size ≤ q → A q := fun q h => by rw [← hAe]; exact Or.inr h
  have hS : va_S A s.heap s.heap [] := va_S.rf
  have hl := lv_entry ([.ref (ad 0), .int p1]) (n := 2) (Nat.le_of_ble_eq_true rfl)
  rw [lg_entry_eq]
  generalize (lg_sl ([.ref (ad 0), .int p1]) ++ List.replicate (2 - (lg_sl ([.ref (ad 0), .int p1])).length) Slot.unset).toArray = ls at hl ⊢
  have hl : lv_has ls 2 [(0, .ref (ad 0)), (1, .int p1)] := hl
  refine lv_aload_n hx hb dM_want_0 rfl (lv_at hl 0 rfl) ?_
  refine lv_iconst (v := 1) hx hb dM_want_1 (by decide) ?_
  refine va_put (D := (dC, dI)) (ci := 1) (v := .int 1) (ty := .boolean) (C := RX1) (T := TX1) (N := 13) (fs := mF ad u) hx hb hts hin0 tyX1 tyX1_ok nmX1 hown hK hP hD hS 0 rfl rfl 11 (by decide) fl_wanted (fun _ h9 => h9) rfl (by decide +kernel) rfl rfl (Nat.le_of_ble_eq_true rfl) dM_want_2 (fun H locs hP hD hS => ?_)
  rw [mw_wanted] at hP hD
  obtain ⟨u_55, hu_55⟩ : ∃ w : MS, w = ms_wanted u 1 := ⟨_, rfl⟩
  rw [← hu_55] at hP hD
  refine lv_aload_n hx hb dM_want_5 rfl (lv_at hl 0 rfl) ?_
  refine lv_iload_n hx hb dM_want_6 rfl (lv_at hl 1 rfl) ?_
  refine va_put (D := (dC, dI)) (ci := 1) (v := .int p1) (ty := .int) (C := RX1) (T := TX1) (N := 13) (fs := mF ad u_55) hx hb hts hin0 tyX1 tyX1_ok nmX1 hown hK hP hD hS 0 rfl rfl 12 (by decide) fl_change (fun _ h9 => h9) rfl (by decide +kernel) rfl rfl (Nat.le_of_ble_eq_true rfl) dM_want_7 (fun H locs hP hD hS => ?_)
  rw [mw_change] at hP hD
  obtain ⟨u_56, hu_56⟩ : ∃ w : MS, w = ms_change u_55 p1 := ⟨_, rfl⟩
  rw [← hu_56] at hP hD
  have eT : u_56 = T := by subst hu_55 hu_56; rw [← hf]; simp only [mf_want]
  exact W.vret hx hb hr (fun t ht hW => ⟨⟨u_56, rfl, eT, by rw [ht]; exact hP, va_K.moved hW.alike hK, hD⟩, hS.F ht⟩) hS.2.2 dM_want_10
set_option maxHeartbeats 4000000 in
set_option maxRecDepth 100000 in
theorem mc_enter (l : Launch) (dC : Nat → ClassId) (dI : Nat → Nat → Nat) (ad : Nat → Nat) (cA : Nat → ClassId) (sz : Nat) (u : MS) (p1 : Int32) (p2 : Int32) (hp : vp_in p1 32) (T : MS) (hf : mf_enter u p1 p2 = T) : Met l yM_enter wM_enter ({ frames := 0, cells := 0, slots := 0, locals := 0 } : Room) (va_Pc [.ref (ad 0), .int p1, .int p2] (fun U => U.heap.size = sz ∧ va_P (dC, dI) vwCl (mW ad cA u) U.heap ∧ va_K (dC, dI) vwCl (mT cA) U ∧ va_D (fun _ => True) (mW ad cA u))) (va_Qv (fun u2 => u2 = T) (mAt dC dI (va_A (mW ad cA u) sz) ad cA) (va_A (mW ad cA u) sz)) 0 0 (va_A (mW ad cA u) sz) := by
  refine Met.ofW (cc := cM_enter) (maxL := 3) (ret := none) (by decide) rfl ?_
  intro p e s m args below meth c s₁ B hml hv
  obtain ⟨rfl, hsz, hP, hK, hD0⟩ := hv
  have hx := B.exec
  have hb := B.bytes
  have hr := B.returns
  have hts := atoms_spec (ws := wM_enter) B.pre
  have hown : s.vm.findClass RX1 = some m.cls := findClass_of_methodNamed B.named
  have hlocks := B.notSynchronized
  have hin0 : ∀ w ∈ wsX10, w ∈ wM_enter := by decide +kernel
  have fl_rows := hts (.fieldLink RX1 20 "ProcessRoomModel" "rows" "[I") (by decide +kernel)
  have fl_when := hts (.fieldLink RX1 23 "ProcessRoomModel" "when" "[J") (by decide +kernel)
  have fl_now := hts (.fieldLink RX1 44 "ProcessRoomModel" "now" "J") (by decide +kernel)
  subst hsz
  have hD := hD0.self (sz := s.heap.size)
  generalize hAe : va_A (mW ad cA u) s.heap.size = A at hD ⊢
  have hA : ∀ q : Nat, s.heap.size ≤ q → A q := fun q h => by rw [← hAe]; exact Or.inr h
  have hS : va_S A s.heap s.heap [] := va_S.rf
  have hl := lv_entry ([.ref (ad 0), .int p1, .int p2]) (n := 3) (Nat.le_of_ble_eq_true rfl)
  rw [lg_entry_eq]
  generalize (lg_sl ([.ref (ad 0), .int p1, .int p2]) ++ List.replicate (3 - (lg_sl ([.ref (ad 0), .int p1, .int p2])).length) Slot.unset).toArray = ls at hl ⊢
  have hl : lv_has ls 3 [(0, .ref (ad 0)), (1, .int p1), (2, .int p2)] := hl
  refine lv_aload_n hx hb dM_enter_0 rfl (lv_at hl 0 rfl) ?_
  refine va_get (D := (dC, dI)) (ci := 1) (v := .ref (ad 4)) (C := RX1) (T := TX1) (N := 13) (fs := mF ad u) hx hb hts hin0 hown hK hP 0 rfl rfl 3 (by decide) fl_rows (fun _ h9 => h9) rfl dM_enter_1 ?_
  refine lv_iload_n hx hb dM_enter_4 rfl (lv_at hl 1 rfl) ?_
  refine lv_iload_n hx hb dM_enter_5 rfl (lv_at hl 2 rfl) ?_
  refine va_iast hx hb hK hP hD hS 4 3 rfl rfl hp dM_enter_6 (fun H locs hP hD hS => ?_)
  rw [mw_rows] at hP hD
  obtain ⟨u_57, hu_57⟩ : ∃ w : MS, w = ms_rows u (upd (ma_rows u) p1.toNatClampNeg p2) := ⟨_, rfl⟩
  rw [← hu_57] at hP hD
  refine lv_aload_n hx hb dM_enter_7 rfl (lv_at hl 0 rfl) ?_
  refine va_get (D := (dC, dI)) (ci := 1) (v := .ref (ad 5)) (C := RX1) (T := TX1) (N := 13) (fs := mF ad u_57) hx hb hts hin0 hown hK hP 0 rfl rfl 4 (by decide) fl_when (fun _ h9 => h9) rfl dM_enter_8 ?_
  refine lv_iload_n hx hb dM_enter_11 rfl (lv_at hl 1 rfl) ?_
  refine lv_aload_n hx hb dM_enter_12 rfl (lv_at hl 0 rfl) ?_
  refine va_get (D := (dC, dI)) (ci := 1) (v := .long (ma_now u)) (C := RX1) (T := TX1) (N := 13) (fs := mF ad u_57) hx hb hts hin0 hown hK hP 0 rfl rfl 5 (by decide) fl_now (fun _ h9 => h9) (congrArg (fun z => some (Value.long z)) (show ma_now u_57 = ma_now u from by rw [hu_57, mq_now_rows])) dM_enter_13 ?_
  refine va_last hx hb hK hP hD hS 5 4 (show (mW ad cA u_57)[5]? = some (ad 5, .inl (cA 5, 32, .inr (.inl (ma_when u)))) from by rw [← (show ma_when u_57 = ma_when u from by rw [hu_57, mq_when_rows])]; rfl) rfl hp dM_enter_16 (fun H locs hP hD hS => ?_)
  rw [mw_when] at hP hD
  obtain ⟨u_58, hu_58⟩ : ∃ w : MS, w = ms_when u_57 (vp_updL (ma_when u) p1.toNatClampNeg (ma_now u)) := ⟨_, rfl⟩
  rw [← hu_58] at hP hD
  refine lv_aload_n hx hb dM_enter_17 rfl (lv_at hl 0 rfl) ?_
  refine lv_aload_n hx hb dM_enter_18 rfl (lv_at hl 0 rfl) ?_
  refine va_get (D := (dC, dI)) (ci := 1) (v := .long (ma_now u)) (C := RX1) (T := TX1) (N := 13) (fs := mF ad u_58) hx hb hts hin0 hown hK hP 0 rfl rfl 5 (by decide) fl_now (fun _ h9 => h9) (congrArg (fun z => some (Value.long z)) (show ma_now u_58 = ma_now u from by rw [hu_58, mq_now_when, hu_57, mq_now_rows])) dM_enter_19 ?_
  refine lv_lconst (v := 1) hx hb dM_enter_22 rfl ?_
  refine lv_ladd hx hb dM_enter_23 ?_
  refine va_put (D := (dC, dI)) (ci := 1) (v := .long ((ma_now u) + 1)) (ty := .long) (C := RX1) (T := TX1) (N := 13) (fs := mF ad u_58) hx hb hts hin0 tyX1 tyX1_ok nmX1 hown hK hP hD hS 0 rfl rfl 5 (by decide) fl_now (fun _ h9 => h9) rfl (by decide +kernel) rfl rfl (Nat.le_of_ble_eq_true rfl) dM_enter_24 (fun H locs hP hD hS => ?_)
  rw [mw_now] at hP hD
  obtain ⟨u_59, hu_59⟩ : ∃ w : MS, w = ms_now u_58 ((ma_now u) + 1) := ⟨_, rfl⟩
  rw [← hu_59] at hP hD
  have eT : u_59 = T := by subst hu_57 hu_58 hu_59; rw [← hf]; simp only [mf_enter]
  exact W.vret hx hb hr (fun t ht hW => ⟨⟨u_59, rfl, eT, by rw [ht]; exact hP, va_K.moved hW.alike hK, hD⟩, hS.F ht⟩) hS.2.2 dM_enter_27
set_option maxHeartbeats 4000000 in
set_option maxRecDepth 100000 in
theorem mc_wake (l : Launch) (dC : Nat → ClassId) (dI : Nat → Nat → Nat) (ad : Nat → Nat) (cA : Nat → ClassId) (sz : Nat) (u : MS) (p1 : Int32) (hI : mInv u) (hp : vp_in p1 32) (T : MS) (hf : mf_wake u p1 = T) : Met l yM_wake wM_wake ({ frames := 1, cells := 0, slots := 0, locals := 22 } : Room) (va_Pc [.ref (ad 0), .int p1] (fun U => U.heap.size = sz ∧ va_P (dC, dI) vwCl (mW ad cA u) U.heap ∧ va_K (dC, dI) vwCl (mT cA) U ∧ va_D (fun _ => True) (mW ad cA u))) (va_Qv (fun u2 => u2 = T) (mAt dC dI (va_A (mW ad cA u) sz) ad cA) (va_A (mW ad cA u) sz)) 0 0 (va_A (mW ad cA u) sz) := by
  refine Met.ofW (cc := cM_wake) (maxL := 3) (ret := none) (by decide) rfl ?_
  intro p e s m args below meth c s₁ B hml hv
  obtain ⟨rfl, hsz, hP, hK, hD0⟩ := hv
  have hx := B.exec
  have hb := B.bytes
  have hr := B.returns
  have hts := atoms_spec (ws := wM_wake) B.pre
  have hown : s.vm.findClass RX1 = some m.cls := findClass_of_methodNamed B.named
  have hlocks := B.notSynchronized
  have hin0 : ∀ w ∈ wsX10, w ∈ wM_wake := by decide +kernel
  have fl_priorities := hts (.fieldLink RX1 13 "ProcessRoomModel" "priorities" "[I") (by decide +kernel)
  have fl_rows := hts (.fieldLink RX1 20 "ProcessRoomModel" "rows" "[I") (by decide +kernel)
  subst hsz
  have hD := hD0.self (sz := s.heap.size)
  generalize hAe : va_A (mW ad cA u) s.heap.size = A at hD ⊢
  have hA : ∀ q : Nat, s.heap.size ≤ q → A q := fun q h => by rw [← hAe]; exact Or.inr h
  have hS : va_S A s.heap s.heap [] := va_S.rf
  have hl := lv_entry ([.ref (ad 0), .int p1]) (n := 3) (Nat.le_of_ble_eq_true rfl)
  rw [lg_entry_eq]
  generalize (lg_sl ([.ref (ad 0), .int p1]) ++ List.replicate (3 - (lg_sl ([.ref (ad 0), .int p1])).length) Slot.unset).toArray = ls at hl ⊢
  have hl : lv_has ls 3 [(0, .ref (ad 0)), (1, .int p1)] := hl
  refine lv_aload_n hx hb dM_wake_0 rfl (lv_at hl 0 rfl) ?_
  refine va_calli (va_runV (As := []) (rest := []) ⟨hx, hb, hml, hown, hts⟩ (mc_presentOne l dC dI ad cA u _ rfl) (cwV 0 hts gM_wake_presentOne rfl rfl rfl (by decide +kernel) ⟨Nat.le_of_ble_eq_true rfl, Nat.le_of_ble_eq_true rfl⟩) ⟨fun a U g mk q => by obtain ⟨q0, qP, qK⟩ := q; exact ⟨q0, qP, va_K.moved (u := U) (U := U.calling g mk a) (Vm.Alike.refl U.vm) qK⟩, va_recv hK hP (ci := 1) (q0 := 0) rfl rfl, fun U hU hW => ⟨rfl, by rw [hU]; exact hP, va_K.moved hW.alike hK⟩⟩ rfl rfl hl.1 rfl (lv_room (Nat.le_of_ble_eq_true rfl)) dM_wake_1 ⟨Nat.le_of_ble_eq_true rfl, Nat.le_of_ble_eq_true rfl⟩) hS (fun _ _ h => h.elim) (fun _ h => h.elim) (fun r_60 u_ t H1 locs ht hvm hr_60 hB hz1 hk1 hS => ?_)
  have hP := hP.kept (fun k x hx => hk1 x.1 ((hP k x hx).lt) (fun h => h))
  generalize H1 = H at hP hS ⊢
  refine lv_istore_n (lv' := [(2, .int r_60), (0, .ref (ad 0)), (1, .int p1)]) hx hb dM_wake_4 rfl hl (by decide) rfl (fun ls hl => ?_)
  refine lv_iload_n hx hb dM_wake_5 rfl (lv_at hl 0 rfl) ?_
  refine lv_if_lt (tgt := 36) hx hb dM_wake_6 (by decide) (fun c_61 => ?_) (fun c_61 => ?_)
  · refine lv_iload_n hx hb dM_wake_36 rfl (lv_at hl 0 rfl) ?_
    refine lv_if_lt (tgt := 51) hx hb dM_wake_37 (by decide) (fun c_62 => ?_) (fun c_62 => ?_)
    · refine lv_aload_n hx hb dM_wake_51 rfl (lv_at hl 1 rfl) ?_
      refine va_get (D := (dC, dI)) (ci := 1) (v := .ref (ad 4)) (C := RX1) (T := TX1) (N := 13) (fs := mF ad u) hx hb hts hin0 hown hK hP 0 rfl rfl 3 (by decide) fl_rows (fun _ h9 => h9) rfl dM_wake_52 ?_
      refine lv_iload_n hx hb dM_wake_55 rfl (lv_at hl 2 rfl) ?_
      refine lv_iconst (v := 0) hx hb dM_wake_56 (by decide) ?_
      refine va_iast hx hb hK hP hD hS 4 3 rfl rfl hp dM_wake_57 (fun H locs hP hD hS => ?_)
      rw [mw_rows] at hP hD
      obtain ⟨u_63, hu_63⟩ : ∃ w : MS, w = ms_rows u (upd (ma_rows u) p1.toNatClampNeg 0) := ⟨_, rfl⟩
      rw [← hu_63] at hP hD
      refine lv_aload_n hx hb dM_wake_58 rfl (lv_at hl 1 rfl) ?_
      refine lv_iload_n hx hb dM_wake_59 rfl (lv_at hl 2 rfl) ?_
      have hFc := va_free (wc := (mW ad cA u_63)) hD hS hA [0, 1, 2, 3, 4, 5, 6, 7] rfl
      refine va_callv (va_runV (As := [.int p1]) (rest := []) ⟨hx, hb, hml, hown, hts⟩ (mc_want l dC dI ad cA _ u_63 p1 _ rfl) (cwV 1 hts gM_wake_want rfl rfl rfl (by decide +kernel) ⟨Nat.le_of_ble_eq_true rfl, Nat.le_of_ble_eq_true rfl⟩) ⟨fun a U g mk q => by obtain ⟨q0, q1, qP, qK, qD⟩ := q; exact ⟨q0, q1, qP, va_K.moved (u := U) (U := U.calling g mk a) (Vm.Alike.refl U.vm) qK, qD⟩, va_recv hK hP (ci := 1) (q0 := 0) rfl rfl, fun U hU hW => ⟨rfl, by rw [hU], by rw [hU]; exact hP, va_K.moved hW.alike hK, hD.weaken (fun _ _ _ _ => trivial)⟩⟩ rfl rfl hl.1 rfl (lv_room (Nat.le_of_ble_eq_true rfl)) dM_wake_60 ⟨Nat.le_of_ble_eq_true rfl, Nat.le_of_ble_eq_true rfl⟩) hS (fun q _ h => hFc q h) hFc (fun u_65 t H1 locs ht hvm hu_65 hB hz1 hk1 hS => ?_)
      obtain ⟨hP, hK1, hD1⟩ := hB
      rw [ht] at hP
      have hD := hD1.weaken (fun _ _ _ h => hFc _ h)
      generalize H1 = H at hP hS ⊢
      have hP : va_P (dC, dI) vwCl (mW ad cA u_65) H := hP
      have hD : va_D A (mW ad cA u_65) := hD
      have eT : u_65 = T := by subst hr_60 hu_63 hu_65; rw [← hf]; simp only [mf_wake, if_pos c_61]
      exact W.vret hx hb hr (fun t ht hW => ⟨⟨u_65, rfl, eT, by rw [ht]; exact hP, va_K.moved hW.alike hK, hD⟩, hS.F ht⟩) hS.2.2 dM_wake_63
    · exact absurd c_61 c_62
  · refine lv_aload_n hx hb dM_wake_9 rfl (lv_at hl 1 rfl) ?_
    refine va_get (D := (dC, dI)) (ci := 1) (v := .ref (ad 2)) (C := RX1) (T := TX1) (N := 13) (fs := mF ad u) hx hb hts hin0 hown hK hP 0 rfl rfl 1 (by decide) fl_priorities (fun _ h9 => h9) rfl dM_wake_10 ?_
    refine lv_iload_n hx hb dM_wake_13 rfl (lv_at hl 0 rfl) ?_
    refine va_iald hx hb hK hP 2 1 rfl rfl (mi_presentOne hr_60 hI c_61) dM_wake_14 ?_
    refine lv_aload_n hx hb dM_wake_15 rfl (lv_at hl 1 rfl) ?_
    refine va_get (D := (dC, dI)) (ci := 1) (v := .ref (ad 2)) (C := RX1) (T := TX1) (N := 13) (fs := mF ad u) hx hb hts hin0 hown hK hP 0 rfl rfl 1 (by decide) fl_priorities (fun _ h9 => h9) rfl dM_wake_16 ?_
    refine lv_iload_n hx hb dM_wake_19 rfl (lv_at hl 2 rfl) ?_
    refine va_iald hx hb hK hP 2 1 rfl rfl hp dM_wake_20 ?_
    refine lv_icmp_lt (tgt := 36) hx hb dM_wake_21 (by decide) (fun c_66 => ?_) (fun c_66 => ?_)
    · refine lv_iload_n hx hb dM_wake_36 rfl (lv_at hl 0 rfl) ?_
      refine lv_if_lt (tgt := 51) hx hb dM_wake_37 (by decide) (fun c_67 => ?_) (fun c_67 => ?_)
      · exact absurd c_67 c_61
      · refine lv_aload_n hx hb dM_wake_40 rfl (lv_at hl 1 rfl) ?_
        refine lv_iload_n hx hb dM_wake_41 rfl (lv_at hl 0 rfl) ?_
        refine lv_aload_n hx hb dM_wake_42 rfl (lv_at hl 1 rfl) ?_
        refine va_get (D := (dC, dI)) (ci := 1) (v := .ref (ad 2)) (C := RX1) (T := TX1) (N := 13) (fs := mF ad u) hx hb hts hin0 hown hK hP 0 rfl rfl 1 (by decide) fl_priorities (fun _ h9 => h9) rfl dM_wake_43 ?_
        refine lv_iload_n hx hb dM_wake_46 rfl (lv_at hl 0 rfl) ?_
        refine va_iald hx hb hK hP 2 1 rfl rfl (mi_presentOne hr_60 hI c_61) dM_wake_47 ?_
        have hFc := va_free (wc := (mW ad cA u)) hD hS hA [0, 1, 2, 3, 4, 5, 6, 7] rfl
        refine va_callv (va_runV (As := [.int r_60, .int (ma_priorities u r_60.toNatClampNeg)]) (rest := []) ⟨hx, hb, hml, hown, hts⟩ (mc_enter l dC dI ad cA _ u r_60 (ma_priorities u r_60.toNatClampNeg) (mi_presentOne hr_60 hI c_61) _ rfl) (cwV 2 hts gM_wake_enter rfl rfl rfl (by decide +kernel) ⟨Nat.le_of_ble_eq_true rfl, Nat.le_of_ble_eq_true rfl⟩) ⟨fun a U g mk q => by obtain ⟨q0, q1, qP, qK, qD⟩ := q; exact ⟨q0, q1, qP, va_K.moved (u := U) (U := U.calling g mk a) (Vm.Alike.refl U.vm) qK, qD⟩, va_recv hK hP (ci := 1) (q0 := 0) rfl rfl, fun U hU hW => ⟨rfl, by rw [hU], by rw [hU]; exact hP, va_K.moved hW.alike hK, hD.weaken (fun _ _ _ _ => trivial)⟩⟩ rfl rfl hl.1 rfl (lv_room (Nat.le_of_ble_eq_true rfl)) dM_wake_48 ⟨Nat.le_of_ble_eq_true rfl, Nat.le_of_ble_eq_true rfl⟩) hS (fun q _ h => hFc q h) hFc (fun u_69 t H1 locs ht hvm hu_69 hB hz1 hk1 hS => ?_)
        obtain ⟨hP, hK1, hD1⟩ := hB
        rw [ht] at hP
        have hD := hD1.weaken (fun _ _ _ h => hFc _ h)
        generalize H1 = H at hP hS ⊢
        have hP : va_P (dC, dI) vwCl (mW ad cA u_69) H := hP
        have hD : va_D A (mW ad cA u_69) := hD
        refine lv_aload_n hx hb dM_wake_51 rfl (lv_at hl 1 rfl) ?_
        refine va_get (D := (dC, dI)) (ci := 1) (v := .ref (ad 4)) (C := RX1) (T := TX1) (N := 13) (fs := mF ad u_69) hx hb hts hin0 hown hK hP 0 rfl rfl 3 (by decide) fl_rows (fun _ h9 => h9) rfl dM_wake_52 ?_
        refine lv_iload_n hx hb dM_wake_55 rfl (lv_at hl 2 rfl) ?_
        refine lv_iconst (v := 0) hx hb dM_wake_56 (by decide) ?_
        refine va_iast hx hb hK hP hD hS 4 3 rfl rfl hp dM_wake_57 (fun H locs hP hD hS => ?_)
        rw [mw_rows] at hP hD
        obtain ⟨u_70, hu_70⟩ : ∃ w : MS, w = ms_rows u_69 (upd (ma_rows u_69) p1.toNatClampNeg 0) := ⟨_, rfl⟩
        rw [← hu_70] at hP hD
        refine lv_aload_n hx hb dM_wake_58 rfl (lv_at hl 1 rfl) ?_
        refine lv_iload_n hx hb dM_wake_59 rfl (lv_at hl 2 rfl) ?_
        have hFc := va_free (wc := (mW ad cA u_70)) hD hS hA [0, 1, 2, 3, 4, 5, 6, 7] rfl
        refine va_callv (va_runV (As := [.int p1]) (rest := []) ⟨hx, hb, hml, hown, hts⟩ (mc_want l dC dI ad cA _ u_70 p1 _ rfl) (cwV 1 hts gM_wake_want rfl rfl rfl (by decide +kernel) ⟨Nat.le_of_ble_eq_true rfl, Nat.le_of_ble_eq_true rfl⟩) ⟨fun a U g mk q => by obtain ⟨q0, q1, qP, qK, qD⟩ := q; exact ⟨q0, q1, qP, va_K.moved (u := U) (U := U.calling g mk a) (Vm.Alike.refl U.vm) qK, qD⟩, va_recv hK hP (ci := 1) (q0 := 0) rfl rfl, fun U hU hW => ⟨rfl, by rw [hU], by rw [hU]; exact hP, va_K.moved hW.alike hK, hD.weaken (fun _ _ _ _ => trivial)⟩⟩ rfl rfl hl.1 rfl (lv_room (Nat.le_of_ble_eq_true rfl)) dM_wake_60 ⟨Nat.le_of_ble_eq_true rfl, Nat.le_of_ble_eq_true rfl⟩) hS (fun q _ h => hFc q h) hFc (fun u_72 t H1 locs ht hvm hu_72 hB hz1 hk1 hS => ?_)
        obtain ⟨hP, hK1, hD1⟩ := hB
        rw [ht] at hP
        have hD := hD1.weaken (fun _ _ _ h => hFc _ h)
        generalize H1 = H at hP hS ⊢
        have hP : va_P (dC, dI) vwCl (mW ad cA u_72) H := hP
        have hD : va_D A (mW ad cA u_72) := hD
        have eT : u_72 = T := by subst hr_60 hu_69 hu_70 hu_72; rw [← hf]; simp only [mf_wake, if_neg c_61, if_pos c_66]
        exact W.vret hx hb hr (fun t ht hW => ⟨⟨u_72, rfl, eT, by rw [ht]; exact hP, va_K.moved hW.alike hK, hD⟩, hS.F ht⟩) hS.2.2 dM_wake_63
    · refine lv_aload_n hx hb dM_wake_24 rfl (lv_at hl 1 rfl) ?_
      refine lv_iload_n hx hb dM_wake_25 rfl (lv_at hl 2 rfl) ?_
      refine lv_aload_n hx hb dM_wake_26 rfl (lv_at hl 1 rfl) ?_
      refine va_get (D := (dC, dI)) (ci := 1) (v := .ref (ad 2)) (C := RX1) (T := TX1) (N := 13) (fs := mF ad u) hx hb hts hin0 hown hK hP 0 rfl rfl 1 (by decide) fl_priorities (fun _ h9 => h9) rfl dM_wake_27 ?_
      refine lv_iload_n hx hb dM_wake_30 rfl (lv_at hl 2 rfl) ?_
      refine va_iald hx hb hK hP 2 1 rfl rfl hp dM_wake_31 ?_
      have hFc := va_free (wc := (mW ad cA u)) hD hS hA [0, 1, 2, 3, 4, 5, 6, 7] rfl
      refine va_callv (va_runV (As := [.int p1, .int (ma_priorities u p1.toNatClampNeg)]) (rest := []) ⟨hx, hb, hml, hown, hts⟩ (mc_enter l dC dI ad cA _ u p1 (ma_priorities u p1.toNatClampNeg) hp _ rfl) (cwV 2 hts gM_wake_enter rfl rfl rfl (by decide +kernel) ⟨Nat.le_of_ble_eq_true rfl, Nat.le_of_ble_eq_true rfl⟩) ⟨fun a U g mk q => by obtain ⟨q0, q1, qP, qK, qD⟩ := q; exact ⟨q0, q1, qP, va_K.moved (u := U) (U := U.calling g mk a) (Vm.Alike.refl U.vm) qK, qD⟩, va_recv hK hP (ci := 1) (q0 := 0) rfl rfl, fun U hU hW => ⟨rfl, by rw [hU], by rw [hU]; exact hP, va_K.moved hW.alike hK, hD.weaken (fun _ _ _ _ => trivial)⟩⟩ rfl rfl hl.1 rfl (lv_room (Nat.le_of_ble_eq_true rfl)) dM_wake_32 ⟨Nat.le_of_ble_eq_true rfl, Nat.le_of_ble_eq_true rfl⟩) hS (fun q _ h => hFc q h) hFc (fun u_74 t H1 locs ht hvm hu_74 hB hz1 hk1 hS => ?_)
      obtain ⟨hP, hK1, hD1⟩ := hB
      rw [ht] at hP
      have hD := hD1.weaken (fun _ _ _ h => hFc _ h)
      generalize H1 = H at hP hS ⊢
      have hP : va_P (dC, dI) vwCl (mW ad cA u_74) H := hP
      have hD : va_D A (mW ad cA u_74) := hD
      have eT : u_74 = T := by subst hr_60 hu_74; rw [← hf]; simp only [mf_wake, if_neg c_61, if_neg c_66]
      exact W.vret hx hb hr (fun t ht hW => ⟨⟨u_74, rfl, eT, by rw [ht]; exact hP, va_K.moved hW.alike hK, hD⟩, hS.F ht⟩) hS.2.2 dM_wake_35
set_option maxHeartbeats 4000000 in
set_option maxRecDepth 100000 in
theorem mc_putAside (l : Launch) (dC : Nat → ClassId) (dI : Nat → Nat → Nat) (ad : Nat → Nat) (cA : Nat → ClassId) (sz : Nat) (u : MS)  (T : MS) (hf : mf_putAside u = T) : Met l yM_putAside wM_putAside ({ frames := 1, cells := 0, slots := 0, locals := 27 } : Room) (va_Pc [.ref (ad 0)] (fun U => U.heap.size = sz ∧ va_P (dC, dI) vwCl (mW ad cA u) U.heap ∧ va_K (dC, dI) vwCl (mT cA) U ∧ va_D (fun _ => True) (mW ad cA u))) (va_Qv (fun u2 => u2 = T) (mAt dC dI (va_A (mW ad cA u) sz) ad cA) (va_A (mW ad cA u) sz)) 0 0 (va_A (mW ad cA u) sz) := by
  refine Met.ofW (cc := cM_putAside) (maxL := 4) (ret := none) (by decide) rfl ?_
  intro p e s m args below meth c s₁ B hml hv
  obtain ⟨rfl, hsz, hP, hK, hD0⟩ := hv
  have hx := B.exec
  have hb := B.bytes
  have hr := B.returns
  have hts := atoms_spec (ws := wM_putAside) B.pre
  have hown : s.vm.findClass RX1 = some m.cls := findClass_of_methodNamed B.named
  have hlocks := B.notSynchronized
  have hin0 : ∀ w ∈ wsX10, w ∈ wM_putAside := by decide +kernel
  have fl_rows := hts (.fieldLink RX1 20 "ProcessRoomModel" "rows" "[I") (by decide +kernel)
  subst hsz
  have hD := hD0.self (sz := s.heap.size)
  generalize hAe : va_A (mW ad cA u) s.heap.size = A at hD ⊢
  have hA : ∀ q : Nat, s.heap.size ≤ q → A q := fun q h => by rw [← hAe]; exact Or.inr h
  have hS : va_S A s.heap s.heap [] := va_S.rf
  have hl := lv_entry ([.ref (ad 0)]) (n := 4) (Nat.le_of_ble_eq_true rfl)
  rw [lg_entry_eq]
  generalize (lg_sl ([.ref (ad 0)]) ++ List.replicate (4 - (lg_sl ([.ref (ad 0)])).length) Slot.unset).toArray = ls at hl ⊢
  have hl : lv_has ls 4 [(0, .ref (ad 0))] := hl
  refine lv_iconst (v := (-1)) hx hb dM_putAside_0 (by decide) ?_
  refine lv_istore_n (lv' := [(1, .int (-1)), (0, .ref (ad 0))]) hx hb dM_putAside_1 rfl hl (by decide) rfl (fun ls hl => ?_)
  refine lv_iconst (v := 1) hx hb dM_putAside_2 (by decide) ?_
  refine lv_istore_n (lv' := [(2, .int 1), (1, .int (-1)), (0, .ref (ad 0))]) hx hb dM_putAside_3 rfl hl (by decide) rfl (fun ls hl => ?_)
  refine k_nameQ (fun Q hQ => ?_)
  have key : ∀ (n : Nat) (x1 : Int32) (x2 : Int32) (H : Heap) (locs : List Loc) (ls : Array Slot), (∃ j : Nat, x2 = nI j ∧ j + n = 10 ∧ 1 ≤ j ∧ j ≤ 9 ∧ (x1 < 0 ∨ vp_in x1 32)) → ml_putAside u n x1 x2 = T → va_P (dC, dI) vwCl (mW ad cA u) H → va_D A (mW ad cA u) → va_S A s.heap H locs → lv_has ls 4 [(0, .ref (ad 0)), (1, .int x1), (2, .int x2)] → W p l e (headSpec wM_putAside ({ frames := 1, cells := 0, slots := 0, locals := 27 } : Room)).room s m ([.ref (ad 0)] : List Value).toArray below meth c H locs 0 0 Q (F0 m 4 ls []) := by
    intro n
    induction n with
    | zero =>
      intro x1 x2 H locs ls hinv
      exact absurd hinv (by rintro ⟨j, -, h1, h2, h3, -⟩; omega)
    | succ n ih =>
      intro x1 x2 H locs ls hinv hf2 hP hD hS hl
      obtain ⟨j, hj, hjn, hj1, hjl, hf1⟩ := hinv
      refine lv_iload_n hx hb dM_putAside_4 rfl (lv_at hl 2 rfl) ?_
      refine lv_bipush (v := 8) hx hb dM_putAside_5 (by decide) ?_
      refine lv_icmp_gt (tgt := 33) hx hb dM_putAside_7 (by decide) (fun c_75 => ?_) (fun c_75 => ?_)
      · refine lv_iload_n hx hb dM_putAside_33 rfl (lv_at hl 1 rfl) ?_
        refine lv_if_lt (tgt := 44) hx hb dM_putAside_34 (by decide) (fun c_76 => ?_) (fun c_76 => ?_)
        · refine lv_aload_n hx hb dM_putAside_44 rfl (lv_at hl 0 rfl) ?_
          refine lv_iload_n hx hb dM_putAside_45 rfl (lv_at hl 1 rfl) ?_
          have hFc := va_free (wc := (mW ad cA u)) hD hS hA [0, 1, 2, 3, 4, 5, 6, 7] rfl
          refine va_callv (va_runV (As := [.int x1]) (rest := []) ⟨hx, hb, hml, hown, hts⟩ (mc_want l dC dI ad cA _ u x1 _ rfl) (cwV 1 hts gM_putAside_want rfl rfl rfl (by decide +kernel) ⟨Nat.le_of_ble_eq_true rfl, Nat.le_of_ble_eq_true rfl⟩) ⟨fun a U g mk q => by obtain ⟨q0, q1, qP, qK, qD⟩ := q; exact ⟨q0, q1, qP, va_K.moved (u := U) (U := U.calling g mk a) (Vm.Alike.refl U.vm) qK, qD⟩, va_recv hK hP (ci := 1) (q0 := 0) rfl rfl, fun U hU hW => ⟨rfl, by rw [hU], by rw [hU]; exact hP, va_K.moved hW.alike hK, hD.weaken (fun _ _ _ _ => trivial)⟩⟩ rfl rfl hl.1 rfl (lv_room (Nat.le_of_ble_eq_true rfl)) dM_putAside_46 ⟨Nat.le_of_ble_eq_true rfl, Nat.le_of_ble_eq_true rfl⟩) hS (fun q _ h => hFc q h) hFc (fun u_78 t H1 locs ht hvm hu_78 hB hz1 hk1 hS => ?_)
          obtain ⟨hP, hK1, hD1⟩ := hB
          rw [ht] at hP
          have hD := hD1.weaken (fun _ _ _ h => hFc _ h)
          generalize H1 = H at hP hS ⊢
          have hP : va_P (dC, dI) vwCl (mW ad cA u_78) H := hP
          have hD : va_D A (mW ad cA u_78) := hD
          subst hQ
          have eT : u_78 = T := by subst hu_78; rw [← hf2]; simp only [ml_putAside, if_pos c_75, if_pos c_76]
          exact W.vret hx hb hr (fun t ht hW => ⟨⟨u_78, rfl, eT, by rw [ht]; exact hP, va_K.moved hW.alike hK, hD⟩, hS.F ht⟩) hS.2.2 dM_putAside_49
        · refine lv_aload_n hx hb dM_putAside_37 rfl (lv_at hl 0 rfl) ?_
          refine va_get (D := (dC, dI)) (ci := 1) (v := .ref (ad 4)) (C := RX1) (T := TX1) (N := 13) (fs := mF ad u) hx hb hts hin0 hown hK hP 0 rfl rfl 3 (by decide) fl_rows (fun _ h9 => h9) rfl dM_putAside_38 ?_
          refine lv_iload_n hx hb dM_putAside_41 rfl (lv_at hl 1 rfl) ?_
          refine lv_iconst (v := 0) hx hb dM_putAside_42 (by decide) ?_
          refine va_iast hx hb hK hP hD hS 4 3 rfl rfl (mi_ge hf1 c_76) dM_putAside_43 (fun H locs hP hD hS => ?_)
          rw [mw_rows] at hP hD
          obtain ⟨u_79, hu_79⟩ : ∃ w : MS, w = ms_rows u (upd (ma_rows u) x1.toNatClampNeg 0) := ⟨_, rfl⟩
          rw [← hu_79] at hP hD
          refine lv_aload_n hx hb dM_putAside_44 rfl (lv_at hl 0 rfl) ?_
          refine lv_iload_n hx hb dM_putAside_45 rfl (lv_at hl 1 rfl) ?_
          have hFc := va_free (wc := (mW ad cA u_79)) hD hS hA [0, 1, 2, 3, 4, 5, 6, 7] rfl
          refine va_callv (va_runV (As := [.int x1]) (rest := []) ⟨hx, hb, hml, hown, hts⟩ (mc_want l dC dI ad cA _ u_79 x1 _ rfl) (cwV 1 hts gM_putAside_want rfl rfl rfl (by decide +kernel) ⟨Nat.le_of_ble_eq_true rfl, Nat.le_of_ble_eq_true rfl⟩) ⟨fun a U g mk q => by obtain ⟨q0, q1, qP, qK, qD⟩ := q; exact ⟨q0, q1, qP, va_K.moved (u := U) (U := U.calling g mk a) (Vm.Alike.refl U.vm) qK, qD⟩, va_recv hK hP (ci := 1) (q0 := 0) rfl rfl, fun U hU hW => ⟨rfl, by rw [hU], by rw [hU]; exact hP, va_K.moved hW.alike hK, hD.weaken (fun _ _ _ _ => trivial)⟩⟩ rfl rfl hl.1 rfl (lv_room (Nat.le_of_ble_eq_true rfl)) dM_putAside_46 ⟨Nat.le_of_ble_eq_true rfl, Nat.le_of_ble_eq_true rfl⟩) hS (fun q _ h => hFc q h) hFc (fun u_81 t H1 locs ht hvm hu_81 hB hz1 hk1 hS => ?_)
          obtain ⟨hP, hK1, hD1⟩ := hB
          rw [ht] at hP
          have hD := hD1.weaken (fun _ _ _ h => hFc _ h)
          generalize H1 = H at hP hS ⊢
          have hP : va_P (dC, dI) vwCl (mW ad cA u_81) H := hP
          have hD : va_D A (mW ad cA u_81) := hD
          subst hQ
          have eT : u_81 = T := by subst hu_79 hu_81; rw [← hf2]; simp only [ml_putAside, if_pos c_75, if_neg c_76]
          exact W.vret hx hb hr (fun t ht hW => ⟨⟨u_81, rfl, eT, by rw [ht]; exact hP, va_K.moved hW.alike hK, hD⟩, hS.F ht⟩) hS.2.2 dM_putAside_49
      · refine lv_aload_n hx hb dM_putAside_10 rfl (lv_at hl 0 rfl) ?_
        refine lv_iload_n hx hb dM_putAside_11 rfl (lv_at hl 2 rfl) ?_
        refine lv_iconst (v := 0) hx hb dM_putAside_12 (by decide) ?_
        refine va_calli (va_runV (As := [.int x2, .int 0]) (rest := []) ⟨hx, hb, hml, hown, hts⟩ (mc_find l dC dI ad cA u x2 0 ⟨0, by omega, nI_0.symm⟩ _ rfl) (cwV 2 hts gM_putAside_find rfl rfl rfl (by decide +kernel) ⟨Nat.le_of_ble_eq_true rfl, Nat.le_of_ble_eq_true rfl⟩) ⟨fun a U g mk q => by obtain ⟨q0, qP, qK⟩ := q; exact ⟨q0, qP, va_K.moved (u := U) (U := U.calling g mk a) (Vm.Alike.refl U.vm) qK⟩, va_recv hK hP (ci := 1) (q0 := 0) rfl rfl, fun U hU hW => ⟨rfl, by rw [hU]; exact hP, va_K.moved hW.alike hK⟩⟩ rfl rfl hl.1 rfl (lv_room (Nat.le_of_ble_eq_true rfl)) dM_putAside_13 ⟨Nat.le_of_ble_eq_true rfl, Nat.le_of_ble_eq_true rfl⟩) hS (fun _ _ h => h.elim) (fun _ h => h.elim) (fun r_82 u_ t H1 locs ht hvm hr_82 hB hz1 hk1 hS => ?_)
        have hP := hP.kept (fun k x hx => hk1 x.1 ((hP k x hx).lt) (fun h => h))
        generalize H1 = H at hP hS ⊢
        refine lv_istore_n (lv' := [(3, .int r_82), (0, .ref (ad 0)), (1, .int x1), (2, .int x2)]) hx hb dM_putAside_16 rfl hl (by decide) rfl (fun ls hl => ?_)
        refine lv_iload_n hx hb dM_putAside_17 rfl (lv_at hl 0 rfl) ?_
        refine lv_if_lt (tgt := 25) hx hb dM_putAside_18 (by decide) (fun c_83 => ?_) (fun c_83 => ?_)
        · refine lv_iload_n hx hb dM_putAside_25 rfl (lv_at hl 2 rfl) ?_
          refine lv_istore_n (lv' := [(1, .int x1), (3, .int r_82), (0, .ref (ad 0)), (2, .int x2)]) hx hb dM_putAside_26 rfl hl (by decide) rfl (fun ls hl => ?_)
          refine lv_iinc (v := x2 + 1) (lv' := [(2, .int (x2 + 1)), (1, .int x1), (3, .int r_82), (0, .ref (ad 0))]) hx hb dM_putAside_27 hl (k := 3) rfl rfl (by decide) rfl (fun ls hl => ?_)
          refine lv_goto (tgt := 4) hx hb dM_putAside_30 (by decide) ?_
          have hj2 := mi_le8 hj (by omega) c_75
          exact ih x1 (x2 + 1) _ _ _ (⟨j + 1, by rw [hj, nI_1], by omega, by omega, by omega, hf1⟩) (by subst hr_82; rw [← hf2]; simp only [ml_putAside, if_neg c_75, if_pos c_83]) hP hD hS (lv_sub hl [3, 1, 0] rfl)
        · refine lv_iload_n hx hb dM_putAside_21 rfl (lv_at hl 0 rfl) ?_
          refine lv_goto (tgt := 26) hx hb dM_putAside_22 (by decide) ?_
          refine lv_istore_n (lv' := [(1, .int r_82), (3, .int r_82), (0, .ref (ad 0)), (2, .int x2)]) hx hb dM_putAside_26 rfl hl (by decide) rfl (fun ls hl => ?_)
          refine lv_iinc (v := x2 + 1) (lv' := [(2, .int (x2 + 1)), (1, .int r_82), (3, .int r_82), (0, .ref (ad 0))]) hx hb dM_putAside_27 hl (k := 3) rfl rfl (by decide) rfl (fun ls hl => ?_)
          refine lv_goto (tgt := 4) hx hb dM_putAside_30 (by decide) ?_
          have hj2 := mi_le8 hj (by omega) c_75
          exact ih r_82 (x2 + 1) _ _ _ (⟨j + 1, by rw [hj, nI_1], by omega, by omega, by omega, mi_find hr_82⟩) (by subst hr_82; rw [← hf2]; simp only [ml_putAside, if_neg c_75, if_neg c_83]) hP hD hS (lv_sub hl [3, 1, 0] rfl)
  exact key 9 (-1) 1 _ _ _ (⟨1, rfl, by omega, by omega, by omega, Or.inl (by decide)⟩) (by rw [← hf]; simp only [mf_putAside]) hP hD hS (lv_sub hl [2, 1, 0] rfl)
set_option maxHeartbeats 4000000 in
set_option maxRecDepth 100000 in
theorem mc_give (l : Launch) (dC : Nat → ClassId) (dI : Nat → Nat → Nat) (ad : Nat → Nat) (cA : Nat → ClassId) (sz : Nat) (u : MS) (p1 : Int32) (hI : mInv u) (hp : vp_in p1 16) (T : MS) (hf : mf_give u p1 = T) : Met l yM_give wM_give ({ frames := 2, cells := 0, slots := 0, locals := 44 } : Room) (va_Pc [.ref (ad 0), .int p1] (fun U => U.heap.size = sz ∧ va_P (dC, dI) vwCl (mW ad cA u) U.heap ∧ va_K (dC, dI) vwCl (mT cA) U ∧ va_D (fun _ => True) (mW ad cA u))) (va_Qv (fun u2 => u2 = T) (mAt dC dI (va_A (mW ad cA u) sz) ad cA) (va_A (mW ad cA u) sz)) 0 0 (va_A (mW ad cA u) sz) := by
  refine Met.ofW (cc := cM_give) (maxL := 3) (ret := none) (by decide) rfl ?_
  intro p e s m args below meth c s₁ B hml hv
  obtain ⟨rfl, hsz, hP, hK, hD0⟩ := hv
  have hx := B.exec
  have hb := B.bytes
  have hr := B.returns
  have hts := atoms_spec (ws := wM_give) B.pre
  have hown : s.vm.findClass RX1 = some m.cls := findClass_of_methodNamed B.named
  have hlocks := B.notSynchronized
  have hin0 : ∀ w ∈ wsX10, w ∈ wM_give := by decide +kernel
  have fl_extras := hts (.fieldLink RX1 27 "ProcessRoomModel" "extras" "[I") (by decide +kernel)
  have fl_rows := hts (.fieldLink RX1 20 "ProcessRoomModel" "rows" "[I") (by decide +kernel)
  subst hsz
  have hD := hD0.self (sz := s.heap.size)
  generalize hAe : va_A (mW ad cA u) s.heap.size = A at hD ⊢
  have hA : ∀ q : Nat, s.heap.size ≤ q → A q := fun q h => by rw [← hAe]; exact Or.inr h
  have hS : va_S A s.heap s.heap [] := va_S.rf
  have hl := lv_entry ([.ref (ad 0), .int p1]) (n := 3) (Nat.le_of_ble_eq_true rfl)
  rw [lg_entry_eq]
  generalize (lg_sl ([.ref (ad 0), .int p1]) ++ List.replicate (3 - (lg_sl ([.ref (ad 0), .int p1])).length) Slot.unset).toArray = ls at hl ⊢
  have hl : lv_has ls 3 [(0, .ref (ad 0)), (1, .int p1)] := hl
  refine lv_aload_n hx hb dM_give_0 rfl (lv_at hl 0 rfl) ?_
  refine lv_bipush (v := 16) hx hb dM_give_1 (by decide) ?_
  refine lv_iload_n hx hb dM_give_3 rfl (lv_at hl 1 rfl) ?_
  refine lv_iadd hx hb dM_give_4 ?_
  refine lv_iconst (v := 0) hx hb dM_give_5 (by decide) ?_
  refine va_calli (va_runV (As := [.int (16 + p1), .int 0]) (rest := []) ⟨hx, hb, hml, hown, hts⟩ (mc_find l dC dI ad cA u (16 + p1) 0 ⟨0, by omega, nI_0.symm⟩ _ rfl) (cwV 2 hts gM_give_find rfl rfl rfl (by decide +kernel) ⟨Nat.le_of_ble_eq_true rfl, Nat.le_of_ble_eq_true rfl⟩) ⟨fun a U g mk q => by obtain ⟨q0, qP, qK⟩ := q; exact ⟨q0, qP, va_K.moved (u := U) (U := U.calling g mk a) (Vm.Alike.refl U.vm) qK⟩, va_recv hK hP (ci := 1) (q0 := 0) rfl rfl, fun U hU hW => ⟨rfl, by rw [hU]; exact hP, va_K.moved hW.alike hK⟩⟩ rfl rfl hl.1 rfl (lv_room (Nat.le_of_ble_eq_true rfl)) dM_give_6 ⟨Nat.le_of_ble_eq_true rfl, Nat.le_of_ble_eq_true rfl⟩) hS (fun _ _ h => h.elim) (fun _ h => h.elim) (fun r_84 u_ t H1 locs ht hvm hr_84 hB hz1 hk1 hS => ?_)
  have hP := hP.kept (fun k x hx => hk1 x.1 ((hP k x hx).lt) (fun h => h))
  generalize H1 = H at hP hS ⊢
  refine lv_istore_n (lv' := [(2, .int r_84), (0, .ref (ad 0)), (1, .int p1)]) hx hb dM_give_9 rfl hl (by decide) rfl (fun ls hl => ?_)
  refine lv_iload_n hx hb dM_give_10 rfl (lv_at hl 0 rfl) ?_
  refine lv_if_ge (tgt := 31) hx hb dM_give_11 (by decide) (fun c_85 => ?_) (fun c_85 => ?_)
  · refine lv_aload_n hx hb dM_give_31 rfl (lv_at hl 1 rfl) ?_
    refine va_get (D := (dC, dI)) (ci := 1) (v := .ref (ad 4)) (C := RX1) (T := TX1) (N := 13) (fs := mF ad u) hx hb hts hin0 hown hK hP 0 rfl rfl 3 (by decide) fl_rows (fun _ h9 => h9) rfl dM_give_32 ?_
    refine lv_iload_n hx hb dM_give_35 rfl (lv_at hl 0 rfl) ?_
    refine lv_iconst (v := 0) hx hb dM_give_36 (by decide) ?_
    refine va_iast hx hb hK hP hD hS 4 3 rfl rfl (mi_le (mi_find hr_84) c_85) dM_give_37 (fun H locs hP hD hS => ?_)
    rw [mw_rows] at hP hD
    obtain ⟨u_86, hu_86⟩ : ∃ w : MS, w = ms_rows u (upd (ma_rows u) r_84.toNatClampNeg 0) := ⟨_, rfl⟩
    rw [← hu_86] at hP hD
    refine lv_aload_n hx hb dM_give_38 rfl (lv_at hl 1 rfl) ?_
    refine lv_iload_n hx hb dM_give_39 rfl (lv_at hl 0 rfl) ?_
    have hFc := va_free (wc := (mW ad cA u_86)) hD hS hA [0, 1, 2, 3, 4, 5, 6, 7] rfl
    refine va_callv (va_runV (As := [.int r_84]) (rest := []) ⟨hx, hb, hml, hown, hts⟩ (mc_wake l dC dI ad cA _ u_86 r_84 (show mInv u_86 from by rw [hu_86]; exact hI) (mi_le (mi_find hr_84) c_85) _ rfl) (cwV 1 hts gM_give_wake rfl rfl rfl (by decide +kernel) ⟨Nat.le_of_ble_eq_true rfl, Nat.le_of_ble_eq_true rfl⟩) ⟨fun a U g mk q => by obtain ⟨q0, q1, qP, qK, qD⟩ := q; exact ⟨q0, q1, qP, va_K.moved (u := U) (U := U.calling g mk a) (Vm.Alike.refl U.vm) qK, qD⟩, va_recv hK hP (ci := 1) (q0 := 0) rfl rfl, fun U hU hW => ⟨rfl, by rw [hU], by rw [hU]; exact hP, va_K.moved hW.alike hK, hD.weaken (fun _ _ _ _ => trivial)⟩⟩ rfl rfl hl.1 rfl (lv_room (Nat.le_of_ble_eq_true rfl)) dM_give_40 ⟨Nat.le_of_ble_eq_true rfl, Nat.le_of_ble_eq_true rfl⟩) hS (fun q _ h => hFc q h) hFc (fun u_88 t H1 locs ht hvm hu_88 hB hz1 hk1 hS => ?_)
    obtain ⟨hP, hK1, hD1⟩ := hB
    rw [ht] at hP
    have hD := hD1.weaken (fun _ _ _ h => hFc _ h)
    generalize H1 = H at hP hS ⊢
    have hP : va_P (dC, dI) vwCl (mW ad cA u_88) H := hP
    have hD : va_D A (mW ad cA u_88) := hD
    have eT : u_88 = T := by subst hr_84 hu_86 hu_88; rw [← hf]; simp only [mf_give, if_pos c_85]
    exact W.vret hx hb hr (fun t ht hW => ⟨⟨u_88, rfl, eT, by rw [ht]; exact hP, va_K.moved hW.alike hK, hD⟩, hS.F ht⟩) hS.2.2 dM_give_43
  · refine lv_aload_n hx hb dM_give_14 rfl (lv_at hl 1 rfl) ?_
    refine va_get (D := (dC, dI)) (ci := 1) (v := .ref (ad 6)) (C := RX1) (T := TX1) (N := 13) (fs := mF ad u) hx hb hts hin0 hown hK hP 0 rfl rfl 6 (by decide) fl_extras (fun _ h9 => h9) rfl dM_give_15 ?_
    refine lv_iload_n hx hb dM_give_18 rfl (lv_at hl 2 rfl) ?_
    refine lv_aload_n hx hb dM_give_19 rfl (lv_at hl 1 rfl) ?_
    refine va_get (D := (dC, dI)) (ci := 1) (v := .ref (ad 6)) (C := RX1) (T := TX1) (N := 13) (fs := mF ad u) hx hb hts hin0 hown hK hP 0 rfl rfl 6 (by decide) fl_extras (fun _ h9 => h9) rfl dM_give_20 ?_
    refine lv_iload_n hx hb dM_give_23 rfl (lv_at hl 2 rfl) ?_
    refine va_iald hx hb hK hP 6 5 rfl rfl hp dM_give_24 ?_
    refine lv_iconst (v := 1) hx hb dM_give_25 (by decide) ?_
    refine lv_iadd hx hb dM_give_26 ?_
    refine va_iast hx hb hK hP hD hS 6 5 rfl rfl hp dM_give_27 (fun H locs hP hD hS => ?_)
    rw [mw_extras] at hP hD
    obtain ⟨u_89, hu_89⟩ : ∃ w : MS, w = ms_extras u (upd (ma_extras u) p1.toNatClampNeg ((ma_extras u p1.toNatClampNeg) + 1)) := ⟨_, rfl⟩
    rw [← hu_89] at hP hD
    refine lv_goto (tgt := 43) hx hb dM_give_28 (by decide) ?_
    have eT : u_89 = T := by subst hr_84 hu_89; rw [← hf]; simp only [mf_give, if_neg c_85]
    exact W.vret hx hb hr (fun t ht hW => ⟨⟨u_89, rfl, eT, by rw [ht]; exact hP, va_K.moved hW.alike hK, hD⟩, hS.F ht⟩) hS.2.2 dM_give_43
set_option maxHeartbeats 4000000 in
set_option maxRecDepth 100000 in
theorem mc_signal (l : Launch) (dC : Nat → ClassId) (dI : Nat → Nat → Nat) (ad : Nat → Nat) (cA : Nat → ClassId) (sz : Nat) (u : MS) (p1 : Int32) (hI : mInv u) (T : Int32 × MS) (hf : mf_signal u p1 = T) : Met l yM_signal wM_signal ({ frames := 3, cells := 0, slots := 0, locals := 66 } : Room) (va_Pc [.ref (ad 0), .int p1] (fun U => U.heap.size = sz ∧ va_P (dC, dI) vwCl (mW ad cA u) U.heap ∧ va_K (dC, dI) vwCl (mT cA) U ∧ va_D (fun _ => True) (mW ad cA u))) (va_Qi (fun r u2 => r = T.1 ∧ u2 = T.2) (mAt dC dI (va_A (mW ad cA u) sz) ad cA) (va_A (mW ad cA u) sz)) 0 0 (va_A (mW ad cA u) sz) := by
  refine Met.ofW (cc := cM_signal) (maxL := 2) (ret := (some .boolean)) (by decide) rfl ?_
  intro p e s m args below meth c s₁ B hml hv
  obtain ⟨rfl, hsz, hP, hK, hD0⟩ := hv
  have hx := B.exec
  have hb := B.bytes
  have hr := B.returns
  have hts := atoms_spec (ws := wM_signal) B.pre
  have hown : s.vm.findClass RX1 = some m.cls := findClass_of_methodNamed B.named
  have hlocks := B.notSynchronized
  subst hsz
  have hD := hD0.self (sz := s.heap.size)
  generalize hAe : va_A (mW ad cA u) s.heap.size = A at hD ⊢
  have hA : ∀ q : Nat, s.heap.size ≤ q → A q := fun q h => by rw [← hAe]; exact Or.inr h
  have hS : va_S A s.heap s.heap [] := va_S.rf
  have hl := lv_entry ([.ref (ad 0), .int p1]) (n := 2) (Nat.le_of_ble_eq_true rfl)
  rw [lg_entry_eq]
  generalize (lg_sl ([.ref (ad 0), .int p1]) ++ List.replicate (2 - (lg_sl ([.ref (ad 0), .int p1])).length) Slot.unset).toArray = ls at hl ⊢
  have hl : lv_has ls 2 [(0, .ref (ad 0)), (1, .int p1)] := hl
  refine lv_iload_n hx hb dM_signal_0 rfl (lv_at hl 1 rfl) ?_
  refine va_calli (va_runS (As := [.int p1]) (rest := []) ⟨hx, hb, hml, hown, hts⟩ (mc_isSemaphore l p1 _ rfl) (va_cwS 1 hts gM_signal_isSemaphore rfl rfl rfl (by decide +kernel) ⟨Nat.le_of_ble_eq_true rfl, Nat.le_of_ble_eq_true rfl⟩) ⟨fun a U g mk q => ⟨q.1, trivial⟩, fun U hU hW => ⟨rfl, trivial⟩⟩ rfl rfl hl.1 rfl (lv_room (Nat.le_of_ble_eq_true rfl)) dM_signal_1 ⟨Nat.le_of_ble_eq_true rfl, Nat.le_of_ble_eq_true rfl⟩) hS (fun _ _ h => h.elim) (fun _ h => h.elim) (fun r_90 u_ t H1 locs ht hvm hr_90 hB hz1 hk1 hS => ?_)
  have hP := hP.kept (fun k x hx => hk1 x.1 ((hP k x hx).lt) (fun h => h))
  generalize H1 = H at hP hS ⊢
  refine lv_if_ne (tgt := 9) hx hb dM_signal_4 (by decide) (fun c_91 => ?_) (fun c_91 => ?_)
  · refine lv_aload_n hx hb dM_signal_9 rfl (lv_at hl 0 rfl) ?_
    refine lv_iload_n hx hb dM_signal_10 rfl (lv_at hl 1 rfl) ?_
    have hFc := va_free (wc := (mW ad cA u)) hD hS hA [0, 1, 2, 3, 4, 5, 6, 7] rfl
    refine va_callv (va_runV (As := [.int p1]) (rest := []) ⟨hx, hb, hml, hown, hts⟩ (mc_give l dC dI ad cA _ u p1 hI (mi_isSemaphore hr_90 c_91) _ rfl) (cwV 1 hts gM_signal_give rfl rfl rfl (by decide +kernel) ⟨Nat.le_of_ble_eq_true rfl, Nat.le_of_ble_eq_true rfl⟩) ⟨fun a U g mk q => by obtain ⟨q0, q1, qP, qK, qD⟩ := q; exact ⟨q0, q1, qP, va_K.moved (u := U) (U := U.calling g mk a) (Vm.Alike.refl U.vm) qK, qD⟩, va_recv hK hP (ci := 1) (q0 := 0) rfl rfl, fun U hU hW => ⟨rfl, by rw [hU], by rw [hU]; exact hP, va_K.moved hW.alike hK, hD.weaken (fun _ _ _ _ => trivial)⟩⟩ rfl rfl hl.1 rfl (lv_room (Nat.le_of_ble_eq_true rfl)) dM_signal_11 ⟨Nat.le_of_ble_eq_true rfl, Nat.le_of_ble_eq_true rfl⟩) hS (fun q _ h => hFc q h) hFc (fun u_93 t H1 locs ht hvm hu_93 hB hz1 hk1 hS => ?_)
    obtain ⟨hP, hK1, hD1⟩ := hB
    rw [ht] at hP
    have hD := hD1.weaken (fun _ _ _ h => hFc _ h)
    generalize H1 = H at hP hS ⊢
    have hP : va_P (dC, dI) vwCl (mW ad cA u_93) H := hP
    have hD : va_D A (mW ad cA u_93) := hD
    refine lv_iconst (v := 1) hx hb dM_signal_14 (by decide) ?_
    have eT : (1, u_93) = T := by subst hr_90 hu_93; rw [← hf]; simp only [mf_signal, if_neg c_91]
    exact W.zret (v := 1) hx hb hr (rfl) (fun t ht hW => ⟨⟨1, u_93, rfl, ⟨congrArg Prod.fst eT, congrArg Prod.snd eT⟩, by rw [ht]; exact hP, va_K.moved hW.alike hK, hD⟩, hS.F ht⟩) hS.2.2 dM_signal_15
  · refine lv_iconst (v := 0) hx hb dM_signal_7 (by decide) ?_
    have eT : (0, u) = T := by subst hr_90; rw [← hf]; simp only [mf_signal, if_pos c_91]
    exact W.zret (v := 0) hx hb hr (rfl) (fun t ht hW => ⟨⟨0, u, rfl, ⟨congrArg Prod.fst eT, congrArg Prod.snd eT⟩, by rw [ht]; exact hP, va_K.moved hW.alike hK, hD⟩, hS.F ht⟩) hS.2.2 dM_signal_8
end
section
set_option maxHeartbeats 4000000 in
set_option maxRecDepth 100000 in
theorem mc_make (l : Launch) (dC : Nat → ClassId) (dI : Nat → Nat → Nat) (ad : Nat → Nat) (cA : Nat → ClassId) (sz : Nat) (u : MS) (p1 : Int32) (p2 : Int32) (p3 : Int32) (T : Int32 × MS) (hf : mf_make u p1 p2 p3 = T) : Met l yM_make wM_make ({ frames := 1, cells := 0, slots := 0, locals := 20 } : Room) (va_Pc [.ref (ad 0), .int p1, .int p2, .int p3] (fun U => U.heap.size = sz ∧ va_P (dC, dI) vwCl (mW ad cA u) U.heap ∧ va_K (dC, dI) vwCl (mT cA) U ∧ va_D (fun _ => True) (mW ad cA u))) (va_Qi (fun r u2 => r = T.1 ∧ u2 = T.2) (mAt dC dI (va_A (mW ad cA u) sz) ad cA) (va_A (mW ad cA u) sz)) 0 0 (va_A (mW ad cA u) sz) := by
  refine Met.ofW (cc := cM_make) (maxL := 4) (ret := (some .boolean)) (by decide) rfl ?_
  intro p e s m args below meth c s₁ B hml hv
  obtain ⟨rfl, hsz, hP, hK, hD0⟩ := hv
  have hx := B.exec
  have hb := B.bytes
  have hr := B.returns
  have hts := atoms_spec (ws := wM_make) B.pre
  have hown : s.vm.findClass RX1 = some m.cls := findClass_of_methodNamed B.named
  have hlocks := B.notSynchronized
  have hin0 : ∀ w ∈ wsX10, w ∈ wM_make := by decide +kernel
  have fl_made := hts (.fieldLink RX1 7 "ProcessRoomModel" "made" "[Z") (by decide +kernel)
  have fl_priorities := hts (.fieldLink RX1 13 "ProcessRoomModel" "priorities" "[I") (by decide +kernel)
  have fl_places := hts (.fieldLink RX1 17 "ProcessRoomModel" "places" "[I") (by decide +kernel)
  have fl_rows := hts (.fieldLink RX1 20 "ProcessRoomModel" "rows" "[I") (by decide +kernel)
  subst hsz
  have hD := hD0.self (sz := s.heap.size)
  generalize hAe : va_A (mW ad cA u) s.heap.size = A at hD ⊢
  have hA : ∀ q : Nat, s.heap.size ≤ q → A q := fun q h => by rw [← hAe]; exact Or.inr h
  have hS : va_S A s.heap s.heap [] := va_S.rf
  have hl := lv_entry ([.ref (ad 0), .int p1, .int p2, .int p3]) (n := 4) (Nat.le_of_ble_eq_true rfl)
  rw [lg_entry_eq]
  generalize (lg_sl ([.ref (ad 0), .int p1, .int p2, .int p3]) ++ List.replicate (4 - (lg_sl ([.ref (ad 0), .int p1, .int p2, .int p3])).length) Slot.unset).toArray = ls at hl ⊢
  have hl : lv_has ls 4 [(0, .ref (ad 0)), (1, .int p1), (2, .int p2), (3, .int p3)] := hl
  refine lv_iload_n hx hb dM_make_0 rfl (lv_at hl 1 rfl) ?_
  refine va_calli (va_runS (As := [.int p1]) (rest := []) ⟨hx, hb, hml, hown, hts⟩ (mc_isProcess l p1 _ rfl) (va_cwS 1 hts gM_make_isProcess rfl rfl rfl (by decide +kernel) ⟨Nat.le_of_ble_eq_true rfl, Nat.le_of_ble_eq_true rfl⟩) ⟨fun a U g mk q => ⟨q.1, trivial⟩, fun U hU hW => ⟨rfl, trivial⟩⟩ rfl rfl hl.1 rfl (lv_room (Nat.le_of_ble_eq_true rfl)) dM_make_1 ⟨Nat.le_of_ble_eq_true rfl, Nat.le_of_ble_eq_true rfl⟩) hS (fun _ _ h => h.elim) (fun _ h => h.elim) (fun r_94 u_ t H1 locs ht hvm hr_94 hB hz1 hk1 hS => ?_)
  have hP := hP.kept (fun k x hx => hk1 x.1 ((hP k x hx).lt) (fun h => h))
  generalize H1 = H at hP hS ⊢
  refine lv_if_eq (tgt := 23) hx hb dM_make_4 (by decide) (fun c_95 => ?_) (fun c_95 => ?_)
  · refine lv_iconst (v := 0) hx hb dM_make_23 (by decide) ?_
    have eT : (0, u) = T := by subst hr_94; rw [← hf]; simp only [mf_make, if_pos c_95]
    exact W.zret (v := 0) hx hb hr (rfl) (fun t ht hW => ⟨⟨0, u, rfl, ⟨congrArg Prod.fst eT, congrArg Prod.snd eT⟩, by rw [ht]; exact hP, va_K.moved hW.alike hK, hD⟩, hS.F ht⟩) hS.2.2 dM_make_24
  · refine lv_aload_n hx hb dM_make_7 rfl (lv_at hl 0 rfl) ?_
    refine va_get (D := (dC, dI)) (ci := 1) (v := .ref (ad 1)) (C := RX1) (T := TX1) (N := 13) (fs := mF ad u) hx hb hts hin0 hown hK hP 0 rfl rfl 0 (by decide) fl_made (fun _ h9 => h9) rfl dM_make_8 ?_
    refine lv_iload_n hx hb dM_make_11 rfl (lv_at hl 1 rfl) ?_
    refine va_zald hx hb hK hP 1 0 rfl rfl (mi_isProcess hr_94 c_95) dM_make_12 ?_
    refine lv_if_ne (tgt := 23) hx hb dM_make_13 (by decide) (fun c_96 => ?_) (fun c_96 => ?_)
    · refine lv_iconst (v := 0) hx hb dM_make_23 (by decide) ?_
      have eT : (0, u) = T := by subst hr_94; rw [← hf]; simp only [mf_make, if_neg c_95, if_neg c_96]
      exact W.zret (v := 0) hx hb hr (rfl) (fun t ht hW => ⟨⟨0, u, rfl, ⟨congrArg Prod.fst eT, congrArg Prod.snd eT⟩, by rw [ht]; exact hP, va_K.moved hW.alike hK, hD⟩, hS.F ht⟩) hS.2.2 dM_make_24
    · refine lv_iload_n hx hb dM_make_16 rfl (lv_at hl 2 rfl) ?_
      refine va_calli (va_runS (As := [.int p2]) (rest := []) ⟨hx, hb, hml, hown, hts⟩ (mc_isPriority l p2 _ rfl) (va_cwS 1 hts gM_make_isPriority rfl rfl rfl (by decide +kernel) ⟨Nat.le_of_ble_eq_true rfl, Nat.le_of_ble_eq_true rfl⟩) ⟨fun a U g mk q => ⟨q.1, trivial⟩, fun U hU hW => ⟨rfl, trivial⟩⟩ rfl rfl hl.1 rfl (lv_room (Nat.le_of_ble_eq_true rfl)) dM_make_17 ⟨Nat.le_of_ble_eq_true rfl, Nat.le_of_ble_eq_true rfl⟩) hS (fun _ _ h => h.elim) (fun _ h => h.elim) (fun r_97 u_ t H1 locs ht hvm hr_97 hB hz1 hk1 hS => ?_)
      have hP := hP.kept (fun k x hx => hk1 x.1 ((hP k x hx).lt) (fun h => h))
      generalize H1 = H at hP hS ⊢
      refine lv_if_ne (tgt := 25) hx hb dM_make_20 (by decide) (fun c_98 => ?_) (fun c_98 => ?_)
      · refine lv_aload_n hx hb dM_make_25 rfl (lv_at hl 0 rfl) ?_
        refine va_get (D := (dC, dI)) (ci := 1) (v := .ref (ad 1)) (C := RX1) (T := TX1) (N := 13) (fs := mF ad u) hx hb hts hin0 hown hK hP 0 rfl rfl 0 (by decide) fl_made (fun _ h9 => h9) rfl dM_make_26 ?_
        refine lv_iload_n hx hb dM_make_29 rfl (lv_at hl 1 rfl) ?_
        refine lv_iconst (v := 1) hx hb dM_make_30 (by decide) ?_
        refine va_zast hx hb hK hP hD hS 1 0 rfl rfl (mi_isProcess hr_94 c_95) dM_make_31 (fun H locs hP hD hS => ?_)
        rw [k_nz1] at hP hD
        rw [mw_made] at hP hD
        obtain ⟨u_99, hu_99⟩ : ∃ w : MS, w = ms_made u (upd (ma_made u) p1.toNatClampNeg 1) := ⟨_, rfl⟩
        rw [← hu_99] at hP hD
        refine lv_aload_n hx hb dM_make_32 rfl (lv_at hl 0 rfl) ?_
        refine va_get (D := (dC, dI)) (ci := 1) (v := .ref (ad 2)) (C := RX1) (T := TX1) (N := 13) (fs := mF ad u_99) hx hb hts hin0 hown hK hP 0 rfl rfl 1 (by decide) fl_priorities (fun _ h9 => h9) rfl dM_make_33 ?_
        refine lv_iload_n hx hb dM_make_36 rfl (lv_at hl 1 rfl) ?_
        refine lv_iload_n hx hb dM_make_37 rfl (lv_at hl 2 rfl) ?_
        refine va_iast hx hb hK hP hD hS 2 1 (show (mW ad cA u_99)[2]? = some (ad 2, .inl (cA 2, 32, .inl (ma_priorities u))) from by rw [← (show ma_priorities u_99 = ma_priorities u from by rw [hu_99, mq_priorities_made])]; rfl) rfl (mi_isProcess hr_94 c_95) dM_make_38 (fun H locs hP hD hS => ?_)
        rw [mw_priorities] at hP hD
        obtain ⟨u_100, hu_100⟩ : ∃ w : MS, w = ms_priorities u_99 (upd (ma_priorities u) p1.toNatClampNeg p2) := ⟨_, rfl⟩
        rw [← hu_100] at hP hD
        refine lv_aload_n hx hb dM_make_39 rfl (lv_at hl 0 rfl) ?_
        refine va_get (D := (dC, dI)) (ci := 1) (v := .ref (ad 3)) (C := RX1) (T := TX1) (N := 13) (fs := mF ad u_100) hx hb hts hin0 hown hK hP 0 rfl rfl 2 (by decide) fl_places (fun _ h9 => h9) rfl dM_make_40 ?_
        refine lv_iload_n hx hb dM_make_43 rfl (lv_at hl 1 rfl) ?_
        refine lv_iload_n hx hb dM_make_44 rfl (lv_at hl 3 rfl) ?_
        refine va_iast hx hb hK hP hD hS 3 2 (show (mW ad cA u_100)[3]? = some (ad 3, .inl (cA 3, 32, .inl (ma_places u))) from by rw [← (show ma_places u_100 = ma_places u from by rw [hu_100, mq_places_priorities, hu_99, mq_places_made])]; rfl) rfl (mi_isProcess hr_94 c_95) dM_make_45 (fun H locs hP hD hS => ?_)
        rw [mw_places] at hP hD
        obtain ⟨u_101, hu_101⟩ : ∃ w : MS, w = ms_places u_100 (upd (ma_places u) p1.toNatClampNeg p3) := ⟨_, rfl⟩
        rw [← hu_101] at hP hD
        refine lv_aload_n hx hb dM_make_46 rfl (lv_at hl 0 rfl) ?_
        refine va_get (D := (dC, dI)) (ci := 1) (v := .ref (ad 4)) (C := RX1) (T := TX1) (N := 13) (fs := mF ad u_101) hx hb hts hin0 hown hK hP 0 rfl rfl 3 (by decide) fl_rows (fun _ h9 => h9) rfl dM_make_47 ?_
        refine lv_iload_n hx hb dM_make_50 rfl (lv_at hl 1 rfl) ?_
        refine lv_iconst (v := 0) hx hb dM_make_51 (by decide) ?_
        refine va_iast hx hb hK hP hD hS 4 3 (show (mW ad cA u_101)[4]? = some (ad 4, .inl (cA 4, 32, .inl (ma_rows u))) from by rw [← (show ma_rows u_101 = ma_rows u from by rw [hu_101, mq_rows_places, hu_100, mq_rows_priorities, hu_99, mq_rows_made])]; rfl) rfl (mi_isProcess hr_94 c_95) dM_make_52 (fun H locs hP hD hS => ?_)
        rw [mw_rows] at hP hD
        obtain ⟨u_102, hu_102⟩ : ∃ w : MS, w = ms_rows u_101 (upd (ma_rows u) p1.toNatClampNeg 0) := ⟨_, rfl⟩
        rw [← hu_102] at hP hD
        refine lv_iconst (v := 1) hx hb dM_make_53 (by decide) ?_
        have eT : (1, u_102) = T := by subst hr_94 hr_97 hu_99 hu_100 hu_101 hu_102; rw [← hf]; simp only [mf_make, if_neg c_95, if_pos c_96, if_neg c_98]
        exact W.zret (v := 1) hx hb hr (rfl) (fun t ht hW => ⟨⟨1, u_102, rfl, ⟨congrArg Prod.fst eT, congrArg Prod.snd eT⟩, by rw [ht]; exact hP, va_K.moved hW.alike hK, hD⟩, hS.F ht⟩) hS.2.2 dM_make_54
      · refine lv_iconst (v := 0) hx hb dM_make_23 (by decide) ?_
        have eT : (0, u) = T := by subst hr_94 hr_97; rw [← hf]; simp only [mf_make, if_neg c_95, if_pos c_96, if_pos c_98]
        exact W.zret (v := 0) hx hb hr (rfl) (fun t ht hW => ⟨⟨0, u, rfl, ⟨congrArg Prod.fst eT, congrArg Prod.snd eT⟩, by rw [ht]; exact hP, va_K.moved hW.alike hK, hD⟩, hS.F ht⟩) hS.2.2 dM_make_24
set_option maxHeartbeats 4000000 in
set_option maxRecDepth 100000 in
theorem mc_resume (l : Launch) (dC : Nat → ClassId) (dI : Nat → Nat → Nat) (ad : Nat → Nat) (cA : Nat → ClassId) (sz : Nat) (u : MS) (p1 : Int32) (hI : mInv u) (T : Int32 × MS) (hf : mf_resume u p1 = T) : Met l yM_resume wM_resume ({ frames := 2, cells := 0, slots := 0, locals := 44 } : Room) (va_Pc [.ref (ad 0), .int p1] (fun U => U.heap.size = sz ∧ va_P (dC, dI) vwCl (mW ad cA u) U.heap ∧ va_K (dC, dI) vwCl (mT cA) U ∧ va_D (fun _ => True) (mW ad cA u))) (va_Qi (fun r u2 => r = T.1 ∧ u2 = T.2) (mAt dC dI (va_A (mW ad cA u) sz) ad cA) (va_A (mW ad cA u) sz)) 0 0 (va_A (mW ad cA u) sz) := by
  refine Met.ofW (cc := cM_resume) (maxL := 2) (ret := (some .boolean)) (by decide) rfl ?_
  intro p e s m args below meth c s₁ B hml hv
  obtain ⟨rfl, hsz, hP, hK, hD0⟩ := hv
  have hx := B.exec
  have hb := B.bytes
  have hr := B.returns
  have hts := atoms_spec (ws := wM_resume) B.pre
  have hown : s.vm.findClass RX1 = some m.cls := findClass_of_methodNamed B.named
  have hlocks := B.notSynchronized
  have hin0 : ∀ w ∈ wsX10, w ∈ wM_resume := by decide +kernel
  have fl_rows := hts (.fieldLink RX1 20 "ProcessRoomModel" "rows" "[I") (by decide +kernel)
  have fl_active := hts (.fieldLink RX1 33 "ProcessRoomModel" "active" "I") (by decide +kernel)
  subst hsz
  have hD := hD0.self (sz := s.heap.size)
  generalize hAe : va_A (mW ad cA u) s.heap.size = A at hD ⊢
  have hA : ∀ q : Nat, s.heap.size ≤ q → A q := fun q h => by rw [← hAe]; exact Or.inr h
  have hS : va_S A s.heap s.heap [] := va_S.rf
  have hl := lv_entry ([.ref (ad 0), .int p1]) (n := 2) (Nat.le_of_ble_eq_true rfl)
  rw [lg_entry_eq]
  generalize (lg_sl ([.ref (ad 0), .int p1]) ++ List.replicate (2 - (lg_sl ([.ref (ad 0), .int p1])).length) Slot.unset).toArray = ls at hl ⊢
  have hl : lv_has ls 2 [(0, .ref (ad 0)), (1, .int p1)] := hl
  refine lv_aload_n hx hb dM_resume_0 rfl (lv_at hl 0 rfl) ?_
  refine lv_iload_n hx hb dM_resume_1 rfl (lv_at hl 1 rfl) ?_
  refine va_calli (va_runV (As := [.int p1]) (rest := []) ⟨hx, hb, hml, hown, hts⟩ (mc_isMade l dC dI ad cA u p1 _ rfl) (cwV 1 hts gM_resume_isMade rfl rfl rfl (by decide +kernel) ⟨Nat.le_of_ble_eq_true rfl, Nat.le_of_ble_eq_true rfl⟩) ⟨fun a U g mk q => by obtain ⟨q0, qP, qK⟩ := q; exact ⟨q0, qP, va_K.moved (u := U) (U := U.calling g mk a) (Vm.Alike.refl U.vm) qK⟩, va_recv hK hP (ci := 1) (q0 := 0) rfl rfl, fun U hU hW => ⟨rfl, by rw [hU]; exact hP, va_K.moved hW.alike hK⟩⟩ rfl rfl hl.1 rfl (lv_room (Nat.le_of_ble_eq_true rfl)) dM_resume_2 ⟨Nat.le_of_ble_eq_true rfl, Nat.le_of_ble_eq_true rfl⟩) hS (fun _ _ h => h.elim) (fun _ h => h.elim) (fun r_103 u_ t H1 locs ht hvm hr_103 hB hz1 hk1 hS => ?_)
  have hP := hP.kept (fun k x hx => hk1 x.1 ((hP k x hx).lt) (fun h => h))
  generalize H1 = H at hP hS ⊢
  refine lv_if_eq (tgt := 33) hx hb dM_resume_5 (by decide) (fun c_104 => ?_) (fun c_104 => ?_)
  · refine lv_iconst (v := 0) hx hb dM_resume_33 (by decide) ?_
    have eT : (0, u) = T := by subst hr_103; rw [← hf]; simp only [mf_resume, if_pos c_104]
    exact W.zret (v := 0) hx hb hr (rfl) (fun t ht hW => ⟨⟨0, u, rfl, ⟨congrArg Prod.fst eT, congrArg Prod.snd eT⟩, by rw [ht]; exact hP, va_K.moved hW.alike hK, hD⟩, hS.F ht⟩) hS.2.2 dM_resume_34
  · refine lv_aload_n hx hb dM_resume_8 rfl (lv_at hl 0 rfl) ?_
    refine va_get (D := (dC, dI)) (ci := 1) (v := .ref (ad 4)) (C := RX1) (T := TX1) (N := 13) (fs := mF ad u) hx hb hts hin0 hown hK hP 0 rfl rfl 3 (by decide) fl_rows (fun _ h9 => h9) rfl dM_resume_9 ?_
    refine lv_iload_n hx hb dM_resume_12 rfl (lv_at hl 1 rfl) ?_
    refine va_iald hx hb hK hP 4 3 rfl rfl (mi_isMade hr_103 c_104) dM_resume_13 ?_
    refine lv_if_ne (tgt := 33) hx hb dM_resume_14 (by decide) (fun c_105 => ?_) (fun c_105 => ?_)
    · refine lv_iconst (v := 0) hx hb dM_resume_33 (by decide) ?_
      have eT : (0, u) = T := by subst hr_103; rw [← hf]; simp only [mf_resume, if_neg c_104, if_neg c_105]
      exact W.zret (v := 0) hx hb hr (rfl) (fun t ht hW => ⟨⟨0, u, rfl, ⟨congrArg Prod.fst eT, congrArg Prod.snd eT⟩, by rw [ht]; exact hP, va_K.moved hW.alike hK, hD⟩, hS.F ht⟩) hS.2.2 dM_resume_34
    · refine lv_iload_n hx hb dM_resume_17 rfl (lv_at hl 1 rfl) ?_
      refine lv_aload_n hx hb dM_resume_18 rfl (lv_at hl 0 rfl) ?_
      refine va_calli (va_runV (As := []) (rest := [.int p1]) ⟨hx, hb, hml, hown, hts⟩ (mc_presentOne l dC dI ad cA u _ rfl) (cwV 0 hts gM_resume_presentOne rfl rfl rfl (by decide +kernel) ⟨Nat.le_of_ble_eq_true rfl, Nat.le_of_ble_eq_true rfl⟩) ⟨fun a U g mk q => by obtain ⟨q0, qP, qK⟩ := q; exact ⟨q0, qP, va_K.moved (u := U) (U := U.calling g mk a) (Vm.Alike.refl U.vm) qK⟩, va_recv hK hP (ci := 1) (q0 := 0) rfl rfl, fun U hU hW => ⟨rfl, by rw [hU]; exact hP, va_K.moved hW.alike hK⟩⟩ rfl rfl hl.1 rfl (lv_room (Nat.le_of_ble_eq_true rfl)) dM_resume_19 ⟨Nat.le_of_ble_eq_true rfl, Nat.le_of_ble_eq_true rfl⟩) hS (fun _ _ h => h.elim) (fun _ h => h.elim) (fun r_106 u_ t H1 locs ht hvm hr_106 hB hz1 hk1 hS => ?_)
      have hP := hP.kept (fun k x hx => hk1 x.1 ((hP k x hx).lt) (fun h => h))
      generalize H1 = H at hP hS ⊢
      refine lv_icmp_eq (tgt := 33) hx hb dM_resume_22 (by decide) (fun c_107 => ?_) (fun c_107 => ?_)
      · refine lv_iconst (v := 0) hx hb dM_resume_33 (by decide) ?_
        have eT : (0, u) = T := by subst hr_103 hr_106; rw [← hf]; simp only [mf_resume, if_neg c_104, if_pos c_105, if_pos c_107]
        exact W.zret (v := 0) hx hb hr (rfl) (fun t ht hW => ⟨⟨0, u, rfl, ⟨congrArg Prod.fst eT, congrArg Prod.snd eT⟩, by rw [ht]; exact hP, va_K.moved hW.alike hK, hD⟩, hS.F ht⟩) hS.2.2 dM_resume_34
      · refine lv_iload_n hx hb dM_resume_25 rfl (lv_at hl 1 rfl) ?_
        refine lv_aload_n hx hb dM_resume_26 rfl (lv_at hl 0 rfl) ?_
        refine va_get (D := (dC, dI)) (ci := 1) (v := .int (ma_active u)) (C := RX1) (T := TX1) (N := 13) (fs := mF ad u) hx hb hts hin0 hown hK hP 0 rfl rfl 9 (by decide) fl_active (fun _ h9 => h9) rfl dM_resume_27 ?_
        refine lv_icmp_ne (tgt := 35) hx hb dM_resume_30 (by decide) (fun c_108 => ?_) (fun c_108 => ?_)
        · refine lv_aload_n hx hb dM_resume_35 rfl (lv_at hl 0 rfl) ?_
          refine lv_iload_n hx hb dM_resume_36 rfl (lv_at hl 1 rfl) ?_
          have hFc := va_free (wc := (mW ad cA u)) hD hS hA [0, 1, 2, 3, 4, 5, 6, 7] rfl
          refine va_callv (va_runV (As := [.int p1]) (rest := []) ⟨hx, hb, hml, hown, hts⟩ (mc_wake l dC dI ad cA _ u p1 hI (mi_isMade hr_103 c_104) _ rfl) (cwV 1 hts gM_resume_wake rfl rfl rfl (by decide +kernel) ⟨Nat.le_of_ble_eq_true rfl, Nat.le_of_ble_eq_true rfl⟩) ⟨fun a U g mk q => by obtain ⟨q0, q1, qP, qK, qD⟩ := q; exact ⟨q0, q1, qP, va_K.moved (u := U) (U := U.calling g mk a) (Vm.Alike.refl U.vm) qK, qD⟩, va_recv hK hP (ci := 1) (q0 := 0) rfl rfl, fun U hU hW => ⟨rfl, by rw [hU], by rw [hU]; exact hP, va_K.moved hW.alike hK, hD.weaken (fun _ _ _ _ => trivial)⟩⟩ rfl rfl hl.1 rfl (lv_room (Nat.le_of_ble_eq_true rfl)) dM_resume_37 ⟨Nat.le_of_ble_eq_true rfl, Nat.le_of_ble_eq_true rfl⟩) hS (fun q _ h => hFc q h) hFc (fun u_110 t H1 locs ht hvm hu_110 hB hz1 hk1 hS => ?_)
          obtain ⟨hP, hK1, hD1⟩ := hB
          rw [ht] at hP
          have hD := hD1.weaken (fun _ _ _ h => hFc _ h)
          generalize H1 = H at hP hS ⊢
          have hP : va_P (dC, dI) vwCl (mW ad cA u_110) H := hP
          have hD : va_D A (mW ad cA u_110) := hD
          refine lv_iconst (v := 1) hx hb dM_resume_40 (by decide) ?_
          have eT : (1, u_110) = T := by subst hr_103 hr_106 hu_110; rw [← hf]; simp only [mf_resume, if_neg c_104, if_pos c_105, if_neg c_107, if_neg c_108]
          exact W.zret (v := 1) hx hb hr (rfl) (fun t ht hW => ⟨⟨1, u_110, rfl, ⟨congrArg Prod.fst eT, congrArg Prod.snd eT⟩, by rw [ht]; exact hP, va_K.moved hW.alike hK, hD⟩, hS.F ht⟩) hS.2.2 dM_resume_41
        · refine lv_iconst (v := 0) hx hb dM_resume_33 (by decide) ?_
          have eT : (0, u) = T := by subst hr_103 hr_106; rw [← hf]; simp only [mf_resume, if_neg c_104, if_pos c_105, if_neg c_107, if_pos c_108]
          exact W.zret (v := 0) hx hb hr (rfl) (fun t ht hW => ⟨⟨0, u, rfl, ⟨congrArg Prod.fst eT, congrArg Prod.snd eT⟩, by rw [ht]; exact hP, va_K.moved hW.alike hK, hD⟩, hS.F ht⟩) hS.2.2 dM_resume_34
set_option maxHeartbeats 4000000 in
set_option maxRecDepth 100000 in
theorem mc_suspend (l : Launch) (dC : Nat → ClassId) (dI : Nat → Nat → Nat) (ad : Nat → Nat) (cA : Nat → ClassId) (sz : Nat) (u : MS)  (T : Int32 × MS) (hf : mf_suspend u = T) : Met l yM_suspend wM_suspend ({ frames := 2, cells := 0, slots := 0, locals := 50 } : Room) (va_Pc [.ref (ad 0)] (fun U => U.heap.size = sz ∧ va_P (dC, dI) vwCl (mW ad cA u) U.heap ∧ va_K (dC, dI) vwCl (mT cA) U ∧ va_D (fun _ => True) (mW ad cA u))) (va_Qi (fun r u2 => r = T.1 ∧ u2 = T.2) (mAt dC dI (va_A (mW ad cA u) sz) ad cA) (va_A (mW ad cA u) sz)) 0 0 (va_A (mW ad cA u) sz) := by
  refine Met.ofW (cc := cM_suspend) (maxL := 2) (ret := (some .int)) (by decide) rfl ?_
  intro p e s m args below meth c s₁ B hml hv
  obtain ⟨rfl, hsz, hP, hK, hD0⟩ := hv
  have hx := B.exec
  have hb := B.bytes
  have hr := B.returns
  have hts := atoms_spec (ws := wM_suspend) B.pre
  have hown : s.vm.findClass RX1 = some m.cls := findClass_of_methodNamed B.named
  have hlocks := B.notSynchronized
  subst hsz
  have hD := hD0.self (sz := s.heap.size)
  generalize hAe : va_A (mW ad cA u) s.heap.size = A at hD ⊢
  have hA : ∀ q : Nat, s.heap.size ≤ q → A q := fun q h => by rw [← hAe]; exact Or.inr h
  have hS : va_S A s.heap s.heap [] := va_S.rf
  have hl := lv_entry ([.ref (ad 0)]) (n := 2) (Nat.le_of_ble_eq_true rfl)
  rw [lg_entry_eq]
  generalize (lg_sl ([.ref (ad 0)]) ++ List.replicate (2 - (lg_sl ([.ref (ad 0)])).length) Slot.unset).toArray = ls at hl ⊢
  have hl : lv_has ls 2 [(0, .ref (ad 0))] := hl
  refine lv_aload_n hx hb dM_suspend_0 rfl (lv_at hl 0 rfl) ?_
  refine va_calli (va_runV (As := []) (rest := []) ⟨hx, hb, hml, hown, hts⟩ (mc_presentOne l dC dI ad cA u _ rfl) (cwV 0 hts gM_suspend_presentOne rfl rfl rfl (by decide +kernel) ⟨Nat.le_of_ble_eq_true rfl, Nat.le_of_ble_eq_true rfl⟩) ⟨fun a U g mk q => by obtain ⟨q0, qP, qK⟩ := q; exact ⟨q0, qP, va_K.moved (u := U) (U := U.calling g mk a) (Vm.Alike.refl U.vm) qK⟩, va_recv hK hP (ci := 1) (q0 := 0) rfl rfl, fun U hU hW => ⟨rfl, by rw [hU]; exact hP, va_K.moved hW.alike hK⟩⟩ rfl rfl hl.1 rfl (lv_room (Nat.le_of_ble_eq_true rfl)) dM_suspend_1 ⟨Nat.le_of_ble_eq_true rfl, Nat.le_of_ble_eq_true rfl⟩) hS (fun _ _ h => h.elim) (fun _ h => h.elim) (fun r_111 u_ t H1 locs ht hvm hr_111 hB hz1 hk1 hS => ?_)
  have hP := hP.kept (fun k x hx => hk1 x.1 ((hP k x hx).lt) (fun h => h))
  generalize H1 = H at hP hS ⊢
  refine lv_istore_n (lv' := [(1, .int r_111), (0, .ref (ad 0))]) hx hb dM_suspend_4 rfl hl (by decide) rfl (fun ls hl => ?_)
  refine lv_iload_n hx hb dM_suspend_5 rfl (lv_at hl 0 rfl) ?_
  refine lv_if_lt (tgt := 13) hx hb dM_suspend_6 (by decide) (fun c_112 => ?_) (fun c_112 => ?_)
  · refine lv_iload_n hx hb dM_suspend_13 rfl (lv_at hl 0 rfl) ?_
    have eT : (r_111, u) = T := by subst hr_111; rw [← hf]; simp only [mf_suspend, if_pos c_112]
    exact W.iret (v := r_111) hx hb hr (fun t ht hW => ⟨⟨r_111, u, rfl, ⟨congrArg Prod.fst eT, congrArg Prod.snd eT⟩, by rw [ht]; exact hP, va_K.moved hW.alike hK, hD⟩, hS.F ht⟩) hS.2.2 dM_suspend_14
  · refine lv_aload_n hx hb dM_suspend_9 rfl (lv_at hl 1 rfl) ?_
    have hFc := va_free (wc := (mW ad cA u)) hD hS hA [0, 1, 2, 3, 4, 5, 6, 7] rfl
    refine va_callv (va_runV (As := []) (rest := []) ⟨hx, hb, hml, hown, hts⟩ (mc_putAside l dC dI ad cA _ u _ rfl) (cwV 0 hts gM_suspend_putAside rfl rfl rfl (by decide +kernel) ⟨Nat.le_of_ble_eq_true rfl, Nat.le_of_ble_eq_true rfl⟩) ⟨fun a U g mk q => by obtain ⟨q0, q1, qP, qK, qD⟩ := q; exact ⟨q0, q1, qP, va_K.moved (u := U) (U := U.calling g mk a) (Vm.Alike.refl U.vm) qK, qD⟩, va_recv hK hP (ci := 1) (q0 := 0) rfl rfl, fun U hU hW => ⟨rfl, by rw [hU], by rw [hU]; exact hP, va_K.moved hW.alike hK, hD.weaken (fun _ _ _ _ => trivial)⟩⟩ rfl rfl hl.1 rfl (lv_room (Nat.le_of_ble_eq_true rfl)) dM_suspend_10 ⟨Nat.le_of_ble_eq_true rfl, Nat.le_of_ble_eq_true rfl⟩) hS (fun q _ h => hFc q h) hFc (fun u_114 t H1 locs ht hvm hu_114 hB hz1 hk1 hS => ?_)
    obtain ⟨hP, hK1, hD1⟩ := hB
    rw [ht] at hP
    have hD := hD1.weaken (fun _ _ _ h => hFc _ h)
    generalize H1 = H at hP hS ⊢
    have hP : va_P (dC, dI) vwCl (mW ad cA u_114) H := hP
    have hD : va_D A (mW ad cA u_114) := hD
    refine lv_iload_n hx hb dM_suspend_13 rfl (lv_at hl 0 rfl) ?_
    have eT : (r_111, u_114) = T := by subst hr_111 hu_114; rw [← hf]; simp only [mf_suspend, if_neg c_112]
    exact W.iret (v := r_111) hx hb hr (fun t ht hW => ⟨⟨r_111, u_114, rfl, ⟨congrArg Prod.fst eT, congrArg Prod.snd eT⟩, by rw [ht]; exact hP, va_K.moved hW.alike hK, hD⟩, hS.F ht⟩) hS.2.2 dM_suspend_14
set_option maxHeartbeats 4000000 in
set_option maxRecDepth 100000 in
theorem mc_end (l : Launch) (dC : Nat → ClassId) (dI : Nat → Nat → Nat) (ad : Nat → Nat) (cA : Nat → ClassId) (sz : Nat) (u : MS)  (hI : mInv u) (T : Int32 × MS) (hf : mf_end u = T) : Met l yM_end wM_end ({ frames := 2, cells := 0, slots := 0, locals := 50 } : Room) (va_Pc [.ref (ad 0)] (fun U => U.heap.size = sz ∧ va_P (dC, dI) vwCl (mW ad cA u) U.heap ∧ va_K (dC, dI) vwCl (mT cA) U ∧ va_D (fun _ => True) (mW ad cA u))) (va_Qi (fun r u2 => r = T.1 ∧ u2 = T.2) (mAt dC dI (va_A (mW ad cA u) sz) ad cA) (va_A (mW ad cA u) sz)) 0 0 (va_A (mW ad cA u) sz) := by
  refine Met.ofW (cc := cM_end) (maxL := 2) (ret := (some .int)) (by decide) rfl ?_
  intro p e s m args below meth c s₁ B hml hv
  obtain ⟨rfl, hsz, hP, hK, hD0⟩ := hv
  have hx := B.exec
  have hb := B.bytes
  have hr := B.returns
  have hts := atoms_spec (ws := wM_end) B.pre
  have hown : s.vm.findClass RX1 = some m.cls := findClass_of_methodNamed B.named
  have hlocks := B.notSynchronized
  have hin0 : ∀ w ∈ wsX10, w ∈ wM_end := by decide +kernel
  have fl_made := hts (.fieldLink RX1 7 "ProcessRoomModel" "made" "[Z") (by decide +kernel)
  have fl_active := hts (.fieldLink RX1 33 "ProcessRoomModel" "active" "I") (by decide +kernel)
  subst hsz
  have hD := hD0.self (sz := s.heap.size)
  generalize hAe : va_A (mW ad cA u) s.heap.size = A at hD ⊢
  have hA : ∀ q : Nat, s.heap.size ≤ q → A q := fun q h => by rw [← hAe]; exact Or.inr h
  have hS : va_S A s.heap s.heap [] := va_S.rf
  have hl := lv_entry ([.ref (ad 0)]) (n := 2) (Nat.le_of_ble_eq_true rfl)
  rw [lg_entry_eq]
  generalize (lg_sl ([.ref (ad 0)]) ++ List.replicate (2 - (lg_sl ([.ref (ad 0)])).length) Slot.unset).toArray = ls at hl ⊢
  have hl : lv_has ls 2 [(0, .ref (ad 0))] := hl
  refine lv_aload_n hx hb dM_end_0 rfl (lv_at hl 0 rfl) ?_
  refine va_calli (va_runV (As := []) (rest := []) ⟨hx, hb, hml, hown, hts⟩ (mc_presentOne l dC dI ad cA u _ rfl) (cwV 0 hts gM_end_presentOne rfl rfl rfl (by decide +kernel) ⟨Nat.le_of_ble_eq_true rfl, Nat.le_of_ble_eq_true rfl⟩) ⟨fun a U g mk q => by obtain ⟨q0, qP, qK⟩ := q; exact ⟨q0, qP, va_K.moved (u := U) (U := U.calling g mk a) (Vm.Alike.refl U.vm) qK⟩, va_recv hK hP (ci := 1) (q0 := 0) rfl rfl, fun U hU hW => ⟨rfl, by rw [hU]; exact hP, va_K.moved hW.alike hK⟩⟩ rfl rfl hl.1 rfl (lv_room (Nat.le_of_ble_eq_true rfl)) dM_end_1 ⟨Nat.le_of_ble_eq_true rfl, Nat.le_of_ble_eq_true rfl⟩) hS (fun _ _ h => h.elim) (fun _ h => h.elim) (fun r_115 u_ t H1 locs ht hvm hr_115 hB hz1 hk1 hS => ?_)
  have hP := hP.kept (fun k x hx => hk1 x.1 ((hP k x hx).lt) (fun h => h))
  generalize H1 = H at hP hS ⊢
  refine lv_istore_n (lv' := [(1, .int r_115), (0, .ref (ad 0))]) hx hb dM_end_4 rfl hl (by decide) rfl (fun ls hl => ?_)
  refine lv_iload_n hx hb dM_end_5 rfl (lv_at hl 0 rfl) ?_
  refine lv_if_lt (tgt := 40) hx hb dM_end_6 (by decide) (fun c_116 => ?_) (fun c_116 => ?_)
  · refine lv_iload_n hx hb dM_end_40 rfl (lv_at hl 0 rfl) ?_
    have eT : (r_115, u) = T := by subst hr_115; rw [← hf]; simp only [mf_end, if_pos c_116]
    exact W.iret (v := r_115) hx hb hr (fun t ht hW => ⟨⟨r_115, u, rfl, ⟨congrArg Prod.fst eT, congrArg Prod.snd eT⟩, by rw [ht]; exact hP, va_K.moved hW.alike hK, hD⟩, hS.F ht⟩) hS.2.2 dM_end_41
  · refine lv_aload_n hx hb dM_end_9 rfl (lv_at hl 1 rfl) ?_
    refine va_get (D := (dC, dI)) (ci := 1) (v := .ref (ad 1)) (C := RX1) (T := TX1) (N := 13) (fs := mF ad u) hx hb hts hin0 hown hK hP 0 rfl rfl 0 (by decide) fl_made (fun _ h9 => h9) rfl dM_end_10 ?_
    refine lv_iload_n hx hb dM_end_13 rfl (lv_at hl 0 rfl) ?_
    refine lv_iconst (v := 0) hx hb dM_end_14 (by decide) ?_
    refine va_zast hx hb hK hP hD hS 1 0 rfl rfl (mi_presentOne hr_115 hI c_116) dM_end_15 (fun H locs hP hD hS => ?_)
    rw [k_nz0] at hP hD
    rw [mw_made] at hP hD
    obtain ⟨u_117, hu_117⟩ : ∃ w : MS, w = ms_made u (upd (ma_made u) r_115.toNatClampNeg 0) := ⟨_, rfl⟩
    rw [← hu_117] at hP hD
    refine lv_aload_n hx hb dM_end_16 rfl (lv_at hl 1 rfl) ?_
    have hFc := va_free (wc := (mW ad cA u_117)) hD hS hA [0, 1, 2, 3, 4, 5, 6, 7] rfl
    refine va_callv (va_runV (As := []) (rest := []) ⟨hx, hb, hml, hown, hts⟩ (mc_putAside l dC dI ad cA _ u_117 _ rfl) (cwV 0 hts gM_end_putAside rfl rfl rfl (by decide +kernel) ⟨Nat.le_of_ble_eq_true rfl, Nat.le_of_ble_eq_true rfl⟩) ⟨fun a U g mk q => by obtain ⟨q0, q1, qP, qK, qD⟩ := q; exact ⟨q0, q1, qP, va_K.moved (u := U) (U := U.calling g mk a) (Vm.Alike.refl U.vm) qK, qD⟩, va_recv hK hP (ci := 1) (q0 := 0) rfl rfl, fun U hU hW => ⟨rfl, by rw [hU], by rw [hU]; exact hP, va_K.moved hW.alike hK, hD.weaken (fun _ _ _ _ => trivial)⟩⟩ rfl rfl hl.1 rfl (lv_room (Nat.le_of_ble_eq_true rfl)) dM_end_17 ⟨Nat.le_of_ble_eq_true rfl, Nat.le_of_ble_eq_true rfl⟩) hS (fun q _ h => hFc q h) hFc (fun u_119 t H1 locs ht hvm hu_119 hB hz1 hk1 hS => ?_)
    obtain ⟨hP, hK1, hD1⟩ := hB
    rw [ht] at hP
    have hD := hD1.weaken (fun _ _ _ h => hFc _ h)
    generalize H1 = H at hP hS ⊢
    have hP : va_P (dC, dI) vwCl (mW ad cA u_119) H := hP
    have hD : va_D A (mW ad cA u_119) := hD
    refine lv_aload_n hx hb dM_end_20 rfl (lv_at hl 1 rfl) ?_
    refine lv_iload_n hx hb dM_end_21 rfl (lv_at hl 0 rfl) ?_
    refine lv_aload_n hx hb dM_end_22 rfl (lv_at hl 1 rfl) ?_
    refine va_get (D := (dC, dI)) (ci := 1) (v := .int (ma_active u_119)) (C := RX1) (T := TX1) (N := 13) (fs := mF ad u_119) hx hb hts hin0 hown hK hP 0 rfl rfl 9 (by decide) fl_active (fun _ h9 => h9) rfl dM_end_23 ?_
    refine lv_icmp_ne (tgt := 33) hx hb dM_end_26 (by decide) (fun c_120 => ?_) (fun c_120 => ?_)
    · refine lv_aload_n hx hb dM_end_33 rfl (lv_at hl 1 rfl) ?_
      refine va_get (D := (dC, dI)) (ci := 1) (v := .int (ma_active u_119)) (C := RX1) (T := TX1) (N := 13) (fs := mF ad u_119) hx hb hts hin0 hown hK hP 0 rfl rfl 9 (by decide) fl_active (fun _ h9 => h9) rfl dM_end_34 ?_
      refine va_put (D := (dC, dI)) (ci := 1) (v := .int (ma_active u_119)) (ty := .int) (C := RX1) (T := TX1) (N := 13) (fs := mF ad u_119) hx hb hts hin0 tyX1 tyX1_ok nmX1 hown hK hP hD hS 0 rfl rfl 9 (by decide) fl_active (fun _ h9 => h9) rfl (by decide +kernel) rfl rfl (Nat.le_of_ble_eq_true rfl) dM_end_37 (fun H locs hP hD hS => ?_)
      rw [mw_active] at hP hD
      obtain ⟨u_121, hu_121⟩ : ∃ w : MS, w = ms_active u_119 (ma_active u_119) := ⟨_, rfl⟩
      rw [← hu_121] at hP hD
      refine lv_iload_n hx hb dM_end_40 rfl (lv_at hl 0 rfl) ?_
      have eT : (r_115, u_121) = T := by subst hr_115 hu_117 hu_119 hu_121; rw [← hf]; simp only [mf_end, if_neg c_116, if_neg c_120]
      exact W.iret (v := r_115) hx hb hr (fun t ht hW => ⟨⟨r_115, u_121, rfl, ⟨congrArg Prod.fst eT, congrArg Prod.snd eT⟩, by rw [ht]; exact hP, va_K.moved hW.alike hK, hD⟩, hS.F ht⟩) hS.2.2 dM_end_41
    · refine lv_iconst (v := (-1)) hx hb dM_end_29 (by decide) ?_
      refine lv_goto (tgt := 37) hx hb dM_end_30 (by decide) ?_
      refine va_put (D := (dC, dI)) (ci := 1) (v := .int (-1)) (ty := .int) (C := RX1) (T := TX1) (N := 13) (fs := mF ad u_119) hx hb hts hin0 tyX1 tyX1_ok nmX1 hown hK hP hD hS 0 rfl rfl 9 (by decide) fl_active (fun _ h9 => h9) rfl (by decide +kernel) rfl rfl (Nat.le_of_ble_eq_true rfl) dM_end_37 (fun H locs hP hD hS => ?_)
      rw [mw_active] at hP hD
      obtain ⟨u_122, hu_122⟩ : ∃ w : MS, w = ms_active u_119 (-1) := ⟨_, rfl⟩
      rw [← hu_122] at hP hD
      refine lv_iload_n hx hb dM_end_40 rfl (lv_at hl 0 rfl) ?_
      have eT : (r_115, u_122) = T := by subst hr_115 hu_117 hu_119 hu_122; rw [← hf]; simp only [mf_end, if_neg c_116, if_pos c_120]
      exact W.iret (v := r_115) hx hb hr (fun t ht hW => ⟨⟨r_115, u_122, rfl, ⟨congrArg Prod.fst eT, congrArg Prod.snd eT⟩, by rw [ht]; exact hP, va_K.moved hW.alike hK, hD⟩, hS.F ht⟩) hS.2.2 dM_end_41
set_option maxHeartbeats 4000000 in
set_option maxRecDepth 100000 in
theorem mc_await (l : Launch) (dC : Nat → ClassId) (dI : Nat → Nat → Nat) (ad : Nat → Nat) (cA : Nat → ClassId) (sz : Nat) (u : MS) (p1 : Int32) (hI : mInv u) (T : Int32 × MS) (hf : mf_await u p1 = T) : Met l yM_await wM_await ({ frames := 2, cells := 0, slots := 0, locals := 50 } : Room) (va_Pc [.ref (ad 0), .int p1] (fun U => U.heap.size = sz ∧ va_P (dC, dI) vwCl (mW ad cA u) U.heap ∧ va_K (dC, dI) vwCl (mT cA) U ∧ va_D (fun _ => True) (mW ad cA u))) (va_Qi (fun r u2 => r = T.1 ∧ u2 = T.2) (mAt dC dI (va_A (mW ad cA u) sz) ad cA) (va_A (mW ad cA u) sz)) 0 0 (va_A (mW ad cA u) sz) := by
  refine Met.ofW (cc := cM_await) (maxL := 3) (ret := (some .int)) (by decide) rfl ?_
  intro p e s m args below meth c s₁ B hml hv
  obtain ⟨rfl, hsz, hP, hK, hD0⟩ := hv
  have hx := B.exec
  have hb := B.bytes
  have hr := B.returns
  have hts := atoms_spec (ws := wM_await) B.pre
  have hown : s.vm.findClass RX1 = some m.cls := findClass_of_methodNamed B.named
  have hlocks := B.notSynchronized
  have hin0 : ∀ w ∈ wsX10, w ∈ wM_await := by decide +kernel
  have fl_extras := hts (.fieldLink RX1 27 "ProcessRoomModel" "extras" "[I") (by decide +kernel)
  subst hsz
  have hD := hD0.self (sz := s.heap.size)
  generalize hAe : va_A (mW ad cA u) s.heap.size = A at hD ⊢
  have hA : ∀ q : Nat, s.heap.size ≤ q → A q := fun q h => by rw [← hAe]; exact Or.inr h
  have hS : va_S A s.heap s.heap [] := va_S.rf
  have hl := lv_entry ([.ref (ad 0), .int p1]) (n := 3) (Nat.le_of_ble_eq_true rfl)
  rw [lg_entry_eq]
  generalize (lg_sl ([.ref (ad 0), .int p1]) ++ List.replicate (3 - (lg_sl ([.ref (ad 0), .int p1])).length) Slot.unset).toArray = ls at hl ⊢
  have hl : lv_has ls 3 [(0, .ref (ad 0)), (1, .int p1)] := hl
  refine lv_aload_n hx hb dM_await_0 rfl (lv_at hl 0 rfl) ?_
  refine va_calli (va_runV (As := []) (rest := []) ⟨hx, hb, hml, hown, hts⟩ (mc_presentOne l dC dI ad cA u _ rfl) (cwV 0 hts gM_await_presentOne rfl rfl rfl (by decide +kernel) ⟨Nat.le_of_ble_eq_true rfl, Nat.le_of_ble_eq_true rfl⟩) ⟨fun a U g mk q => by obtain ⟨q0, qP, qK⟩ := q; exact ⟨q0, qP, va_K.moved (u := U) (U := U.calling g mk a) (Vm.Alike.refl U.vm) qK⟩, va_recv hK hP (ci := 1) (q0 := 0) rfl rfl, fun U hU hW => ⟨rfl, by rw [hU]; exact hP, va_K.moved hW.alike hK⟩⟩ rfl rfl hl.1 rfl (lv_room (Nat.le_of_ble_eq_true rfl)) dM_await_1 ⟨Nat.le_of_ble_eq_true rfl, Nat.le_of_ble_eq_true rfl⟩) hS (fun _ _ h => h.elim) (fun _ h => h.elim) (fun r_123 u_ t H1 locs ht hvm hr_123 hB hz1 hk1 hS => ?_)
  have hP := hP.kept (fun k x hx => hk1 x.1 ((hP k x hx).lt) (fun h => h))
  generalize H1 = H at hP hS ⊢
  refine lv_istore_n (lv' := [(2, .int r_123), (0, .ref (ad 0)), (1, .int p1)]) hx hb dM_await_4 rfl hl (by decide) rfl (fun ls hl => ?_)
  refine lv_iload_n hx hb dM_await_5 rfl (lv_at hl 2 rfl) ?_
  refine va_calli (va_runS (As := [.int p1]) (rest := []) ⟨hx, hb, hml, hown, hts⟩ (mc_isSemaphore l p1 _ rfl) (va_cwS 1 hts gM_await_isSemaphore rfl rfl rfl (by decide +kernel) ⟨Nat.le_of_ble_eq_true rfl, Nat.le_of_ble_eq_true rfl⟩) ⟨fun a U g mk q => ⟨q.1, trivial⟩, fun U hU hW => ⟨rfl, trivial⟩⟩ rfl rfl hl.1 rfl (lv_room (Nat.le_of_ble_eq_true rfl)) dM_await_6 ⟨Nat.le_of_ble_eq_true rfl, Nat.le_of_ble_eq_true rfl⟩) hS (fun _ _ h => h.elim) (fun _ h => h.elim) (fun r_124 u_ t H1 locs ht hvm hr_124 hB hz1 hk1 hS => ?_)
  have hP := hP.kept (fun k x hx => hk1 x.1 ((hP k x hx).lt) (fun h => h))
  generalize H1 = H at hP hS ⊢
  refine lv_if_eq (tgt := 16) hx hb dM_await_9 (by decide) (fun c_125 => ?_) (fun c_125 => ?_)
  · refine lv_iconst (v := (-1)) hx hb dM_await_16 (by decide) ?_
    have eT : ((-1), u) = T := by subst hr_123 hr_124; rw [← hf]; simp only [mf_await, if_pos c_125]
    exact W.iret (v := (-1)) hx hb hr (fun t ht hW => ⟨⟨(-1), u, rfl, ⟨congrArg Prod.fst eT, congrArg Prod.snd eT⟩, by rw [ht]; exact hP, va_K.moved hW.alike hK, hD⟩, hS.F ht⟩) hS.2.2 dM_await_17
  · refine lv_iload_n hx hb dM_await_12 rfl (lv_at hl 0 rfl) ?_
    refine lv_if_ge (tgt := 18) hx hb dM_await_13 (by decide) (fun c_126 => ?_) (fun c_126 => ?_)
    · refine lv_aload_n hx hb dM_await_18 rfl (lv_at hl 1 rfl) ?_
      refine va_get (D := (dC, dI)) (ci := 1) (v := .ref (ad 6)) (C := RX1) (T := TX1) (N := 13) (fs := mF ad u) hx hb hts hin0 hown hK hP 0 rfl rfl 6 (by decide) fl_extras (fun _ h9 => h9) rfl dM_await_19 ?_
      refine lv_iload_n hx hb dM_await_22 rfl (lv_at hl 2 rfl) ?_
      refine va_iald hx hb hK hP 6 5 rfl rfl (mi_isSemaphore hr_124 c_125) dM_await_23 ?_
      refine lv_if_le (tgt := 43) hx hb dM_await_24 (by decide) (fun c_127 => ?_) (fun c_127 => ?_)
      · refine lv_aload_n hx hb dM_await_43 rfl (lv_at hl 1 rfl) ?_
        refine lv_iload_n hx hb dM_await_44 rfl (lv_at hl 0 rfl) ?_
        refine lv_bipush (v := 16) hx hb dM_await_45 (by decide) ?_
        refine lv_iload_n hx hb dM_await_47 rfl (lv_at hl 2 rfl) ?_
        refine lv_iadd hx hb dM_await_48 ?_
        have hFc := va_free (wc := (mW ad cA u)) hD hS hA [0, 1, 2, 3, 4, 5, 6, 7] rfl
        refine va_callv (va_runV (As := [.int r_123, .int (16 + p1)]) (rest := []) ⟨hx, hb, hml, hown, hts⟩ (mc_enter l dC dI ad cA _ u r_123 (16 + p1) (mi_presentOne2 hr_123 hI c_126) _ rfl) (cwV 2 hts gM_await_enter rfl rfl rfl (by decide +kernel) ⟨Nat.le_of_ble_eq_true rfl, Nat.le_of_ble_eq_true rfl⟩) ⟨fun a U g mk q => by obtain ⟨q0, q1, qP, qK, qD⟩ := q; exact ⟨q0, q1, qP, va_K.moved (u := U) (U := U.calling g mk a) (Vm.Alike.refl U.vm) qK, qD⟩, va_recv hK hP (ci := 1) (q0 := 0) rfl rfl, fun U hU hW => ⟨rfl, by rw [hU], by rw [hU]; exact hP, va_K.moved hW.alike hK, hD.weaken (fun _ _ _ _ => trivial)⟩⟩ rfl rfl hl.1 rfl (lv_room (Nat.le_of_ble_eq_true rfl)) dM_await_49 ⟨Nat.le_of_ble_eq_true rfl, Nat.le_of_ble_eq_true rfl⟩) hS (fun q _ h => hFc q h) hFc (fun u_129 t H1 locs ht hvm hu_129 hB hz1 hk1 hS => ?_)
        obtain ⟨hP, hK1, hD1⟩ := hB
        rw [ht] at hP
        have hD := hD1.weaken (fun _ _ _ h => hFc _ h)
        generalize H1 = H at hP hS ⊢
        have hP : va_P (dC, dI) vwCl (mW ad cA u_129) H := hP
        have hD : va_D A (mW ad cA u_129) := hD
        refine lv_aload_n hx hb dM_await_52 rfl (lv_at hl 1 rfl) ?_
        have hFc := va_free (wc := (mW ad cA u_129)) hD hS hA [0, 1, 2, 3, 4, 5, 6, 7] rfl
        refine va_callv (va_runV (As := []) (rest := []) ⟨hx, hb, hml, hown, hts⟩ (mc_putAside l dC dI ad cA _ u_129 _ rfl) (cwV 0 hts gM_await_putAside rfl rfl rfl (by decide +kernel) ⟨Nat.le_of_ble_eq_true rfl, Nat.le_of_ble_eq_true rfl⟩) ⟨fun a U g mk q => by obtain ⟨q0, q1, qP, qK, qD⟩ := q; exact ⟨q0, q1, qP, va_K.moved (u := U) (U := U.calling g mk a) (Vm.Alike.refl U.vm) qK, qD⟩, va_recv hK hP (ci := 1) (q0 := 0) rfl rfl, fun U hU hW => ⟨rfl, by rw [hU], by rw [hU]; exact hP, va_K.moved hW.alike hK, hD.weaken (fun _ _ _ _ => trivial)⟩⟩ rfl rfl hl.1 rfl (lv_room (Nat.le_of_ble_eq_true rfl)) dM_await_53 ⟨Nat.le_of_ble_eq_true rfl, Nat.le_of_ble_eq_true rfl⟩) hS (fun q _ h => hFc q h) hFc (fun u_131 t H1 locs ht hvm hu_131 hB hz1 hk1 hS => ?_)
        obtain ⟨hP, hK1, hD1⟩ := hB
        rw [ht] at hP
        have hD := hD1.weaken (fun _ _ _ h => hFc _ h)
        generalize H1 = H at hP hS ⊢
        have hP : va_P (dC, dI) vwCl (mW ad cA u_131) H := hP
        have hD : va_D A (mW ad cA u_131) := hD
        refine lv_iconst (v := 0) hx hb dM_await_56 (by decide) ?_
        have eT : (0, u_131) = T := by subst hr_123 hr_124 hu_129 hu_131; rw [← hf]; simp only [mf_await, if_neg c_125, if_pos c_126, if_pos c_127]
        exact W.iret (v := 0) hx hb hr (fun t ht hW => ⟨⟨0, u_131, rfl, ⟨congrArg Prod.fst eT, congrArg Prod.snd eT⟩, by rw [ht]; exact hP, va_K.moved hW.alike hK, hD⟩, hS.F ht⟩) hS.2.2 dM_await_57
      · refine lv_aload_n hx hb dM_await_27 rfl (lv_at hl 1 rfl) ?_
        refine va_get (D := (dC, dI)) (ci := 1) (v := .ref (ad 6)) (C := RX1) (T := TX1) (N := 13) (fs := mF ad u) hx hb hts hin0 hown hK hP 0 rfl rfl 6 (by decide) fl_extras (fun _ h9 => h9) rfl dM_await_28 ?_
        refine lv_iload_n hx hb dM_await_31 rfl (lv_at hl 2 rfl) ?_
        refine lv_aload_n hx hb dM_await_32 rfl (lv_at hl 1 rfl) ?_
        refine va_get (D := (dC, dI)) (ci := 1) (v := .ref (ad 6)) (C := RX1) (T := TX1) (N := 13) (fs := mF ad u) hx hb hts hin0 hown hK hP 0 rfl rfl 6 (by decide) fl_extras (fun _ h9 => h9) rfl dM_await_33 ?_
        refine lv_iload_n hx hb dM_await_36 rfl (lv_at hl 2 rfl) ?_
        refine va_iald hx hb hK hP 6 5 rfl rfl (mi_isSemaphore hr_124 c_125) dM_await_37 ?_
        refine lv_iconst (v := 1) hx hb dM_await_38 (by decide) ?_
        refine lv_isub hx hb dM_await_39 ?_
        refine va_iast hx hb hK hP hD hS 6 5 rfl rfl (mi_isSemaphore hr_124 c_125) dM_await_40 (fun H locs hP hD hS => ?_)
        rw [mw_extras] at hP hD
        obtain ⟨u_132, hu_132⟩ : ∃ w : MS, w = ms_extras u (upd (ma_extras u) p1.toNatClampNeg ((ma_extras u p1.toNatClampNeg) - 1)) := ⟨_, rfl⟩
        rw [← hu_132] at hP hD
        refine lv_iconst (v := 1) hx hb dM_await_41 (by decide) ?_
        have eT : (1, u_132) = T := by subst hr_123 hr_124 hu_132; rw [← hf]; simp only [mf_await, if_neg c_125, if_pos c_126, if_neg c_127]
        exact W.iret (v := 1) hx hb hr (fun t ht hW => ⟨⟨1, u_132, rfl, ⟨congrArg Prod.fst eT, congrArg Prod.snd eT⟩, by rw [ht]; exact hP, va_K.moved hW.alike hK, hD⟩, hS.F ht⟩) hS.2.2 dM_await_42
    · refine lv_iconst (v := (-1)) hx hb dM_await_16 (by decide) ?_
      have eT : ((-1), u) = T := by subst hr_123 hr_124; rw [← hf]; simp only [mf_await, if_neg c_125, if_neg c_126]
      exact W.iret (v := (-1)) hx hb hr (fun t ht hW => ⟨⟨(-1), u, rfl, ⟨congrArg Prod.fst eT, congrArg Prod.snd eT⟩, by rw [ht]; exact hP, va_K.moved hW.alike hK, hD⟩, hS.F ht⟩) hS.2.2 dM_await_17
set_option maxHeartbeats 4000000 in
set_option maxRecDepth 100000 in
theorem mc_post (l : Launch) (dC : Nat → ClassId) (dI : Nat → Nat → Nat) (ad : Nat → Nat) (cA : Nat → ClassId) (sz : Nat) (u : MS) (p1 : Int32) (hI : mInv u) (T : Int32 × MS) (hf : mf_post u p1 = T) : Met l yM_post wM_post ({ frames := 1, cells := 0, slots := 0, locals := 20 } : Room) (va_Pc [.ref (ad 0), .int p1] (fun U => U.heap.size = sz ∧ va_P (dC, dI) vwCl (mW ad cA u) U.heap ∧ va_K (dC, dI) vwCl (mT cA) U ∧ va_D (fun _ => True) (mW ad cA u))) (va_Qi (fun r u2 => r = T.1 ∧ u2 = T.2) (mAt dC dI (va_A (mW ad cA u) sz) ad cA) (va_A (mW ad cA u) sz)) 0 0 (va_A (mW ad cA u) sz) := by
  refine Met.ofW (cc := cM_post) (maxL := 2) (ret := (some .int)) (by decide) rfl ?_
  intro p e s m args below meth c s₁ B hml hv
  obtain ⟨rfl, hsz, hP, hK, hD0⟩ := hv
  have hx := B.exec
  have hb := B.bytes
  have hr := B.returns
  have hts := atoms_spec (ws := wM_post) B.pre
  have hown : s.vm.findClass RX1 = some m.cls := findClass_of_methodNamed B.named
  have hlocks := B.notSynchronized
  have hin0 : ∀ w ∈ wsX10, w ∈ wM_post := by decide +kernel
  have fl_posts := hts (.fieldLink RX1 86 "ProcessRoomModel" "posts" "I") (by decide +kernel)
  have fl_posted := hts (.fieldLink RX1 30 "ProcessRoomModel" "posted" "[I") (by decide +kernel)
  subst hsz
  have hD := hD0.self (sz := s.heap.size)
  generalize hAe : va_A (mW ad cA u) s.heap.size = A at hD ⊢
  have hA : ∀ q : Nat, s.heap.size ≤ q → A q := fun q h => by rw [← hAe]; exact Or.inr h
  have hS : va_S A s.heap s.heap [] := va_S.rf
  have hl := lv_entry ([.ref (ad 0), .int p1]) (n := 2) (Nat.le_of_ble_eq_true rfl)
  rw [lg_entry_eq]
  generalize (lg_sl ([.ref (ad 0), .int p1]) ++ List.replicate (2 - (lg_sl ([.ref (ad 0), .int p1])).length) Slot.unset).toArray = ls at hl ⊢
  have hl : lv_has ls 2 [(0, .ref (ad 0)), (1, .int p1)] := hl
  refine lv_iload_n hx hb dM_post_0 rfl (lv_at hl 1 rfl) ?_
  refine va_calli (va_runS (As := [.int p1]) (rest := []) ⟨hx, hb, hml, hown, hts⟩ (mc_isSemaphore l p1 _ rfl) (va_cwS 1 hts gM_post_isSemaphore rfl rfl rfl (by decide +kernel) ⟨Nat.le_of_ble_eq_true rfl, Nat.le_of_ble_eq_true rfl⟩) ⟨fun a U g mk q => ⟨q.1, trivial⟩, fun U hU hW => ⟨rfl, trivial⟩⟩ rfl rfl hl.1 rfl (lv_room (Nat.le_of_ble_eq_true rfl)) dM_post_1 ⟨Nat.le_of_ble_eq_true rfl, Nat.le_of_ble_eq_true rfl⟩) hS (fun _ _ h => h.elim) (fun _ h => h.elim) (fun r_133 u_ t H1 locs ht hvm hr_133 hB hz1 hk1 hS => ?_)
  have hP := hP.kept (fun k x hx => hk1 x.1 ((hP k x hx).lt) (fun h => h))
  generalize H1 = H at hP hS ⊢
  refine lv_if_eq (tgt := 16) hx hb dM_post_4 (by decide) (fun c_134 => ?_) (fun c_134 => ?_)
  · refine lv_iconst (v := (-1)) hx hb dM_post_16 (by decide) ?_
    have eT : ((-1), u) = T := by subst hr_133; rw [← hf]; simp only [mf_post, if_pos c_134]
    exact W.iret (v := (-1)) hx hb hr (fun t ht hW => ⟨⟨(-1), u, rfl, ⟨congrArg Prod.fst eT, congrArg Prod.snd eT⟩, by rw [ht]; exact hP, va_K.moved hW.alike hK, hD⟩, hS.F ht⟩) hS.2.2 dM_post_17
  · refine lv_aload_n hx hb dM_post_7 rfl (lv_at hl 0 rfl) ?_
    refine va_get (D := (dC, dI)) (ci := 1) (v := .int (ma_posts u)) (C := RX1) (T := TX1) (N := 13) (fs := mF ad u) hx hb hts hin0 hown hK hP 0 rfl rfl 7 (by decide) fl_posts (fun _ h9 => h9) rfl dM_post_8 ?_
    refine lv_bipush (v := 40) hx hb dM_post_11 (by decide) ?_
    refine lv_icmp_ne (tgt := 18) hx hb dM_post_13 (by decide) (fun c_135 => ?_) (fun c_135 => ?_)
    · refine lv_aload_n hx hb dM_post_18 rfl (lv_at hl 0 rfl) ?_
      refine va_get (D := (dC, dI)) (ci := 1) (v := .ref (ad 7)) (C := RX1) (T := TX1) (N := 13) (fs := mF ad u) hx hb hts hin0 hown hK hP 0 rfl rfl 8 (by decide) fl_posted (fun _ h9 => h9) rfl dM_post_19 ?_
      refine lv_aload_n hx hb dM_post_22 rfl (lv_at hl 0 rfl) ?_
      refine va_get (D := (dC, dI)) (ci := 1) (v := .int (ma_posts u)) (C := RX1) (T := TX1) (N := 13) (fs := mF ad u) hx hb hts hin0 hown hK hP 0 rfl rfl 7 (by decide) fl_posts (fun _ h9 => h9) rfl dM_post_23 ?_
      refine lv_iload_n hx hb dM_post_26 rfl (lv_at hl 1 rfl) ?_
      refine va_iast hx hb hK hP hD hS 7 6 rfl rfl (mi_post hI c_135) dM_post_27 (fun H locs hP hD hS => ?_)
      rw [mw_posted] at hP hD
      obtain ⟨u_136, hu_136⟩ : ∃ w : MS, w = ms_posted u (upd (ma_posted u) (ma_posts u).toNatClampNeg p1) := ⟨_, rfl⟩
      rw [← hu_136] at hP hD
      refine lv_aload_n hx hb dM_post_28 rfl (lv_at hl 0 rfl) ?_
      refine lv_aload_n hx hb dM_post_29 rfl (lv_at hl 0 rfl) ?_
      refine va_get (D := (dC, dI)) (ci := 1) (v := .int (ma_posts u)) (C := RX1) (T := TX1) (N := 13) (fs := mF ad u_136) hx hb hts hin0 hown hK hP 0 rfl rfl 7 (by decide) fl_posts (fun _ h9 => h9) (congrArg (fun z => some (Value.int z)) (show ma_posts u_136 = ma_posts u from by rw [hu_136, mq_posts_posted])) dM_post_30 ?_
      refine lv_iconst (v := 1) hx hb dM_post_33 (by decide) ?_
      refine lv_iadd hx hb dM_post_34 ?_
      refine va_put (D := (dC, dI)) (ci := 1) (v := .int ((ma_posts u) + 1)) (ty := .int) (C := RX1) (T := TX1) (N := 13) (fs := mF ad u_136) hx hb hts hin0 tyX1 tyX1_ok nmX1 hown hK hP hD hS 0 rfl rfl 7 (by decide) fl_posts (fun _ h9 => h9) rfl (by decide +kernel) rfl rfl (Nat.le_of_ble_eq_true rfl) dM_post_35 (fun H locs hP hD hS => ?_)
      rw [mw_posts] at hP hD
      obtain ⟨u_137, hu_137⟩ : ∃ w : MS, w = ms_posts u_136 ((ma_posts u) + 1) := ⟨_, rfl⟩
      rw [← hu_137] at hP hD
      refine lv_aload_n hx hb dM_post_38 rfl (lv_at hl 0 rfl) ?_
      refine va_get (D := (dC, dI)) (ci := 1) (v := .int ((ma_posts u) + 1)) (C := RX1) (T := TX1) (N := 13) (fs := mF ad u_137) hx hb hts hin0 hown hK hP 0 rfl rfl 7 (by decide) fl_posts (fun _ h9 => h9) (congrArg (fun z => some (Value.int z)) (show ma_posts u_137 = (ma_posts u) + 1 from by rw [hu_137, mq_posts_posts])) dM_post_39 ?_
      have eT : ((ma_posts u) + 1, u_137) = T := by subst hr_133 hu_136 hu_137; rw [← hf]; simp only [mf_post, if_neg c_134, if_neg c_135]
      exact W.iret (v := (ma_posts u) + 1) hx hb hr (fun t ht hW => ⟨⟨(ma_posts u) + 1, u_137, rfl, ⟨congrArg Prod.fst eT, congrArg Prod.snd eT⟩, by rw [ht]; exact hP, va_K.moved hW.alike hK, hD⟩, hS.F ht⟩) hS.2.2 dM_post_42
    · refine lv_iconst (v := (-1)) hx hb dM_post_16 (by decide) ?_
      have eT : ((-1), u) = T := by subst hr_133; rw [← hf]; simp only [mf_post, if_neg c_134, if_pos c_135]
      exact W.iret (v := (-1)) hx hb hr (fun t ht hW => ⟨⟨(-1), u, rfl, ⟨congrArg Prod.fst eT, congrArg Prod.snd eT⟩, by rw [ht]; exact hP, va_K.moved hW.alike hK, hD⟩, hS.F ht⟩) hS.2.2 dM_post_17
set_option maxHeartbeats 4000000 in
set_option maxRecDepth 100000 in
theorem mc_step (l : Launch) (dC : Nat → ClassId) (dI : Nat → Nat → Nat) (ad : Nat → Nat) (cA : Nat → ClassId) (sz : Nat) (u : MS)  (hI : mInv u) (T : Int32 × MS) (hf : mf_step u = T) : Met l yM_step wM_step ({ frames := 3, cells := 0, slots := 0, locals := 66 } : Room) (va_Pc [.ref (ad 0)] (fun U => U.heap.size = sz ∧ va_P (dC, dI) vwCl (mW ad cA u) U.heap ∧ va_K (dC, dI) vwCl (mT cA) U ∧ va_D (fun _ => True) (mW ad cA u))) (va_Qi (fun r u2 => r = T.1 ∧ u2 = T.2) (mAt dC dI (va_A (mW ad cA u) sz) ad cA) (va_A (mW ad cA u) sz)) 0 0 (va_A (mW ad cA u) sz) := by
  refine Met.ofW (cc := cM_step) (maxL := 2) (ret := (some .int)) (by decide) rfl ?_
  intro p e s m args below meth c s₁ B hml hv
  obtain ⟨rfl, hsz, hP, hK, hD0⟩ := hv
  have hx := B.exec
  have hb := B.bytes
  have hr := B.returns
  have hts := atoms_spec (ws := wM_step) B.pre
  have hown : s.vm.findClass RX1 = some m.cls := findClass_of_methodNamed B.named
  have hlocks := B.notSynchronized
  have hin0 : ∀ w ∈ wsX10, w ∈ wM_step := by decide +kernel
  have fl_posts := hts (.fieldLink RX1 86 "ProcessRoomModel" "posts" "I") (by decide +kernel)
  have fl_posted := hts (.fieldLink RX1 30 "ProcessRoomModel" "posted" "[I") (by decide +kernel)
  have fl_wanted := hts (.fieldLink RX1 48 "ProcessRoomModel" "wanted" "Z") (by decide +kernel)
  have fl_active := hts (.fieldLink RX1 33 "ProcessRoomModel" "active" "I") (by decide +kernel)
  have fl_places := hts (.fieldLink RX1 17 "ProcessRoomModel" "places" "[I") (by decide +kernel)
  have fl_here := hts (.fieldLink RX1 89 "ProcessRoomModel" "here" "I") (by decide +kernel)
  have fl_change := hts (.fieldLink RX1 37 "ProcessRoomModel" "change" "I") (by decide +kernel)
  subst hsz
  have hD := hD0.self (sz := s.heap.size)
  generalize hAe : va_A (mW ad cA u) s.heap.size = A at hD ⊢
  have hA : ∀ q : Nat, s.heap.size ≤ q → A q := fun q h => by rw [← hAe]; exact Or.inr h
  have hS : va_S A s.heap s.heap [] := va_S.rf
  have hl := lv_entry ([.ref (ad 0)]) (n := 2) (Nat.le_of_ble_eq_true rfl)
  rw [lg_entry_eq]
  generalize (lg_sl ([.ref (ad 0)]) ++ List.replicate (2 - (lg_sl ([.ref (ad 0)])).length) Slot.unset).toArray = ls at hl ⊢
  have hl : lv_has ls 2 [(0, .ref (ad 0))] := hl
  refine lv_iconst (v := 0) hx hb dM_step_0 (by decide) ?_
  refine lv_istore_n (lv' := [(1, .int 0), (0, .ref (ad 0))]) hx hb dM_step_1 rfl hl (by decide) rfl (fun ls hl => ?_)
  refine k_nameQ (fun Q hQ => ?_)
  have key : ∀ (n : Nat) (u2 : MS) (x1 : Int32) (H : Heap) (locs : List Loc) (ls : Array Slot), (mInv u2 ∧ ∃ j : Nat, x1 = nI j ∧ j + n = 41 ∧ j ≤ 40) → ml_step  n u2 x1 = T → va_P (dC, dI) vwCl (mW ad cA u2) H → va_D A (mW ad cA u2) → va_S A s.heap H locs → lv_has ls 2 [(0, .ref (ad 0)), (1, .int x1)] → W p l e (headSpec wM_step ({ frames := 3, cells := 0, slots := 0, locals := 66 } : Room)).room s m ([.ref (ad 0)] : List Value).toArray below meth c H locs 0 0 Q (F0 m 2 ls []) := by
    intro n
    induction n with
    | zero =>
      intro u2 x1 H locs ls hinv
      exact absurd hinv (by rintro ⟨-, j, -, h1, h2⟩; omega)
    | succ n ih =>
      intro u2 x1 H locs ls hinv hf2 hP hD hS hl
      obtain ⟨hI2, j, hj, hjn, hjl⟩ := hinv
      refine lv_iload_n hx hb dM_step_2 rfl (lv_at hl 1 rfl) ?_
      refine lv_aload_n hx hb dM_step_3 rfl (lv_at hl 0 rfl) ?_
      refine va_get (D := (dC, dI)) (ci := 1) (v := .int (ma_posts u2)) (C := RX1) (T := TX1) (N := 13) (fs := mF ad u2) hx hb hts hin0 hown hK hP 0 rfl rfl 7 (by decide) fl_posts (fun _ h9 => h9) rfl dM_step_4 ?_
      refine lv_icmp_ge (tgt := 26) hx hb dM_step_7 (by decide) (fun c_138 => ?_) (fun c_138 => ?_)
      · refine lv_aload_n hx hb dM_step_26 rfl (lv_at hl 0 rfl) ?_
        refine lv_iconst (v := 0) hx hb dM_step_27 (by decide) ?_
        refine va_put (D := (dC, dI)) (ci := 1) (v := .int 0) (ty := .int) (C := RX1) (T := TX1) (N := 13) (fs := mF ad u2) hx hb hts hin0 tyX1 tyX1_ok nmX1 hown hK hP hD hS 0 rfl rfl 7 (by decide) fl_posts (fun _ h9 => h9) rfl (by decide +kernel) rfl rfl (Nat.le_of_ble_eq_true rfl) dM_step_28 (fun H locs hP hD hS => ?_)
        rw [mw_posts] at hP hD
        obtain ⟨u_139, hu_139⟩ : ∃ w : MS, w = ms_posts u2 0 := ⟨_, rfl⟩
        rw [← hu_139] at hP hD
        refine lv_aload_n hx hb dM_step_31 rfl (lv_at hl 0 rfl) ?_
        refine va_get (D := (dC, dI)) (ci := 1) (v := .int (ma_wanted u2)) (C := RX1) (T := TX1) (N := 13) (fs := mF ad u_139) hx hb hts hin0 hown hK hP 0 rfl rfl 11 (by decide) fl_wanted (fun _ h9 => h9) (congrArg (fun z => some (Value.int z)) (show ma_wanted u_139 = ma_wanted u2 from by rw [hu_139, mq_wanted_posts])) dM_step_32 ?_
        refine lv_if_eq (tgt := 95) hx hb dM_step_35 (by decide) (fun c_140 => ?_) (fun c_140 => ?_)
        · refine lv_aload_n hx hb dM_step_95 rfl (lv_at hl 0 rfl) ?_
          refine va_get (D := (dC, dI)) (ci := 1) (v := .int (ma_active u2)) (C := RX1) (T := TX1) (N := 13) (fs := mF ad u_139) hx hb hts hin0 hown hK hP 0 rfl rfl 9 (by decide) fl_active (fun _ h9 => h9) (congrArg (fun z => some (Value.int z)) (show ma_active u_139 = ma_active u2 from by rw [hu_139, mq_active_posts])) dM_step_96 ?_
          subst hQ
          have eT : (ma_active u2, u_139) = T := by subst hu_139; rw [← hf2]; simp only [ml_step, if_pos c_138, if_pos c_140]
          exact W.iret (v := ma_active u2) hx hb hr (fun t ht hW => ⟨⟨ma_active u2, u_139, rfl, ⟨congrArg Prod.fst eT, congrArg Prod.snd eT⟩, by rw [ht]; exact hP, va_K.moved hW.alike hK, hD⟩, hS.F ht⟩) hS.2.2 dM_step_99
        · refine lv_aload_n hx hb dM_step_38 rfl (lv_at hl 0 rfl) ?_
          refine va_get (D := (dC, dI)) (ci := 1) (v := .int (ma_active u2)) (C := RX1) (T := TX1) (N := 13) (fs := mF ad u_139) hx hb hts hin0 hown hK hP 0 rfl rfl 9 (by decide) fl_active (fun _ h9 => h9) (congrArg (fun z => some (Value.int z)) (show ma_active u_139 = ma_active u2 from by rw [hu_139, mq_active_posts])) dM_step_39 ?_
          refine lv_if_lt (tgt := 58) hx hb dM_step_42 (by decide) (fun c_141 => ?_) (fun c_141 => ?_)
          · refine lv_aload_n hx hb dM_step_58 rfl (lv_at hl 0 rfl) ?_
            refine lv_aload_n hx hb dM_step_59 rfl (lv_at hl 0 rfl) ?_
            refine va_get (D := (dC, dI)) (ci := 1) (v := .int (ma_change u2)) (C := RX1) (T := TX1) (N := 13) (fs := mF ad u_139) hx hb hts hin0 hown hK hP 0 rfl rfl 12 (by decide) fl_change (fun _ h9 => h9) (congrArg (fun z => some (Value.int z)) (show ma_change u_139 = ma_change u2 from by rw [hu_139, mq_change_posts])) dM_step_60 ?_
            refine va_put (D := (dC, dI)) (ci := 1) (v := .int (ma_change u2)) (ty := .int) (C := RX1) (T := TX1) (N := 13) (fs := mF ad u_139) hx hb hts hin0 tyX1 tyX1_ok nmX1 hown hK hP hD hS 0 rfl rfl 9 (by decide) fl_active (fun _ h9 => h9) rfl (by decide +kernel) rfl rfl (Nat.le_of_ble_eq_true rfl) dM_step_63 (fun H locs hP hD hS => ?_)
            rw [mw_active] at hP hD
            obtain ⟨u_142, hu_142⟩ : ∃ w : MS, w = ms_active u_139 (ma_change u2) := ⟨_, rfl⟩
            rw [← hu_142] at hP hD
            refine lv_aload_n hx hb dM_step_66 rfl (lv_at hl 0 rfl) ?_
            refine lv_aload_n hx hb dM_step_67 rfl (lv_at hl 0 rfl) ?_
            refine va_get (D := (dC, dI)) (ci := 1) (v := .int (ma_change u2)) (C := RX1) (T := TX1) (N := 13) (fs := mF ad u_142) hx hb hts hin0 hown hK hP 0 rfl rfl 9 (by decide) fl_active (fun _ h9 => h9) (congrArg (fun z => some (Value.int z)) (show ma_active u_142 = ma_change u2 from by rw [hu_142, mq_active_active])) dM_step_68 ?_
            refine lv_if_lt (tgt := 86) hx hb dM_step_71 (by decide) (fun c_143 => ?_) (fun c_143 => ?_)
            · refine lv_iconst (v := 0) hx hb dM_step_86 (by decide) ?_
              refine va_put (D := (dC, dI)) (ci := 1) (v := .int 0) (ty := .int) (C := RX1) (T := TX1) (N := 13) (fs := mF ad u_142) hx hb hts hin0 tyX1 tyX1_ok nmX1 hown hK hP hD hS 0 rfl rfl 10 (by decide) fl_here (fun _ h9 => h9) rfl (by decide +kernel) rfl rfl (Nat.le_of_ble_eq_true rfl) dM_step_87 (fun H locs hP hD hS => ?_)
              rw [mw_here] at hP hD
              obtain ⟨u_144, hu_144⟩ : ∃ w : MS, w = ms_here u_142 0 := ⟨_, rfl⟩
              rw [← hu_144] at hP hD
              refine lv_aload_n hx hb dM_step_90 rfl (lv_at hl 0 rfl) ?_
              refine lv_iconst (v := 0) hx hb dM_step_91 (by decide) ?_
              refine va_put (D := (dC, dI)) (ci := 1) (v := .int 0) (ty := .boolean) (C := RX1) (T := TX1) (N := 13) (fs := mF ad u_144) hx hb hts hin0 tyX1 tyX1_ok nmX1 hown hK hP hD hS 0 rfl rfl 11 (by decide) fl_wanted (fun _ h9 => h9) rfl (by decide +kernel) rfl rfl (Nat.le_of_ble_eq_true rfl) dM_step_92 (fun H locs hP hD hS => ?_)
              rw [mw_wanted] at hP hD
              obtain ⟨u_145, hu_145⟩ : ∃ w : MS, w = ms_wanted u_144 0 := ⟨_, rfl⟩
              rw [← hu_145] at hP hD
              refine lv_aload_n hx hb dM_step_95 rfl (lv_at hl 0 rfl) ?_
              refine va_get (D := (dC, dI)) (ci := 1) (v := .int (ma_change u2)) (C := RX1) (T := TX1) (N := 13) (fs := mF ad u_145) hx hb hts hin0 hown hK hP 0 rfl rfl 9 (by decide) fl_active (fun _ h9 => h9) (congrArg (fun z => some (Value.int z)) (show ma_active u_145 = ma_change u2 from by rw [hu_145, mq_active_wanted, hu_144, mq_active_here, hu_142, mq_active_active])) dM_step_96 ?_
              subst hQ
              have eT : (ma_change u2, u_145) = T := by subst hu_139 hu_142 hu_144 hu_145; rw [← hf2]; simp only [ml_step, if_pos c_138, if_neg c_140, if_pos c_141, if_pos c_143]
              exact W.iret (v := ma_change u2) hx hb hr (fun t ht hW => ⟨⟨ma_change u2, u_145, rfl, ⟨congrArg Prod.fst eT, congrArg Prod.snd eT⟩, by rw [ht]; exact hP, va_K.moved hW.alike hK, hD⟩, hS.F ht⟩) hS.2.2 dM_step_99
            · refine lv_aload_n hx hb dM_step_74 rfl (lv_at hl 0 rfl) ?_
              refine va_get (D := (dC, dI)) (ci := 1) (v := .ref (ad 3)) (C := RX1) (T := TX1) (N := 13) (fs := mF ad u_142) hx hb hts hin0 hown hK hP 0 rfl rfl 2 (by decide) fl_places (fun _ h9 => h9) rfl dM_step_75 ?_
              refine lv_aload_n hx hb dM_step_78 rfl (lv_at hl 0 rfl) ?_
              refine va_get (D := (dC, dI)) (ci := 1) (v := .int (ma_change u2)) (C := RX1) (T := TX1) (N := 13) (fs := mF ad u_142) hx hb hts hin0 hown hK hP 0 rfl rfl 9 (by decide) fl_active (fun _ h9 => h9) (congrArg (fun z => some (Value.int z)) (show ma_active u_142 = ma_change u2 from by rw [hu_142, mq_active_active])) dM_step_79 ?_
              refine va_iald hx hb hK hP 3 2 (show (mW ad cA u_142)[3]? = some (ad 3, .inl (cA 3, 32, .inl (ma_places u2))) from by rw [← (show ma_places u_142 = ma_places u2 from by rw [hu_142, mq_places_active, hu_139, mq_places_posts])]; rfl) rfl (mi_ge hI2.2.1 c_143) dM_step_82 ?_
              refine lv_goto (tgt := 87) hx hb dM_step_83 (by decide) ?_
              refine va_put (D := (dC, dI)) (ci := 1) (v := .int (ma_places u2 (ma_change u2).toNatClampNeg)) (ty := .int) (C := RX1) (T := TX1) (N := 13) (fs := mF ad u_142) hx hb hts hin0 tyX1 tyX1_ok nmX1 hown hK hP hD hS 0 rfl rfl 10 (by decide) fl_here (fun _ h9 => h9) rfl (by decide +kernel) rfl rfl (Nat.le_of_ble_eq_true rfl) dM_step_87 (fun H locs hP hD hS => ?_)
              rw [mw_here] at hP hD
              obtain ⟨u_146, hu_146⟩ : ∃ w : MS, w = ms_here u_142 (ma_places u2 (ma_change u2).toNatClampNeg) := ⟨_, rfl⟩
              rw [← hu_146] at hP hD
              refine lv_aload_n hx hb dM_step_90 rfl (lv_at hl 0 rfl) ?_
              refine lv_iconst (v := 0) hx hb dM_step_91 (by decide) ?_
              refine va_put (D := (dC, dI)) (ci := 1) (v := .int 0) (ty := .boolean) (C := RX1) (T := TX1) (N := 13) (fs := mF ad u_146) hx hb hts hin0 tyX1 tyX1_ok nmX1 hown hK hP hD hS 0 rfl rfl 11 (by decide) fl_wanted (fun _ h9 => h9) rfl (by decide +kernel) rfl rfl (Nat.le_of_ble_eq_true rfl) dM_step_92 (fun H locs hP hD hS => ?_)
              rw [mw_wanted] at hP hD
              obtain ⟨u_147, hu_147⟩ : ∃ w : MS, w = ms_wanted u_146 0 := ⟨_, rfl⟩
              rw [← hu_147] at hP hD
              refine lv_aload_n hx hb dM_step_95 rfl (lv_at hl 0 rfl) ?_
              refine va_get (D := (dC, dI)) (ci := 1) (v := .int (ma_change u2)) (C := RX1) (T := TX1) (N := 13) (fs := mF ad u_147) hx hb hts hin0 hown hK hP 0 rfl rfl 9 (by decide) fl_active (fun _ h9 => h9) (congrArg (fun z => some (Value.int z)) (show ma_active u_147 = ma_change u2 from by rw [hu_147, mq_active_wanted, hu_146, mq_active_here, hu_142, mq_active_active])) dM_step_96 ?_
              subst hQ
              have eT : (ma_change u2, u_147) = T := by subst hu_139 hu_142 hu_146 hu_147; rw [← hf2]; simp only [ml_step, if_pos c_138, if_neg c_140, if_pos c_141, if_neg c_143]
              exact W.iret (v := ma_change u2) hx hb hr (fun t ht hW => ⟨⟨ma_change u2, u_147, rfl, ⟨congrArg Prod.fst eT, congrArg Prod.snd eT⟩, by rw [ht]; exact hP, va_K.moved hW.alike hK, hD⟩, hS.F ht⟩) hS.2.2 dM_step_99
          · refine lv_aload_n hx hb dM_step_45 rfl (lv_at hl 0 rfl) ?_
            refine va_get (D := (dC, dI)) (ci := 1) (v := .ref (ad 3)) (C := RX1) (T := TX1) (N := 13) (fs := mF ad u_139) hx hb hts hin0 hown hK hP 0 rfl rfl 2 (by decide) fl_places (fun _ h9 => h9) rfl dM_step_46 ?_
            refine lv_aload_n hx hb dM_step_49 rfl (lv_at hl 0 rfl) ?_
            refine va_get (D := (dC, dI)) (ci := 1) (v := .int (ma_active u2)) (C := RX1) (T := TX1) (N := 13) (fs := mF ad u_139) hx hb hts hin0 hown hK hP 0 rfl rfl 9 (by decide) fl_active (fun _ h9 => h9) (congrArg (fun z => some (Value.int z)) (show ma_active u_139 = ma_active u2 from by rw [hu_139, mq_active_posts])) dM_step_50 ?_
            refine lv_aload_n hx hb dM_step_53 rfl (lv_at hl 0 rfl) ?_
            refine va_get (D := (dC, dI)) (ci := 1) (v := .int (ma_here u2)) (C := RX1) (T := TX1) (N := 13) (fs := mF ad u_139) hx hb hts hin0 hown hK hP 0 rfl rfl 10 (by decide) fl_here (fun _ h9 => h9) (congrArg (fun z => some (Value.int z)) (show ma_here u_139 = ma_here u2 from by rw [hu_139, mq_here_posts])) dM_step_54 ?_
            refine va_iast hx hb hK hP hD hS 3 2 (show (mW ad cA u_139)[3]? = some (ad 3, .inl (cA 3, 32, .inl (ma_places u2))) from by rw [← (show ma_places u_139 = ma_places u2 from by rw [hu_139, mq_places_posts])]; rfl) rfl (mi_ge hI2.1 c_141) dM_step_57 (fun H locs hP hD hS => ?_)
            rw [mw_places] at hP hD
            obtain ⟨u_148, hu_148⟩ : ∃ w : MS, w = ms_places u_139 (upd (ma_places u2) (ma_active u2).toNatClampNeg (ma_here u2)) := ⟨_, rfl⟩
            rw [← hu_148] at hP hD
            refine lv_aload_n hx hb dM_step_58 rfl (lv_at hl 0 rfl) ?_
            refine lv_aload_n hx hb dM_step_59 rfl (lv_at hl 0 rfl) ?_
            refine va_get (D := (dC, dI)) (ci := 1) (v := .int (ma_change u2)) (C := RX1) (T := TX1) (N := 13) (fs := mF ad u_148) hx hb hts hin0 hown hK hP 0 rfl rfl 12 (by decide) fl_change (fun _ h9 => h9) (congrArg (fun z => some (Value.int z)) (show ma_change u_148 = ma_change u2 from by rw [hu_148, mq_change_places, hu_139, mq_change_posts])) dM_step_60 ?_
            refine va_put (D := (dC, dI)) (ci := 1) (v := .int (ma_change u2)) (ty := .int) (C := RX1) (T := TX1) (N := 13) (fs := mF ad u_148) hx hb hts hin0 tyX1 tyX1_ok nmX1 hown hK hP hD hS 0 rfl rfl 9 (by decide) fl_active (fun _ h9 => h9) rfl (by decide +kernel) rfl rfl (Nat.le_of_ble_eq_true rfl) dM_step_63 (fun H locs hP hD hS => ?_)
            rw [mw_active] at hP hD
            obtain ⟨u_149, hu_149⟩ : ∃ w : MS, w = ms_active u_148 (ma_change u2) := ⟨_, rfl⟩
            rw [← hu_149] at hP hD
            refine lv_aload_n hx hb dM_step_66 rfl (lv_at hl 0 rfl) ?_
            refine lv_aload_n hx hb dM_step_67 rfl (lv_at hl 0 rfl) ?_
            refine va_get (D := (dC, dI)) (ci := 1) (v := .int (ma_change u2)) (C := RX1) (T := TX1) (N := 13) (fs := mF ad u_149) hx hb hts hin0 hown hK hP 0 rfl rfl 9 (by decide) fl_active (fun _ h9 => h9) (congrArg (fun z => some (Value.int z)) (show ma_active u_149 = ma_change u2 from by rw [hu_149, mq_active_active])) dM_step_68 ?_
            refine lv_if_lt (tgt := 86) hx hb dM_step_71 (by decide) (fun c_150 => ?_) (fun c_150 => ?_)
            · refine lv_iconst (v := 0) hx hb dM_step_86 (by decide) ?_
              refine va_put (D := (dC, dI)) (ci := 1) (v := .int 0) (ty := .int) (C := RX1) (T := TX1) (N := 13) (fs := mF ad u_149) hx hb hts hin0 tyX1 tyX1_ok nmX1 hown hK hP hD hS 0 rfl rfl 10 (by decide) fl_here (fun _ h9 => h9) rfl (by decide +kernel) rfl rfl (Nat.le_of_ble_eq_true rfl) dM_step_87 (fun H locs hP hD hS => ?_)
              rw [mw_here] at hP hD
              obtain ⟨u_151, hu_151⟩ : ∃ w : MS, w = ms_here u_149 0 := ⟨_, rfl⟩
              rw [← hu_151] at hP hD
              refine lv_aload_n hx hb dM_step_90 rfl (lv_at hl 0 rfl) ?_
              refine lv_iconst (v := 0) hx hb dM_step_91 (by decide) ?_
              refine va_put (D := (dC, dI)) (ci := 1) (v := .int 0) (ty := .boolean) (C := RX1) (T := TX1) (N := 13) (fs := mF ad u_151) hx hb hts hin0 tyX1 tyX1_ok nmX1 hown hK hP hD hS 0 rfl rfl 11 (by decide) fl_wanted (fun _ h9 => h9) rfl (by decide +kernel) rfl rfl (Nat.le_of_ble_eq_true rfl) dM_step_92 (fun H locs hP hD hS => ?_)
              rw [mw_wanted] at hP hD
              obtain ⟨u_152, hu_152⟩ : ∃ w : MS, w = ms_wanted u_151 0 := ⟨_, rfl⟩
              rw [← hu_152] at hP hD
              refine lv_aload_n hx hb dM_step_95 rfl (lv_at hl 0 rfl) ?_
              refine va_get (D := (dC, dI)) (ci := 1) (v := .int (ma_change u2)) (C := RX1) (T := TX1) (N := 13) (fs := mF ad u_152) hx hb hts hin0 hown hK hP 0 rfl rfl 9 (by decide) fl_active (fun _ h9 => h9) (congrArg (fun z => some (Value.int z)) (show ma_active u_152 = ma_change u2 from by rw [hu_152, mq_active_wanted, hu_151, mq_active_here, hu_149, mq_active_active])) dM_step_96 ?_
              subst hQ
              have eT : (ma_change u2, u_152) = T := by subst hu_139 hu_148 hu_149 hu_151 hu_152; rw [← hf2]; simp only [ml_step, if_pos c_138, if_neg c_140, if_neg c_141, if_pos c_150]
              exact W.iret (v := ma_change u2) hx hb hr (fun t ht hW => ⟨⟨ma_change u2, u_152, rfl, ⟨congrArg Prod.fst eT, congrArg Prod.snd eT⟩, by rw [ht]; exact hP, va_K.moved hW.alike hK, hD⟩, hS.F ht⟩) hS.2.2 dM_step_99
            · refine lv_aload_n hx hb dM_step_74 rfl (lv_at hl 0 rfl) ?_
              refine va_get (D := (dC, dI)) (ci := 1) (v := .ref (ad 3)) (C := RX1) (T := TX1) (N := 13) (fs := mF ad u_149) hx hb hts hin0 hown hK hP 0 rfl rfl 2 (by decide) fl_places (fun _ h9 => h9) rfl dM_step_75 ?_
              refine lv_aload_n hx hb dM_step_78 rfl (lv_at hl 0 rfl) ?_
              refine va_get (D := (dC, dI)) (ci := 1) (v := .int (ma_change u2)) (C := RX1) (T := TX1) (N := 13) (fs := mF ad u_149) hx hb hts hin0 hown hK hP 0 rfl rfl 9 (by decide) fl_active (fun _ h9 => h9) (congrArg (fun z => some (Value.int z)) (show ma_active u_149 = ma_change u2 from by rw [hu_149, mq_active_active])) dM_step_79 ?_
              refine va_iald hx hb hK hP 3 2 (show (mW ad cA u_149)[3]? = some (ad 3, .inl (cA 3, 32, .inl (upd (ma_places u2) (ma_active u2).toNatClampNeg (ma_here u2)))) from by rw [← (show ma_places u_149 = upd (ma_places u2) (ma_active u2).toNatClampNeg (ma_here u2) from by rw [hu_149, mq_places_active, hu_148, mq_places_places])]; rfl) rfl (mi_ge hI2.2.1 c_150) dM_step_82 ?_
              refine lv_goto (tgt := 87) hx hb dM_step_83 (by decide) ?_
              refine va_put (D := (dC, dI)) (ci := 1) (v := .int ((upd (ma_places u2) (ma_active u2).toNatClampNeg (ma_here u2)) (ma_change u2).toNatClampNeg)) (ty := .int) (C := RX1) (T := TX1) (N := 13) (fs := mF ad u_149) hx hb hts hin0 tyX1 tyX1_ok nmX1 hown hK hP hD hS 0 rfl rfl 10 (by decide) fl_here (fun _ h9 => h9) rfl (by decide +kernel) rfl rfl (Nat.le_of_ble_eq_true rfl) dM_step_87 (fun H locs hP hD hS => ?_)
              rw [mw_here] at hP hD
              obtain ⟨u_153, hu_153⟩ : ∃ w : MS, w = ms_here u_149 ((upd (ma_places u2) (ma_active u2).toNatClampNeg (ma_here u2)) (ma_change u2).toNatClampNeg) := ⟨_, rfl⟩
              rw [← hu_153] at hP hD
              refine lv_aload_n hx hb dM_step_90 rfl (lv_at hl 0 rfl) ?_
              refine lv_iconst (v := 0) hx hb dM_step_91 (by decide) ?_
              refine va_put (D := (dC, dI)) (ci := 1) (v := .int 0) (ty := .boolean) (C := RX1) (T := TX1) (N := 13) (fs := mF ad u_153) hx hb hts hin0 tyX1 tyX1_ok nmX1 hown hK hP hD hS 0 rfl rfl 11 (by decide) fl_wanted (fun _ h9 => h9) rfl (by decide +kernel) rfl rfl (Nat.le_of_ble_eq_true rfl) dM_step_92 (fun H locs hP hD hS => ?_)
              rw [mw_wanted] at hP hD
              obtain ⟨u_154, hu_154⟩ : ∃ w : MS, w = ms_wanted u_153 0 := ⟨_, rfl⟩
              rw [← hu_154] at hP hD
              refine lv_aload_n hx hb dM_step_95 rfl (lv_at hl 0 rfl) ?_
              refine va_get (D := (dC, dI)) (ci := 1) (v := .int (ma_change u2)) (C := RX1) (T := TX1) (N := 13) (fs := mF ad u_154) hx hb hts hin0 hown hK hP 0 rfl rfl 9 (by decide) fl_active (fun _ h9 => h9) (congrArg (fun z => some (Value.int z)) (show ma_active u_154 = ma_change u2 from by rw [hu_154, mq_active_wanted, hu_153, mq_active_here, hu_149, mq_active_active])) dM_step_96 ?_
              subst hQ
              have eT : (ma_change u2, u_154) = T := by subst hu_139 hu_148 hu_149 hu_153 hu_154; rw [← hf2]; simp only [ml_step, if_pos c_138, if_neg c_140, if_neg c_141, if_neg c_150]
              exact W.iret (v := ma_change u2) hx hb hr (fun t ht hW => ⟨⟨ma_change u2, u_154, rfl, ⟨congrArg Prod.fst eT, congrArg Prod.snd eT⟩, by rw [ht]; exact hP, va_K.moved hW.alike hK, hD⟩, hS.F ht⟩) hS.2.2 dM_step_99
      · refine lv_aload_n hx hb dM_step_10 rfl (lv_at hl 0 rfl) ?_
        refine lv_aload_n hx hb dM_step_11 rfl (lv_at hl 0 rfl) ?_
        refine va_get (D := (dC, dI)) (ci := 1) (v := .ref (ad 7)) (C := RX1) (T := TX1) (N := 13) (fs := mF ad u2) hx hb hts hin0 hown hK hP 0 rfl rfl 8 (by decide) fl_posted (fun _ h9 => h9) rfl dM_step_12 ?_
        refine lv_iload_n hx hb dM_step_15 rfl (lv_at hl 1 rfl) ?_
        refine va_iald hx hb hK hP 7 6 rfl rfl (mi_posted hI2 (mi_nn hj (by omega)) c_138) dM_step_16 ?_
        have hFc := va_free (wc := (mW ad cA u2)) hD hS hA [0, 1, 2, 3, 4, 5, 6, 7] rfl
        refine va_callv (va_runV (As := [.int (ma_posted u2 x1.toNatClampNeg)]) (rest := []) ⟨hx, hb, hml, hown, hts⟩ (mc_give l dC dI ad cA _ u2 (ma_posted u2 x1.toNatClampNeg) hI2 (mi_sem hI2 (mi_nn hj (by omega)) c_138) _ rfl) (cwV 1 hts gM_step_give rfl rfl rfl (by decide +kernel) ⟨Nat.le_of_ble_eq_true rfl, Nat.le_of_ble_eq_true rfl⟩) ⟨fun a U g mk q => by obtain ⟨q0, q1, qP, qK, qD⟩ := q; exact ⟨q0, q1, qP, va_K.moved (u := U) (U := U.calling g mk a) (Vm.Alike.refl U.vm) qK, qD⟩, va_recv hK hP (ci := 1) (q0 := 0) rfl rfl, fun U hU hW => ⟨rfl, by rw [hU], by rw [hU]; exact hP, va_K.moved hW.alike hK, hD.weaken (fun _ _ _ _ => trivial)⟩⟩ rfl rfl hl.1 rfl (lv_room (Nat.le_of_ble_eq_true rfl)) dM_step_17 ⟨Nat.le_of_ble_eq_true rfl, Nat.le_of_ble_eq_true rfl⟩) hS (fun q _ h => hFc q h) hFc (fun u_156 t H1 locs ht hvm hu_156 hB hz1 hk1 hS => ?_)
        obtain ⟨hP, hK1, hD1⟩ := hB
        rw [ht] at hP
        have hD := hD1.weaken (fun _ _ _ h => hFc _ h)
        generalize H1 = H at hP hS ⊢
        have hP : va_P (dC, dI) vwCl (mW ad cA u_156) H := hP
        have hD : va_D A (mW ad cA u_156) := hD
        refine lv_iinc (v := x1 + 1) (lv' := [(1, .int (x1 + 1)), (0, .ref (ad 0))]) hx hb dM_step_20 hl (k := 1) rfl rfl (by decide) rfl (fun ls hl => ?_)
        refine lv_goto (tgt := 2) hx hb dM_step_23 (by decide) ?_
        have hj2 := mi_jlt hI2 hj (by omega) c_138
        exact ih u_156 (x1 + 1) _ _ _ (⟨mi_give hu_156 hI2, j + 1, by rw [hj, nI_1], by omega, by omega⟩) (by subst hu_156; rw [← hf2]; simp only [ml_step, if_neg c_138]) hP hD hS (lv_sub hl [1, 0] rfl)
  exact key 41 u 0 _ _ _ (⟨hI, 0, nI_0.symm, by omega, by omega⟩) (by rw [← hf]; simp only [mf_step]) hP hD hS (lv_sub hl [1, 0] rfl)
set_option maxHeartbeats 4000000 in
set_option maxRecDepth 100000 in
theorem mc_work (l : Launch) (dC : Nat → ClassId) (dI : Nat → Nat → Nat) (ad : Nat → Nat) (cA : Nat → ClassId) (sz : Nat) (u : MS) (p1 : Int32) (T : Int32 × MS) (hf : mf_work u p1 = T) : Met l yM_work wM_work ({ frames := 0, cells := 0, slots := 0, locals := 0 } : Room) (va_Pc [.ref (ad 0), .int p1] (fun U => U.heap.size = sz ∧ va_P (dC, dI) vwCl (mW ad cA u) U.heap ∧ va_K (dC, dI) vwCl (mT cA) U ∧ va_D (fun _ => True) (mW ad cA u))) (va_Qi (fun r u2 => r = T.1 ∧ u2 = T.2) (mAt dC dI (va_A (mW ad cA u) sz) ad cA) (va_A (mW ad cA u) sz)) 0 0 (va_A (mW ad cA u) sz) := by
  refine Met.ofW (cc := cM_work) (maxL := 2) (ret := (some .boolean)) (by decide) rfl ?_
  intro p e s m args below meth c s₁ B hml hv
  obtain ⟨rfl, hsz, hP, hK, hD0⟩ := hv
  have hx := B.exec
  have hb := B.bytes
  have hr := B.returns
  have hts := atoms_spec (ws := wM_work) B.pre
  have hown : s.vm.findClass RX1 = some m.cls := findClass_of_methodNamed B.named
  have hlocks := B.notSynchronized
  have hin0 : ∀ w ∈ wsX10, w ∈ wM_work := by decide +kernel
  have fl_active := hts (.fieldLink RX1 33 "ProcessRoomModel" "active" "I") (by decide +kernel)
  have fl_wanted := hts (.fieldLink RX1 48 "ProcessRoomModel" "wanted" "Z") (by decide +kernel)
  have fl_here := hts (.fieldLink RX1 89 "ProcessRoomModel" "here" "I") (by decide +kernel)
  subst hsz
  have hD := hD0.self (sz := s.heap.size)
  generalize hAe : va_A (mW ad cA u) s.heap.size = A at hD ⊢
  have hA : ∀ q : Nat, s.heap.size ≤ q → A q := fun q h => by rw [← hAe]; exact Or.inr h
  have hS : va_S A s.heap s.heap [] := va_S.rf
  have hl := lv_entry ([.ref (ad 0), .int p1]) (n := 2) (Nat.le_of_ble_eq_true rfl)
  rw [lg_entry_eq]
  generalize (lg_sl ([.ref (ad 0), .int p1]) ++ List.replicate (2 - (lg_sl ([.ref (ad 0), .int p1])).length) Slot.unset).toArray = ls at hl ⊢
  have hl : lv_has ls 2 [(0, .ref (ad 0)), (1, .int p1)] := hl
  refine lv_iload_n hx hb dM_work_0 rfl (lv_at hl 1 rfl) ?_
  refine lv_iconst (v := 1) hx hb dM_work_1 (by decide) ?_
  refine lv_icmp_lt (tgt := 26) hx hb dM_work_2 (by decide) (fun c_157 => ?_) (fun c_157 => ?_)
  · refine lv_iconst (v := 0) hx hb dM_work_26 (by decide) ?_
    have eT : (0, u) = T := by rw [← hf]; simp only [mf_work, if_pos c_157]
    exact W.zret (v := 0) hx hb hr (rfl) (fun t ht hW => ⟨⟨0, u, rfl, ⟨congrArg Prod.fst eT, congrArg Prod.snd eT⟩, by rw [ht]; exact hP, va_K.moved hW.alike hK, hD⟩, hS.F ht⟩) hS.2.2 dM_work_27
  · refine lv_iload_n hx hb dM_work_5 rfl (lv_at hl 1 rfl) ?_
    refine lv_sipush (v := 1000) hx hb dM_work_6 (by decide) ?_
    refine lv_icmp_gt (tgt := 26) hx hb dM_work_9 (by decide) (fun c_158 => ?_) (fun c_158 => ?_)
    · refine lv_iconst (v := 0) hx hb dM_work_26 (by decide) ?_
      have eT : (0, u) = T := by rw [← hf]; simp only [mf_work, if_neg c_157, if_pos c_158]
      exact W.zret (v := 0) hx hb hr (rfl) (fun t ht hW => ⟨⟨0, u, rfl, ⟨congrArg Prod.fst eT, congrArg Prod.snd eT⟩, by rw [ht]; exact hP, va_K.moved hW.alike hK, hD⟩, hS.F ht⟩) hS.2.2 dM_work_27
    · refine lv_aload_n hx hb dM_work_12 rfl (lv_at hl 0 rfl) ?_
      refine va_get (D := (dC, dI)) (ci := 1) (v := .int (ma_active u)) (C := RX1) (T := TX1) (N := 13) (fs := mF ad u) hx hb hts hin0 hown hK hP 0 rfl rfl 9 (by decide) fl_active (fun _ h9 => h9) rfl dM_work_13 ?_
      refine lv_if_lt (tgt := 26) hx hb dM_work_16 (by decide) (fun c_159 => ?_) (fun c_159 => ?_)
      · refine lv_iconst (v := 0) hx hb dM_work_26 (by decide) ?_
        have eT : (0, u) = T := by rw [← hf]; simp only [mf_work, if_neg c_157, if_neg c_158, if_pos c_159]
        exact W.zret (v := 0) hx hb hr (rfl) (fun t ht hW => ⟨⟨0, u, rfl, ⟨congrArg Prod.fst eT, congrArg Prod.snd eT⟩, by rw [ht]; exact hP, va_K.moved hW.alike hK, hD⟩, hS.F ht⟩) hS.2.2 dM_work_27
      · refine lv_aload_n hx hb dM_work_19 rfl (lv_at hl 0 rfl) ?_
        refine va_get (D := (dC, dI)) (ci := 1) (v := .int (ma_wanted u)) (C := RX1) (T := TX1) (N := 13) (fs := mF ad u) hx hb hts hin0 hown hK hP 0 rfl rfl 11 (by decide) fl_wanted (fun _ h9 => h9) rfl dM_work_20 ?_
        refine lv_if_eq (tgt := 28) hx hb dM_work_23 (by decide) (fun c_160 => ?_) (fun c_160 => ?_)
        · refine lv_aload_n hx hb dM_work_28 rfl (lv_at hl 0 rfl) ?_
          refine lv_aload_n hx hb dM_work_29 rfl (lv_at hl 0 rfl) ?_
          refine va_get (D := (dC, dI)) (ci := 1) (v := .int (ma_here u)) (C := RX1) (T := TX1) (N := 13) (fs := mF ad u) hx hb hts hin0 hown hK hP 0 rfl rfl 10 (by decide) fl_here (fun _ h9 => h9) rfl dM_work_30 ?_
          refine lv_iload_n hx hb dM_work_33 rfl (lv_at hl 1 rfl) ?_
          refine lv_iadd hx hb dM_work_34 ?_
          refine va_put (D := (dC, dI)) (ci := 1) (v := .int ((ma_here u) + p1)) (ty := .int) (C := RX1) (T := TX1) (N := 13) (fs := mF ad u) hx hb hts hin0 tyX1 tyX1_ok nmX1 hown hK hP hD hS 0 rfl rfl 10 (by decide) fl_here (fun _ h9 => h9) rfl (by decide +kernel) rfl rfl (Nat.le_of_ble_eq_true rfl) dM_work_35 (fun H locs hP hD hS => ?_)
          rw [mw_here] at hP hD
          obtain ⟨u_161, hu_161⟩ : ∃ w : MS, w = ms_here u ((ma_here u) + p1) := ⟨_, rfl⟩
          rw [← hu_161] at hP hD
          refine lv_iconst (v := 1) hx hb dM_work_38 (by decide) ?_
          have eT : (1, u_161) = T := by subst hu_161; rw [← hf]; simp only [mf_work, if_neg c_157, if_neg c_158, if_neg c_159, if_pos c_160]
          exact W.zret (v := 1) hx hb hr (rfl) (fun t ht hW => ⟨⟨1, u_161, rfl, ⟨congrArg Prod.fst eT, congrArg Prod.snd eT⟩, by rw [ht]; exact hP, va_K.moved hW.alike hK, hD⟩, hS.F ht⟩) hS.2.2 dM_work_39
        · refine lv_iconst (v := 0) hx hb dM_work_26 (by decide) ?_
          have eT : (0, u) = T := by rw [← hf]; simp only [mf_work, if_neg c_157, if_neg c_158, if_neg c_159, if_neg c_160]
          exact W.zret (v := 0) hx hb hr (rfl) (fun t ht hW => ⟨⟨0, u, rfl, ⟨congrArg Prod.fst eT, congrArg Prod.snd eT⟩, by rw [ht]; exact hP, va_K.moved hW.alike hK, hD⟩, hS.F ht⟩) hS.2.2 dM_work_27
set_option maxHeartbeats 4000000 in
set_option maxRecDepth 100000 in
theorem mc_take (l : Launch) (dC : Nat → ClassId) (dI : Nat → Nat → Nat) (ad : Nat → Nat) (cA : Nat → ClassId) (sz : Nat) (u : MS) (p1 : Int32) (T : Int32 × MS) (hf : mf_take u p1 = T) : Met l yM_take wM_take ({ frames := 2, cells := 0, slots := 0, locals := 41 } : Room) (va_Pc [.ref (ad 0), .int p1] (fun U => U.heap.size = sz ∧ va_P (dC, dI) vwCl (mW ad cA u) U.heap ∧ va_K (dC, dI) vwCl (mT cA) U ∧ va_D (fun _ => True) (mW ad cA u))) (va_Qi (fun r u2 => r = T.1 ∧ u2 = T.2) (mAt dC dI (va_A (mW ad cA u) sz) ad cA) (va_A (mW ad cA u) sz)) 0 0 (va_A (mW ad cA u) sz) := by
  refine Met.ofW (cc := cM_take) (maxL := 2) (ret := (some .boolean)) (by decide) rfl ?_
  intro p e s m args below meth c s₁ B hml hv
  obtain ⟨rfl, hsz, hP, hK, hD0⟩ := hv
  have hx := B.exec
  have hb := B.bytes
  have hr := B.returns
  have hts := atoms_spec (ws := wM_take) B.pre
  have hown : s.vm.findClass RX1 = some m.cls := findClass_of_methodNamed B.named
  have hlocks := B.notSynchronized
  have hin0 : ∀ w ∈ wsX10, w ∈ wM_take := by decide +kernel
  have fl_rows := hts (.fieldLink RX1 20 "ProcessRoomModel" "rows" "[I") (by decide +kernel)
  subst hsz
  have hD := hD0.self (sz := s.heap.size)
  generalize hAe : va_A (mW ad cA u) s.heap.size = A at hD ⊢
  have hA : ∀ q : Nat, s.heap.size ≤ q → A q := fun q h => by rw [← hAe]; exact Or.inr h
  have hS : va_S A s.heap s.heap [] := va_S.rf
  have hl := lv_entry ([.ref (ad 0), .int p1]) (n := 2) (Nat.le_of_ble_eq_true rfl)
  rw [lg_entry_eq]
  generalize (lg_sl ([.ref (ad 0), .int p1]) ++ List.replicate (2 - (lg_sl ([.ref (ad 0), .int p1])).length) Slot.unset).toArray = ls at hl ⊢
  have hl : lv_has ls 2 [(0, .ref (ad 0)), (1, .int p1)] := hl
  refine lv_aload_n hx hb dM_take_0 rfl (lv_at hl 0 rfl) ?_
  refine lv_iload_n hx hb dM_take_1 rfl (lv_at hl 1 rfl) ?_
  refine va_calli (va_runV (As := [.int p1]) (rest := []) ⟨hx, hb, hml, hown, hts⟩ (mc_isMade l dC dI ad cA u p1 _ rfl) (cwV 1 hts gM_take_isMade rfl rfl rfl (by decide +kernel) ⟨Nat.le_of_ble_eq_true rfl, Nat.le_of_ble_eq_true rfl⟩) ⟨fun a U g mk q => by obtain ⟨q0, qP, qK⟩ := q; exact ⟨q0, qP, va_K.moved (u := U) (U := U.calling g mk a) (Vm.Alike.refl U.vm) qK⟩, va_recv hK hP (ci := 1) (q0 := 0) rfl rfl, fun U hU hW => ⟨rfl, by rw [hU]; exact hP, va_K.moved hW.alike hK⟩⟩ rfl rfl hl.1 rfl (lv_room (Nat.le_of_ble_eq_true rfl)) dM_take_2 ⟨Nat.le_of_ble_eq_true rfl, Nat.le_of_ble_eq_true rfl⟩) hS (fun _ _ h => h.elim) (fun _ h => h.elim) (fun r_162 u_ t H1 locs ht hvm hr_162 hB hz1 hk1 hS => ?_)
  have hP := hP.kept (fun k x hx => hk1 x.1 ((hP k x hx).lt) (fun h => h))
  generalize H1 = H at hP hS ⊢
  refine lv_if_eq (tgt := 17) hx hb dM_take_5 (by decide) (fun c_163 => ?_) (fun c_163 => ?_)
  · refine lv_iconst (v := 0) hx hb dM_take_17 (by decide) ?_
    have eT : (0, u) = T := by subst hr_162; rw [← hf]; simp only [mf_take, if_pos c_163]
    exact W.zret (v := 0) hx hb hr (rfl) (fun t ht hW => ⟨⟨0, u, rfl, ⟨congrArg Prod.fst eT, congrArg Prod.snd eT⟩, by rw [ht]; exact hP, va_K.moved hW.alike hK, hD⟩, hS.F ht⟩) hS.2.2 dM_take_18
  · refine lv_aload_n hx hb dM_take_8 rfl (lv_at hl 0 rfl) ?_
    refine va_get (D := (dC, dI)) (ci := 1) (v := .ref (ad 4)) (C := RX1) (T := TX1) (N := 13) (fs := mF ad u) hx hb hts hin0 hown hK hP 0 rfl rfl 3 (by decide) fl_rows (fun _ h9 => h9) rfl dM_take_9 ?_
    refine lv_iload_n hx hb dM_take_12 rfl (lv_at hl 1 rfl) ?_
    refine va_iald hx hb hK hP 4 3 rfl rfl (mi_isMade hr_162 c_163) dM_take_13 ?_
    refine lv_if_ne (tgt := 19) hx hb dM_take_14 (by decide) (fun c_164 => ?_) (fun c_164 => ?_)
    · refine lv_aload_n hx hb dM_take_19 rfl (lv_at hl 0 rfl) ?_
      refine va_get (D := (dC, dI)) (ci := 1) (v := .ref (ad 4)) (C := RX1) (T := TX1) (N := 13) (fs := mF ad u) hx hb hts hin0 hown hK hP 0 rfl rfl 3 (by decide) fl_rows (fun _ h9 => h9) rfl dM_take_20 ?_
      refine lv_iload_n hx hb dM_take_23 rfl (lv_at hl 1 rfl) ?_
      refine lv_iconst (v := 0) hx hb dM_take_24 (by decide) ?_
      refine va_iast hx hb hK hP hD hS 4 3 rfl rfl (mi_isMade hr_162 c_163) dM_take_25 (fun H locs hP hD hS => ?_)
      rw [mw_rows] at hP hD
      obtain ⟨u_165, hu_165⟩ : ∃ w : MS, w = ms_rows u (upd (ma_rows u) p1.toNatClampNeg 0) := ⟨_, rfl⟩
      rw [← hu_165] at hP hD
      refine lv_iconst (v := 1) hx hb dM_take_26 (by decide) ?_
      have eT : (1, u_165) = T := by subst hr_162 hu_165; rw [← hf]; simp only [mf_take, if_neg c_163, if_neg c_164]
      exact W.zret (v := 1) hx hb hr (rfl) (fun t ht hW => ⟨⟨1, u_165, rfl, ⟨congrArg Prod.fst eT, congrArg Prod.snd eT⟩, by rw [ht]; exact hP, va_K.moved hW.alike hK, hD⟩, hS.F ht⟩) hS.2.2 dM_take_27
    · refine lv_iconst (v := 0) hx hb dM_take_17 (by decide) ?_
      have eT : (0, u) = T := by subst hr_162; rw [← hf]; simp only [mf_take, if_neg c_163, if_pos c_164]
      exact W.zret (v := 0) hx hb hr (rfl) (fun t ht hW => ⟨⟨0, u, rfl, ⟨congrArg Prod.fst eT, congrArg Prod.snd eT⟩, by rw [ht]; exact hP, va_K.moved hW.alike hK, hD⟩, hS.F ht⟩) hS.2.2 dM_take_18
set_option maxHeartbeats 4000000 in
set_option maxRecDepth 100000 in
theorem mc_rate (l : Launch) (dC : Nat → ClassId) (dI : Nat → Nat → Nat) (ad : Nat → Nat) (cA : Nat → ClassId) (sz : Nat) (u : MS) (p1 : Int32) (p2 : Int32) (T : Int32 × MS) (hf : mf_rate u p1 p2 = T) : Met l yM_rate wM_rate ({ frames := 2, cells := 0, slots := 0, locals := 41 } : Room) (va_Pc [.ref (ad 0), .int p1, .int p2] (fun U => U.heap.size = sz ∧ va_P (dC, dI) vwCl (mW ad cA u) U.heap ∧ va_K (dC, dI) vwCl (mT cA) U ∧ va_D (fun _ => True) (mW ad cA u))) (va_Qi (fun r u2 => r = T.1 ∧ u2 = T.2) (mAt dC dI (va_A (mW ad cA u) sz) ad cA) (va_A (mW ad cA u) sz)) 0 0 (va_A (mW ad cA u) sz) := by
  refine Met.ofW (cc := cM_rate) (maxL := 4) (ret := (some .int)) (by decide) rfl ?_
  intro p e s m args below meth c s₁ B hml hv
  obtain ⟨rfl, hsz, hP, hK, hD0⟩ := hv
  have hx := B.exec
  have hb := B.bytes
  have hr := B.returns
  have hts := atoms_spec (ws := wM_rate) B.pre
  have hown : s.vm.findClass RX1 = some m.cls := findClass_of_methodNamed B.named
  have hlocks := B.notSynchronized
  have hin0 : ∀ w ∈ wsX10, w ∈ wM_rate := by decide +kernel
  have fl_priorities := hts (.fieldLink RX1 13 "ProcessRoomModel" "priorities" "[I") (by decide +kernel)
  subst hsz
  have hD := hD0.self (sz := s.heap.size)
  generalize hAe : va_A (mW ad cA u) s.heap.size = A at hD ⊢
  have hA : ∀ q : Nat, s.heap.size ≤ q → A q := fun q h => by rw [← hAe]; exact Or.inr h
  have hS : va_S A s.heap s.heap [] := va_S.rf
  have hl := lv_entry ([.ref (ad 0), .int p1, .int p2]) (n := 4) (Nat.le_of_ble_eq_true rfl)
  rw [lg_entry_eq]
  generalize (lg_sl ([.ref (ad 0), .int p1, .int p2]) ++ List.replicate (4 - (lg_sl ([.ref (ad 0), .int p1, .int p2])).length) Slot.unset).toArray = ls at hl ⊢
  have hl : lv_has ls 4 [(0, .ref (ad 0)), (1, .int p1), (2, .int p2)] := hl
  refine lv_aload_n hx hb dM_rate_0 rfl (lv_at hl 0 rfl) ?_
  refine lv_iload_n hx hb dM_rate_1 rfl (lv_at hl 1 rfl) ?_
  refine va_calli (va_runV (As := [.int p1]) (rest := []) ⟨hx, hb, hml, hown, hts⟩ (mc_isMade l dC dI ad cA u p1 _ rfl) (cwV 1 hts gM_rate_isMade rfl rfl rfl (by decide +kernel) ⟨Nat.le_of_ble_eq_true rfl, Nat.le_of_ble_eq_true rfl⟩) ⟨fun a U g mk q => by obtain ⟨q0, qP, qK⟩ := q; exact ⟨q0, qP, va_K.moved (u := U) (U := U.calling g mk a) (Vm.Alike.refl U.vm) qK⟩, va_recv hK hP (ci := 1) (q0 := 0) rfl rfl, fun U hU hW => ⟨rfl, by rw [hU]; exact hP, va_K.moved hW.alike hK⟩⟩ rfl rfl hl.1 rfl (lv_room (Nat.le_of_ble_eq_true rfl)) dM_rate_2 ⟨Nat.le_of_ble_eq_true rfl, Nat.le_of_ble_eq_true rfl⟩) hS (fun _ _ h => h.elim) (fun _ h => h.elim) (fun r_166 u_ t H1 locs ht hvm hr_166 hB hz1 hk1 hS => ?_)
  have hP := hP.kept (fun k x hx => hk1 x.1 ((hP k x hx).lt) (fun h => h))
  generalize H1 = H at hP hS ⊢
  refine lv_if_eq (tgt := 15) hx hb dM_rate_5 (by decide) (fun c_167 => ?_) (fun c_167 => ?_)
  · refine lv_iconst (v := (-1)) hx hb dM_rate_15 (by decide) ?_
    have eT : ((-1), u) = T := by subst hr_166; rw [← hf]; simp only [mf_rate, if_pos c_167]
    exact W.iret (v := (-1)) hx hb hr (fun t ht hW => ⟨⟨(-1), u, rfl, ⟨congrArg Prod.fst eT, congrArg Prod.snd eT⟩, by rw [ht]; exact hP, va_K.moved hW.alike hK, hD⟩, hS.F ht⟩) hS.2.2 dM_rate_16
  · refine lv_iload_n hx hb dM_rate_8 rfl (lv_at hl 2 rfl) ?_
    refine va_calli (va_runS (As := [.int p2]) (rest := []) ⟨hx, hb, hml, hown, hts⟩ (mc_isPriority l p2 _ rfl) (va_cwS 1 hts gM_rate_isPriority rfl rfl rfl (by decide +kernel) ⟨Nat.le_of_ble_eq_true rfl, Nat.le_of_ble_eq_true rfl⟩) ⟨fun a U g mk q => ⟨q.1, trivial⟩, fun U hU hW => ⟨rfl, trivial⟩⟩ rfl rfl hl.1 rfl (lv_room (Nat.le_of_ble_eq_true rfl)) dM_rate_9 ⟨Nat.le_of_ble_eq_true rfl, Nat.le_of_ble_eq_true rfl⟩) hS (fun _ _ h => h.elim) (fun _ h => h.elim) (fun r_168 u_ t H1 locs ht hvm hr_168 hB hz1 hk1 hS => ?_)
    have hP := hP.kept (fun k x hx => hk1 x.1 ((hP k x hx).lt) (fun h => h))
    generalize H1 = H at hP hS ⊢
    refine lv_if_ne (tgt := 17) hx hb dM_rate_12 (by decide) (fun c_169 => ?_) (fun c_169 => ?_)
    · refine lv_aload_n hx hb dM_rate_17 rfl (lv_at hl 0 rfl) ?_
      refine va_get (D := (dC, dI)) (ci := 1) (v := .ref (ad 2)) (C := RX1) (T := TX1) (N := 13) (fs := mF ad u) hx hb hts hin0 hown hK hP 0 rfl rfl 1 (by decide) fl_priorities (fun _ h9 => h9) rfl dM_rate_18 ?_
      refine lv_iload_n hx hb dM_rate_21 rfl (lv_at hl 1 rfl) ?_
      refine va_iald hx hb hK hP 2 1 rfl rfl (mi_isMade hr_166 c_167) dM_rate_22 ?_
      refine lv_istore_n (lv' := [(3, .int (ma_priorities u p1.toNatClampNeg)), (0, .ref (ad 0)), (1, .int p1), (2, .int p2)]) hx hb dM_rate_23 rfl hl (by decide) rfl (fun ls hl => ?_)
      refine lv_aload_n hx hb dM_rate_24 rfl (lv_at hl 1 rfl) ?_
      refine va_get (D := (dC, dI)) (ci := 1) (v := .ref (ad 2)) (C := RX1) (T := TX1) (N := 13) (fs := mF ad u) hx hb hts hin0 hown hK hP 0 rfl rfl 1 (by decide) fl_priorities (fun _ h9 => h9) rfl dM_rate_25 ?_
      refine lv_iload_n hx hb dM_rate_28 rfl (lv_at hl 2 rfl) ?_
      refine lv_iload_n hx hb dM_rate_29 rfl (lv_at hl 3 rfl) ?_
      refine va_iast hx hb hK hP hD hS 2 1 rfl rfl (mi_isMade hr_166 c_167) dM_rate_30 (fun H locs hP hD hS => ?_)
      rw [mw_priorities] at hP hD
      obtain ⟨u_170, hu_170⟩ : ∃ w : MS, w = ms_priorities u (upd (ma_priorities u) p1.toNatClampNeg p2) := ⟨_, rfl⟩
      rw [← hu_170] at hP hD
      refine lv_iload_n hx hb dM_rate_31 rfl (lv_at hl 0 rfl) ?_
      have eT : (ma_priorities u p1.toNatClampNeg, u_170) = T := by subst hr_166 hr_168 hu_170; rw [← hf]; simp only [mf_rate, if_neg c_167, if_neg c_169]
      exact W.iret (v := ma_priorities u p1.toNatClampNeg) hx hb hr (fun t ht hW => ⟨⟨ma_priorities u p1.toNatClampNeg, u_170, rfl, ⟨congrArg Prod.fst eT, congrArg Prod.snd eT⟩, by rw [ht]; exact hP, va_K.moved hW.alike hK, hD⟩, hS.F ht⟩) hS.2.2 dM_rate_32
    · refine lv_iconst (v := (-1)) hx hb dM_rate_15 (by decide) ?_
      have eT : ((-1), u) = T := by subst hr_166 hr_168; rw [← hf]; simp only [mf_rate, if_neg c_167, if_pos c_169]
      exact W.iret (v := (-1)) hx hb hr (fun t ht hW => ⟨⟨(-1), u, rfl, ⟨congrArg Prod.fst eT, congrArg Prod.snd eT⟩, by rw [ht]; exact hP, va_K.moved hW.alike hK, hD⟩, hS.F ht⟩) hS.2.2 dM_rate_16
set_option maxHeartbeats 4000000 in
set_option maxRecDepth 100000 in
theorem mc_yield (l : Launch) (dC : Nat → ClassId) (dI : Nat → Nat → Nat) (ad : Nat → Nat) (cA : Nat → ClassId) (sz : Nat) (u : MS)  (hI : mInv u) (T : Int32 × MS) (hf : mf_yield u = T) : Met l yM_yield wM_yield ({ frames := 2, cells := 0, slots := 0, locals := 50 } : Room) (va_Pc [.ref (ad 0)] (fun U => U.heap.size = sz ∧ va_P (dC, dI) vwCl (mW ad cA u) U.heap ∧ va_K (dC, dI) vwCl (mT cA) U ∧ va_D (fun _ => True) (mW ad cA u))) (va_Qi (fun r u2 => r = T.1 ∧ u2 = T.2) (mAt dC dI (va_A (mW ad cA u) sz) ad cA) (va_A (mW ad cA u) sz)) 0 0 (va_A (mW ad cA u) sz) := by
  refine Met.ofW (cc := cM_yield) (maxL := 2) (ret := (some .boolean)) (by decide) rfl ?_
  intro p e s m args below meth c s₁ B hml hv
  obtain ⟨rfl, hsz, hP, hK, hD0⟩ := hv
  have hx := B.exec
  have hb := B.bytes
  have hr := B.returns
  have hts := atoms_spec (ws := wM_yield) B.pre
  have hown : s.vm.findClass RX1 = some m.cls := findClass_of_methodNamed B.named
  have hlocks := B.notSynchronized
  have hin0 : ∀ w ∈ wsX10, w ∈ wM_yield := by decide +kernel
  have fl_priorities := hts (.fieldLink RX1 13 "ProcessRoomModel" "priorities" "[I") (by decide +kernel)
  subst hsz
  have hD := hD0.self (sz := s.heap.size)
  generalize hAe : va_A (mW ad cA u) s.heap.size = A at hD ⊢
  have hA : ∀ q : Nat, s.heap.size ≤ q → A q := fun q h => by rw [← hAe]; exact Or.inr h
  have hS : va_S A s.heap s.heap [] := va_S.rf
  have hl := lv_entry ([.ref (ad 0)]) (n := 2) (Nat.le_of_ble_eq_true rfl)
  rw [lg_entry_eq]
  generalize (lg_sl ([.ref (ad 0)]) ++ List.replicate (2 - (lg_sl ([.ref (ad 0)])).length) Slot.unset).toArray = ls at hl ⊢
  have hl : lv_has ls 2 [(0, .ref (ad 0))] := hl
  refine lv_aload_n hx hb dM_yield_0 rfl (lv_at hl 0 rfl) ?_
  refine va_calli (va_runV (As := []) (rest := []) ⟨hx, hb, hml, hown, hts⟩ (mc_presentOne l dC dI ad cA u _ rfl) (cwV 0 hts gM_yield_presentOne rfl rfl rfl (by decide +kernel) ⟨Nat.le_of_ble_eq_true rfl, Nat.le_of_ble_eq_true rfl⟩) ⟨fun a U g mk q => by obtain ⟨q0, qP, qK⟩ := q; exact ⟨q0, qP, va_K.moved (u := U) (U := U.calling g mk a) (Vm.Alike.refl U.vm) qK⟩, va_recv hK hP (ci := 1) (q0 := 0) rfl rfl, fun U hU hW => ⟨rfl, by rw [hU]; exact hP, va_K.moved hW.alike hK⟩⟩ rfl rfl hl.1 rfl (lv_room (Nat.le_of_ble_eq_true rfl)) dM_yield_1 ⟨Nat.le_of_ble_eq_true rfl, Nat.le_of_ble_eq_true rfl⟩) hS (fun _ _ h => h.elim) (fun _ h => h.elim) (fun r_171 u_ t H1 locs ht hvm hr_171 hB hz1 hk1 hS => ?_)
  have hP := hP.kept (fun k x hx => hk1 x.1 ((hP k x hx).lt) (fun h => h))
  generalize H1 = H at hP hS ⊢
  refine lv_istore_n (lv' := [(1, .int r_171), (0, .ref (ad 0))]) hx hb dM_yield_4 rfl hl (by decide) rfl (fun ls hl => ?_)
  refine lv_iload_n hx hb dM_yield_5 rfl (lv_at hl 0 rfl) ?_
  refine lv_if_lt (tgt := 23) hx hb dM_yield_6 (by decide) (fun c_172 => ?_) (fun c_172 => ?_)
  · refine lv_iconst (v := 0) hx hb dM_yield_23 (by decide) ?_
    have eT : (0, u) = T := by subst hr_171; rw [← hf]; simp only [mf_yield, if_pos c_172]
    exact W.zret (v := 0) hx hb hr (rfl) (fun t ht hW => ⟨⟨0, u, rfl, ⟨congrArg Prod.fst eT, congrArg Prod.snd eT⟩, by rw [ht]; exact hP, va_K.moved hW.alike hK, hD⟩, hS.F ht⟩) hS.2.2 dM_yield_24
  · refine lv_aload_n hx hb dM_yield_9 rfl (lv_at hl 1 rfl) ?_
    refine lv_aload_n hx hb dM_yield_10 rfl (lv_at hl 1 rfl) ?_
    refine va_get (D := (dC, dI)) (ci := 1) (v := .ref (ad 2)) (C := RX1) (T := TX1) (N := 13) (fs := mF ad u) hx hb hts hin0 hown hK hP 0 rfl rfl 1 (by decide) fl_priorities (fun _ h9 => h9) rfl dM_yield_11 ?_
    refine lv_iload_n hx hb dM_yield_14 rfl (lv_at hl 0 rfl) ?_
    refine va_iald hx hb hK hP 2 1 rfl rfl (mi_presentOne hr_171 hI c_172) dM_yield_15 ?_
    refine lv_iconst (v := 0) hx hb dM_yield_16 (by decide) ?_
    refine va_calli (va_runV (As := [.int (ma_priorities u r_171.toNatClampNeg), .int 0]) (rest := []) ⟨hx, hb, hml, hown, hts⟩ (mc_find l dC dI ad cA u (ma_priorities u r_171.toNatClampNeg) 0 ⟨0, by omega, nI_0.symm⟩ _ rfl) (cwV 2 hts gM_yield_find rfl rfl rfl (by decide +kernel) ⟨Nat.le_of_ble_eq_true rfl, Nat.le_of_ble_eq_true rfl⟩) ⟨fun a U g mk q => by obtain ⟨q0, qP, qK⟩ := q; exact ⟨q0, qP, va_K.moved (u := U) (U := U.calling g mk a) (Vm.Alike.refl U.vm) qK⟩, va_recv hK hP (ci := 1) (q0 := 0) rfl rfl, fun U hU hW => ⟨rfl, by rw [hU]; exact hP, va_K.moved hW.alike hK⟩⟩ rfl rfl hl.1 rfl (lv_room (Nat.le_of_ble_eq_true rfl)) dM_yield_17 ⟨Nat.le_of_ble_eq_true rfl, Nat.le_of_ble_eq_true rfl⟩) hS (fun _ _ h => h.elim) (fun _ h => h.elim) (fun r_173 u_ t H1 locs ht hvm hr_173 hB hz1 hk1 hS => ?_)
    have hP := hP.kept (fun k x hx => hk1 x.1 ((hP k x hx).lt) (fun h => h))
    generalize H1 = H at hP hS ⊢
    refine lv_if_ge (tgt := 25) hx hb dM_yield_20 (by decide) (fun c_174 => ?_) (fun c_174 => ?_)
    · refine lv_aload_n hx hb dM_yield_25 rfl (lv_at hl 1 rfl) ?_
      refine lv_iload_n hx hb dM_yield_26 rfl (lv_at hl 0 rfl) ?_
      refine lv_aload_n hx hb dM_yield_27 rfl (lv_at hl 1 rfl) ?_
      refine va_get (D := (dC, dI)) (ci := 1) (v := .ref (ad 2)) (C := RX1) (T := TX1) (N := 13) (fs := mF ad u) hx hb hts hin0 hown hK hP 0 rfl rfl 1 (by decide) fl_priorities (fun _ h9 => h9) rfl dM_yield_28 ?_
      refine lv_iload_n hx hb dM_yield_31 rfl (lv_at hl 0 rfl) ?_
      refine va_iald hx hb hK hP 2 1 rfl rfl (mi_presentOne hr_171 hI c_172) dM_yield_32 ?_
      have hFc := va_free (wc := (mW ad cA u)) hD hS hA [0, 1, 2, 3, 4, 5, 6, 7] rfl
      refine va_callv (va_runV (As := [.int r_171, .int (ma_priorities u r_171.toNatClampNeg)]) (rest := []) ⟨hx, hb, hml, hown, hts⟩ (mc_enter l dC dI ad cA _ u r_171 (ma_priorities u r_171.toNatClampNeg) (mi_presentOne hr_171 hI c_172) _ rfl) (cwV 2 hts gM_yield_enter rfl rfl rfl (by decide +kernel) ⟨Nat.le_of_ble_eq_true rfl, Nat.le_of_ble_eq_true rfl⟩) ⟨fun a U g mk q => by obtain ⟨q0, q1, qP, qK, qD⟩ := q; exact ⟨q0, q1, qP, va_K.moved (u := U) (U := U.calling g mk a) (Vm.Alike.refl U.vm) qK, qD⟩, va_recv hK hP (ci := 1) (q0 := 0) rfl rfl, fun U hU hW => ⟨rfl, by rw [hU], by rw [hU]; exact hP, va_K.moved hW.alike hK, hD.weaken (fun _ _ _ _ => trivial)⟩⟩ rfl rfl hl.1 rfl (lv_room (Nat.le_of_ble_eq_true rfl)) dM_yield_33 ⟨Nat.le_of_ble_eq_true rfl, Nat.le_of_ble_eq_true rfl⟩) hS (fun q _ h => hFc q h) hFc (fun u_176 t H1 locs ht hvm hu_176 hB hz1 hk1 hS => ?_)
      obtain ⟨hP, hK1, hD1⟩ := hB
      rw [ht] at hP
      have hD := hD1.weaken (fun _ _ _ h => hFc _ h)
      generalize H1 = H at hP hS ⊢
      have hP : va_P (dC, dI) vwCl (mW ad cA u_176) H := hP
      have hD : va_D A (mW ad cA u_176) := hD
      refine lv_aload_n hx hb dM_yield_36 rfl (lv_at hl 1 rfl) ?_
      have hFc := va_free (wc := (mW ad cA u_176)) hD hS hA [0, 1, 2, 3, 4, 5, 6, 7] rfl
      refine va_callv (va_runV (As := []) (rest := []) ⟨hx, hb, hml, hown, hts⟩ (mc_putAside l dC dI ad cA _ u_176 _ rfl) (cwV 0 hts gM_yield_putAside rfl rfl rfl (by decide +kernel) ⟨Nat.le_of_ble_eq_true rfl, Nat.le_of_ble_eq_true rfl⟩) ⟨fun a U g mk q => by obtain ⟨q0, q1, qP, qK, qD⟩ := q; exact ⟨q0, q1, qP, va_K.moved (u := U) (U := U.calling g mk a) (Vm.Alike.refl U.vm) qK, qD⟩, va_recv hK hP (ci := 1) (q0 := 0) rfl rfl, fun U hU hW => ⟨rfl, by rw [hU], by rw [hU]; exact hP, va_K.moved hW.alike hK, hD.weaken (fun _ _ _ _ => trivial)⟩⟩ rfl rfl hl.1 rfl (lv_room (Nat.le_of_ble_eq_true rfl)) dM_yield_37 ⟨Nat.le_of_ble_eq_true rfl, Nat.le_of_ble_eq_true rfl⟩) hS (fun q _ h => hFc q h) hFc (fun u_178 t H1 locs ht hvm hu_178 hB hz1 hk1 hS => ?_)
      obtain ⟨hP, hK1, hD1⟩ := hB
      rw [ht] at hP
      have hD := hD1.weaken (fun _ _ _ h => hFc _ h)
      generalize H1 = H at hP hS ⊢
      have hP : va_P (dC, dI) vwCl (mW ad cA u_178) H := hP
      have hD : va_D A (mW ad cA u_178) := hD
      refine lv_iconst (v := 1) hx hb dM_yield_40 (by decide) ?_
      have eT : (1, u_178) = T := by subst hr_171 hr_173 hu_176 hu_178; rw [← hf]; simp only [mf_yield, if_neg c_172, if_pos c_174]
      exact W.zret (v := 1) hx hb hr (rfl) (fun t ht hW => ⟨⟨1, u_178, rfl, ⟨congrArg Prod.fst eT, congrArg Prod.snd eT⟩, by rw [ht]; exact hP, va_K.moved hW.alike hK, hD⟩, hS.F ht⟩) hS.2.2 dM_yield_41
    · refine lv_iconst (v := 0) hx hb dM_yield_23 (by decide) ?_
      have eT : (0, u) = T := by subst hr_171 hr_173; rw [← hf]; simp only [mf_yield, if_neg c_172, if_neg c_174]
      exact W.zret (v := 0) hx hb hr (rfl) (fun t ht hW => ⟨⟨0, u, rfl, ⟨congrArg Prod.fst eT, congrArg Prod.snd eT⟩, by rw [ht]; exact hP, va_K.moved hW.alike hK, hD⟩, hS.F ht⟩) hS.2.2 dM_yield_24
def m0 : MS := ((fun _ => 0), (fun _ => 0), (fun _ => 0), (fun _ => 0), (fun _ => 0), 0, (fun _ => 0), 0, (fun _ => 0), (-1), 0, 0, (-1))
def mNew (dC : Nat → ClassId) (dI : Nat → Nat → Nat) (A : Nat → Prop) (h0 : Nat) (u : MS) (t : State) : Prop := ∃ (ad : Nat → Nat) (cA : Nat → ClassId), ad 0 = h0 ∧ mAt dC dI A ad cA u t
set_option maxHeartbeats 4000000 in
set_option maxRecDepth 100000 in
theorem mc_init (l : Launch) (dC : Nat → ClassId) (dI : Nat → Nat → Nat) (h0 sz : Nat) : Met l yX1_init wsX1_init ({ frames := 1, cells := 7, slots := 216, locals := 12 } : Room) (va_Pc [.ref h0] (fun U => U.heap.size = sz ∧ va_P (dC, dI) vwCl [(h0, .inr (1, [.null, .null, .null, .null, .null, .long 0, .null, .int 0, .null, .int 0, .int 0, .int 0, .int 0]))] U.heap ∧ va_K (dC, dI) vwCl [] U ∧ va_D (fun _ => True) [(h0, .inr (1, [.null, .null, .null, .null, .null, .long 0, .null, .int 0, .null, .int 0, .int 0, .int 0, .int 0]))])) (va_Qv (fun u => u = m0) (mNew dC dI (va_A [(h0, .inr (1, [.null, .null, .null, .null, .null, .long 0, .null, .int 0, .null, .int 0, .int 0, .int 0, .int 0]))] sz) h0) (va_A [(h0, .inr (1, [.null, .null, .null, .null, .null, .long 0, .null, .int 0, .null, .int 0, .int 0, .int 0, .int 0]))] sz)) 7 216 (va_A [(h0, .inr (1, [.null, .null, .null, .null, .null, .long 0, .null, .int 0, .null, .int 0, .int 0, .int 0, .int 0]))] sz) := by
  refine Met.ofW (cc := cX1_init) (maxL := 1) (ret := none) (by decide) rfl ?_
  intro p e s m args below meth c s₁ B hml hv
  obtain ⟨rfl, hsz, hP, hK, hD0⟩ := hv
  have hx := B.exec
  have hb := B.bytes
  have hr := B.returns
  have hts := atoms_spec (ws := wsX1_init) B.pre
  have hown : s.vm.findClass RX1 = some m.cls := findClass_of_methodNamed B.named
  have hlocks := B.notSynchronized
  have hin : meth.name = "<init>" := (name_of_methodNamed B.named B.method).1
  have hin0 : ∀ w ∈ wsX10, w ∈ wsX1_init := by decide +kernel
  have fl_made := hts (.fieldLink RX1 7 "ProcessRoomModel" "made" "[Z") (by decide +kernel)
  have fl_priorities := hts (.fieldLink RX1 13 "ProcessRoomModel" "priorities" "[I") (by decide +kernel)
  have fl_places := hts (.fieldLink RX1 17 "ProcessRoomModel" "places" "[I") (by decide +kernel)
  have fl_rows := hts (.fieldLink RX1 20 "ProcessRoomModel" "rows" "[I") (by decide +kernel)
  have fl_when := hts (.fieldLink RX1 23 "ProcessRoomModel" "when" "[J") (by decide +kernel)
  have fl_extras := hts (.fieldLink RX1 27 "ProcessRoomModel" "extras" "[I") (by decide +kernel)
  have fl_posted := hts (.fieldLink RX1 30 "ProcessRoomModel" "posted" "[I") (by decide +kernel)
  have fl_active := hts (.fieldLink RX1 33 "ProcessRoomModel" "active" "I") (by decide +kernel)
  have fl_change := hts (.fieldLink RX1 37 "ProcessRoomModel" "change" "I") (by decide +kernel)
  subst hsz
  have hD := hD0.self (sz := s.heap.size)
  generalize hAe : va_A [(h0, .inr (1, [.null, .null, .null, .null, .null, .long 0, .null, .int 0, .null, .int 0, .int 0, .int 0, .int 0]))] s.heap.size = A at hD ⊢
  have hA : ∀ q : Nat, s.heap.size ≤ q → A q := fun q h => by rw [← hAe]; exact Or.inr h
  have hS : va_S A s.heap s.heap [] := va_S.rf
  have hl := lv_entry ([.ref h0]) (n := 1) (Nat.le_of_ble_eq_true rfl)
  rw [lg_entry_eq]
  generalize (lg_sl ([.ref h0]) ++ List.replicate (1 - (lg_sl ([.ref h0])).length) Slot.unset).toArray = ls at hl ⊢
  have hl : lv_has ls 1 [(0, .ref h0)] := hl
  refine lv_aload_n hx hb dX1_init_0 rfl (lv_at hl 0 rfl) ?_
  refine W.objInit hx hb hown (hts (.methodLink RX1 1 objectInit) (by decide +kernel)) (hts (.instanceMethod objectInit) (by decide +kernel)) (hts (.code objectInit ⟨#[0xb1]⟩ 1 none) (by decide +kernel)) rfl (by rw [hml]; exact hl.1) rfl dX1_init_1 (Nat.le_of_ble_eq_true rfl) (Nat.le_of_ble_eq_true rfl) ?_
  refine W.eq (g2 := F0 m 4 ls []) rfl ?_
  refine lv_aload_n hx hb dX1_init_4 rfl (lv_at hl 0 rfl) ?_
  refine lv_bipush (v := 32) hx hb dX1_init_5 (by decide) ?_
  refine va_newa (atype := .boolean) (ty := .boolean) (N' := 32) (a0 := (32, .inl (fun _ => 0))) hx hb (hts (.arrayClass .boolean) (by decide +kernel)) rfl hK hP hD hS hA (fun _ => rfl) (by decide) rfl (by decide) (Nat.le_of_ble_eq_true rfl) (Nat.le_of_ble_eq_true rfl) dX1_init_7 (fun q1 c1 H hK hP hD hS => ?_)
  have hK : va_K (dC, dI) vwCl [(c1, .boolean)] s := hK
  have hP : va_P (dC, dI) vwCl [(h0, .inr (1, [.null, .null, .null, .null, .null, .long 0, .null, .int 0, .null, .int 0, .int 0, .int 0, .int 0])), (q1, .inl (c1, 32, .inl (fun _ => 0)))] H := hP
  have hD : va_D A [(h0, .inr (1, [.null, .null, .null, .null, .null, .long 0, .null, .int 0, .null, .int 0, .int 0, .int 0, .int 0])), (q1, .inl (c1, 32, .inl (fun _ => 0)))] := hD
  refine W.widen (k := 1) (n := 32) (by omega) (by omega) ?_
  refine va_putF (D := (dC, dI)) (ci := 1) (v := .ref q1) (ty := (.array .boolean)) (C := RX1) (T := TX1) (N := 13) hx hb hts hin0 tyX1 tyX1_ok nmX1 hown hK hP hD hS 0 rfl rfl 0 (by decide) fl_made (fun _ h9 => h9) rfl hin rfl (by decide +kernel) rfl rfl (Nat.le_of_ble_eq_true rfl) dX1_init_9 (fun H locs hP hD hS => ?_)
  have hP : va_P (dC, dI) vwCl [(h0, .inr (1, [.ref q1, .null, .null, .null, .null, .long 0, .null, .int 0, .null, .int 0, .int 0, .int 0, .int 0])), (q1, .inl (c1, 32, .inl (fun _ => 0)))] H := hP
  have hD : va_D A [(h0, .inr (1, [.ref q1, .null, .null, .null, .null, .long 0, .null, .int 0, .null, .int 0, .int 0, .int 0, .int 0])), (q1, .inl (c1, 32, .inl (fun _ => 0)))] := hD
  refine lv_aload_n hx hb dX1_init_12 rfl (lv_at hl 0 rfl) ?_
  refine lv_bipush (v := 32) hx hb dX1_init_13 (by decide) ?_
  refine va_newa (atype := .int) (ty := .int) (N' := 32) (a0 := (32, .inl (fun _ => 0))) hx hb (hts (.arrayClass .int) (by decide +kernel)) rfl hK hP hD hS hA (fun _ => rfl) (by decide) rfl (by decide) (Nat.le_of_ble_eq_true rfl) (Nat.le_of_ble_eq_true rfl) dX1_init_15 (fun q2 c2 H hK hP hD hS => ?_)
  have hK : va_K (dC, dI) vwCl [(c1, .boolean), (c2, .int)] s := hK
  have hP : va_P (dC, dI) vwCl [(h0, .inr (1, [.ref q1, .null, .null, .null, .null, .long 0, .null, .int 0, .null, .int 0, .int 0, .int 0, .int 0])), (q1, .inl (c1, 32, .inl (fun _ => 0))), (q2, .inl (c2, 32, .inl (fun _ => 0)))] H := hP
  have hD : va_D A [(h0, .inr (1, [.ref q1, .null, .null, .null, .null, .long 0, .null, .int 0, .null, .int 0, .int 0, .int 0, .int 0])), (q1, .inl (c1, 32, .inl (fun _ => 0))), (q2, .inl (c2, 32, .inl (fun _ => 0)))] := hD
  refine W.widen (k := 2) (n := 64) (by omega) (by omega) ?_
  refine va_putF (D := (dC, dI)) (ci := 1) (v := .ref q2) (ty := (.array .int)) (C := RX1) (T := TX1) (N := 13) hx hb hts hin0 tyX1 tyX1_ok nmX1 hown hK hP hD hS 0 rfl rfl 1 (by decide) fl_priorities (fun _ h9 => h9) rfl hin rfl (by decide +kernel) rfl rfl (Nat.le_of_ble_eq_true rfl) dX1_init_17 (fun H locs hP hD hS => ?_)
  have hP : va_P (dC, dI) vwCl [(h0, .inr (1, [.ref q1, .ref q2, .null, .null, .null, .long 0, .null, .int 0, .null, .int 0, .int 0, .int 0, .int 0])), (q1, .inl (c1, 32, .inl (fun _ => 0))), (q2, .inl (c2, 32, .inl (fun _ => 0)))] H := hP
  have hD : va_D A [(h0, .inr (1, [.ref q1, .ref q2, .null, .null, .null, .long 0, .null, .int 0, .null, .int 0, .int 0, .int 0, .int 0])), (q1, .inl (c1, 32, .inl (fun _ => 0))), (q2, .inl (c2, 32, .inl (fun _ => 0)))] := hD
  refine lv_aload_n hx hb dX1_init_20 rfl (lv_at hl 0 rfl) ?_
  refine lv_bipush (v := 32) hx hb dX1_init_21 (by decide) ?_
  refine va_newa (atype := .int) (ty := .int) (N' := 32) (a0 := (32, .inl (fun _ => 0))) hx hb (hts (.arrayClass .int) (by decide +kernel)) rfl hK hP hD hS hA (fun _ => rfl) (by decide) rfl (by decide) (Nat.le_of_ble_eq_true rfl) (Nat.le_of_ble_eq_true rfl) dX1_init_23 (fun q3 c3 H hK hP hD hS => ?_)
  have hK : va_K (dC, dI) vwCl [(c1, .boolean), (c2, .int), (c3, .int)] s := hK
  have hP : va_P (dC, dI) vwCl [(h0, .inr (1, [.ref q1, .ref q2, .null, .null, .null, .long 0, .null, .int 0, .null, .int 0, .int 0, .int 0, .int 0])), (q1, .inl (c1, 32, .inl (fun _ => 0))), (q2, .inl (c2, 32, .inl (fun _ => 0))), (q3, .inl (c3, 32, .inl (fun _ => 0)))] H := hP
  have hD : va_D A [(h0, .inr (1, [.ref q1, .ref q2, .null, .null, .null, .long 0, .null, .int 0, .null, .int 0, .int 0, .int 0, .int 0])), (q1, .inl (c1, 32, .inl (fun _ => 0))), (q2, .inl (c2, 32, .inl (fun _ => 0))), (q3, .inl (c3, 32, .inl (fun _ => 0)))] := hD
  refine W.widen (k := 3) (n := 96) (by omega) (by omega) ?_
  refine va_putF (D := (dC, dI)) (ci := 1) (v := .ref q3) (ty := (.array .int)) (C := RX1) (T := TX1) (N := 13) hx hb hts hin0 tyX1 tyX1_ok nmX1 hown hK hP hD hS 0 rfl rfl 2 (by decide) fl_places (fun _ h9 => h9) rfl hin rfl (by decide +kernel) rfl rfl (Nat.le_of_ble_eq_true rfl) dX1_init_25 (fun H locs hP hD hS => ?_)
  have hP : va_P (dC, dI) vwCl [(h0, .inr (1, [.ref q1, .ref q2, .ref q3, .null, .null, .long 0, .null, .int 0, .null, .int 0, .int 0, .int 0, .int 0])), (q1, .inl (c1, 32, .inl (fun _ => 0))), (q2, .inl (c2, 32, .inl (fun _ => 0))), (q3, .inl (c3, 32, .inl (fun _ => 0)))] H := hP
  have hD : va_D A [(h0, .inr (1, [.ref q1, .ref q2, .ref q3, .null, .null, .long 0, .null, .int 0, .null, .int 0, .int 0, .int 0, .int 0])), (q1, .inl (c1, 32, .inl (fun _ => 0))), (q2, .inl (c2, 32, .inl (fun _ => 0))), (q3, .inl (c3, 32, .inl (fun _ => 0)))] := hD
  refine lv_aload_n hx hb dX1_init_28 rfl (lv_at hl 0 rfl) ?_
  refine lv_bipush (v := 32) hx hb dX1_init_29 (by decide) ?_
  refine va_newa (atype := .int) (ty := .int) (N' := 32) (a0 := (32, .inl (fun _ => 0))) hx hb (hts (.arrayClass .int) (by decide +kernel)) rfl hK hP hD hS hA (fun _ => rfl) (by decide) rfl (by decide) (Nat.le_of_ble_eq_true rfl) (Nat.le_of_ble_eq_true rfl) dX1_init_31 (fun q4 c4 H hK hP hD hS => ?_)
  have hK : va_K (dC, dI) vwCl [(c1, .boolean), (c2, .int), (c3, .int), (c4, .int)] s := hK
  have hP : va_P (dC, dI) vwCl [(h0, .inr (1, [.ref q1, .ref q2, .ref q3, .null, .null, .long 0, .null, .int 0, .null, .int 0, .int 0, .int 0, .int 0])), (q1, .inl (c1, 32, .inl (fun _ => 0))), (q2, .inl (c2, 32, .inl (fun _ => 0))), (q3, .inl (c3, 32, .inl (fun _ => 0))), (q4, .inl (c4, 32, .inl (fun _ => 0)))] H := hP
  have hD : va_D A [(h0, .inr (1, [.ref q1, .ref q2, .ref q3, .null, .null, .long 0, .null, .int 0, .null, .int 0, .int 0, .int 0, .int 0])), (q1, .inl (c1, 32, .inl (fun _ => 0))), (q2, .inl (c2, 32, .inl (fun _ => 0))), (q3, .inl (c3, 32, .inl (fun _ => 0))), (q4, .inl (c4, 32, .inl (fun _ => 0)))] := hD
  refine W.widen (k := 4) (n := 128) (by omega) (by omega) ?_
  refine va_putF (D := (dC, dI)) (ci := 1) (v := .ref q4) (ty := (.array .int)) (C := RX1) (T := TX1) (N := 13) hx hb hts hin0 tyX1 tyX1_ok nmX1 hown hK hP hD hS 0 rfl rfl 3 (by decide) fl_rows (fun _ h9 => h9) rfl hin rfl (by decide +kernel) rfl rfl (Nat.le_of_ble_eq_true rfl) dX1_init_33 (fun H locs hP hD hS => ?_)
  have hP : va_P (dC, dI) vwCl [(h0, .inr (1, [.ref q1, .ref q2, .ref q3, .ref q4, .null, .long 0, .null, .int 0, .null, .int 0, .int 0, .int 0, .int 0])), (q1, .inl (c1, 32, .inl (fun _ => 0))), (q2, .inl (c2, 32, .inl (fun _ => 0))), (q3, .inl (c3, 32, .inl (fun _ => 0))), (q4, .inl (c4, 32, .inl (fun _ => 0)))] H := hP
  have hD : va_D A [(h0, .inr (1, [.ref q1, .ref q2, .ref q3, .ref q4, .null, .long 0, .null, .int 0, .null, .int 0, .int 0, .int 0, .int 0])), (q1, .inl (c1, 32, .inl (fun _ => 0))), (q2, .inl (c2, 32, .inl (fun _ => 0))), (q3, .inl (c3, 32, .inl (fun _ => 0))), (q4, .inl (c4, 32, .inl (fun _ => 0)))] := hD
  refine lv_aload_n hx hb dX1_init_36 rfl (lv_at hl 0 rfl) ?_
  refine lv_bipush (v := 32) hx hb dX1_init_37 (by decide) ?_
  refine va_newa (atype := .long) (ty := .long) (N' := 32) (a0 := (32, .inr (.inl (fun _ => 0)))) hx hb (hts (.arrayClass .long) (by decide +kernel)) rfl hK hP hD hS hA (fun _ => rfl) (by decide) rfl (by decide) (Nat.le_of_ble_eq_true rfl) (Nat.le_of_ble_eq_true rfl) dX1_init_39 (fun q5 c5 H hK hP hD hS => ?_)
  have hK : va_K (dC, dI) vwCl [(c1, .boolean), (c2, .int), (c3, .int), (c4, .int), (c5, .long)] s := hK
  have hP : va_P (dC, dI) vwCl [(h0, .inr (1, [.ref q1, .ref q2, .ref q3, .ref q4, .null, .long 0, .null, .int 0, .null, .int 0, .int 0, .int 0, .int 0])), (q1, .inl (c1, 32, .inl (fun _ => 0))), (q2, .inl (c2, 32, .inl (fun _ => 0))), (q3, .inl (c3, 32, .inl (fun _ => 0))), (q4, .inl (c4, 32, .inl (fun _ => 0))), (q5, .inl (c5, 32, .inr (.inl (fun _ => 0))))] H := hP
  have hD : va_D A [(h0, .inr (1, [.ref q1, .ref q2, .ref q3, .ref q4, .null, .long 0, .null, .int 0, .null, .int 0, .int 0, .int 0, .int 0])), (q1, .inl (c1, 32, .inl (fun _ => 0))), (q2, .inl (c2, 32, .inl (fun _ => 0))), (q3, .inl (c3, 32, .inl (fun _ => 0))), (q4, .inl (c4, 32, .inl (fun _ => 0))), (q5, .inl (c5, 32, .inr (.inl (fun _ => 0))))] := hD
  refine W.widen (k := 5) (n := 160) (by omega) (by omega) ?_
  refine va_putF (D := (dC, dI)) (ci := 1) (v := .ref q5) (ty := (.array .long)) (C := RX1) (T := TX1) (N := 13) hx hb hts hin0 tyX1 tyX1_ok nmX1 hown hK hP hD hS 0 rfl rfl 4 (by decide) fl_when (fun _ h9 => h9) rfl hin rfl (by decide +kernel) rfl rfl (Nat.le_of_ble_eq_true rfl) dX1_init_41 (fun H locs hP hD hS => ?_)
  have hP : va_P (dC, dI) vwCl [(h0, .inr (1, [.ref q1, .ref q2, .ref q3, .ref q4, .ref q5, .long 0, .null, .int 0, .null, .int 0, .int 0, .int 0, .int 0])), (q1, .inl (c1, 32, .inl (fun _ => 0))), (q2, .inl (c2, 32, .inl (fun _ => 0))), (q3, .inl (c3, 32, .inl (fun _ => 0))), (q4, .inl (c4, 32, .inl (fun _ => 0))), (q5, .inl (c5, 32, .inr (.inl (fun _ => 0))))] H := hP
  have hD : va_D A [(h0, .inr (1, [.ref q1, .ref q2, .ref q3, .ref q4, .ref q5, .long 0, .null, .int 0, .null, .int 0, .int 0, .int 0, .int 0])), (q1, .inl (c1, 32, .inl (fun _ => 0))), (q2, .inl (c2, 32, .inl (fun _ => 0))), (q3, .inl (c3, 32, .inl (fun _ => 0))), (q4, .inl (c4, 32, .inl (fun _ => 0))), (q5, .inl (c5, 32, .inr (.inl (fun _ => 0))))] := hD
  refine lv_aload_n hx hb dX1_init_44 rfl (lv_at hl 0 rfl) ?_
  refine lv_bipush (v := 16) hx hb dX1_init_45 (by decide) ?_
  refine va_newa (atype := .int) (ty := .int) (N' := 16) (a0 := (16, .inl (fun _ => 0))) hx hb (hts (.arrayClass .int) (by decide +kernel)) rfl hK hP hD hS hA (fun _ => rfl) (by decide) rfl (by decide) (Nat.le_of_ble_eq_true rfl) (Nat.le_of_ble_eq_true rfl) dX1_init_47 (fun q6 c6 H hK hP hD hS => ?_)
  have hK : va_K (dC, dI) vwCl [(c1, .boolean), (c2, .int), (c3, .int), (c4, .int), (c5, .long), (c6, .int)] s := hK
  have hP : va_P (dC, dI) vwCl [(h0, .inr (1, [.ref q1, .ref q2, .ref q3, .ref q4, .ref q5, .long 0, .null, .int 0, .null, .int 0, .int 0, .int 0, .int 0])), (q1, .inl (c1, 32, .inl (fun _ => 0))), (q2, .inl (c2, 32, .inl (fun _ => 0))), (q3, .inl (c3, 32, .inl (fun _ => 0))), (q4, .inl (c4, 32, .inl (fun _ => 0))), (q5, .inl (c5, 32, .inr (.inl (fun _ => 0)))), (q6, .inl (c6, 16, .inl (fun _ => 0)))] H := hP
  have hD : va_D A [(h0, .inr (1, [.ref q1, .ref q2, .ref q3, .ref q4, .ref q5, .long 0, .null, .int 0, .null, .int 0, .int 0, .int 0, .int 0])), (q1, .inl (c1, 32, .inl (fun _ => 0))), (q2, .inl (c2, 32, .inl (fun _ => 0))), (q3, .inl (c3, 32, .inl (fun _ => 0))), (q4, .inl (c4, 32, .inl (fun _ => 0))), (q5, .inl (c5, 32, .inr (.inl (fun _ => 0)))), (q6, .inl (c6, 16, .inl (fun _ => 0)))] := hD
  refine W.widen (k := 6) (n := 176) (by omega) (by omega) ?_
  refine va_putF (D := (dC, dI)) (ci := 1) (v := .ref q6) (ty := (.array .int)) (C := RX1) (T := TX1) (N := 13) hx hb hts hin0 tyX1 tyX1_ok nmX1 hown hK hP hD hS 0 rfl rfl 6 (by decide) fl_extras (fun _ h9 => h9) rfl hin rfl (by decide +kernel) rfl rfl (Nat.le_of_ble_eq_true rfl) dX1_init_49 (fun H locs hP hD hS => ?_)
  have hP : va_P (dC, dI) vwCl [(h0, .inr (1, [.ref q1, .ref q2, .ref q3, .ref q4, .ref q5, .long 0, .ref q6, .int 0, .null, .int 0, .int 0, .int 0, .int 0])), (q1, .inl (c1, 32, .inl (fun _ => 0))), (q2, .inl (c2, 32, .inl (fun _ => 0))), (q3, .inl (c3, 32, .inl (fun _ => 0))), (q4, .inl (c4, 32, .inl (fun _ => 0))), (q5, .inl (c5, 32, .inr (.inl (fun _ => 0)))), (q6, .inl (c6, 16, .inl (fun _ => 0)))] H := hP
  have hD : va_D A [(h0, .inr (1, [.ref q1, .ref q2, .ref q3, .ref q4, .ref q5, .long 0, .ref q6, .int 0, .null, .int 0, .int 0, .int 0, .int 0])), (q1, .inl (c1, 32, .inl (fun _ => 0))), (q2, .inl (c2, 32, .inl (fun _ => 0))), (q3, .inl (c3, 32, .inl (fun _ => 0))), (q4, .inl (c4, 32, .inl (fun _ => 0))), (q5, .inl (c5, 32, .inr (.inl (fun _ => 0)))), (q6, .inl (c6, 16, .inl (fun _ => 0)))] := hD
  refine lv_aload_n hx hb dX1_init_52 rfl (lv_at hl 0 rfl) ?_
  refine lv_bipush (v := 40) hx hb dX1_init_53 (by decide) ?_
  refine va_newa (atype := .int) (ty := .int) (N' := 40) (a0 := (40, .inl (fun _ => 0))) hx hb (hts (.arrayClass .int) (by decide +kernel)) rfl hK hP hD hS hA (fun _ => rfl) (by decide) rfl (by decide) (Nat.le_of_ble_eq_true rfl) (Nat.le_of_ble_eq_true rfl) dX1_init_55 (fun q7 c7 H hK hP hD hS => ?_)
  have hK : va_K (dC, dI) vwCl [(c1, .boolean), (c2, .int), (c3, .int), (c4, .int), (c5, .long), (c6, .int), (c7, .int)] s := hK
  have hP : va_P (dC, dI) vwCl [(h0, .inr (1, [.ref q1, .ref q2, .ref q3, .ref q4, .ref q5, .long 0, .ref q6, .int 0, .null, .int 0, .int 0, .int 0, .int 0])), (q1, .inl (c1, 32, .inl (fun _ => 0))), (q2, .inl (c2, 32, .inl (fun _ => 0))), (q3, .inl (c3, 32, .inl (fun _ => 0))), (q4, .inl (c4, 32, .inl (fun _ => 0))), (q5, .inl (c5, 32, .inr (.inl (fun _ => 0)))), (q6, .inl (c6, 16, .inl (fun _ => 0))), (q7, .inl (c7, 40, .inl (fun _ => 0)))] H := hP
  have hD : va_D A [(h0, .inr (1, [.ref q1, .ref q2, .ref q3, .ref q4, .ref q5, .long 0, .ref q6, .int 0, .null, .int 0, .int 0, .int 0, .int 0])), (q1, .inl (c1, 32, .inl (fun _ => 0))), (q2, .inl (c2, 32, .inl (fun _ => 0))), (q3, .inl (c3, 32, .inl (fun _ => 0))), (q4, .inl (c4, 32, .inl (fun _ => 0))), (q5, .inl (c5, 32, .inr (.inl (fun _ => 0)))), (q6, .inl (c6, 16, .inl (fun _ => 0))), (q7, .inl (c7, 40, .inl (fun _ => 0)))] := hD
  refine W.widen (k := 7) (n := 216) (by omega) (by omega) ?_
  refine va_putF (D := (dC, dI)) (ci := 1) (v := .ref q7) (ty := (.array .int)) (C := RX1) (T := TX1) (N := 13) hx hb hts hin0 tyX1 tyX1_ok nmX1 hown hK hP hD hS 0 rfl rfl 8 (by decide) fl_posted (fun _ h9 => h9) rfl hin rfl (by decide +kernel) rfl rfl (Nat.le_of_ble_eq_true rfl) dX1_init_57 (fun H locs hP hD hS => ?_)
  have hP : va_P (dC, dI) vwCl [(h0, .inr (1, [.ref q1, .ref q2, .ref q3, .ref q4, .ref q5, .long 0, .ref q6, .int 0, .ref q7, .int 0, .int 0, .int 0, .int 0])), (q1, .inl (c1, 32, .inl (fun _ => 0))), (q2, .inl (c2, 32, .inl (fun _ => 0))), (q3, .inl (c3, 32, .inl (fun _ => 0))), (q4, .inl (c4, 32, .inl (fun _ => 0))), (q5, .inl (c5, 32, .inr (.inl (fun _ => 0)))), (q6, .inl (c6, 16, .inl (fun _ => 0))), (q7, .inl (c7, 40, .inl (fun _ => 0)))] H := hP
  have hD : va_D A [(h0, .inr (1, [.ref q1, .ref q2, .ref q3, .ref q4, .ref q5, .long 0, .ref q6, .int 0, .ref q7, .int 0, .int 0, .int 0, .int 0])), (q1, .inl (c1, 32, .inl (fun _ => 0))), (q2, .inl (c2, 32, .inl (fun _ => 0))), (q3, .inl (c3, 32, .inl (fun _ => 0))), (q4, .inl (c4, 32, .inl (fun _ => 0))), (q5, .inl (c5, 32, .inr (.inl (fun _ => 0)))), (q6, .inl (c6, 16, .inl (fun _ => 0))), (q7, .inl (c7, 40, .inl (fun _ => 0)))] := hD
  refine lv_aload_n hx hb dX1_init_60 rfl (lv_at hl 0 rfl) ?_
  refine lv_iconst (v := (-1)) hx hb dX1_init_61 (by decide) ?_
  refine va_put (D := (dC, dI)) (ci := 1) (v := .int (-1)) (ty := .int) (C := RX1) (T := TX1) (N := 13) hx hb hts hin0 tyX1 tyX1_ok nmX1 hown hK hP hD hS 0 rfl rfl 9 (by decide) fl_active (fun _ h9 => h9) rfl (by decide +kernel) rfl rfl (Nat.le_of_ble_eq_true rfl) dX1_init_62 (fun H locs hP hD hS => ?_)
  have hP : va_P (dC, dI) vwCl [(h0, .inr (1, [.ref q1, .ref q2, .ref q3, .ref q4, .ref q5, .long 0, .ref q6, .int 0, .ref q7, .int (-1), .int 0, .int 0, .int 0])), (q1, .inl (c1, 32, .inl (fun _ => 0))), (q2, .inl (c2, 32, .inl (fun _ => 0))), (q3, .inl (c3, 32, .inl (fun _ => 0))), (q4, .inl (c4, 32, .inl (fun _ => 0))), (q5, .inl (c5, 32, .inr (.inl (fun _ => 0)))), (q6, .inl (c6, 16, .inl (fun _ => 0))), (q7, .inl (c7, 40, .inl (fun _ => 0)))] H := hP
  have hD : va_D A [(h0, .inr (1, [.ref q1, .ref q2, .ref q3, .ref q4, .ref q5, .long 0, .ref q6, .int 0, .ref q7, .int (-1), .int 0, .int 0, .int 0])), (q1, .inl (c1, 32, .inl (fun _ => 0))), (q2, .inl (c2, 32, .inl (fun _ => 0))), (q3, .inl (c3, 32, .inl (fun _ => 0))), (q4, .inl (c4, 32, .inl (fun _ => 0))), (q5, .inl (c5, 32, .inr (.inl (fun _ => 0)))), (q6, .inl (c6, 16, .inl (fun _ => 0))), (q7, .inl (c7, 40, .inl (fun _ => 0)))] := hD
  refine lv_aload_n hx hb dX1_init_65 rfl (lv_at hl 0 rfl) ?_
  refine lv_iconst (v := (-1)) hx hb dX1_init_66 (by decide) ?_
  refine va_put (D := (dC, dI)) (ci := 1) (v := .int (-1)) (ty := .int) (C := RX1) (T := TX1) (N := 13) hx hb hts hin0 tyX1 tyX1_ok nmX1 hown hK hP hD hS 0 rfl rfl 12 (by decide) fl_change (fun _ h9 => h9) rfl (by decide +kernel) rfl rfl (Nat.le_of_ble_eq_true rfl) dX1_init_67 (fun H locs hP hD hS => ?_)
  have hP : va_P (dC, dI) vwCl [(h0, .inr (1, [.ref q1, .ref q2, .ref q3, .ref q4, .ref q5, .long 0, .ref q6, .int 0, .ref q7, .int (-1), .int 0, .int 0, .int (-1)])), (q1, .inl (c1, 32, .inl (fun _ => 0))), (q2, .inl (c2, 32, .inl (fun _ => 0))), (q3, .inl (c3, 32, .inl (fun _ => 0))), (q4, .inl (c4, 32, .inl (fun _ => 0))), (q5, .inl (c5, 32, .inr (.inl (fun _ => 0)))), (q6, .inl (c6, 16, .inl (fun _ => 0))), (q7, .inl (c7, 40, .inl (fun _ => 0)))] H := hP
  have hD : va_D A [(h0, .inr (1, [.ref q1, .ref q2, .ref q3, .ref q4, .ref q5, .long 0, .ref q6, .int 0, .ref q7, .int (-1), .int 0, .int 0, .int (-1)])), (q1, .inl (c1, 32, .inl (fun _ => 0))), (q2, .inl (c2, 32, .inl (fun _ => 0))), (q3, .inl (c3, 32, .inl (fun _ => 0))), (q4, .inl (c4, 32, .inl (fun _ => 0))), (q5, .inl (c5, 32, .inr (.inl (fun _ => 0)))), (q6, .inl (c6, 16, .inl (fun _ => 0))), (q7, .inl (c7, 40, .inl (fun _ => 0)))] := hD
  exact W.vret hx hb hr (fun t ht hW => ⟨⟨m0, rfl, rfl, (fun k => match k with | 0 => h0 | 1 => q1 | 2 => q2 | 3 => q3 | 4 => q4 | 5 => q5 | 6 => q6 | 7 => q7 | _ => 0), (fun k => match k with | 1 => c1 | 2 => c2 | 3 => c3 | 4 => c4 | 5 => c5 | 6 => c6 | 7 => c7 | _ => c1), rfl, by rw [ht]; exact hP.sub [0, 1, 2, 3, 4, 5, 6, 7] rfl, va_K.moved hW.alike (hK.sub [0, 1, 2, 3, 4, 5, 6] rfl), hD.sub [0, 1, 2, 3, 4, 5, 6, 7] (by decide) rfl⟩, hS.F ht⟩) hS.2.2 dX1_init_70
end
section
set_option maxRecDepth 20000 in
theorem gLM0 : GoodIn lw_tbl wM0 := goodIn_p wM0 [258, 308, 261, 269, 273, 348, 344, 352, 356, 360, 364, 368, 297, 372, 376, 380, 285, 281, 277, 293, 316, 312, 255, 265, 289, 301, 305, 320, 324, 328, 332, 336, 340] (by decide +kernel) (by decide +kernel)
theorem gLM_any {b : Cond} (hb : b ∈ wM0) : GoodIn lw_tbl (b :: wM0) := fun w h => by
  rcases List.mem_cons.mp h with rfl | h
  · exact gLM0 _ hb
  · exact gLM0 w h
set_option maxRecDepth 20000 in
theorem gLM_make : GoodIn lw_tbl (wsV RL 17 RX1 yM_make wM_make) := goodIn_app (goodIn_of _ (by decide +kernel)) (gLM_any eM_make)
set_option maxRecDepth 20000 in
theorem gLM_resume : GoodIn lw_tbl (wsV RL 22 RX1 yM_resume wM_resume) := goodIn_app (goodIn_of _ (by decide +kernel)) (gLM_any eM_resume)
set_option maxRecDepth 20000 in
theorem gLM_suspend : GoodIn lw_tbl (wsV RL 27 RX1 yM_suspend wM_suspend) := goodIn_app (goodIn_of _ (by decide +kernel)) (gLM_any eM_suspend)
set_option maxRecDepth 20000 in
theorem gLM_end : GoodIn lw_tbl (wsV RL 31 RX1 yM_end wM_end) := goodIn_app (goodIn_of _ (by decide +kernel)) (gLM_any eM_end)
set_option maxRecDepth 20000 in
theorem gLM_await : GoodIn lw_tbl (wsV RL 36 RX1 yM_await wM_await) := goodIn_app (goodIn_of _ (by decide +kernel)) (gLM_any eM_await)
set_option maxRecDepth 20000 in
theorem gLM_signal : GoodIn lw_tbl (wsV RL 40 RX1 yM_signal wM_signal) := goodIn_app (goodIn_of _ (by decide +kernel)) (gLM_any eM_signal)
set_option maxRecDepth 20000 in
theorem gLM_post : GoodIn lw_tbl (wsV RL 44 RX1 yM_post wM_post) := goodIn_app (goodIn_of _ (by decide +kernel)) (gLM_any eM_post)
set_option maxRecDepth 20000 in
theorem gLM_step : GoodIn lw_tbl (wsV RL 48 RX1 yM_step wM_step) := goodIn_app (goodIn_of _ (by decide +kernel)) (gLM_any eM_step)
set_option maxRecDepth 20000 in
theorem gLM_work : GoodIn lw_tbl (wsV RL 52 RX1 yM_work wM_work) := goodIn_app (goodIn_of _ (by decide +kernel)) (gLM_any eM_work)
set_option maxRecDepth 20000 in
theorem gLM_take : GoodIn lw_tbl (wsV RL 56 RX1 yM_take wM_take) := goodIn_app (goodIn_of _ (by decide +kernel)) (gLM_any eM_take)
set_option maxRecDepth 20000 in
theorem gLM_rate : GoodIn lw_tbl (wsV RL 61 RX1 yM_rate wM_rate) := goodIn_app (goodIn_of _ (by decide +kernel)) (gLM_any eM_rate)
set_option maxRecDepth 20000 in
theorem gLM_yield : GoodIn lw_tbl (wsV RL 66 RX1 yM_yield wM_yield) := goodIn_app (goodIn_of _ (by decide +kernel)) (gLM_any eM_yield)
set_option maxRecDepth 20000 in
theorem gLM_active : GoodIn lw_tbl (wsV RL 70 RX1 yM_active wM_active) := goodIn_app (goodIn_of _ (by decide +kernel)) (gLM_any eM_active)
set_option maxRecDepth 20000 in
theorem gLM_present : GoodIn lw_tbl (wsV RL 74 RX1 yM_present wM_present) := goodIn_app (goodIn_of _ (by decide +kernel)) (gLM_any eM_present)
set_option maxRecDepth 20000 in
theorem gLM_wanted : GoodIn lw_tbl (wsV RL 78 RX1 yM_wanted wM_wanted) := goodIn_app (goodIn_of _ (by decide +kernel)) (gLM_any eM_wanted)
set_option maxRecDepth 20000 in
theorem gLM_here : GoodIn lw_tbl (wsV RL 82 RX1 yM_here wM_here) := goodIn_app (goodIn_of _ (by decide +kernel)) (gLM_any eM_here)
set_option maxRecDepth 20000 in
theorem gLM_place : GoodIn lw_tbl (wsV RL 86 RX1 yM_place wM_place) := goodIn_app (goodIn_of _ (by decide +kernel)) (gLM_any eM_place)
set_option maxRecDepth 20000 in
theorem gLM_priority : GoodIn lw_tbl (wsV RL 90 RX1 yM_priority wM_priority) := goodIn_app (goodIn_of _ (by decide +kernel)) (gLM_any eM_priority)
set_option maxRecDepth 20000 in
theorem gLM_row : GoodIn lw_tbl (wsV RL 94 RX1 yM_row wM_row) := goodIn_app (goodIn_of _ (by decide +kernel)) (gLM_any eM_row)
set_option maxRecDepth 20000 in
theorem gLM_at : GoodIn lw_tbl (wsV RL 98 RX1 yM_at wM_at) := goodIn_app (goodIn_of _ (by decide +kernel)) (gLM_any eM_at)
set_option maxRecDepth 20000 in
theorem gLM_extra : GoodIn lw_tbl (wsV RL 102 RX1 yM_extra wM_extra) := goodIn_app (goodIn_of _ (by decide +kernel)) (gLM_any eM_extra)
set_option maxRecDepth 20000 in
theorem gLM_posted : GoodIn lw_tbl (wsV RL 106 RX1 yM_posted wM_posted) := goodIn_app (goodIn_of _ (by decide +kernel)) (gLM_any eM_posted)
/-! THE CLAIM OUT OF ONE WALK OF THE LAW'S BODY. Your part is whole_start (and what it stands on); all else here is the same for every law, but numbers. -/
def R_law : String := "ProcessRoomLaw"
def lw_P (b : Addr) (xs : List Int32) (args : Array Value) (s : State) : Prop := args = #[.ref b] ∧ s.IntsAt b xs ∧ xs.length ≤ 2048 ∧ (Jvm.Cond.and given_1 narrow_1).before args s = true
def lw_Q (_ : Array Value) (s : State) (o : Outcome) (t : State) : Prop := o = .returned (some (.int 1)) ∧ Framed s o t [] 15 425
def lw_Z (below : List Frame) (a : Array Value) (s : State) : State → Prop := fun t => ∃ o, t.status = .running ∧ Ended t below o ∧ lw_Q a s o t
/-- the law's own end, with 1 on the stack, nothing written that was there before, its room as the claim has it -/
theorem lw_ret {p : Program} {l : Launch} {e : Env} {s : State} {m : MethodId} {below : List Frame} {meth : Method} {c : Code} {b : Nat} (hx : p.tables.exec = Jvm.exec) (hb : c.code = code) (hr : meth.sig.returnType = ret) (hlocks : meth.locks = false) {pc : Nat} {H : Heap} {ls : Array Slot} (hdg : decode code pc = .ok (.ireturn, 1)) : W p l e room_1 s m #[Value.ref b] below meth c H [] 15 425 (lw_Z below #[Value.ref b] s) (F0 m pc ls [.int 1]) := by
  intro T hT X
  obtain ⟨fs, hret, hrun, hended, hW, hframe⟩ := X.leave (v := some (.int 1)) (hlocks := hlocks) (fun h => by rw [hr] at h; cases h)
  have hmeth' : T.vm.method? m = some meth := X.method'
  refine ⟨T.setFrames fs, ?_, .returned (some (.int 1)), hrun, hended, rfl, ⟨_, rfl⟩, hW, hframe⟩
  jvm_step X.here [X.here.top, hx, hb, hdg, hmeth', hr, ret, narrow_b1]
  (try refine ⟨rfl, ?_⟩); (try refine ⟨rfl, ?_⟩)
  first | (intro acts; rw [hret _ acts rfl rfl rfl]) | rw [hret _ _ rfl rfl rfl]
  exact Steps.refl _
/-- what holds at the law's entry: the machine, the code, the tables' words (any of lw_tbl by 'hts w (by decide +kernel)'), the script of L ints xs at the cell b, what the Statement gives of the start (any of its parts by flat_of_before) -/
def lw_At (p : Program) (s : State) (m : MethodId) (meth : Method) (c : Code) (b L : Nat) (xs : Nat → Int32) : Prop :=
  p.tables.exec = Jvm.exec ∧ c.code = code ∧ meth.sig.returnType = ret ∧ c.maxLocals = 4 ∧ s.vm.findClass R_law = some m.cls ∧ (∀ w ∈ lw_tbl, w.before #[Value.ref b] s = true) ∧ va_X b L xs s s.heap ∧ b < s.heap.size ∧ meth.locks = false ∧ (Jvm.Cond.and given_1 narrow_1).before #[Value.ref b] s = true
end
section
theorem k_n32 {j : Nat} (h : j < 32) : ¬ (32 : Int32) ≤ nI j := k_nle (b := 32) h (by omega)
/-- the i-th of a list, counted from b -/
def k_nth (i : Int32) : List Nat → Int32 → Int32
  | [], _ => -1
  | p :: t, b => if b = i then nI p else k_nth i t (b + 1)
theorem k_len (a : Nat) : ∀ (L : List Nat), L.Nodup → L.length ≤ (L.filter (fun p => decide (p ≠ a))).length + 1 := by
  intro L
  induction L with
  | nil => intro _; simp
  | cons x t ih =>
    intro h
    rw [List.nodup_cons] at h
    by_cases hx : x = a
    · subst hx
      have e : t.filter (fun p => decide (p ≠ x)) = t := List.filter_eq_self.mpr (fun q hq => by
        have : q ≠ x := fun e => h.1 (e ▸ hq)
        simp [this])
      rw [List.filter_cons, if_neg (by simp), e, List.length_cons]
      exact Nat.le_refl _
    · have := ih h.2
      simp [hx] at this ⊢
      omega
theorem k_pig : ∀ (n : Nat) (L : List Nat), L.Nodup → (∀ p ∈ L, p < n) → L.length ≤ n := by
  intro n
  induction n with
  | zero =>
    intro L _ h
    cases L with
    | nil => simp
    | cons x t => exact absurd (h x List.mem_cons_self) (Nat.not_lt_zero _)
  | succ n ih =>
    intro L hn h
    have h1 := k_len n L hn
    have h2 := ih (L.filter (fun p => decide (p ≠ n))) (hn.filter _) (fun p hp => by
      rw [List.mem_filter] at hp
      have := h p hp.1
      have h3 : p ≠ n := by simpa using hp.2
      omega)
    omega
theorem rp_isProcess {q : Nat} (h : q < 32) : rf_isProcess (nI q) = 1 := by
  unfold rf_isProcess
  rw [if_neg (nI_pos (by omega)), if_neg (k_n32 (j := q) h)]
/-- the line: the processes that are in a row, in the order in which they entered -/
def rRep (u : RS) (L : List Nat) : Prop := ra_lineLength u = nI L.length ∧ L.Nodup ∧ (∀ p ∈ L, p < 32) ∧ (∀ (k : Nat) (h : k < L.length), ra_line u k = nI L[k]) ∧ (∀ p, p < 32 → (ra_rows u p = 0 ↔ p ∉ L))
theorem rRep.len {u : RS} {L : List Nat} (h : rRep u L) : L.length ≤ 32 := k_pig 32 L h.2.1 h.2.2.1
theorem rp_atL {u : RS} {L : List Nat} (h : rRep u L) (r i : Int32) : ∀ (n j : Nat) (x3 : Int32), j + n = 33 → j ≤ L.length → rl_at u r i n x3 (nI j) = k_nth i ((L.drop j).filter (fun p => decide (ra_rows u p = r))) x3 := by
  have hlen := h.len
  intro n
  induction n with
  | zero => intro j x3 h1 h2; omega
  | succ n ih =>
    intro j x3 h1 h2
    simp only [rl_at]
    rcases Nat.lt_or_ge j L.length with hlt | hge
    · have hp : L[j] < 32 := h.2.2.1 _ (List.getElem_mem hlt)
      rw [h.1, if_neg (k_nle hlt (by omega)), if_neg (k_n32 (j := j) (by omega)), k_clamp (by omega), h.2.2.2.1 j hlt, rp_isProcess hp, if_neg (by decide), k_clamp (by omega), List.drop_eq_getElem_cons hlt, List.filter_cons, nI_1]
      by_cases hr : ra_rows u L[j] = r
      · have hd : decide (ra_rows u L[j] = r) = true := by simpa using hr
        rw [if_pos hr, if_pos hd]
        show _ = if x3 = i then nI L[j] else k_nth i (List.filter (fun p => decide (ra_rows u p = r)) (List.drop (j + 1) L)) (x3 + 1)
        by_cases hi : x3 = i
        · rw [if_pos hi, if_pos hi]
        · rw [if_neg hi, if_neg hi]
          exact ih (j + 1) _ (by omega) (by omega)
      · have hd : ¬ decide (ra_rows u L[j] = r) = true := by simpa using hr
        rw [if_neg hr, if_neg hd]
        exact ih (j + 1) _ (by omega) (by omega)
    · have e : j = L.length := by omega
      subst e
      rw [h.1, if_pos (nI_le (Nat.le_refl _) (by omega)), List.drop_length]
      rfl
theorem rp_at {u : RS} {L : List Nat} (h : rRep u L) (r i : Int32) : rf_at u r i = k_nth i (L.filter (fun p => decide (ra_rows u p = r))) 0 := by
  have := rp_atL h r i 33 0 0 (by omega) (by omega)
  rw [List.drop_zero] at this
  exact this
/-- leave: the line without that one; no other field changes -/
theorem rp_leaveL (q : Nat) (hq : q < 32) (L : List Nat) (hL : L.length ≤ 32) (hb : ∀ p ∈ L, p < 32) : ∀ (n j : Nat) (u2 : RS) (K : List Nat), j + n = 33 → j ≤ L.length → K = (L.take j).filter (fun p => decide (p ≠ q)) → ra_lineLength u2 = nI L.length →
    (∀ (k : Nat) (h : k < K.length), ra_line u2 k = nI K[k]) → (∀ (k : Nat) (h : k < L.length), j ≤ k → ra_line u2 k = nI L[k]) →
    ∃ li : Nat → Int32, rl_leave (nI q) n u2 (nI K.length) (nI j) = rs_lineLength (rs_line u2 li) (nI (L.filter (fun p => decide (p ≠ q))).length) ∧ ∀ (k : Nat) (h : k < (L.filter (fun p => decide (p ≠ q))).length), li k = nI (L.filter (fun p => decide (p ≠ q)))[k] := by
  intro n
  induction n with
  | zero => intro j u2 K h1 h2; omega
  | succ n ih =>
    intro j u2 K h1 h2 hK hlen hkept hrest
    simp only [rl_leave]
    have hKl : K.length ≤ j := by
      rw [hK]
      exact Nat.le_trans (List.length_filter_le _ _) (by rw [List.length_take]; omega)
    rcases Nat.lt_or_ge j L.length with hlt | hge
    · have hp : L[j] < 32 := hb _ (List.getElem_mem hlt)
      rw [hlen, if_neg (k_nle hlt (by omega)), if_neg (k_n32 (j := j) (by omega)), k_clamp (by omega), hrest j hlt (Nat.le_refl _), k_clamp (by omega), nI_1, nI_1]
      have ht : L.take (j + 1) = L.take j ++ [L[j]] := List.take_succ_eq_append_getElem hlt
      by_cases he : L[j] = q
      · rw [if_pos (by rw [he])]
        refine ih (j + 1) u2 K (by omega) (by omega) ?_ hlen hkept (fun k h hk => hrest k h (by omega))
        rw [ht, List.filter_append, hK]
        simp [he]
      · rw [if_neg (fun e => he ((nI_eq (by omega) (by omega)).mp e))]
        obtain ⟨li, e1, e2⟩ := ih (j + 1) (rs_line u2 (upd (ra_line u2) K.length (nI L[j]))) (K ++ [L[j]]) (by omega) (by omega) (by rw [ht, List.filter_append, hK]; simp [he]) hlen
          (fun k h => by
            show upd (ra_line u2) K.length (nI L[j]) k = _
            by_cases hk : k = K.length
            · subst hk
              rw [pk_us]
              simp
            · rw [pk_un hk]
              have : k < K.length := by simp at h; omega
              rw [hkept k this, List.getElem_append_left this])
          (fun k h hk => by
            show upd (ra_line u2) K.length (nI L[j]) k = _
            rw [pk_un (by omega)]
            exact hrest k h (by omega))
        refine ⟨li, ?_, e2⟩
        rw [List.length_append] at e1
        exact e1
    · have e : j = L.length := by omega
      subst e
      rw [hlen, if_pos (nI_le (Nat.le_refl _) (by omega))]
      rw [List.take_length] at hK
      exact ⟨ra_line u2, by rw [← hK]; rfl, by rw [← hK]; exact hkept⟩
theorem rp_leave {u : RS} {L : List Nat} (h : rRep u L) {q : Nat} (hq : q < 32) : ∃ (li : Nat → Int32) (n : Int32), rf_leave u (nI q) = rs_lineLength (rs_line (rs_rows u (upd (ra_rows u) q 0)) li) n ∧ rRep (rf_leave u (nI q)) (L.filter (fun p => decide (p ≠ q))) := by
  obtain ⟨li, e1, e2⟩ := rp_leaveL q hq L h.len h.2.2.1 33 0 (rs_rows u (upd (ra_rows u) q 0)) [] (by omega) (by omega) (by simp) h.1 (fun k hk => absurd hk (Nat.not_lt_zero _)) (fun k hk _ => h.2.2.2.1 k hk)
  have e : rf_leave u (nI q) = rs_lineLength (rs_line (rs_rows u (upd (ra_rows u) q 0)) li) (nI (L.filter (fun p => decide (p ≠ q))).length) := by
    unfold rf_leave
    rw [rp_isProcess hq, if_neg (by decide), k_clamp (by omega)]
    exact e1
  refine ⟨li, _, e, ?_⟩
  rw [e]
  refine ⟨rfl, h.2.1.filter _, fun p hp => h.2.2.1 p (List.mem_filter.mp hp).1, e2, fun p hp => ?_⟩
  show upd (ra_rows u) q 0 p = 0 ↔ _
  by_cases hpq : p = q
  · subst hpq
    rw [pk_us]
    simp
  · rw [pk_un hpq, h.2.2.2.2 p hp, List.mem_filter]
    simp [hpq]
/-- enter: at the line's end -/
theorem rp_enter {u : RS} {L : List Nat} (h : rRep u L) {q : Nat} (hq : q < 32) (hn : q ∉ L) {r : Int32} (hr : r ≠ 0) : rf_enter u (nI q) r = rs_lineLength (rs_line (rs_rows u (upd (ra_rows u) q r)) (upd (ra_line u) L.length (nI q))) (nI (L.length + 1)) ∧ rRep (rf_enter u (nI q) r) (L ++ [q]) := by
  have hnd : (q :: L).Nodup := List.nodup_cons.mpr ⟨hn, h.2.1⟩
  have hlen : L.length + 1 ≤ 32 := k_pig 32 (q :: L) hnd (fun p hp => by
    rcases List.mem_cons.mp hp with rfl | hp
    · exact hq
    · exact h.2.2.1 p hp)
  have e : rf_enter u (nI q) r = rs_lineLength (rs_line (rs_rows u (upd (ra_rows u) q r)) (upd (ra_line u) L.length (nI q))) (nI (L.length + 1)) := by
    unfold rf_enter
    rw [rp_isProcess hq, if_neg (by decide), h.1, if_neg (k_n32 (j := L.length) (by omega)), k_clamp (by omega), k_clamp (by omega), nI_1]
  refine ⟨e, ?_⟩
  rw [e]
  refine ⟨by rw [List.length_append]; rfl, ?_, fun p hp => ?_, fun k hk => ?_, fun p hp => ?_⟩
  · exact (List.perm_append_singleton q L).nodup_iff.mpr hnd
  · rcases List.mem_append.mp hp with hp | hp
    · exact h.2.2.1 p hp
    · rw [List.mem_singleton.mp hp]
      exact hq
  · show upd (ra_line u) L.length (nI q) k = _
    by_cases hk2 : k = L.length
    · subst hk2
      rw [pk_us]
      simp
    · rw [pk_un hk2]
      have : k < L.length := by simp at hk; omega
      rw [h.2.2.2.1 k this, List.getElem_append_left this]
  · show upd (ra_rows u) q r p = 0 ↔ _
    by_cases hpq : p = q
    · subst hpq
      rw [pk_us]
      simp [hr]
    · rw [pk_un hpq, h.2.2.2.2 p hp]
      simp [hpq]
end
section
/-- a row's number: ready rows 1 to 8, semaphores' rows 16 to 31 -/
def sVal (k : Nat) : Prop := (1 ≤ k ∧ k ≤ 8) ∨ (16 ≤ k ∧ k < 32)
def sOk (u : RS) (x : Int32) : Prop := x = -1 ∨ ∃ a : Nat, a < 32 ∧ x = nI a ∧ ra_priorities u a ≠ 0
/-- class and reference hold the same room; L: who is in a row, in the order of entering; t bounds the reference's clock -/
def sK (t : Nat) (L : List Nat) (u : RS) (v : MS) : Prop :=
  rRep u L ∧
  (∀ p : Nat, p < 32 → ma_rows v p = ra_rows u p ∧ (ma_made v p = 0 ↔ ra_priorities u p = 0) ∧ ma_places v p = ra_places u p ∧ (ra_priorities u p ≠ 0 → ma_priorities v p = ra_priorities u p ∧ ∃ k : Nat, ra_priorities u p = nI k ∧ 1 ≤ k ∧ k ≤ 8)) ∧
  (∀ p ∈ L, ra_priorities u p ≠ 0 ∧ ∃ k : Nat, ra_rows u p = nI k ∧ sVal k) ∧
  (∃ (w : Nat → Nat) (n : Nat), ma_now v = lN n ∧ n ≤ t ∧ (∀ p : Nat, p < 32 → ma_when v p = lN (w p) ∧ w p ≤ n) ∧ (∀ p ∈ L, w p < n) ∧ L.Pairwise (fun a b => w a < w b)) ∧
  (∀ k : Nat, k < 16 → ma_extras v k = ra_extras u k) ∧
  (∃ a : Nat, a ≤ 40 ∧ ra_postCount u = nI a ∧ ma_posts v = nI a ∧ ∀ k : Nat, k < a → ma_posted v k = ra_posts u k ∧ vp_in (ra_posts u k) 16) ∧
  (ma_active v = ra_active u ∧ ma_here v = ra_here u ∧ ma_wanted v = ra_wanted u ∧ (ra_wanted u = 0 ∨ ra_wanted u = 1) ∧ (ra_wanted u = 1 → ma_change v = ra_wantedOne u)) ∧
  sOk u (ra_active u) ∧ (ma_change v < 0 ∨ vp_in (ma_change v) 32)
/-- the present one, if there is one, is made and in no row -/
def sPr (L : List Nat) (u : RS) : Prop := rf_present u = -1 ∨ ∃ a : Nat, a < 32 ∧ rf_present u = nI a ∧ ra_priorities u a ≠ 0 ∧ a ∉ L
def sSim (t : Nat) (u : RS) (v : MS) : Prop := ∃ L : List Nat, sK t L u v ∧ sPr L u
theorem sOk.range {u : RS} {x : Int32} (h : sOk u x) : x < 0 ∨ vp_in x 32 := by
  rcases h with rfl | ⟨a, ha, rfl, -⟩
  · exact Or.inl (by decide)
  · exact Or.inr (vp_in_nI ha (by omega))
theorem ss_rInv {t : Nat} {u : RS} {v : MS} (h : sSim t u v) : rInv u := by
  obtain ⟨L, ⟨h1, -, -, -, -, ⟨a, ha, e1, -⟩, h7, -⟩, -⟩ := h
  have := h1.len
  exact ⟨by rw [h1.1]; exact k_le0 (by omega), by rw [e1]; exact k_le0 (by omega), h7.2.2.2.1⟩
theorem sK.mInv {t : Nat} {L : List Nat} {u : RS} {v : MS} (h : sK t L u v) : mInv v := by
  obtain ⟨-, -, -, -, -, ⟨a, ha, -, e2, e3⟩, h7, h8, h9⟩ := h
  exact ⟨by rw [h7.1]; exact h8.range, h9, ⟨a, ha, e2, fun k hk => by rw [(e3 k hk).1]; exact (e3 k hk).2⟩, by rw [h7.2.2.1]; exact h7.2.2.2.1⟩
theorem ss_mInv {t : Nat} {u : RS} {v : MS} (h : sSim t u v) : mInv v := by
  obtain ⟨L, h, -⟩ := h
  exact h.mInv
theorem sK.mono {t t' : Nat} {L : List Nat} {u : RS} {v : MS} (h : sK t L u v) (ht : t ≤ t') : sK t' L u v := by
  obtain ⟨h1, h2, h3, ⟨w, n, e1, e2, e3⟩, h5, h6, h7, h8, h9⟩ := h
  exact ⟨h1, h2, h3, ⟨w, n, e1, by omega, e3⟩, h5, h6, h7, h8, h9⟩
theorem ss_mono {t t' : Nat} {u : RS} {v : MS} (h : sSim t u v) (ht : t ≤ t') : sSim t' u v := by
  obtain ⟨L, h, hp⟩ := h
  exact ⟨L, h.mono ht, hp⟩
theorem ss_start : sSim 0 r0 m0 := by
  refine ⟨[], ⟨⟨rfl, List.nodup_nil, fun p hp => absurd hp List.not_mem_nil, fun k hk => absurd hk (Nat.not_lt_zero _), fun p _ => ⟨fun _ => List.not_mem_nil, fun _ => rfl⟩⟩, fun p _ => ⟨rfl, ⟨fun _ => rfl, fun _ => rfl⟩, rfl, fun h => absurd rfl h⟩, fun p hp => absurd hp List.not_mem_nil,
    ⟨fun _ => 0, 0, rfl, Nat.le_refl _, fun p _ => ⟨rfl, Nat.le_refl _⟩, fun p hp => absurd hp List.not_mem_nil, List.Pairwise.nil⟩, fun k _ => rfl, ⟨0, by omega, rfl, rfl, fun k hk => absurd hk (Nat.not_lt_zero _)⟩, ⟨rfl, rfl, rfl, Or.inl rfl, fun h => absurd h (by decide)⟩, Or.inl rfl, Or.inl (by decide)⟩, Or.inl rfl⟩
end
section
/-- the a-th of a list, or NONE -/
def k_sel (F : List Nat) (a : Nat) : Int32 := match F[a]? with
  | some p => nI p
  | none => -1
theorem k_nth_sel (a : Nat) (ha : a < 1000) : ∀ (F : List Nat) (b : Nat), b + F.length < 1000 → b ≤ a → k_nth (nI a) F (nI b) = k_sel F (a - b) := by
  intro F
  induction F with
  | nil => intro b _ _; simp [k_nth, k_sel]
  | cons p t ih =>
    intro b hb hba
    have hb' : b + (t.length + 1) < 1000 := hb
    unfold k_nth
    by_cases e : b = a
    · subst e
      rw [if_pos rfl, Nat.sub_self]
      rfl
    · rw [if_neg (fun q => e ((nI_eq (by omega) (by omega)).mp q)), nI_1, ih (b + 1) (by omega) (by omega)]
      have : a - b = (a - (b + 1)) + 1 := by omega
      rw [this]
      rfl
theorem k_nth_none (i : Int32) : ∀ (F : List Nat) (b : Nat), (∀ c : Nat, c < F.length → nI (b + c) ≠ i) → k_nth i F (nI b) = -1 := by
  intro F
  induction F with
  | nil => intro b _; rfl
  | cons p t ih =>
    intro b h
    unfold k_nth
    have h0 := h 0 (Nat.zero_lt_succ _)
    rw [Nat.add_zero] at h0
    rw [if_neg h0, nI_1]
    exact ih (b + 1) (fun c hc => by
      have := h (c + 1) (Nat.succ_lt_succ hc)
      rwa [show b + (c + 1) = b + 1 + c by omega] at this)
theorem k_cmp_le {a b : Nat} (ha : a < 4611686018427387904) (hb : b < 4611686018427387904) : lg_cmp (lN a) (lN b) ≤ 0 ↔ a ≤ b := by
  unfold lg_cmp
  by_cases h1 : b < a
  · rw [if_pos ((pk_lLT (by omega) (by omega)).mpr h1)]
    exact ⟨fun h => absurd h (by decide), fun h => absurd h (by omega)⟩
  · rw [if_neg (fun h => h1 ((pk_lLT (by omega) (by omega)).mp h))]
    by_cases h2 : a = b
    · rw [if_pos (by rw [h2])]
      exact ⟨fun _ => by omega, fun _ => by decide⟩
    · rw [if_neg (fun h => h2 ((pk_lEQ (by omega) (by omega)).mp h))]
      exact ⟨fun _ => by omega, fun _ => by decide⟩
theorem k_cmp_ge {a b : Nat} (ha : a < 4611686018427387904) (hb : b < 4611686018427387904) : 0 ≤ lg_cmp (lN a) (lN b) ↔ b ≤ a := by
  unfold lg_cmp
  by_cases h1 : b < a
  · rw [if_pos ((pk_lLT (by omega) (by omega)).mpr h1)]
    exact ⟨fun _ => by omega, fun _ => by decide⟩
  · rw [if_neg (fun h => h1 ((pk_lLT (by omega) (by omega)).mp h))]
    by_cases h2 : a = b
    · rw [if_pos (by rw [h2])]
      exact ⟨fun _ => by omega, fun _ => by decide⟩
    · rw [if_neg (fun h => h2 ((pk_lEQ (by omega) (by omega)).mp h))]
      exact ⟨fun h => absurd h (by decide), fun h => absurd h (by omega)⟩
/-- x is the one of least w among the first k that C holds of -/
def sBest (C : Nat → Prop) (w : Nat → Nat) (k : Nat) (x : Int32) : Prop := (x = -1 ∧ ∀ p : Nat, p < k → ¬ C p) ∨ ∃ q : Nat, q < k ∧ x = nI q ∧ C q ∧ ∀ p : Nat, p < k → C p → w q ≤ w p
theorem sBest.skip {C : Nat → Prop} {w : Nat → Nat} {k : Nat} {x : Int32} (h : sBest C w k x) (hc : ¬ C k) : sBest C w (k + 1) x := by
  rcases h with ⟨e, h⟩ | ⟨q, hq, e, h1, h2⟩
  · exact Or.inl ⟨e, fun p hp => by
      rcases Nat.lt_succ_iff_lt_or_eq.mp hp with h3 | h3
      · exact h p h3
      · rw [h3]; exact hc⟩
  · exact Or.inr ⟨q, by omega, e, h1, fun p hp hcp => by
      rcases Nat.lt_succ_iff_lt_or_eq.mp hp with h3 | h3
      · exact h2 p h3 hcp
      · rw [h3] at hcp; exact absurd hcp hc⟩
theorem sBest.keep {C : Nat → Prop} {w : Nat → Nat} {k q : Nat} {x : Int32} (h : sBest C w k x) (e : x = nI q) (hq : q < 32) (hk : k ≤ 32) (hw : w q ≤ w k) : sBest C w (k + 1) x := by
  rcases h with ⟨e2, h⟩ | ⟨q2, hq2, e2, h1, h2⟩
  · rw [e] at e2
    exact absurd e2 (fun h => absurd (h ▸ nI_pos' (n := q) (by omega) : (0 : Int32) ≤ -1) (by decide))
  · have e3 : q2 = q := (nI_eq (by omega) (by omega)).mp (e2.symm.trans e)
    subst e3
    exact Or.inr ⟨q2, by omega, e, h1, fun p hp hcp => by
      rcases Nat.lt_succ_iff_lt_or_eq.mp hp with h3 | h3
      · exact h2 p h3 hcp
      · rw [h3]; exact hw⟩
theorem sBest.take0 {C : Nat → Prop} {w : Nat → Nat} {k : Nat} {x : Int32} (h : sBest C w k x) (hx : x < 0) (hk : k ≤ 32) (hc : C k) : sBest C w (k + 1) (nI k) := by
  rcases h with ⟨e, h⟩ | ⟨q, hq, e, h1, h2⟩
  · exact Or.inr ⟨k, by omega, rfl, hc, fun p hp hcp => by
      rcases Nat.lt_succ_iff_lt_or_eq.mp hp with h3 | h3
      · exact absurd hcp (h p h3)
      · rw [h3]; exact Nat.le_refl _⟩
  · rw [e] at hx
    exact absurd hx (nI_pos (by omega))
theorem sBest.take1 {C : Nat → Prop} {w : Nat → Nat} {k q : Nat} {x : Int32} (h : sBest C w k x) (e : x = nI q) (hq : q < 32) (hk : k ≤ 32) (hc : C k) (hw : w k < w q) : sBest C w (k + 1) (nI k) := by
  rcases h with ⟨e2, h⟩ | ⟨q2, hq2, e2, h1, h2⟩
  · rw [e] at e2
    exact absurd e2 (fun h => absurd (h ▸ nI_pos' (n := q) (by omega) : (0 : Int32) ≤ -1) (by decide))
  · have e3 : q2 = q := (nI_eq (by omega) (by omega)).mp (e2.symm.trans e)
    subst e3
    exact Or.inr ⟨k, by omega, rfl, hc, fun p hp hcp => by
      rcases Nat.lt_succ_iff_lt_or_eq.mp hp with h3 | h3
      · have := h2 p h3 hcp; omega
      · rw [h3]; exact Nat.le_refl _⟩
theorem sf_find2 {v : MS} {r b x4 : Int32} {w : Nat → Nat} {C : Nat → Prop} (hw : ∀ p : Nat, p < 32 → ma_when v p = lN (w p) ∧ w p < 4611686018427387904) (hx4 : x4 < 0 ∨ vp_in x4 32)
    (hC : ∀ p : Nat, p < 32 → (C p ↔ ¬ ma_made v p = 0 ∧ ma_rows v p = r ∧ (x4 < 0 ∨ w x4.toNatClampNeg < w p))) :
    ∀ (n k : Nat) (x5 : Int32), k + n = 33 → k ≤ 32 → sBest C w k x5 → sBest C w 32 (ml_find2 v r b x4 n x5 (nI k)) := by
  intro n
  induction n with
  | zero => intro k x5 h1 h2; omega
  | succ n ih =>
    intro k x5 h1 h2 hb
    rcases Nat.lt_or_ge k 32 with hk | hk
    · have e32 : ¬ (32 : Int32) ≤ nI k := show ¬ nI 32 ≤ nI k from k_nle hk (by omega)
      have hA : sBest C w (k + 1) x5 → sBest C w 32 (ml_find2 v r b x4 n x5 (nI (k + 1))) := fun h => ih (k + 1) x5 (by omega) (by omega) h
      have hB : sBest C w (k + 1) (nI k) → sBest C w 32 (ml_find2 v r b x4 n (nI k) (nI (k + 1))) := fun h => ih (k + 1) (nI k) (by omega) (by omega) h
      simp only [ml_find2, if_neg e32, nI_1, k_clamp (show k < 2147483648 by omega)]
      generalize ml_find2 v r b x4 n x5 (nI (k + 1)) = RA at hA ⊢
      generalize ml_find2 v r b x4 n (nI k) (nI (k + 1)) = RB at hB ⊢
      by_cases hm : ma_made v k = 0
      · simp only [if_pos hm, ite_self]
        exact hA (hb.skip (fun h => ((hC k hk).mp h).1 hm))
      · by_cases hr : ma_rows v k = r
        · by_cases hl : x4 < 0 ∨ w x4.toNatClampNeg < w k
          · have hc : C k := (hC k hk).mpr ⟨hm, hr, hl⟩
            have fin : sBest C w 32 (if x5 < 0 then RB else if 0 ≤ lg_cmp (ma_when v k) (ma_when v x5.toNatClampNeg) then RA else RB) := by
              by_cases h5 : x5 < 0
              · rw [if_pos h5]
                exact hB (hb.take0 h5 h2 hc)
              · rw [if_neg h5]
                obtain ⟨q, hq, e, -, -⟩ : ∃ q : Nat, q < k ∧ x5 = nI q ∧ C q ∧ ∀ p : Nat, p < k → C p → w q ≤ w p := hb.resolve_left (fun h => h5 (by rw [h.1]; decide))
                rw [e, k_clamp (show q < 2147483648 by omega), (hw k hk).1, (hw q (by omega)).1]
                by_cases h6 : w q ≤ w k
                · rw [if_pos ((k_cmp_ge (hw k hk).2 (hw q (by omega)).2).mpr h6)]
                  exact hA (hb.keep e (by omega) h2 h6)
                · rw [if_neg (fun h => h6 ((k_cmp_ge (hw k hk).2 (hw q (by omega)).2).mp h))]
                  exact hB (hb.take1 e (by omega) h2 hc (by omega))
            by_cases h4 : x4 < 0
            · simp only [if_pos h4, if_neg hm, if_pos hr]
              exact fin
            · have h4v := hx4.resolve_left h4
              obtain ⟨i4, hi4, e4⟩ := vp_in_of h4v (by omega)
              have hl2 := hl.resolve_left h4
              have hcm : ¬ lg_cmp (ma_when v k) (ma_when v x4.toNatClampNeg) ≤ 0 := by
                rw [e4, k_clamp (show i4 < 2147483648 by omega)] at hl2 ⊢
                rw [(hw k hk).1, (hw i4 hi4).1, k_cmp_le (hw k hk).2 (hw i4 hi4).2]
                omega
              simp only [if_neg h4, if_neg hcm, if_neg hm, if_pos hr]
              exact fin
          · have h4 : ¬ x4 < 0 := fun h => hl (Or.inl h)
            have h4v := hx4.resolve_left h4
            obtain ⟨i4, hi4, e4⟩ := vp_in_of h4v (by omega)
            have hcm : lg_cmp (ma_when v k) (ma_when v x4.toNatClampNeg) ≤ 0 := by
              have hl2 : ¬ w x4.toNatClampNeg < w k := fun h => hl (Or.inr h)
              rw [e4, k_clamp (show i4 < 2147483648 by omega)] at hl2 ⊢
              rw [(hw k hk).1, (hw i4 hi4).1, k_cmp_le (hw k hk).2 (hw i4 hi4).2]
              omega
            simp only [if_neg h4, if_pos hcm, ite_self]
            exact hA (hb.skip (fun h => hl ((hC k hk).mp h).2.2))
        · simp only [if_neg hr, ite_self]
          exact hA (hb.skip (fun h => hr ((hC k hk).mp h).2.1))
    · have e : k = 32 := by omega
      subst e
      simp only [ml_find2, if_pos (show (32 : Int32) ≤ nI 32 from by decide)]
      exact hb
/-- the best of a list that is sorted by w is its first -/
theorem sf_first {C : Nat → Prop} {w : Nat → Nat} {G : List Nat} (hs : G.Pairwise (fun a b => w a < w b)) (hG : ∀ p ∈ G, p < 32) (hC : ∀ p : Nat, p < 32 → (C p ↔ p ∈ G)) {x : Int32} (h : sBest C w 32 x) : x = k_sel G 0 := by
  cases G with
  | nil =>
    rcases h with ⟨e, -⟩ | ⟨q, hq, -, h1, -⟩
    · exact e
    · exact absurd ((hC q hq).mp h1) List.not_mem_nil
  | cons g t =>
    have hg : g < 32 := hG g List.mem_cons_self
    have hcg : C g := (hC g hg).mpr List.mem_cons_self
    rcases h with ⟨-, h⟩ | ⟨q, hq, e, h1, h2⟩
    · exact absurd hcg (h g hg)
    · have h3 := h2 g hg hcg
      rcases List.mem_cons.mp ((hC q hq).mp h1) with h4 | h4
      · rw [e, h4]
        rfl
      · have := (List.pairwise_cons.mp hs).1 q h4
        omega
theorem sf_find {v : MS} {r b : Int32} {w : Nat → Nat} (hw : ∀ p : Nat, p < 32 → ma_when v p = lN (w p) ∧ w p < 4611686018427387904) :
    ∀ (n j : Nat) (x4 : Int32) (G : List Nat), j < n → j < 1000 → (x4 < 0 ∨ vp_in x4 32) → G.Pairwise (fun a b => w a < w b) → (∀ p ∈ G, p < 32) → (∀ p : Nat, p < 32 → ((¬ ma_made v p = 0 ∧ ma_rows v p = r ∧ (x4 < 0 ∨ w x4.toNatClampNeg < w p)) ↔ p ∈ G)) →
    ml_find v r b n (nI j + (-1)) x4 = if j = 0 then x4 else k_sel G (j - 1) := by
  intro n
  induction n with
  | zero => intro j x4 G h; omega
  | succ n ih =>
    intro j x4 G hjn hj hx4 hs hG hC
    simp only [ml_find]
    rcases Nat.eq_zero_or_pos j with h0 | h0
    · subst h0
      rw [if_pos (show nI 0 + (-1) < 0 by decide), if_pos rfl]
    · have hB := sf_first hs hG hC (sf_find2 (b := b) hw hx4 (fun p _ => Iff.rfl) 33 0 (-1) (by omega) (by omega) (Or.inl ⟨rfl, fun p hp => absurd hp (Nat.not_lt_zero _)⟩))
      rw [nI_0] at hB
      rw [k_pred h0, if_neg (nI_pos (n := j - 1) (by omega)), if_neg (show ¬ j = 0 by omega), hB]
      cases G with
      | nil =>
        rw [if_neg (show ¬ (0 : Int32) ≤ k_sel [] 0 by decide)]
        simp [k_sel]
      | cons g t =>
        have hg : g < 32 := hG g List.mem_cons_self
        have hcg := (hC g hg).mpr List.mem_cons_self
        rw [show k_sel (g :: t) 0 = nI g from rfl, if_pos (nI_pos' (by omega)), show nI (j - 1) - 1 = nI (j - 1) + (-1) from Int32.sub_eq_add_neg _ _]
        have hst := List.pairwise_cons.mp hs
        rw [ih (j - 1) (nI g) t (by omega) (by omega) (Or.inr (vp_in_nI hg (by omega))) hst.2 (fun p hp => hG p (List.mem_cons_of_mem _ hp)) (fun p hp => ?_)]
        · by_cases h1 : j - 1 = 0
          · rw [if_pos h1, h1]
            rfl
          · rw [if_neg h1, show j - 1 = (j - 1 - 1) + 1 by omega]
            rfl
        · rw [k_clamp (show g < 2147483648 by omega)]
          constructor
          · rintro ⟨h1, h2, h3⟩
            have h4 : w g < w p := h3.resolve_left (nI_pos (by omega))
            have h5 : p ∈ g :: t := (hC p hp).mp ⟨h1, h2, hcg.2.2.imp id (fun h => by omega)⟩
            rcases List.mem_cons.mp h5 with h6 | h6
            · rw [h6] at h4; omega
            · exact h6
          · intro h
            have h5 := (hC p hp).mpr (List.mem_cons_of_mem _ h)
            exact ⟨h5.1, h5.2.1, Or.inr (hst.1 p h)⟩
end
section
/-- who is in row r, in order -/
def sRow (u : RS) (L : List Nat) (r : Int32) : List Nat := L.filter (fun p => decide (ra_rows u p = r))
theorem sRow_mem {u : RS} {L : List Nat} {r : Int32} {p : Nat} : p ∈ sRow u L r ↔ p ∈ L ∧ ra_rows u p = r := by
  unfold sRow
  rw [List.mem_filter]
  simp
theorem sVal.ne {k : Nat} (h : sVal k) : nI k ≠ 0 := by
  unfold sVal at h
  exact nI_ne0 (by omega) (by omega)
theorem sVal.lt {k : Nat} (h : sVal k) : k < 32 := by
  unfold sVal at h
  omega
theorem sK.at {t : Nat} {L : List Nat} {u : RS} {v : MS} (h : sK t L u v) (r : Int32) {a : Nat} (ha : a < 32) : rf_at u r (nI a) = k_sel (sRow u L r) a := by
  rw [rp_at h.1 r (nI a)]
  have hl : (sRow u L r).length ≤ 32 := Nat.le_trans (List.length_filter_le _ _) h.1.len
  have := k_nth_sel a (by omega) (sRow u L r) 0 (by omega) (by omega)
  rw [nI_0] at this
  exact this
theorem sK.find {t : Nat} {L : List Nat} {u : RS} {v : MS} (h : sK t L u v) (ht : t < 1000000) {r : Int32} (hr : r ≠ 0) {a : Nat} (ha : a < 32) : mf_find v r (nI a) = k_sel (sRow u L r) a := by
  obtain ⟨h1, h2, h3, ⟨w, n, e1, e2, e3, e4, e5⟩, -⟩ := h
  have := sf_find (v := v) (r := r) (b := nI a) (w := w) (fun p hp => ⟨(e3 p hp).1, by have := (e3 p hp).2; omega⟩) 33 (a + 1) (-1) (sRow u L r) (by omega) (by omega) (Or.inl (by decide)) (e5.sublist (List.filter_sublist)) (fun p hp => h1.2.2.1 p (sRow_mem.mp hp).1) (fun p hp => ?_)
  · rw [if_neg (by omega), pk_m1, Nat.add_sub_cancel] at this
    exact this
  · rw [sRow_mem, (h2 p hp).1]
    constructor
    · rintro ⟨-, h5, -⟩
      refine ⟨?_, h5⟩
      rcases Classical.em (p ∈ L) with h6 | h6
      · exact h6
      · exact absurd (h5.symm.trans ((h1.2.2.2.2 p hp).mpr h6)) hr
    · rintro ⟨h5, h6⟩
      exact ⟨fun h7 => (h3 p h5).1 ((h2 p hp).2.1.mp h7), h6, Or.inl (by decide)⟩
/-- a row's first: NONE, or one of it -/
theorem sRow_first {u : RS} {L : List Nat} {r : Int32} : k_sel (sRow u L r) 0 = -1 ∨ ∃ q : Nat, k_sel (sRow u L r) 0 = nI q ∧ q ∈ L ∧ ra_rows u q = r := by
  cases e : sRow u L r with
  | nil => exact Or.inl rfl
  | cons g s =>
    have : g ∈ sRow u L r := by rw [e]; exact List.mem_cons_self
    exact Or.inr ⟨g, rfl, (sRow_mem.mp this).1, (sRow_mem.mp this).2⟩
theorem k_notneg {q : Nat} (h : q < 2147483648) : nI q ≠ -1 := fun e => absurd (e ▸ nI_pos' (n := q) (by omega) : (0 : Int32) ≤ -1) (by decide)
/-- one leaves its row -/
theorem sK.leave {t : Nat} {L : List Nat} {u : RS} {v : MS} (h : sK t L u v) {q : Nat} (hq : q < 32) : sK t (L.filter (fun p => decide (p ≠ q))) (rf_leave u (nI q)) (ms_rows v (upd (ma_rows v) q 0)) := by
  obtain ⟨h1, h2, h3, ⟨w, n, e1, e2, e3, e4, e5⟩, h5, h6, h7, h8, h9⟩ := h
  obtain ⟨li, ln, e, hr⟩ := rp_leave h1 hq
  refine ⟨hr, fun p hp => ?_, fun p hp => ?_, ⟨w, n, e1, e2, e3, fun p hp => e4 p (List.mem_filter.mp hp).1, e5.sublist List.filter_sublist⟩, ?_, ?_, ?_, ?_, h9⟩
  · rw [e]
    refine ⟨?_, (h2 p hp).2⟩
    show upd (ma_rows v) q 0 p = upd (ra_rows u) q 0 p
    by_cases hpq : p = q
    · rw [hpq, pk_us, pk_us]
    · rw [pk_un hpq, pk_un hpq]
      exact (h2 p hp).1
  · have hp2 := List.mem_filter.mp hp
    have hpq : p ≠ q := by simpa using hp2.2
    rw [e]
    refine ⟨(h3 p hp2.1).1, ?_⟩
    show ∃ k : Nat, upd (ra_rows u) q 0 p = nI k ∧ sVal k
    rw [pk_un hpq]
    exact (h3 p hp2.1).2
  · rw [e]; exact h5
  · rw [e]; exact h6
  · rw [e]; exact h7
  · rw [e]; exact h8
theorem sK.leave_pri {t : Nat} {L : List Nat} {u : RS} {v : MS} (h : sK t L u v) {q : Nat} (hq : q < 32) : ra_priorities (rf_leave u (nI q)) = ra_priorities u ∧ rf_present (rf_leave u (nI q)) = rf_present u := by
  obtain ⟨li, ln, e, -⟩ := rp_leave h.1 hq
  rw [e]
  exact ⟨rfl, rfl⟩
/-- one that is in no row leaves it: nothing changes -/
theorem sK.same {t : Nat} {L : List Nat} {u : RS} {v : MS} (h : sK t L u v) {q : Nat} (hq : q < 32) (hn : q ∉ L) : sK t L u (ms_rows v (upd (ma_rows v) q 0)) := by
  obtain ⟨h1, h2, h3, h4, h5, h6, h7, h8, h9⟩ := h
  refine ⟨h1, fun p hp => ⟨?_, (h2 p hp).2⟩, h3, h4, h5, h6, h7, h8, h9⟩
  show upd (ma_rows v) q 0 p = ra_rows u p
  by_cases hpq : p = q
  · rw [hpq, pk_us]
    exact ((h1.2.2.2.2 q hq).mpr hn).symm
  · rw [pk_un hpq]
    exact (h2 p hp).1
/-- one enters a row at its end -/
theorem sK.enter {t : Nat} {L : List Nat} {u : RS} {v : MS} (h : sK t L u v) {q k : Nat} (hq : q < 32) (hn : q ∉ L) (hm : ra_priorities u q ≠ 0) (hk : sVal k) : sK (t + 1) (L ++ [q]) (rf_enter u (nI q) (nI k)) (mf_enter v (nI q) (nI k)) := by
  obtain ⟨h1, h2, h3, ⟨w, n, e1, e2, e3, e4, e5⟩, h5, h6, h7, h8, h9⟩ := h
  obtain ⟨e, hr⟩ := rp_enter h1 hq hn hk.ne
  have em : mf_enter v (nI q) (nI k) = ms_now (ms_when (ms_rows v (upd (ma_rows v) q (nI k))) (vp_updL (ma_when v) q (ma_now v))) (ma_now v + 1) := by
    unfold mf_enter
    rw [k_clamp (show q < 2147483648 by omega)]
  rw [em]
  refine ⟨hr, fun p hp => ?_, fun p hp => ?_, ⟨fun j => if j = q then n else w j, n + 1, ?_, by omega, fun p hp => ?_, fun p hp => ?_, ?_⟩, ?_, ?_, ?_, ?_, h9⟩
  · rw [e]
    refine ⟨?_, (h2 p hp).2⟩
    show upd (ma_rows v) q (nI k) p = upd (ra_rows u) q (nI k) p
    by_cases hpq : p = q
    · rw [hpq, pk_us, pk_us]
    · rw [pk_un hpq, pk_un hpq]
      exact (h2 p hp).1
  · rw [e]
    show ra_priorities u p ≠ 0 ∧ ∃ k' : Nat, upd (ra_rows u) q (nI k) p = nI k' ∧ sVal k'
    by_cases hpq : p = q
    · rw [hpq, pk_us]
      exact ⟨hm, k, rfl, hk⟩
    · rw [pk_un hpq]
      rcases List.mem_append.mp hp with h | h
      · exact h3 p h
      · exact absurd (List.mem_singleton.mp h) hpq
  · show ma_now v + 1 = lN (n + 1)
    rw [e1, lN_1]
  · show vp_updL (ma_when v) q (ma_now v) p = lN (if p = q then n else w p) ∧ (if p = q then n else w p) ≤ n + 1
    by_cases hpq : p = q
    · rw [hpq, pk_uLs, if_pos rfl]
      exact ⟨e1, by omega⟩
    · rw [pk_uLn hpq, if_neg hpq]
      exact ⟨(e3 p hp).1, by have := (e3 p hp).2; omega⟩
  · show (if p = q then n else w p) < n + 1
    by_cases hpq : p = q
    · rw [if_pos hpq]; omega
    · rw [if_neg hpq]
      rcases List.mem_append.mp hp with h | h
      · have := e4 p h; omega
      · exact absurd (List.mem_singleton.mp h) hpq
  · rw [List.pairwise_append]
    have hne : ∀ a ∈ L, a ≠ q := fun a ha e => hn (e ▸ ha)
    refine ⟨e5.imp_of_mem (fun {a b} ha hb hab => by
      show (if a = q then n else w a) < (if b = q then n else w b)
      rw [if_neg (hne a ha), if_neg (hne b hb)]
      exact hab), List.pairwise_singleton _ _, fun a ha b hb => ?_⟩
    show (if a = q then n else w a) < (if b = q then n else w b)
    rw [List.mem_singleton.mp hb, if_pos rfl, if_neg (hne a ha)]
    exact e4 a ha
  · rw [e]; exact h5
  · rw [e]; exact h6
  · rw [e]; exact h7
  · rw [e]; exact h8
theorem sK.enter_pri {t : Nat} {L : List Nat} {u : RS} {v : MS} (h : sK t L u v) {q k : Nat} (hq : q < 32) (hn : q ∉ L) (hk : sVal k) : ra_priorities (rf_enter u (nI q) (nI k)) = ra_priorities u ∧ rf_present (rf_enter u (nI q) (nI k)) = rf_present u := by
  obtain ⟨e, -⟩ := rp_enter h.1 hq hn hk.ne
  rw [e]
  exact ⟨rfl, rfl⟩
/-- a change is wanted -/
theorem sK.want {t : Nat} {L : List Nat} {u : RS} {v : MS} (h : sK t L u v) {x : Int32} (hx : x < 0 ∨ vp_in x 32) : sK t L (rf_want u x) (mf_want v x) := by
  obtain ⟨h1, h2, h3, h4, h5, h6, h7, h8, h9⟩ := h
  exact ⟨h1, h2, h3, h4, h5, h6, ⟨h7.1, h7.2.1, rfl, Or.inr rfl, fun _ => rfl⟩, h8, hx⟩
theorem rf_want_present (u : RS) (x : Int32) : rf_present (rf_want u x) = x := rfl
theorem sK.present {t : Nat} {L : List Nat} {u : RS} {v : MS} (h : sK t L u v) : mf_presentOne v = rf_present u := by
  obtain ⟨-, -, -, -, -, -, h7, -, -⟩ := h
  unfold mf_presentOne rf_present
  rw [h7.2.2.1]
  rcases h7.2.2.2.1 with e | e
  · rw [if_pos e, if_pos e]
    exact h7.1
  · rw [if_neg (by rw [e]; decide), if_neg (by rw [e]; decide)]
    exact h7.2.2.2.2 e
/-- the highest of 1 .. k that has one -/
def k_top (f : Nat → Int32) : Nat → Int32
  | 0 => -1
  | k + 1 => if f (k + 1) = -1 then k_top f k else f (k + 1)
def k_fold (f : Nat → Int32) : Nat → Nat → Int32 → Int32
  | 0, _, x => x
  | c + 1, j, x => k_fold f c (j + 1) (if f j < 0 then x else f j)
theorem k_fold_snoc (f : Nat → Int32) : ∀ (c j : Nat) (x : Int32), k_fold f (c + 1) j x = if f (j + c) < 0 then k_fold f c j x else f (j + c) := by
  intro c
  induction c with
  | zero => intro j x; rfl
  | succ c ih =>
    intro j x
    show k_fold f (c + 1) (j + 1) _ = _
    rw [ih, show j + 1 + c = j + (c + 1) by omega]
    rfl
theorem k_fold_top (f : Nat → Int32) (hf : ∀ k, f k = -1 ∨ ¬ f k < 0) : ∀ c : Nat, k_fold f c 1 (-1) = k_top f c := by
  intro c
  induction c with
  | zero => rfl
  | succ c ih =>
    rw [k_fold_snoc, ih, show 1 + c = c + 1 by omega]
    show _ = if f (c + 1) = -1 then k_top f c else f (c + 1)
    rcases hf (c + 1) with e | e
    · rw [if_pos (by rw [e]; decide), if_pos e]
    · rw [if_neg e, if_neg (fun h => e (by rw [h]; decide))]
theorem k_top_or (f : Nat → Int32) : ∀ c : Nat, k_top f c = -1 ∨ ∃ k : Nat, 1 ≤ k ∧ k ≤ c ∧ k_top f c = f k ∧ f k ≠ -1 := by
  intro c
  induction c with
  | zero => exact Or.inl rfl
  | succ c ih =>
    show (if f (c + 1) = -1 then k_top f c else f (c + 1)) = -1 ∨ ∃ k : Nat, 1 ≤ k ∧ k ≤ c + 1 ∧ (if f (c + 1) = -1 then k_top f c else f (c + 1)) = f k ∧ f k ≠ -1
    by_cases h : f (c + 1) = -1
    · rw [if_pos h]
      rcases ih with h2 | ⟨k, h2, h3, h4, h5⟩
      · exact Or.inl h2
      · exact Or.inr ⟨k, h2, by omega, h4, h5⟩
    · rw [if_neg h]
      exact Or.inr ⟨c + 1, by omega, by omega, rfl, h⟩
theorem sk_ready (u : RS) (f : Nat → Int32) (hf : ∀ k : Nat, 1 ≤ k → k ≤ 8 → rf_at u (nI k) 0 = f k) : ∀ j : Nat, j ≤ 8 → rl_firstReady u (j + 1) (nI j) = k_top f j := by
  intro j
  induction j with
  | zero => intro _; rfl
  | succ j ih =>
    intro hj
    simp only [rl_firstReady]
    rw [if_neg (show ¬ nI (j + 1) < 1 from fun h => by
      rw [show (1 : Int32) = nI 1 from rfl, nI_ltI (by omega) (by omega)] at h
      omega), hf (j + 1) (by omega) hj, pk_m1]
    have := ih (by omega)
    simp only [rl_firstReady] at this
    show (if f (j + 1) = -1 then _ else _) = if f (j + 1) = -1 then k_top f j else f (j + 1)
    by_cases h : f (j + 1) = -1
    · rw [if_pos h, if_pos h]
      exact ih (by omega)
    · rw [if_neg h, if_neg h]
theorem sk_aside (v : MS) (f : Nat → Int32) (hf : ∀ k : Nat, 1 ≤ k → k ≤ 8 → mf_find v (nI k) 0 = f k) : ∀ (c j : Nat) (x : Int32), j + c = 9 → 1 ≤ j →
    ml_putAside v (c + 1) x (nI j) = if k_fold f c j x < 0 then mf_want v (k_fold f c j x) else mf_want (ms_rows v (upd (ma_rows v) (k_fold f c j x).toNatClampNeg 0)) (k_fold f c j x) := by
  intro c
  induction c with
  | zero =>
    intro j x h1 h2
    have e : j = 9 := by omega
    subst e
    simp only [ml_putAside]
    rw [if_pos (show (8 : Int32) < nI 9 by decide)]
    rfl
  | succ c ih =>
    intro j x h1 h2
    have e8 : ¬ (8 : Int32) < nI j := fun h => by
      rw [show (8 : Int32) = nI 8 from rfl, nI_ltI (by omega) (by omega)] at h
      omega
    rw [ml_putAside, if_neg e8, hf j h2 (by omega), nI_1]
    show _ = if k_fold f c (j + 1) (if f j < 0 then x else f j) < 0 then _ else _
    by_cases h : f j < 0
    · rw [if_pos h, ih (j + 1) x (by omega) (by omega)]
      simp only [k_fold, if_pos h]
    · rw [if_neg h, ih (j + 1) (f j) (by omega) (by omega)]
      simp only [k_fold, if_neg h]
end
section
theorem sK.find' {t : Nat} {L : List Nat} {u : RS} {v v1 : MS} (h : sK t L u v) (ht : t < 1000000) (g1 : ma_rows v1 = ma_rows v) (g2 : ma_made v1 = ma_made v) (g3 : ma_when v1 = ma_when v) {r : Int32} (hr : r ≠ 0) {a : Nat} (ha : a < 32) : mf_find v1 r (nI a) = k_sel (sRow u L r) a := by
  obtain ⟨h1, h2, h3, ⟨w, n, e1, e2, e3, e4, e5⟩, -⟩ := h
  have := sf_find (v := v1) (r := r) (b := nI a) (w := w) (fun p hp => ⟨by rw [g3]; exact (e3 p hp).1, by have := (e3 p hp).2; omega⟩) 33 (a + 1) (-1) (sRow u L r) (by omega) (by omega) (Or.inl (by decide)) (e5.sublist (List.filter_sublist)) (fun p hp => h1.2.2.1 p (sRow_mem.mp hp).1) (fun p hp => ?_)
  · rw [if_neg (by omega), pk_m1, Nat.add_sub_cancel] at this
    exact this
  · rw [g1, g2, sRow_mem, (h2 p hp).1]
    constructor
    · rintro ⟨-, h5, -⟩
      refine ⟨?_, h5⟩
      rcases Classical.em (p ∈ L) with h6 | h6
      · exact h6
      · exact absurd (h5.symm.trans ((h1.2.2.2.2 p hp).mpr h6)) hr
    · rintro ⟨h5, h6⟩
      exact ⟨fun h7 => (h3 p h5).1 ((h2 p hp).2.1.mp h7), h6, Or.inl (by decide)⟩
/-- the model's putting aside, with x the one that is chosen -/
def sAside (v : MS) (x : Int32) : MS := if x < 0 then mf_want v x else mf_want (ms_rows v (upd (ma_rows v) x.toNatClampNeg 0)) x
/-- who is chosen -/
theorem sK.first {t : Nat} {L : List Nat} {u : RS} {v : MS} (h : sK t L u v) (ht : t < 1000000) : ∃ x : Int32, rf_firstReady u = x ∧ (∀ v1 : MS, ma_rows v1 = ma_rows v → ma_made v1 = ma_made v → ma_when v1 = ma_when v → mf_putAside v1 = sAside v1 x) ∧ (x = -1 ∨ ∃ q : Nat, x = nI q ∧ q ∈ L) := by
  have hz : ∀ r : Int32, k_sel (sRow u L r) 0 = -1 ∨ ¬ k_sel (sRow u L r) 0 < 0 := fun r => by
    rcases sRow_first (u := u) (L := L) (r := r) with e | ⟨q, e, hq, -⟩
    · exact Or.inl e
    · have := h.1.2.2.1 q hq
      exact Or.inr (by rw [e]; exact nI_pos (by omega))
  have hc : ∀ k : Nat, 1 ≤ k → k ≤ 8 → rf_at u (nI k) 0 = k_sel (sRow u L (nI k)) 0 := fun k _ _ => by
    have := h.at (nI k) (a := 0) (by omega)
    rwa [nI_0] at this
  refine ⟨k_top (fun k => k_sel (sRow u L (nI k)) 0) 8, sk_ready u _ hc 8 (by omega), fun v1 g1 g2 g3 => ?_, ?_⟩
  · have hm : ∀ k : Nat, 1 ≤ k → k ≤ 8 → mf_find v1 (nI k) 0 = k_sel (sRow u L (nI k)) 0 := fun k h1 h2 => by
      have := h.find' ht g1 g2 g3 (r := nI k) (nI_ne0 (by omega) (by omega)) (a := 0) (by omega)
      rwa [nI_0] at this
    have := sk_aside v1 (fun k => k_sel (sRow u L (nI k)) 0) hm 8 1 (-1) (by omega) (by omega)
    rw [k_fold_top _ (fun k => hz (nI k))] at this
    exact this
  · rcases k_top_or (fun k => k_sel (sRow u L (nI k)) 0) 8 with e | ⟨k, h1, h2, e, hne⟩
    · exact Or.inl e
    · rcases sRow_first (u := u) (L := L) (r := nI k) with e2 | ⟨q, e2, hq, -⟩
      · exact absurd e2 hne
      · exact Or.inr ⟨q, e.trans e2, hq⟩
theorem rf_leave_none (u : RS) : rf_leave u (-1) = u := by
  unfold rf_leave
  rw [if_pos (by decide)]
/-- the present one is put aside -/
theorem sK.aside {t : Nat} {L : List Nat} {u : RS} {v : MS} (h : sK t L u v) (ht : t < 1000000) : sSim t (rf_putAside u) (mf_putAside v) := by
  obtain ⟨x, e1, e2, hx⟩ := h.first ht
  have eu : rf_putAside u = rf_want (rf_leave u x) x := by
    unfold rf_putAside
    rw [e1]
  rw [eu, e2 v rfl rfl rfl]
  unfold sAside
  rcases hx with rfl | ⟨q, rfl, hq⟩
  · rw [if_pos (by decide), rf_leave_none]
    exact ⟨L, h.want (Or.inl (by decide)), Or.inl rfl⟩
  · have hq32 := h.1.2.2.1 q hq
    rw [if_neg (nI_pos (by omega)), k_clamp (show q < 2147483648 by omega)]
    refine ⟨_, (h.leave hq32).want (Or.inr (vp_in_nI hq32 (by omega))), Or.inr ⟨q, hq32, rfl, ?_, by simp⟩⟩
    show ra_priorities (rf_leave u (nI q)) q ≠ 0
    rw [(h.leave_pri hq32).1]
    exact (h.2.2.1 q hq).1
theorem rp_isMade {u : RS} {q : Nat} (hq : q < 32) : rf_isMade u (nI q) = 0 ↔ ra_priorities u q = 0 := by
  unfold rf_isMade
  rw [rp_isProcess hq, if_neg (by decide), k_clamp (show q < 2147483648 by omega)]
  by_cases h : ra_priorities u q = 0
  · rw [if_pos h]
    exact ⟨fun _ => h, fun _ => rfl⟩
  · rw [if_neg h]
    exact ⟨fun h2 => absurd h2 (by decide), fun h2 => absurd h2 h⟩
theorem mp_isMade {v : MS} {q : Nat} (hq : q < 32) : mf_isMade v (nI q) = 0 ↔ ma_made v q = 0 := by
  unfold mf_isMade
  rw [show mf_isProcess (nI q) = 1 from rp_isProcess hq, if_neg (by decide), k_clamp (show q < 2147483648 by omega)]
  by_cases h : ma_made v q = 0
  · rw [if_pos h]
    exact ⟨fun _ => h, fun _ => rfl⟩
  · rw [if_neg h]
    exact ⟨fun h2 => absurd h2 (by decide), fun h2 => absurd h2 h⟩
theorem rp_priority {u : RS} {q : Nat} (hq : q < 32) (h : ra_priorities u q ≠ 0) : rf_priority u (nI q) = ra_priorities u q := by
  unfold rf_priority
  rw [if_neg (fun e => h ((rp_isMade hq).mp e)), k_clamp (show q < 2147483648 by omega)]
/-- one is woken -/
theorem sK.wake {t : Nat} {L : List Nat} {u : RS} {v : MS} (h : sK t L u v) (hp : sPr L u) {q : Nat} (hq : q < 32) (hn : q ∉ L) (hm : ra_priorities u q ≠ 0) (hne : rf_present u ≠ nI q) : sSim (t + 1) (rf_wake u (nI q)) (mf_wake v (nI q)) := by
  have hpr := h.present
  unfold rf_wake mf_wake
  rw [hpr, k_clamp (show q < 2147483648 by omega)]
  rcases hp with e | ⟨a, ha, e, hma, hna⟩
  · rw [e, if_pos rfl, if_pos (by decide)]
    exact ⟨L, ((h.same hq hn).want (Or.inr (vp_in_nI hq (by omega)))).mono (by omega), Or.inr ⟨q, hq, rfl, hm, hn⟩⟩
  · have haq : a ≠ q := fun e2 => hne (by rw [e, e2])
    obtain ⟨ea, ka, eka, ka1, ka8⟩ := (h.2.1 a ha).2.2.2 hma
    obtain ⟨eq, kq, ekq, kq1, kq8⟩ := (h.2.1 q hq).2.2.2 hm
    rw [e, if_neg (k_notneg (by omega)), if_neg (nI_pos (by omega)), rp_priority ha hma, rp_priority hq hm, k_clamp (show a < 2147483648 by omega), ea, eq]
    by_cases hlt : ra_priorities u a < ra_priorities u q
    · rw [if_pos hlt, if_pos hlt, eka]
      have h2 := h.enter ha hna hma (k := ka) (Or.inl ⟨ka1, ka8⟩)
      have hq2 : q ∉ L ++ [a] := fun hh => by
        rcases List.mem_append.mp hh with h3 | h3
        · exact hn h3
        · exact haq (List.mem_singleton.mp h3).symm
      refine ⟨_, (h2.same hq hq2).want (Or.inr (vp_in_nI hq (by omega))), Or.inr ⟨q, hq, rfl, ?_, hq2⟩⟩
      show ra_priorities (rf_enter u (nI a) (nI ka)) q ≠ 0
      rw [(h.enter_pri ha hna (k := ka) (Or.inl ⟨ka1, ka8⟩)).1]
      exact hm
    · rw [if_neg hlt, if_neg hlt, ekq]
      have h2 := h.enter hq hn hm (k := kq) (Or.inl ⟨kq1, kq8⟩)
      have h3 := h.enter_pri hq hn (k := kq) (Or.inl ⟨kq1, kq8⟩)
      refine ⟨_, h2, Or.inr ⟨a, ha, h3.2.trans e, by rw [h3.1]; exact hma, fun hh => ?_⟩⟩
      rcases List.mem_append.mp hh with h4 | h4
      · exact hna h4
      · exact haq (List.mem_singleton.mp h4)
/-- a semaphore has one signal more too many, or less -/
theorem sK.extra {t : Nat} {L : List Nat} {u : RS} {v : MS} (h : sK t L u v) (s : Nat) (x : Int32) : sK t L (rs_extras u (upd (ra_extras u) s x)) (ms_extras v (upd (ma_extras v) s x)) := by
  obtain ⟨h1, h2, h3, h4, h5, h6, h7, h8, h9⟩ := h
  refine ⟨h1, h2, h3, h4, fun k hk => ?_, h6, h7, h8, h9⟩
  show upd (ma_extras v) s x k = upd (ra_extras u) s x k
  by_cases e : k = s
  · rw [e, pk_us, pk_us]
  · rw [pk_un e, pk_un e]
    exact h5 k hk
theorem rp_isSemaphore {s : Nat} (h : s < 16) : rf_isSemaphore (nI s) = 1 := by
  unfold rf_isSemaphore
  rw [if_neg (nI_pos (by omega)), if_neg (show ¬ (16 : Int32) ≤ nI s from k_nle (b := 16) h (by omega))]
/-- a semaphore is signalled -/
theorem sSim.give {t : Nat} {u : RS} {v : MS} (h : sSim t u v) (ht : t < 1000000) {s : Nat} (hs : s < 16) : (rf_signal u (nI s)).1 = 1 ∧ sSim (t + 1) (rf_signal u (nI s)).2 (mf_give v (nI s)) := by
  obtain ⟨L, h, hp⟩ := h
  have e16 : (16 : Int32) + nI s = nI (16 + s) := nI_add 16 s
  have hc : rf_at u (nI (16 + s)) 0 = k_sel (sRow u L (nI (16 + s))) 0 := by
    have := h.at (nI (16 + s)) (a := 0) (by omega)
    rwa [nI_0] at this
  have hm : mf_find v (nI (16 + s)) 0 = k_sel (sRow u L (nI (16 + s))) 0 := by
    have := h.find ht (r := nI (16 + s)) (nI_ne0 (by omega) (by omega)) (a := 0) (by omega)
    rwa [nI_0] at this
  unfold rf_signal mf_give
  rw [rp_isSemaphore hs, if_neg (by decide), e16, hc, hm, k_clamp (show s < 2147483648 by omega)]
  rcases sRow_first (u := u) (L := L) (r := nI (16 + s)) with e | ⟨q, e, hq, -⟩
  · rw [e, if_pos rfl, if_neg (by decide), h.2.2.2.2.1 s hs]
    exact ⟨rfl, L, (h.extra s _).mono (by omega), hp⟩
  · have hq32 := h.1.2.2.1 q hq
    rw [e, if_neg (k_notneg (by omega)), if_pos (nI_pos' (by omega)), k_clamp (show q < 2147483648 by omega)]
    have hl := h.leave_pri hq32
    refine ⟨rfl, (h.leave hq32).wake ?_ hq32 (by simp) (by rw [hl.1]; exact (h.2.2.1 q hq).1) ?_⟩
    · rcases hp with e2 | ⟨a, ha, e2, hma, hna⟩
      · exact Or.inl (hl.2.trans e2)
      · exact Or.inr ⟨a, ha, hl.2.trans e2, by rw [hl.1]; exact hma, fun hh => hna (List.mem_filter.mp hh).1⟩
    · rw [hl.2]
      rcases hp with e2 | ⟨a, ha, e2, hma, hna⟩
      · rw [e2]
        exact fun h => k_notneg (show q < 2147483648 by omega) h.symm
      · rw [e2]
        exact fun h2 => hna (by rw [(nI_eq (by omega) (by omega)).mp h2]; exact hq)
end
section
theorem s_proc (x : Int32) : (rf_isProcess x = 0 ∧ mf_isProcess x = 0) ∨ ∃ q : Nat, q < 32 ∧ x = nI q := by
  by_cases h : rf_isProcess x = 0
  · exact Or.inl ⟨h, h⟩
  · exact Or.inr (vp_in_of (ri_isProcess rfl h) (by omega))
theorem s_sem (x : Int32) : (rf_isSemaphore x = 0 ∧ mf_isSemaphore x = 0) ∨ ∃ s : Nat, s < 16 ∧ x = nI s := by
  by_cases h : rf_isSemaphore x = 0
  · exact Or.inl ⟨h, h⟩
  · exact Or.inr (vp_in_of (ri_isSemaphore rfl h) (by omega))
theorem s_pri (x : Int32) : (rf_isPriority x = 0 ∧ mf_isPriority x = 0) ∨ ∃ k : Nat, 1 ≤ k ∧ k ≤ 8 ∧ x = nI k ∧ rf_isPriority x = 1 ∧ mf_isPriority x = 1 := by
  by_cases h1 : x < 1
  · have e : rf_isPriority x = 0 := by unfold rf_isPriority; rw [if_pos h1]
    exact Or.inl ⟨e, e⟩
  · by_cases h2 : 8 < x
    · have e : rf_isPriority x = 0 := by unfold rf_isPriority; rw [if_neg h1, if_pos h2]
      exact Or.inl ⟨e, e⟩
    · have e : rf_isPriority x = 1 := by unfold rf_isPriority; rw [if_neg h1, if_neg h2]
      have h0 : ¬ x < 0 := fun h => h1 (by
        rw [Int32.lt_iff_toInt_lt] at h ⊢
        have a1 : (0 : Int32).toInt = 0 := rfl
        have a2 : (1 : Int32).toInt = 1 := rfl
        omega)
      obtain ⟨k, hk, e2⟩ := nI_of h0
      exact Or.inr ⟨k, k_ge1 e2 (by omega) h1, mi_le8 e2 (by omega) h2, e2, e, e⟩
theorem rp_isMade0 {u : RS} {x : Int32} (h : rf_isProcess x = 0) : rf_isMade u x = 0 := by
  unfold rf_isMade
  rw [if_pos h]
theorem mp_isMade0 {v : MS} {x : Int32} (h : mf_isProcess x = 0) : mf_isMade v x = 0 := by
  unfold mf_isMade
  rw [if_pos h]
theorem sK.made {t : Nat} {L : List Nat} {u : RS} {v : MS} (h : sK t L u v) {q : Nat} (hq : q < 32) : mf_isMade v (nI q) = 0 ↔ rf_isMade u (nI q) = 0 := by
  rw [mp_isMade hq, rp_isMade hq]
  exact (h.2.1 q hq).2.1
theorem ss_active {t : Nat} {u : RS} {v : MS} (h : sSim t u v) (ht : t < 100000) : rf_active u = mf_active v := by
  obtain ⟨L, h, -⟩ := h
  exact h.2.2.2.2.2.2.1.1.symm
theorem ss_present {t : Nat} {u : RS} {v : MS} (h : sSim t u v) (ht : t < 100000) : rf_present u = mf_present v := by
  obtain ⟨L, h, -⟩ := h
  exact h.present.symm
theorem ss_wanted {t : Nat} {u : RS} {v : MS} (h : sSim t u v) (ht : t < 100000) : rf_wanted u = mf_wanted v := by
  obtain ⟨L, h, -⟩ := h
  exact h.2.2.2.2.2.2.1.2.2.1.symm
theorem ss_here {t : Nat} {u : RS} {v : MS} (h : sSim t u v) (ht : t < 100000) : rf_here u = mf_here v := by
  obtain ⟨L, h, -⟩ := h
  exact h.2.2.2.2.2.2.1.2.1.symm
theorem ss_place {t : Nat} {u : RS} {v : MS} (h : sSim t u v) (ht : t < 100000) (p1 : Int32) : rf_place u p1 = mf_place v p1 := by
  obtain ⟨L, h, -⟩ := h
  unfold rf_place mf_place
  rcases s_proc p1 with ⟨e1, e2⟩ | ⟨q, hq, rfl⟩
  · rw [if_pos (rp_isMade0 e1), if_pos (mp_isMade0 e2)]
  · by_cases hm : rf_isMade u (nI q) = 0
    · rw [if_pos hm, if_pos ((h.made hq).mpr hm)]
    · rw [if_neg hm, if_neg (fun e => hm ((h.made hq).mp e)), k_clamp (show q < 2147483648 by omega)]
      exact (h.2.1 q hq).2.2.1.symm
theorem ss_priority {t : Nat} {u : RS} {v : MS} (h : sSim t u v) (ht : t < 100000) (p1 : Int32) : rf_priority u p1 = mf_priority v p1 := by
  obtain ⟨L, h, -⟩ := h
  unfold rf_priority mf_priority
  rcases s_proc p1 with ⟨e1, e2⟩ | ⟨q, hq, rfl⟩
  · rw [if_pos (rp_isMade0 e1), if_pos (mp_isMade0 e2)]
  · by_cases hm : rf_isMade u (nI q) = 0
    · rw [if_pos hm, if_pos ((h.made hq).mpr hm)]
    · rw [if_neg hm, if_neg (fun e => hm ((h.made hq).mp e)), k_clamp (show q < 2147483648 by omega)]
      exact ((h.2.1 q hq).2.2.2 (fun e => hm ((rp_isMade hq).mpr e))).1.symm
theorem ss_row {t : Nat} {u : RS} {v : MS} (h : sSim t u v) (ht : t < 100000) (p1 : Int32) : rf_row u p1 = mf_row v p1 := by
  obtain ⟨L, h, -⟩ := h
  unfold rf_row mf_row
  rcases s_proc p1 with ⟨e1, e2⟩ | ⟨q, hq, rfl⟩
  · rw [if_pos (rp_isMade0 e1), if_pos (mp_isMade0 e2)]
  · by_cases hm : rf_isMade u (nI q) = 0
    · rw [if_pos hm, if_pos ((h.made hq).mpr hm)]
    · rw [if_neg hm, if_neg (fun e => hm ((h.made hq).mp e)), k_clamp (show q < 2147483648 by omega)]
      exact (h.2.1 q hq).1.symm
theorem ss_extra {t : Nat} {u : RS} {v : MS} (h : sSim t u v) (ht : t < 100000) (p1 : Int32) : rf_extra u p1 = mf_extra v p1 := by
  obtain ⟨L, h, -⟩ := h
  unfold rf_extra mf_extra
  rcases s_sem p1 with ⟨e1, e2⟩ | ⟨s, hs, rfl⟩
  · rw [if_pos e1, if_pos e2]
  · have e1 : ¬ rf_isSemaphore (nI s) = 0 := by rw [rp_isSemaphore hs]; decide
    rw [if_neg e1, if_neg (show ¬ mf_isSemaphore (nI s) = 0 from e1), k_clamp (show s < 2147483648 by omega)]
    exact (h.2.2.2.2.1 s hs).symm
theorem ss_posted {t : Nat} {u : RS} {v : MS} (h : sSim t u v) (ht : t < 100000) (p1 : Int32) : rf_posted u p1 = mf_posted v p1 := by
  obtain ⟨L, h, -⟩ := h
  obtain ⟨a, ha, e1, e2, e3⟩ := h.2.2.2.2.2.1
  unfold rf_posted mf_posted
  by_cases h0 : p1 < 0
  · rw [if_pos h0, if_pos h0]
  · rw [if_neg h0, if_neg h0, e1, e2]
    by_cases h1 : nI a ≤ p1
    · rw [if_pos h1, if_pos h1]
    · rw [if_neg h1, if_neg h1]
      obtain ⟨j, hj, rfl⟩ := nI_of h0
      rw [nI_leI (by omega) hj] at h1
      rw [if_neg (show ¬ (40 : Int32) ≤ nI j from k_nle (b := 40) (by omega) (by omega)), k_clamp (show j < 2147483648 by omega)]
      exact (e3 j (by omega)).1.symm
theorem ss_at {t : Nat} {u : RS} {v : MS} (h : sSim t u v) (ht : t < 100000) (p1 p2 : Int32) : rf_at u p1 p2 = mf_at v p1 p2 := by
  obtain ⟨L, h, -⟩ := h
  have hlen : (sRow u L p1).length ≤ 32 := Nat.le_trans (List.length_filter_le _ _) h.1.len
  have hcl : rf_at u p1 p2 = k_nth p2 (sRow u L p1) 0 := rp_at h.1 p1 p2
  have hout : (p2 < 0 ∨ 32 ≤ p2) → rf_at u p1 p2 = -1 := fun ho => by
    rw [hcl]
    have := k_nth_none p2 (sRow u L p1) 0 (fun c hc e => by
      rw [Nat.zero_add] at e
      rcases ho with ho | ho
      · rw [← e] at ho
        exact absurd ho (nI_pos (by omega))
      · rw [← e] at ho
        exact absurd ho (k_n32 (by omega)))
    rwa [nI_0] at this
  have hin : ∀ k : Nat, sVal k → p1 = nI k → rf_at u p1 p2 = if p2 < 0 then -1 else if 32 ≤ p2 then -1 else mf_find v p1 p2 := fun k hk e => by
    by_cases h1 : p2 < 0
    · rw [if_pos h1]
      exact hout (Or.inl h1)
    · rw [if_neg h1]
      by_cases h2 : 32 ≤ p2
      · rw [if_pos h2]
        exact hout (Or.inr h2)
      · rw [if_neg h2]
        obtain ⟨a, ha, rfl⟩ := mi_arg h1 h2
        rw [h.at p1 ha, h.find (by omega) (by rw [e]; exact hk.ne) ha]
  have hno : (∀ k : Nat, sVal k → p1 ≠ nI k) → rf_at u p1 p2 = -1 := fun hn => by
    rw [hcl]
    cases e : sRow u L p1 with
    | nil => rfl
    | cons g s =>
      have hg : g ∈ sRow u L p1 := by rw [e]; exact List.mem_cons_self
      have hg2 := sRow_mem.mp hg
      obtain ⟨k, hk1, hk2⟩ := (h.2.2.1 g hg2.1).2
      exact absurd (hg2.2.symm.trans hk1) (hn k hk2)
  unfold mf_at
  rcases s_pri p1 with ⟨-, e2⟩ | ⟨k, hk1, hk8, e, -, e2⟩
  · rw [if_pos e2]
    have hnp : ∀ k : Nat, 1 ≤ k → k ≤ 8 → p1 ≠ nI k := fun k h1 h2 e => by
      rw [e] at e2
      unfold mf_isPriority at e2
      rw [if_neg (show ¬ nI k < 1 from fun h => by
        rw [show (1 : Int32) = nI 1 from rfl, nI_ltI (by omega) (by omega)] at h
        omega), if_neg (show ¬ (8 : Int32) < nI k from fun h => by
        rw [show (8 : Int32) = nI 8 from rfl, nI_ltI (by omega) (by omega)] at h
        omega)] at e2
      exact absurd e2 (by decide)
    by_cases h16 : p1 < 16
    · rw [if_pos h16]
      refine hno (fun k hk e => ?_)
      rcases hk with hk | hk
      · exact hnp k hk.1 hk.2 e
      · rw [e, show (16 : Int32) = nI 16 from rfl, nI_ltI (by omega) (by omega)] at h16
        omega
    · rw [if_neg h16]
      by_cases h32 : 32 ≤ p1
      · rw [if_pos h32]
        refine hno (fun k hk e => ?_)
        rw [e] at h32
        exact k_n32 hk.lt h32
      · rw [if_neg h32]
        have h0 : ¬ p1 < 0 := fun h => h16 (by
          rw [Int32.lt_iff_toInt_lt] at h ⊢
          have a1 : (0 : Int32).toInt = 0 := rfl
          have a2 : (16 : Int32).toInt = 16 := rfl
          omega)
        obtain ⟨k, hk, e⟩ := mi_arg h0 h32
        refine hin k (Or.inr ⟨?_, hk⟩) e
        rw [e, show (16 : Int32) = nI 16 from rfl, nI_ltI (by omega) (by omega)] at h16
        omega
  · rw [if_neg (by rw [e2]; decide)]
    exact hin k (Or.inl ⟨hk1, hk8⟩) e
end
