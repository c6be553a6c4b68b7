abbrev cM_isProcess : ByteArray := prog_3_method_2_code
def yM_isProcess : MethodName := ⟨RX1, "isProcess", "(I)Z"⟩
abbrev cM_isSemaphore : ByteArray := prog_3_method_4_code
def yM_isSemaphore : MethodName := ⟨RX1, "isSemaphore", "(I)Z"⟩
abbrev cM_isPriority : ByteArray := prog_3_method_5_code
def yM_isPriority : MethodName := ⟨RX1, "isPriority", "(I)Z"⟩
abbrev cM_isMade : ByteArray := prog_3_method_3_code
def yM_isMade : MethodName := ⟨RX1, "isMade", "(I)Z"⟩
abbrev cM_presentOne : ByteArray := prog_3_method_8_code
def yM_presentOne : MethodName := ⟨RX1, "presentOne", "()I"⟩
abbrev cM_present : ByteArray := prog_3_method_26_code
def yM_present : MethodName := ⟨RX1, "present", "()I"⟩
abbrev cM_active : ByteArray := prog_3_method_25_code
def yM_active : MethodName := ⟨RX1, "active", "()I"⟩
abbrev cM_wanted : ByteArray := prog_3_method_27_code
def yM_wanted : MethodName := ⟨RX1, "wanted", "()Z"⟩
abbrev cM_here : ByteArray := prog_3_method_28_code
def yM_here : MethodName := ⟨RX1, "here", "()I"⟩
abbrev cM_place : ByteArray := prog_3_method_29_code
def yM_place : MethodName := ⟨RX1, "place", "(I)I"⟩
abbrev cM_priority : ByteArray := prog_3_method_30_code
def yM_priority : MethodName := ⟨RX1, "priority", "(I)I"⟩
abbrev cM_row : ByteArray := prog_3_method_31_code
def yM_row : MethodName := ⟨RX1, "row", "(I)I"⟩
abbrev cM_find : ByteArray := prog_3_method_7_code
def yM_find : MethodName := ⟨RX1, "find", "(II)I"⟩
abbrev cM_at : ByteArray := prog_3_method_32_code
def yM_at : MethodName := ⟨RX1, "at", "(II)I"⟩
abbrev cM_extra : ByteArray := prog_3_method_33_code
def yM_extra : MethodName := ⟨RX1, "extra", "(I)I"⟩
abbrev cM_posted : ByteArray := prog_3_method_34_code
def yM_posted : MethodName := ⟨RX1, "posted", "(I)I"⟩
abbrev cM_want : ByteArray := prog_3_method_9_code
def yM_want : MethodName := ⟨RX1, "want", "(I)V"⟩
abbrev cM_enter : ByteArray := prog_3_method_6_code
def yM_enter : MethodName := ⟨RX1, "enter", "(II)V"⟩
abbrev cM_wake : ByteArray := prog_3_method_10_code
def yM_wake : MethodName := ⟨RX1, "wake", "(I)V"⟩
abbrev cM_putAside : ByteArray := prog_3_method_11_code
def yM_putAside : MethodName := ⟨RX1, "putAside", "()V"⟩
abbrev cM_give : ByteArray := prog_3_method_12_code
def yM_give : MethodName := ⟨RX1, "give", "(I)V"⟩
abbrev cM_signal : ByteArray := prog_3_method_18_code
def yM_signal : MethodName := ⟨RX1, "signal", "(I)Z"⟩
abbrev cM_make : ByteArray := prog_3_method_13_code
def yM_make : MethodName := ⟨RX1, "make", "(III)Z"⟩
abbrev cM_resume : ByteArray := prog_3_method_14_code
def yM_resume : MethodName := ⟨RX1, "resume", "(I)Z"⟩
abbrev cM_suspend : ByteArray := prog_3_method_15_code
def yM_suspend : MethodName := ⟨RX1, "suspend", "()I"⟩
abbrev cM_end : ByteArray := prog_3_method_16_code
def yM_end : MethodName := ⟨RX1, "end", "()I"⟩
abbrev cM_await : ByteArray := prog_3_method_17_code
def yM_await : MethodName := ⟨RX1, "await", "(I)I"⟩
abbrev cM_post : ByteArray := prog_3_method_19_code
def yM_post : MethodName := ⟨RX1, "post", "(I)I"⟩
abbrev cM_step : ByteArray := prog_3_method_20_code
def yM_step : MethodName := ⟨RX1, "step", "()I"⟩
abbrev cM_work : ByteArray := prog_3_method_21_code
def yM_work : MethodName := ⟨RX1, "work", "(I)Z"⟩
abbrev cM_take : ByteArray := prog_3_method_22_code
def yM_take : MethodName := ⟨RX1, "take", "(I)Z"⟩
abbrev cM_rate : ByteArray := prog_3_method_23_code
def yM_rate : MethodName := ⟨RX1, "rate", "(II)I"⟩
abbrev cM_yield : ByteArray := prog_3_method_24_code
def yM_yield : MethodName := ⟨RX1, "yield", "()Z"⟩
def wM0 : List Cond := [.code yM_isProcess cM_isProcess 1 (some .boolean), .code yM_isSemaphore cM_isSemaphore 1 (some .boolean), .code yM_isPriority cM_isPriority 1 (some .boolean), .code yM_isMade cM_isMade 2 (some .boolean), .code yM_presentOne cM_presentOne 1 (some .int), .code yM_present cM_present 1 (some .int), .code yM_active cM_active 1 (some .int), .code yM_wanted cM_wanted 1 (some .boolean), .code yM_here cM_here 1 (some .int), .code yM_place cM_place 2 (some .int), .code yM_priority cM_priority 2 (some .int), .code yM_row cM_row 2 (some .int), .code yM_find cM_find 8 (some .int), .code yM_at cM_at 4 (some .int), .code yM_extra cM_extra 2 (some .int), .code yM_posted cM_posted 2 (some .int), .code yM_want cM_want 2 none, .code yM_enter cM_enter 3 none, .code yM_wake cM_wake 3 none, .code yM_putAside cM_putAside 4 none, .code yM_give cM_give 3 none, .code yM_signal cM_signal 2 (some .boolean), .code yM_make cM_make 4 (some .boolean), .code yM_resume cM_resume 2 (some .boolean), .code yM_suspend cM_suspend 2 (some .int), .code yM_end cM_end 2 (some .int), .code yM_await cM_await 3 (some .int), .code yM_post cM_post 2 (some .int), .code yM_step cM_step 2 (some .int), .code yM_work cM_work 2 (some .boolean), .code yM_take cM_take 2 (some .boolean), .code yM_rate cM_rate 4 (some .int), .code yM_yield cM_yield 2 (some .boolean), .initialized RX1, .fieldLink RX1 7 "ProcessRoomModel" "made" "[Z", .fieldLink RX1 48 "ProcessRoomModel" "wanted" "Z", .fieldLink RX1 37 "ProcessRoomModel" "change" "I", .fieldLink RX1 33 "ProcessRoomModel" "active" "I", .fieldLink RX1 89 "ProcessRoomModel" "here" "I", .fieldLink RX1 17 "ProcessRoomModel" "places" "[I", .fieldLink RX1 13 "ProcessRoomModel" "priorities" "[I", .fieldLink RX1 20 "ProcessRoomModel" "rows" "[I", .fieldLink RX1 23 "ProcessRoomModel" "when" "[J", .fieldLink RX1 27 "ProcessRoomModel" "extras" "[I", .fieldLink RX1 86 "ProcessRoomModel" "posts" "I", .fieldLink RX1 30 "ProcessRoomModel" "posted" "[I", .fieldLink RX1 44 "ProcessRoomModel" "now" "J", .methodLink RX1 40 yM_isProcess, .methodLink RX1 52 yM_presentOne, .methodLink RX1 74 yM_isMade, .methodLink RX1 71 yM_isPriority, .methodLink RX1 64 yM_find, .methodLink RX1 80 yM_isSemaphore, .methodLink RX1 56 yM_enter, .methodLink RX1 60 yM_want, .methodLink RX1 68 yM_wake, .methodLink RX1 83 yM_give, .methodLink RX1 77 yM_putAside, .static yM_isProcess, .instanceMethod yM_presentOne, .selects RX1 yM_presentOne yM_presentOne, .instanceMethod yM_isMade, .selects RX1 yM_isMade yM_isMade, .static yM_isPriority, .instanceMethod yM_find, .selects RX1 yM_find yM_find, .static yM_isSemaphore, .instanceMethod yM_enter, .selects RX1 yM_enter yM_enter, .instanceMethod yM_want, .selects RX1 yM_want yM_want, .instanceMethod yM_wake, .selects RX1 yM_wake yM_wake, .instanceMethod yM_give, .selects RX1 yM_give yM_give, .instanceMethod yM_putAside, .selects RX1 yM_putAside yM_putAside] ++ wsX10
set_option maxRecDepth 20000 in
theorem gM0 : GoodIn wM0 wM0 := goodIn_sub (fun _ h => h) (by decide +kernel)
theorem gM_any {a b : Cond} (hb : b ∈ wM0) : GoodIn (a :: wM0) (b :: wM0) := fun w h => by
  rcases List.mem_cons.mp h with rfl | h
  · exact ⟨List.mem_cons_of_mem _ hb, (gM0 _ hb).2⟩
  · exact ⟨List.mem_cons_of_mem _ h, (gM0 w h).2⟩
def wM_isProcess : List Cond := .code yM_isProcess cM_isProcess 1 (some .boolean) :: wM0
theorem eM_isProcess : Cond.code yM_isProcess cM_isProcess 1 (some .boolean) ∈ wM0 := List.mem_of_getElem? (i := 0) rfl
def wM_isSemaphore : List Cond := .code yM_isSemaphore cM_isSemaphore 1 (some .boolean) :: wM0
theorem eM_isSemaphore : Cond.code yM_isSemaphore cM_isSemaphore 1 (some .boolean) ∈ wM0 := List.mem_of_getElem? (i := 1) rfl
def wM_isPriority : List Cond := .code yM_isPriority cM_isPriority 1 (some .boolean) :: wM0
theorem eM_isPriority : Cond.code yM_isPriority cM_isPriority 1 (some .boolean) ∈ wM0 := List.mem_of_getElem? (i := 2) rfl
def wM_isMade : List Cond := .code yM_isMade cM_isMade 2 (some .boolean) :: wM0
theorem eM_isMade : Cond.code yM_isMade cM_isMade 2 (some .boolean) ∈ wM0 := List.mem_of_getElem? (i := 3) rfl
def wM_presentOne : List Cond := .code yM_presentOne cM_presentOne 1 (some .int) :: wM0
theorem eM_presentOne : Cond.code yM_presentOne cM_presentOne 1 (some .int) ∈ wM0 := List.mem_of_getElem? (i := 4) rfl
def wM_present : List Cond := .code yM_present cM_present 1 (some .int) :: wM0
theorem eM_present : Cond.code yM_present cM_present 1 (some .int) ∈ wM0 := List.mem_of_getElem? (i := 5) rfl
def wM_active : List Cond := .code yM_active cM_active 1 (some .int) :: wM0
theorem eM_active : Cond.code yM_active cM_active 1 (some .int) ∈ wM0 := List.mem_of_getElem? (i := 6) rfl
def wM_wanted : List Cond := .code yM_wanted cM_wanted 1 (some .boolean) :: wM0
theorem eM_wanted : Cond.code yM_wanted cM_wanted 1 (some .boolean) ∈ wM0 := List.mem_of_getElem? (i := 7) rfl
def wM_here : List Cond := .code yM_here cM_here 1 (some .int) :: wM0
theorem eM_here : Cond.code yM_here cM_here 1 (some .int) ∈ wM0 := List.mem_of_getElem? (i := 8) rfl
def wM_place : List Cond := .code yM_place cM_place 2 (some .int) :: wM0
theorem eM_place : Cond.code yM_place cM_place 2 (some .int) ∈ wM0 := List.mem_of_getElem? (i := 9) rfl
def wM_priority : List Cond := .code yM_priority cM_priority 2 (some .int) :: wM0
theorem eM_priority : Cond.code yM_priority cM_priority 2 (some .int) ∈ wM0 := List.mem_of_getElem? (i := 10) rfl
def wM_row : List Cond := .code yM_row cM_row 2 (some .int) :: wM0
theorem eM_row : Cond.code yM_row cM_row 2 (some .int) ∈ wM0 := List.mem_of_getElem? (i := 11) rfl
def wM_find : List Cond := .code yM_find cM_find 8 (some .int) :: wM0
theorem eM_find : Cond.code yM_find cM_find 8 (some .int) ∈ wM0 := List.mem_of_getElem? (i := 12) rfl
def wM_at : List Cond := .code yM_at cM_at 4 (some .int) :: wM0
theorem eM_at : Cond.code yM_at cM_at 4 (some .int) ∈ wM0 := List.mem_of_getElem? (i := 13) rfl
def wM_extra : List Cond := .code yM_extra cM_extra 2 (some .int) :: wM0
theorem eM_extra : Cond.code yM_extra cM_extra 2 (some .int) ∈ wM0 := List.mem_of_getElem? (i := 14) rfl
def wM_posted : List Cond := .code yM_posted cM_posted 2 (some .int) :: wM0
theorem eM_posted : Cond.code yM_posted cM_posted 2 (some .int) ∈ wM0 := List.mem_of_getElem? (i := 15) rfl
def wM_want : List Cond := .code yM_want cM_want 2 none :: wM0
theorem eM_want : Cond.code yM_want cM_want 2 none ∈ wM0 := List.mem_of_getElem? (i := 16) rfl
def wM_enter : List Cond := .code yM_enter cM_enter 3 none :: wM0
theorem eM_enter : Cond.code yM_enter cM_enter 3 none ∈ wM0 := List.mem_of_getElem? (i := 17) rfl
def wM_wake : List Cond := .code yM_wake cM_wake 3 none :: wM0
theorem eM_wake : Cond.code yM_wake cM_wake 3 none ∈ wM0 := List.mem_of_getElem? (i := 18) rfl
def wM_putAside : List Cond := .code yM_putAside cM_putAside 4 none :: wM0
theorem eM_putAside : Cond.code yM_putAside cM_putAside 4 none ∈ wM0 := List.mem_of_getElem? (i := 19) rfl
def wM_give : List Cond := .code yM_give cM_give 3 none :: wM0
theorem eM_give : Cond.code yM_give cM_give 3 none ∈ wM0 := List.mem_of_getElem? (i := 20) rfl
def wM_signal : List Cond := .code yM_signal cM_signal 2 (some .boolean) :: wM0
theorem eM_signal : Cond.code yM_signal cM_signal 2 (some .boolean) ∈ wM0 := List.mem_of_getElem? (i := 21) rfl
def wM_make : List Cond := .code yM_make cM_make 4 (some .boolean) :: wM0
theorem eM_make : Cond.code yM_make cM_make 4 (some .boolean) ∈ wM0 := List.mem_of_getElem? (i := 22) rfl
def wM_resume : List Cond := .code yM_resume cM_resume 2 (some .boolean) :: wM0
theorem eM_resume : Cond.code yM_resume cM_resume 2 (some .boolean) ∈ wM0 := List.mem_of_getElem? (i := 23) rfl
def wM_suspend : List Cond := .code yM_suspend cM_suspend 2 (some .int) :: wM0
theorem eM_suspend : Cond.code yM_suspend cM_suspend 2 (some .int) ∈ wM0 := List.mem_of_getElem? (i := 24) rfl
def wM_end : List Cond := .code yM_end cM_end 2 (some .int) :: wM0
theorem eM_end : Cond.code yM_end cM_end 2 (some .int) ∈ wM0 := List.mem_of_getElem? (i := 25) rfl
def wM_await : List Cond := .code yM_await cM_await 3 (some .int) :: wM0
theorem eM_await : Cond.code yM_await cM_await 3 (some .int) ∈ wM0 := List.mem_of_getElem? (i := 26) rfl
def wM_post : List Cond := .code yM_post cM_post 2 (some .int) :: wM0
theorem eM_post : Cond.code yM_post cM_post 2 (some .int) ∈ wM0 := List.mem_of_getElem? (i := 27) rfl
def wM_step : List Cond := .code yM_step cM_step 2 (some .int) :: wM0
theorem eM_step : Cond.code yM_step cM_step 2 (some .int) ∈ wM0 := List.mem_of_getElem? (i := 28) rfl
def wM_work : List Cond := .code yM_work cM_work 2 (some .boolean) :: wM0
theorem eM_work : Cond.code yM_work cM_work 2 (some .boolean) ∈ wM0 := List.mem_of_getElem? (i := 29) rfl
def wM_take : List Cond := .code yM_take cM_take 2 (some .boolean) :: wM0
theorem eM_take : Cond.code yM_take cM_take 2 (some .boolean) ∈ wM0 := List.mem_of_getElem? (i := 30) rfl
def wM_rate : List Cond := .code yM_rate cM_rate 4 (some .int) :: wM0
theorem eM_rate : Cond.code yM_rate cM_rate 4 (some .int) ∈ wM0 := List.mem_of_getElem? (i := 31) rfl
def wM_yield : List Cond := .code yM_yield cM_yield 2 (some .boolean) :: wM0
theorem eM_yield : Cond.code yM_yield cM_yield 2 (some .boolean) ∈ wM0 := List.mem_of_getElem? (i := 32) rfl
set_option maxRecDepth 20000 in
theorem gM_isMade_isProcess : GoodIn wM_isMade (va_wsS RX1 40 yM_isProcess wM_isProcess) := goodIn_app (goodIn_of _ (by decide +kernel)) (gM_any eM_isProcess)
set_option maxRecDepth 20000 in
theorem gM_present_presentOne : GoodIn wM_present (wsV RX1 52 RX1 yM_presentOne wM_presentOne) := goodIn_app (goodIn_of _ (by decide +kernel)) (gM_any eM_presentOne)
set_option maxRecDepth 20000 in
theorem gM_place_isMade : GoodIn wM_place (wsV RX1 74 RX1 yM_isMade wM_isMade) := goodIn_app (goodIn_of _ (by decide +kernel)) (gM_any eM_isMade)
set_option maxRecDepth 20000 in
theorem gM_priority_isMade : GoodIn wM_priority (wsV RX1 74 RX1 yM_isMade wM_isMade) := goodIn_app (goodIn_of _ (by decide +kernel)) (gM_any eM_isMade)
set_option maxRecDepth 20000 in
theorem gM_row_isMade : GoodIn wM_row (wsV RX1 74 RX1 yM_isMade wM_isMade) := goodIn_app (goodIn_of _ (by decide +kernel)) (gM_any eM_isMade)
set_option maxRecDepth 20000 in
theorem gM_at_isPriority : GoodIn wM_at (va_wsS RX1 71 yM_isPriority wM_isPriority) := goodIn_app (goodIn_of _ (by decide +kernel)) (gM_any eM_isPriority)
set_option maxRecDepth 20000 in
theorem gM_at_find : GoodIn wM_at (wsV RX1 64 RX1 yM_find wM_find) := goodIn_app (goodIn_of _ (by decide +kernel)) (gM_any eM_find)
set_option maxRecDepth 20000 in
theorem gM_extra_isSemaphore : GoodIn wM_extra (va_wsS RX1 80 yM_isSemaphore wM_isSemaphore) := goodIn_app (goodIn_of _ (by decide +kernel)) (gM_any eM_isSemaphore)
set_option maxRecDepth 20000 in
theorem gM_wake_presentOne : GoodIn wM_wake (wsV RX1 52 RX1 yM_presentOne wM_presentOne) := goodIn_app (goodIn_of _ (by decide +kernel)) (gM_any eM_presentOne)
set_option maxRecDepth 20000 in
theorem gM_wake_enter : GoodIn wM_wake (wsV RX1 56 RX1 yM_enter wM_enter) := goodIn_app (goodIn_of _ (by decide +kernel)) (gM_any eM_enter)
set_option maxRecDepth 20000 in
theorem gM_wake_want : GoodIn wM_wake (wsV RX1 60 RX1 yM_want wM_want) := goodIn_app (goodIn_of _ (by decide +kernel)) (gM_any eM_want)
set_option maxRecDepth 20000 in
theorem gM_putAside_find : GoodIn wM_putAside (wsV RX1 64 RX1 yM_find wM_find) := goodIn_app (goodIn_of _ (by decide +kernel)) (gM_any eM_find)
set_option maxRecDepth 20000 in
theorem gM_putAside_want : GoodIn wM_putAside (wsV RX1 60 RX1 yM_want wM_want) := goodIn_app (goodIn_of _ (by decide +kernel)) (gM_any eM_want)
set_option maxRecDepth 20000 in
theorem gM_give_find : GoodIn wM_give (wsV RX1 64 RX1 yM_find wM_find) := goodIn_app (goodIn_of _ (by decide +kernel)) (gM_any eM_find)
set_option maxRecDepth 20000 in
theorem gM_give_wake : GoodIn wM_give (wsV RX1 68 RX1 yM_wake wM_wake) := goodIn_app (goodIn_of _ (by decide +kernel)) (gM_any eM_wake)
set_option maxRecDepth 20000 in
theorem gM_signal_isSemaphore : GoodIn wM_signal (va_wsS RX1 80 yM_isSemaphore wM_isSemaphore) := goodIn_app (goodIn_of _ (by decide +kernel)) (gM_any eM_isSemaphore)
set_option maxRecDepth 20000 in
theorem gM_signal_give : GoodIn wM_signal (wsV RX1 83 RX1 yM_give wM_give) := goodIn_app (goodIn_of _ (by decide +kernel)) (gM_any eM_give)
set_option maxRecDepth 20000 in
theorem gM_make_isProcess : GoodIn wM_make (va_wsS RX1 40 yM_isProcess wM_isProcess) := goodIn_app (goodIn_of _ (by decide +kernel)) (gM_any eM_isProcess)
set_option maxRecDepth 20000 in
theorem gM_make_isPriority : GoodIn wM_make (va_wsS RX1 71 yM_isPriority wM_isPriority) := goodIn_app (goodIn_of _ (by decide +kernel)) (gM_any eM_isPriority)
set_option maxRecDepth 20000 in
theorem gM_resume_isMade : GoodIn wM_resume (wsV RX1 74 RX1 yM_isMade wM_isMade) := goodIn_app (goodIn_of _ (by decide +kernel)) (gM_any eM_isMade)
set_option maxRecDepth 20000 in
theorem gM_resume_presentOne : GoodIn wM_resume (wsV RX1 52 RX1 yM_presentOne wM_presentOne) := goodIn_app (goodIn_of _ (by decide +kernel)) (gM_any eM_presentOne)
set_option maxRecDepth 20000 in
theorem gM_resume_wake : GoodIn wM_resume (wsV RX1 68 RX1 yM_wake wM_wake) := goodIn_app (goodIn_of _ (by decide +kernel)) (gM_any eM_wake)
set_option maxRecDepth 20000 in
theorem gM_suspend_presentOne : GoodIn wM_suspend (wsV RX1 52 RX1 yM_presentOne wM_presentOne) := goodIn_app (goodIn_of _ (by decide +kernel)) (gM_any eM_presentOne)
set_option maxRecDepth 20000 in
theorem gM_suspend_putAside : GoodIn wM_suspend (wsV RX1 77 RX1 yM_putAside wM_putAside) := goodIn_app (goodIn_of _ (by decide +kernel)) (gM_any eM_putAside)
set_option maxRecDepth 20000 in
theorem gM_end_presentOne : GoodIn wM_end (wsV RX1 52 RX1 yM_presentOne wM_presentOne) := goodIn_app (goodIn_of _ (by decide +kernel)) (gM_any eM_presentOne)
set_option maxRecDepth 20000 in
theorem gM_end_putAside : GoodIn wM_end (wsV RX1 77 RX1 yM_putAside wM_putAside) := goodIn_app (goodIn_of _ (by decide +kernel)) (gM_any eM_putAside)
set_option maxRecDepth 20000 in
theorem gM_await_presentOne : GoodIn wM_await (wsV RX1 52 RX1 yM_presentOne wM_presentOne) := goodIn_app (goodIn_of _ (by decide +kernel)) (gM_any eM_presentOne)
set_option maxRecDepth 20000 in
theorem gM_await_isSemaphore : GoodIn wM_await (va_wsS RX1 80 yM_isSemaphore wM_isSemaphore) := goodIn_app (goodIn_of _ (by decide +kernel)) (gM_any eM_isSemaphore)
set_option maxRecDepth 20000 in
theorem gM_await_enter : GoodIn wM_await (wsV RX1 56 RX1 yM_enter wM_enter) := goodIn_app (goodIn_of _ (by decide +kernel)) (gM_any eM_enter)
set_option maxRecDepth 20000 in
theorem gM_await_putAside : GoodIn wM_await (wsV RX1 77 RX1 yM_putAside wM_putAside) := goodIn_app (goodIn_of _ (by decide +kernel)) (gM_any eM_putAside)
set_option maxRecDepth 20000 in
theorem gM_post_isSemaphore : GoodIn wM_post (va_wsS RX1 80 yM_isSemaphore wM_isSemaphore) := goodIn_app (goodIn_of _ (by decide +kernel)) (gM_any eM_isSemaphore)
set_option maxRecDepth 20000 in
theorem gM_step_give : GoodIn wM_step (wsV RX1 83 RX1 yM_give wM_give) := goodIn_app (goodIn_of _ (by decide +kernel)) (gM_any eM_give)
set_option maxRecDepth 20000 in
theorem gM_take_isMade : GoodIn wM_take (wsV RX1 74 RX1 yM_isMade wM_isMade) := goodIn_app (goodIn_of _ (by decide +kernel)) (gM_any eM_isMade)
set_option maxRecDepth 20000 in
theorem gM_rate_isMade : GoodIn wM_rate (wsV RX1 74 RX1 yM_isMade wM_isMade) := goodIn_app (goodIn_of _ (by decide +kernel)) (gM_any eM_isMade)
set_option maxRecDepth 20000 in
theorem gM_rate_isPriority : GoodIn wM_rate (va_wsS RX1 71 yM_isPriority wM_isPriority) := goodIn_app (goodIn_of _ (by decide +kernel)) (gM_any eM_isPriority)
set_option maxRecDepth 20000 in
theorem gM_yield_presentOne : GoodIn wM_yield (wsV RX1 52 RX1 yM_presentOne wM_presentOne) := goodIn_app (goodIn_of _ (by decide +kernel)) (gM_any eM_presentOne)
set_option maxRecDepth 20000 in
theorem gM_yield_find : GoodIn wM_yield (wsV RX1 64 RX1 yM_find wM_find) := goodIn_app (goodIn_of _ (by decide +kernel)) (gM_any eM_find)
set_option maxRecDepth 20000 in
theorem gM_yield_enter : GoodIn wM_yield (wsV RX1 56 RX1 yM_enter wM_enter) := goodIn_app (goodIn_of _ (by decide +kernel)) (gM_any eM_enter)
set_option maxRecDepth 20000 in
theorem gM_yield_putAside : GoodIn wM_yield (wsV RX1 77 RX1 yM_putAside wM_putAside) := goodIn_app (goodIn_of _ (by decide +kernel)) (gM_any eM_putAside)
