set_option maxRecDepth 20000 in
theorem gLM0 : GoodIn lw_tbl wM0 := goodIn_p wM0 [258, 308, 261, 269, 273, 348, 344, 352, 356, 360, 364, 368, 297, 372, 376, 380, 285, 281, 277, 293, 316, 312, 255, 265, 289, 301, 305, 320, 324, 328, 332, 336, 340] (by decide +kernel) (by decide +kernel)
theorem gLM_any {b : Cond} (hb : b ∈ wM0) : GoodIn lw_tbl (b :: wM0) := fun w h => by
  rcases List.mem_cons.mp h with rfl | h
  · exact gLM0 _ hb
  · exact gLM0 w h
set_option maxRecDepth 20000 in
theorem gLM_make : GoodIn lw_tbl (wsV RL 17 RX1 yM_make wM_make) := goodIn_app (goodIn_of _ (by decide +kernel)) (gLM_any eM_make)
set_option maxRecDepth 20000 in
theorem gLM_resume : GoodIn lw_tbl (wsV RL 22 RX1 yM_resume wM_resume) := goodIn_app (goodIn_of _ (by decide +kernel)) (gLM_any eM_resume)
set_option maxRecDepth 20000 in
theorem gLM_suspend : GoodIn lw_tbl (wsV RL 27 RX1 yM_suspend wM_suspend) := goodIn_app (goodIn_of _ (by decide +kernel)) (gLM_any eM_suspend)
set_option maxRecDepth 20000 in
theorem gLM_end : GoodIn lw_tbl (wsV RL 31 RX1 yM_end wM_end) := goodIn_app (goodIn_of _ (by decide +kernel)) (gLM_any eM_end)
set_option maxRecDepth 20000 in
theorem gLM_await : GoodIn lw_tbl (wsV RL 36 RX1 yM_await wM_await) := goodIn_app (goodIn_of _ (by decide +kernel)) (gLM_any eM_await)
set_option maxRecDepth 20000 in
theorem gLM_signal : GoodIn lw_tbl (wsV RL 40 RX1 yM_signal wM_signal) := goodIn_app (goodIn_of _ (by decide +kernel)) (gLM_any eM_signal)
set_option maxRecDepth 20000 in
theorem gLM_post : GoodIn lw_tbl (wsV RL 44 RX1 yM_post wM_post) := goodIn_app (goodIn_of _ (by decide +kernel)) (gLM_any eM_post)
set_option maxRecDepth 20000 in
theorem gLM_step : GoodIn lw_tbl (wsV RL 48 RX1 yM_step wM_step) := goodIn_app (goodIn_of _ (by decide +kernel)) (gLM_any eM_step)
set_option maxRecDepth 20000 in
theorem gLM_work : GoodIn lw_tbl (wsV RL 52 RX1 yM_work wM_work) := goodIn_app (goodIn_of _ (by decide +kernel)) (gLM_any eM_work)
set_option maxRecDepth 20000 in
theorem gLM_take : GoodIn lw_tbl (wsV RL 56 RX1 yM_take wM_take) := goodIn_app (goodIn_of _ (by decide +kernel)) (gLM_any eM_take)
set_option maxRecDepth 20000 in
theorem gLM_rate : GoodIn lw_tbl (wsV RL 61 RX1 yM_rate wM_rate) := goodIn_app (goodIn_of _ (by decide +kernel)) (gLM_any eM_rate)
set_option maxRecDepth 20000 in
theorem gLM_yield : GoodIn lw_tbl (wsV RL 66 RX1 yM_yield wM_yield) := goodIn_app (goodIn_of _ (by decide +kernel)) (gLM_any eM_yield)
set_option maxRecDepth 20000 in
theorem gLM_active : GoodIn lw_tbl (wsV RL 70 RX1 yM_active wM_active) := goodIn_app (goodIn_of _ (by decide +kernel)) (gLM_any eM_active)
set_option maxRecDepth 20000 in
theorem gLM_present : GoodIn lw_tbl (wsV RL 74 RX1 yM_present wM_present) := goodIn_app (goodIn_of _ (by decide +kernel)) (gLM_any eM_present)
set_option maxRecDepth 20000 in
theorem gLM_wanted : GoodIn lw_tbl (wsV RL 78 RX1 yM_wanted wM_wanted) := goodIn_app (goodIn_of _ (by decide +kernel)) (gLM_any eM_wanted)
set_option maxRecDepth 20000 in
theorem gLM_here : GoodIn lw_tbl (wsV RL 82 RX1 yM_here wM_here) := goodIn_app (goodIn_of _ (by decide +kernel)) (gLM_any eM_here)
set_option maxRecDepth 20000 in
theorem gLM_place : GoodIn lw_tbl (wsV RL 86 RX1 yM_place wM_place) := goodIn_app (goodIn_of _ (by decide +kernel)) (gLM_any eM_place)
set_option maxRecDepth 20000 in
theorem gLM_priority : GoodIn lw_tbl (wsV RL 90 RX1 yM_priority wM_priority) := goodIn_app (goodIn_of _ (by decide +kernel)) (gLM_any eM_priority)
set_option maxRecDepth 20000 in
theorem gLM_row : GoodIn lw_tbl (wsV RL 94 RX1 yM_row wM_row) := goodIn_app (goodIn_of _ (by decide +kernel)) (gLM_any eM_row)
set_option maxRecDepth 20000 in
theorem gLM_at : GoodIn lw_tbl (wsV RL 98 RX1 yM_at wM_at) := goodIn_app (goodIn_of _ (by decide +kernel)) (gLM_any eM_at)
set_option maxRecDepth 20000 in
theorem gLM_extra : GoodIn lw_tbl (wsV RL 102 RX1 yM_extra wM_extra) := goodIn_app (goodIn_of _ (by decide +kernel)) (gLM_any eM_extra)
set_option maxRecDepth 20000 in
theorem gLM_posted : GoodIn lw_tbl (wsV RL 106 RX1 yM_posted wM_posted) := goodIn_app (goodIn_of _ (by decide +kernel)) (gLM_any eM_posted)
/-! THE CLAIM OUT OF ONE WALK OF THE LAW'S BODY. Your part is whole_start (and what it stands on); all else here is the same for every law, but numbers. -/
def R_law : String := "ProcessRoomLaw"
def lw_P (b : Addr) (xs : List Int32) (args : Array Value) (s : State) : Prop := args = #[.ref b] ∧ s.IntsAt b xs ∧ xs.length ≤ 2048 ∧ (Jvm.Cond.and given_1 narrow_1).before args s = true
def lw_Q (_ : Array Value) (s : State) (o : Outcome) (t : State) : Prop := o = .returned (some (.int 1)) ∧ Framed s o t [] 15 425
def lw_Z (below : List Frame) (a : Array Value) (s : State) : State → Prop := fun t => ∃ o, t.status = .running ∧ Ended t below o ∧ lw_Q a s o t
/-- the law's own end, with 1 on the stack, nothing written that was there before, its room as the claim has it -/
theorem lw_ret {p : Program} {l : Launch} {e : Env} {s : State} {m : MethodId} {below : List Frame} {meth : Method} {c : Code} {b : Nat} (hx : p.tables.exec = Jvm.exec) (hb : c.code = code) (hr : meth.sig.returnType = ret) (hlocks : meth.locks = false) {pc : Nat} {H : Heap} {ls : Array Slot} (hdg : decode code pc = .ok (.ireturn, 1)) : W p l e room_1 s m #[Value.ref b] below meth c H [] 15 425 (lw_Z below #[Value.ref b] s) (F0 m pc ls [.int 1]) := by
  intro T hT X
  obtain ⟨fs, hret, hrun, hended, hW, hframe⟩ := X.leave (v := some (.int 1)) (hlocks := hlocks) (fun h => by rw [hr] at h; cases h)
  have hmeth' : T.vm.method? m = some meth := X.method'
  refine ⟨T.setFrames fs, ?_, .returned (some (.int 1)), hrun, hended, rfl, ⟨_, rfl⟩, hW, hframe⟩
  jvm_step X.here [X.here.top, hx, hb, hdg, hmeth', hr, ret, narrow_b1]
  (try refine ⟨rfl, ?_⟩); (try refine ⟨rfl, ?_⟩)
  first | (intro acts; rw [hret _ acts rfl rfl rfl]) | rw [hret _ _ rfl rfl rfl]
  exact Steps.refl _
/-- what holds at the law's entry: the machine, the code, the tables' words (any of lw_tbl by 'hts w (by decide +kernel)'), the script of L ints xs at the cell b, what the Statement gives of the start (any of its parts by flat_of_before) -/
def lw_At (p : Program) (s : State) (m : MethodId) (meth : Method) (c : Code) (b L : Nat) (xs : Nat → Int32) : Prop :=
  p.tables.exec = Jvm.exec ∧ c.code = code ∧ meth.sig.returnType = ret ∧ c.maxLocals = 4 ∧ s.vm.findClass R_law = some m.cls ∧ (∀ w ∈ lw_tbl, w.before #[Value.ref b] s = true) ∧ va_X b L xs s s.heap ∧ b < s.heap.size ∧ meth.locks = false ∧ (Jvm.Cond.and given_1 narrow_1).before #[Value.ref b] s = true
