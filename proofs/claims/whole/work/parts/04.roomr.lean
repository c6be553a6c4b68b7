set_option maxHeartbeats 4000000 in
set_option maxRecDepth 100000 in
theorem rc_isProcess (l : Launch) (p1 : Int32) (T : Int32) (hf : rf_isProcess p1 = T) : Met l yX0_isProcess wsX0_isProcess ({ frames := 0, cells := 0, slots := 0, locals := 0 } : Room) (va_Pc [.int p1] (fun _ => True)) (va_Qi (fun r (_ : Unit) => r = T) (fun _ _ => True) (fun _ => False)) 0 0 (fun _ => False) := by
  refine Met.ofW (cc := cX0_isProcess) (maxL := 1) (ret := (some .boolean)) (by decide) rfl ?_
  intro p e s m args below meth c s₁ B hml hv
  obtain ⟨rfl, -⟩ := hv
  have hx := B.exec
  have hb := B.bytes
  have hr := B.returns
  have hts := atoms_spec (ws := wsX0_isProcess) B.pre
  have hown : s.vm.findClass RX0 = some m.cls := findClass_of_methodNamed B.named
  have hlocks := B.notSynchronized
  have hS : va_S (fun _ => False) s.heap s.heap [] := va_S.rf
  have hl := lv_entry ([.int p1]) (n := 1) (Nat.le_of_ble_eq_true rfl)
  rw [lg_entry_eq]
  generalize (lg_sl ([.int p1]) ++ List.replicate (1 - (lg_sl ([.int p1])).length) Slot.unset).toArray = ls at hl ⊢
  have hl : lv_has ls 1 [(0, .int p1)] := hl
  refine lv_iload_n hx hb dX0_isProcess_0 rfl (lv_at hl 0 rfl) ?_
  refine lv_if_lt (tgt := 14) hx hb dX0_isProcess_1 (by decide) (fun c_1 => ?_) (fun c_1 => ?_)
  · refine lv_iconst (v := 0) hx hb dX0_isProcess_14 (by decide) ?_
    have eT : 0 = T := by rw [← hf]; simp only [rf_isProcess, if_pos c_1]
    exact W.zret (v := 0) hx hb hr (rfl) (fun t ht hW => ⟨⟨0, (), rfl, eT, trivial⟩, hS.F ht⟩) hS.2.2 dX0_isProcess_15
  · refine lv_iload_n hx hb dX0_isProcess_4 rfl (lv_at hl 0 rfl) ?_
    refine lv_bipush (v := 32) hx hb dX0_isProcess_5 (by decide) ?_
    refine lv_icmp_ge (tgt := 14) hx hb dX0_isProcess_7 (by decide) (fun c_2 => ?_) (fun c_2 => ?_)
    · refine lv_iconst (v := 0) hx hb dX0_isProcess_14 (by decide) ?_
      have eT : 0 = T := by rw [← hf]; simp only [rf_isProcess, if_neg c_1, if_pos c_2]
      exact W.zret (v := 0) hx hb hr (rfl) (fun t ht hW => ⟨⟨0, (), rfl, eT, trivial⟩, hS.F ht⟩) hS.2.2 dX0_isProcess_15
    · refine lv_iconst (v := 1) hx hb dX0_isProcess_10 (by decide) ?_
      refine lv_goto (tgt := 15) hx hb dX0_isProcess_11 (by decide) ?_
      have eT : 1 = T := by rw [← hf]; simp only [rf_isProcess, if_neg c_1, if_neg c_2]
      exact W.zret (v := 1) hx hb hr (rfl) (fun t ht hW => ⟨⟨1, (), rfl, eT, trivial⟩, hS.F ht⟩) hS.2.2 dX0_isProcess_15
set_option maxHeartbeats 4000000 in
set_option maxRecDepth 100000 in
theorem rc_isSemaphore (l : Launch) (p1 : Int32) (T : Int32) (hf : rf_isSemaphore p1 = T) : Met l yX0_isSemaphore wsX0_isSemaphore ({ frames := 0, cells := 0, slots := 0, locals := 0 } : Room) (va_Pc [.int p1] (fun _ => True)) (va_Qi (fun r (_ : Unit) => r = T) (fun _ _ => True) (fun _ => False)) 0 0 (fun _ => False) := by
  refine Met.ofW (cc := cX0_isSemaphore) (maxL := 1) (ret := (some .boolean)) (by decide) rfl ?_
  intro p e s m args below meth c s₁ B hml hv
  obtain ⟨rfl, -⟩ := hv
  have hx := B.exec
  have hb := B.bytes
  have hr := B.returns
  have hts := atoms_spec (ws := wsX0_isSemaphore) B.pre
  have hown : s.vm.findClass RX0 = some m.cls := findClass_of_methodNamed B.named
  have hlocks := B.notSynchronized
  have hS : va_S (fun _ => False) s.heap s.heap [] := va_S.rf
  have hl := lv_entry ([.int p1]) (n := 1) (Nat.le_of_ble_eq_true rfl)
  rw [lg_entry_eq]
  generalize (lg_sl ([.int p1]) ++ List.replicate (1 - (lg_sl ([.int p1])).length) Slot.unset).toArray = ls at hl ⊢
  have hl : lv_has ls 1 [(0, .int p1)] := hl
  refine lv_iload_n hx hb dX0_isSemaphore_0 rfl (lv_at hl 0 rfl) ?_
  refine lv_if_lt (tgt := 14) hx hb dX0_isSemaphore_1 (by decide) (fun c_3 => ?_) (fun c_3 => ?_)
  · refine lv_iconst (v := 0) hx hb dX0_isSemaphore_14 (by decide) ?_
    have eT : 0 = T := by rw [← hf]; simp only [rf_isSemaphore, if_pos c_3]
    exact W.zret (v := 0) hx hb hr (rfl) (fun t ht hW => ⟨⟨0, (), rfl, eT, trivial⟩, hS.F ht⟩) hS.2.2 dX0_isSemaphore_15
  · refine lv_iload_n hx hb dX0_isSemaphore_4 rfl (lv_at hl 0 rfl) ?_
    refine lv_bipush (v := 16) hx hb dX0_isSemaphore_5 (by decide) ?_
    refine lv_icmp_ge (tgt := 14) hx hb dX0_isSemaphore_7 (by decide) (fun c_4 => ?_) (fun c_4 => ?_)
    · refine lv_iconst (v := 0) hx hb dX0_isSemaphore_14 (by decide) ?_
      have eT : 0 = T := by rw [← hf]; simp only [rf_isSemaphore, if_neg c_3, if_pos c_4]
      exact W.zret (v := 0) hx hb hr (rfl) (fun t ht hW => ⟨⟨0, (), rfl, eT, trivial⟩, hS.F ht⟩) hS.2.2 dX0_isSemaphore_15
    · refine lv_iconst (v := 1) hx hb dX0_isSemaphore_10 (by decide) ?_
      refine lv_goto (tgt := 15) hx hb dX0_isSemaphore_11 (by decide) ?_
      have eT : 1 = T := by rw [← hf]; simp only [rf_isSemaphore, if_neg c_3, if_neg c_4]
      exact W.zret (v := 1) hx hb hr (rfl) (fun t ht hW => ⟨⟨1, (), rfl, eT, trivial⟩, hS.F ht⟩) hS.2.2 dX0_isSemaphore_15
set_option maxHeartbeats 4000000 in
set_option maxRecDepth 100000 in
theorem rc_isPriority (l : Launch) (p1 : Int32) (T : Int32) (hf : rf_isPriority p1 = T) : Met l yX0_isPriority wsX0_isPriority ({ frames := 0, cells := 0, slots := 0, locals := 0 } : Room) (va_Pc [.int p1] (fun _ => True)) (va_Qi (fun r (_ : Unit) => r = T) (fun _ _ => True) (fun _ => False)) 0 0 (fun _ => False) := by
  refine Met.ofW (cc := cX0_isPriority) (maxL := 1) (ret := (some .boolean)) (by decide) rfl ?_
  intro p e s m args below meth c s₁ B hml hv
  obtain ⟨rfl, -⟩ := hv
  have hx := B.exec
  have hb := B.bytes
  have hr := B.returns
  have hts := atoms_spec (ws := wsX0_isPriority) B.pre
  have hown : s.vm.findClass RX0 = some m.cls := findClass_of_methodNamed B.named
  have hlocks := B.notSynchronized
  have hS : va_S (fun _ => False) s.heap s.heap [] := va_S.rf
  have hl := lv_entry ([.int p1]) (n := 1) (Nat.le_of_ble_eq_true rfl)
  rw [lg_entry_eq]
  generalize (lg_sl ([.int p1]) ++ List.replicate (1 - (lg_sl ([.int p1])).length) Slot.unset).toArray = ls at hl ⊢
  have hl : lv_has ls 1 [(0, .int p1)] := hl
  refine lv_iload_n hx hb dX0_isPriority_0 rfl (lv_at hl 0 rfl) ?_
  refine lv_iconst (v := 1) hx hb dX0_isPriority_1 (by decide) ?_
  refine lv_icmp_lt (tgt := 15) hx hb dX0_isPriority_2 (by decide) (fun c_5 => ?_) (fun c_5 => ?_)
  · refine lv_iconst (v := 0) hx hb dX0_isPriority_15 (by decide) ?_
    have eT : 0 = T := by rw [← hf]; simp only [rf_isPriority, if_pos c_5]
    exact W.zret (v := 0) hx hb hr (rfl) (fun t ht hW => ⟨⟨0, (), rfl, eT, trivial⟩, hS.F ht⟩) hS.2.2 dX0_isPriority_16
  · refine lv_iload_n hx hb dX0_isPriority_5 rfl (lv_at hl 0 rfl) ?_
    refine lv_bipush (v := 8) hx hb dX0_isPriority_6 (by decide) ?_
    refine lv_icmp_gt (tgt := 15) hx hb dX0_isPriority_8 (by decide) (fun c_6 => ?_) (fun c_6 => ?_)
    · refine lv_iconst (v := 0) hx hb dX0_isPriority_15 (by decide) ?_
      have eT : 0 = T := by rw [← hf]; simp only [rf_isPriority, if_neg c_5, if_pos c_6]
      exact W.zret (v := 0) hx hb hr (rfl) (fun t ht hW => ⟨⟨0, (), rfl, eT, trivial⟩, hS.F ht⟩) hS.2.2 dX0_isPriority_16
    · refine lv_iconst (v := 1) hx hb dX0_isPriority_11 (by decide) ?_
      refine lv_goto (tgt := 16) hx hb dX0_isPriority_12 (by decide) ?_
      have eT : 1 = T := by rw [← hf]; simp only [rf_isPriority, if_neg c_5, if_neg c_6]
      exact W.zret (v := 1) hx hb hr (rfl) (fun t ht hW => ⟨⟨1, (), rfl, eT, trivial⟩, hS.F ht⟩) hS.2.2 dX0_isPriority_16
set_option maxHeartbeats 4000000 in
set_option maxRecDepth 100000 in
theorem rc_isMade (l : Launch) (dC : Nat → ClassId) (dI : Nat → Nat → Nat) (ad : Nat → Nat) (cA : Nat → ClassId) (u : RS) (p1 : Int32) (T : Int32) (hf : rf_isMade u p1 = T) : Met l yX0_isMade wsX0_isMade ({ frames := 1, cells := 0, slots := 0, locals := 20 } : Room) (va_Pc [.ref (ad 0), .int p1] (fun U => va_P (dC, dI) vwCl (rW ad cA u) U.heap ∧ va_K (dC, dI) vwCl (rT cA) U)) (va_Qi (fun r (_ : Unit) => r = T) (fun _ _ => True) (fun _ => False)) 0 0 (fun _ => False) := by
  refine Met.ofW (cc := cX0_isMade) (maxL := 2) (ret := (some .boolean)) (by decide) rfl ?_
  intro p e s m args below meth c s₁ B hml hv
  obtain ⟨rfl, hP, hK⟩ := hv
  have hx := B.exec
  have hb := B.bytes
  have hr := B.returns
  have hts := atoms_spec (ws := wsX0_isMade) B.pre
  have hown : s.vm.findClass RX0 = some m.cls := findClass_of_methodNamed B.named
  have hlocks := B.notSynchronized
  have hin0 : ∀ w ∈ wsX00, w ∈ wsX0_isMade := by decide +kernel
  have fl_priorities := hts (.fieldLink RX0 9 "ProcessRoom" "priorities" "[I") (by decide +kernel)
  have hS : va_S (fun _ => False) s.heap s.heap [] := va_S.rf
  have hl := lv_entry ([.ref (ad 0), .int p1]) (n := 2) (Nat.le_of_ble_eq_true rfl)
  rw [lg_entry_eq]
  generalize (lg_sl ([.ref (ad 0), .int p1]) ++ List.replicate (2 - (lg_sl ([.ref (ad 0), .int p1])).length) Slot.unset).toArray = ls at hl ⊢
  have hl : lv_has ls 2 [(0, .ref (ad 0)), (1, .int p1)] := hl
  refine lv_iload_n hx hb dX0_isMade_0 rfl (lv_at hl 1 rfl) ?_
  refine va_calli (va_runS (As := [.int p1]) (rest := []) ⟨hx, hb, hml, hown, hts⟩ (rc_isProcess l p1 _ rfl) (va_cwS 1 hts gX0_isMade_X0_isProcess rfl rfl rfl (by decide +kernel) ⟨Nat.le_of_ble_eq_true rfl, Nat.le_of_ble_eq_true rfl⟩) ⟨fun a U g mk q => ⟨q.1, trivial⟩, fun U hU hW => ⟨rfl, trivial⟩⟩ rfl rfl hl.1 rfl (lv_room (Nat.le_of_ble_eq_true rfl)) dX0_isMade_1 ⟨Nat.le_of_ble_eq_true rfl, Nat.le_of_ble_eq_true rfl⟩) hS (fun _ _ h => h.elim) (fun _ h => h.elim) (fun r_7 u_ t H1 locs ht hvm hr_7 hB hz1 hk1 hS => ?_)
  have hP := hP.kept (fun k x hx => hk1 x.1 ((hP k x hx).lt) (fun h => h))
  generalize H1 = H at hP hS ⊢
  refine lv_if_eq (tgt := 20) hx hb dX0_isMade_4 (by decide) (fun c_8 => ?_) (fun c_8 => ?_)
  · refine lv_iconst (v := 0) hx hb dX0_isMade_20 (by decide) ?_
    have eT : 0 = T := by subst hr_7; rw [← hf]; simp only [rf_isMade, if_pos c_8]
    exact W.zret (v := 0) hx hb hr (rfl) (fun t ht hW => ⟨⟨0, (), rfl, eT, trivial⟩, hS.F ht⟩) hS.2.2 dX0_isMade_21
  · refine lv_aload_n hx hb dX0_isMade_7 rfl (lv_at hl 0 rfl) ?_
    refine va_get (D := (dC, dI)) (ci := 0) (v := .ref (ad 1)) (C := RX0) (T := TX0) (N := 12) (fs := rF ad u) hx hb hts hin0 hown hK hP 0 rfl rfl 0 (by decide) fl_priorities (fun _ h9 => h9) rfl dX0_isMade_8 ?_
    refine lv_iload_n hx hb dX0_isMade_11 rfl (lv_at hl 1 rfl) ?_
    refine va_iald hx hb hK hP 1 0 rfl rfl (ri_isProcess hr_7 c_8) dX0_isMade_12 ?_
    refine lv_if_eq (tgt := 20) hx hb dX0_isMade_13 (by decide) (fun c_9 => ?_) (fun c_9 => ?_)
    · refine lv_iconst (v := 0) hx hb dX0_isMade_20 (by decide) ?_
      have eT : 0 = T := by subst hr_7; rw [← hf]; simp only [rf_isMade, if_neg c_8, if_pos c_9]
      exact W.zret (v := 0) hx hb hr (rfl) (fun t ht hW => ⟨⟨0, (), rfl, eT, trivial⟩, hS.F ht⟩) hS.2.2 dX0_isMade_21
    · refine lv_iconst (v := 1) hx hb dX0_isMade_16 (by decide) ?_
      refine lv_goto (tgt := 21) hx hb dX0_isMade_17 (by decide) ?_
      have eT : 1 = T := by subst hr_7; rw [← hf]; simp only [rf_isMade, if_neg c_8, if_neg c_9]
      exact W.zret (v := 1) hx hb hr (rfl) (fun t ht hW => ⟨⟨1, (), rfl, eT, trivial⟩, hS.F ht⟩) hS.2.2 dX0_isMade_21
set_option maxHeartbeats 4000000 in
set_option maxRecDepth 100000 in
theorem rc_present (l : Launch) (dC : Nat → ClassId) (dI : Nat → Nat → Nat) (ad : Nat → Nat) (cA : Nat → ClassId) (u : RS)  (T : Int32) (hf : rf_present u = T) : Met l yX0_present wsX0_present ({ frames := 0, cells := 0, slots := 0, locals := 0 } : Room) (va_Pc [.ref (ad 0)] (fun U => va_P (dC, dI) vwCl (rW ad cA u) U.heap ∧ va_K (dC, dI) vwCl (rT cA) U)) (va_Qi (fun r (_ : Unit) => r = T) (fun _ _ => True) (fun _ => False)) 0 0 (fun _ => False) := by
  refine Met.ofW (cc := cX0_present) (maxL := 1) (ret := (some .int)) (by decide) rfl ?_
  intro p e s m args below meth c s₁ B hml hv
  obtain ⟨rfl, hP, hK⟩ := hv
  have hx := B.exec
  have hb := B.bytes
  have hr := B.returns
  have hts := atoms_spec (ws := wsX0_present) B.pre
  have hown : s.vm.findClass RX0 = some m.cls := findClass_of_methodNamed B.named
  have hlocks := B.notSynchronized
  have hin0 : ∀ w ∈ wsX00, w ∈ wsX0_present := by decide +kernel
  have fl_wanted := hts (.fieldLink RX0 41 "ProcessRoom" "wanted" "Z") (by decide +kernel)
  have fl_wantedOne := hts (.fieldLink RX0 45 "ProcessRoom" "wantedOne" "I") (by decide +kernel)
  have fl_active := hts (.fieldLink RX0 35 "ProcessRoom" "active" "I") (by decide +kernel)
  have hS : va_S (fun _ => False) s.heap s.heap [] := va_S.rf
  have hl := lv_entry ([.ref (ad 0)]) (n := 1) (Nat.le_of_ble_eq_true rfl)
  rw [lg_entry_eq]
  generalize (lg_sl ([.ref (ad 0)]) ++ List.replicate (1 - (lg_sl ([.ref (ad 0)])).length) Slot.unset).toArray = ls at hl ⊢
  have hl : lv_has ls 1 [(0, .ref (ad 0))] := hl
  refine lv_aload_n hx hb dX0_present_0 rfl (lv_at hl 0 rfl) ?_
  refine va_get (D := (dC, dI)) (ci := 0) (v := .int (ra_wanted u)) (C := RX0) (T := TX0) (N := 12) (fs := rF ad u) hx hb hts hin0 hown hK hP 0 rfl rfl 10 (by decide) fl_wanted (fun _ h9 => h9) rfl dX0_present_1 ?_
  refine lv_if_eq (tgt := 14) hx hb dX0_present_4 (by decide) (fun c_10 => ?_) (fun c_10 => ?_)
  · refine lv_aload_n hx hb dX0_present_14 rfl (lv_at hl 0 rfl) ?_
    refine va_get (D := (dC, dI)) (ci := 0) (v := .int (ra_active u)) (C := RX0) (T := TX0) (N := 12) (fs := rF ad u) hx hb hts hin0 hown hK hP 0 rfl rfl 8 (by decide) fl_active (fun _ h9 => h9) rfl dX0_present_15 ?_
    have eT : ra_active u = T := by rw [← hf]; simp only [rf_present, if_pos c_10]
    exact W.iret (v := ra_active u) hx hb hr (fun t ht hW => ⟨⟨ra_active u, (), rfl, eT, trivial⟩, hS.F ht⟩) hS.2.2 dX0_present_18
  · refine lv_aload_n hx hb dX0_present_7 rfl (lv_at hl 0 rfl) ?_
    refine va_get (D := (dC, dI)) (ci := 0) (v := .int (ra_wantedOne u)) (C := RX0) (T := TX0) (N := 12) (fs := rF ad u) hx hb hts hin0 hown hK hP 0 rfl rfl 11 (by decide) fl_wantedOne (fun _ h9 => h9) rfl dX0_present_8 ?_
    refine lv_goto (tgt := 18) hx hb dX0_present_11 (by decide) ?_
    have eT : ra_wantedOne u = T := by rw [← hf]; simp only [rf_present, if_neg c_10]
    exact W.iret (v := ra_wantedOne u) hx hb hr (fun t ht hW => ⟨⟨ra_wantedOne u, (), rfl, eT, trivial⟩, hS.F ht⟩) hS.2.2 dX0_present_18
set_option maxHeartbeats 4000000 in
set_option maxRecDepth 100000 in
theorem rc_active (l : Launch) (dC : Nat → ClassId) (dI : Nat → Nat → Nat) (ad : Nat → Nat) (cA : Nat → ClassId) (u : RS)  (T : Int32) (hf : rf_active u = T) : Met l yX0_active wsX0_active ({ frames := 0, cells := 0, slots := 0, locals := 0 } : Room) (va_Pc [.ref (ad 0)] (fun U => va_P (dC, dI) vwCl (rW ad cA u) U.heap ∧ va_K (dC, dI) vwCl (rT cA) U)) (va_Qi (fun r (_ : Unit) => r = T) (fun _ _ => True) (fun _ => False)) 0 0 (fun _ => False) := by
  refine Met.ofW (cc := cX0_active) (maxL := 1) (ret := (some .int)) (by decide) rfl ?_
  intro p e s m args below meth c s₁ B hml hv
  obtain ⟨rfl, hP, hK⟩ := hv
  have hx := B.exec
  have hb := B.bytes
  have hr := B.returns
  have hts := atoms_spec (ws := wsX0_active) B.pre
  have hown : s.vm.findClass RX0 = some m.cls := findClass_of_methodNamed B.named
  have hlocks := B.notSynchronized
  have hin0 : ∀ w ∈ wsX00, w ∈ wsX0_active := by decide +kernel
  have fl_active := hts (.fieldLink RX0 35 "ProcessRoom" "active" "I") (by decide +kernel)
  have hS : va_S (fun _ => False) s.heap s.heap [] := va_S.rf
  have hl := lv_entry ([.ref (ad 0)]) (n := 1) (Nat.le_of_ble_eq_true rfl)
  rw [lg_entry_eq]
  generalize (lg_sl ([.ref (ad 0)]) ++ List.replicate (1 - (lg_sl ([.ref (ad 0)])).length) Slot.unset).toArray = ls at hl ⊢
  have hl : lv_has ls 1 [(0, .ref (ad 0))] := hl
  refine lv_aload_n hx hb dX0_active_0 rfl (lv_at hl 0 rfl) ?_
  refine va_get (D := (dC, dI)) (ci := 0) (v := .int (ra_active u)) (C := RX0) (T := TX0) (N := 12) (fs := rF ad u) hx hb hts hin0 hown hK hP 0 rfl rfl 8 (by decide) fl_active (fun _ h9 => h9) rfl dX0_active_1 ?_
  have eT : ra_active u = T := by rw [← hf]; simp only [rf_active]
  exact W.iret (v := ra_active u) hx hb hr (fun t ht hW => ⟨⟨ra_active u, (), rfl, eT, trivial⟩, hS.F ht⟩) hS.2.2 dX0_active_4
set_option maxHeartbeats 4000000 in
set_option maxRecDepth 100000 in
theorem rc_wanted (l : Launch) (dC : Nat → ClassId) (dI : Nat → Nat → Nat) (ad : Nat → Nat) (cA : Nat → ClassId) (u : RS)  (hI : rInv u) (T : Int32) (hf : rf_wanted u = T) : Met l yX0_wanted wsX0_wanted ({ frames := 0, cells := 0, slots := 0, locals := 0 } : Room) (va_Pc [.ref (ad 0)] (fun U => va_P (dC, dI) vwCl (rW ad cA u) U.heap ∧ va_K (dC, dI) vwCl (rT cA) U)) (va_Qi (fun r (_ : Unit) => r = T) (fun _ _ => True) (fun _ => False)) 0 0 (fun _ => False) := by
  refine Met.ofW (cc := cX0_wanted) (maxL := 1) (ret := (some .boolean)) (by decide) rfl ?_
  intro p e s m args below meth c s₁ B hml hv
  obtain ⟨rfl, hP, hK⟩ := hv
  have hx := B.exec
  have hb := B.bytes
  have hr := B.returns
  have hts := atoms_spec (ws := wsX0_wanted) B.pre
  have hown : s.vm.findClass RX0 = some m.cls := findClass_of_methodNamed B.named
  have hlocks := B.notSynchronized
  have hin0 : ∀ w ∈ wsX00, w ∈ wsX0_wanted := by decide +kernel
  have fl_wanted := hts (.fieldLink RX0 41 "ProcessRoom" "wanted" "Z") (by decide +kernel)
  have hS : va_S (fun _ => False) s.heap s.heap [] := va_S.rf
  have hl := lv_entry ([.ref (ad 0)]) (n := 1) (Nat.le_of_ble_eq_true rfl)
  rw [lg_entry_eq]
  generalize (lg_sl ([.ref (ad 0)]) ++ List.replicate (1 - (lg_sl ([.ref (ad 0)])).length) Slot.unset).toArray = ls at hl ⊢
  have hl : lv_has ls 1 [(0, .ref (ad 0))] := hl
  refine lv_aload_n hx hb dX0_wanted_0 rfl (lv_at hl 0 rfl) ?_
  refine va_get (D := (dC, dI)) (ci := 0) (v := .int (ra_wanted u)) (C := RX0) (T := TX0) (N := 12) (fs := rF ad u) hx hb hts hin0 hown hK hP 0 rfl rfl 10 (by decide) fl_wanted (fun _ h9 => h9) rfl dX0_wanted_1 ?_
  have eT : ra_wanted u = T := by rw [← hf]; simp only [rf_wanted]
  exact W.zret (v := ra_wanted u) hx hb hr (k_nar hI.2.2) (fun t ht hW => ⟨⟨ra_wanted u, (), rfl, eT, trivial⟩, hS.F ht⟩) hS.2.2 dX0_wanted_4
set_option maxHeartbeats 4000000 in
set_option maxRecDepth 100000 in
theorem rc_here (l : Launch) (dC : Nat → ClassId) (dI : Nat → Nat → Nat) (ad : Nat → Nat) (cA : Nat → ClassId) (u : RS)  (T : Int32) (hf : rf_here u = T) : Met l yX0_here wsX0_here ({ frames := 0, cells := 0, slots := 0, locals := 0 } : Room) (va_Pc [.ref (ad 0)] (fun U => va_P (dC, dI) vwCl (rW ad cA u) U.heap ∧ va_K (dC, dI) vwCl (rT cA) U)) (va_Qi (fun r (_ : Unit) => r = T) (fun _ _ => True) (fun _ => False)) 0 0 (fun _ => False) := by
  refine Met.ofW (cc := cX0_here) (maxL := 1) (ret := (some .int)) (by decide) rfl ?_
  intro p e s m args below meth c s₁ B hml hv
  obtain ⟨rfl, hP, hK⟩ := hv
  have hx := B.exec
  have hb := B.bytes
  have hr := B.returns
  have hts := atoms_spec (ws := wsX0_here) B.pre
  have hown : s.vm.findClass RX0 = some m.cls := findClass_of_methodNamed B.named
  have hlocks := B.notSynchronized
  have hin0 : ∀ w ∈ wsX00, w ∈ wsX0_here := by decide +kernel
  have fl_here := hts (.fieldLink RX0 38 "ProcessRoom" "here" "I") (by decide +kernel)
  have hS : va_S (fun _ => False) s.heap s.heap [] := va_S.rf
  have hl := lv_entry ([.ref (ad 0)]) (n := 1) (Nat.le_of_ble_eq_true rfl)
  rw [lg_entry_eq]
  generalize (lg_sl ([.ref (ad 0)]) ++ List.replicate (1 - (lg_sl ([.ref (ad 0)])).length) Slot.unset).toArray = ls at hl ⊢
  have hl : lv_has ls 1 [(0, .ref (ad 0))] := hl
  refine lv_aload_n hx hb dX0_here_0 rfl (lv_at hl 0 rfl) ?_
  refine va_get (D := (dC, dI)) (ci := 0) (v := .int (ra_here u)) (C := RX0) (T := TX0) (N := 12) (fs := rF ad u) hx hb hts hin0 hown hK hP 0 rfl rfl 9 (by decide) fl_here (fun _ h9 => h9) rfl dX0_here_1 ?_
  have eT : ra_here u = T := by rw [← hf]; simp only [rf_here]
  exact W.iret (v := ra_here u) hx hb hr (fun t ht hW => ⟨⟨ra_here u, (), rfl, eT, trivial⟩, hS.F ht⟩) hS.2.2 dX0_here_4
set_option maxHeartbeats 4000000 in
set_option maxRecDepth 100000 in
theorem rc_place (l : Launch) (dC : Nat → ClassId) (dI : Nat → Nat → Nat) (ad : Nat → Nat) (cA : Nat → ClassId) (u : RS) (p1 : Int32) (T : Int32) (hf : rf_place u p1 = T) : Met l yX0_place wsX0_place ({ frames := 2, cells := 0, slots := 0, locals := 41 } : Room) (va_Pc [.ref (ad 0), .int p1] (fun U => va_P (dC, dI) vwCl (rW ad cA u) U.heap ∧ va_K (dC, dI) vwCl (rT cA) U)) (va_Qi (fun r (_ : Unit) => r = T) (fun _ _ => True) (fun _ => False)) 0 0 (fun _ => False) := by
  refine Met.ofW (cc := cX0_place) (maxL := 2) (ret := (some .int)) (by decide) rfl ?_
  intro p e s m args below meth c s₁ B hml hv
  obtain ⟨rfl, hP, hK⟩ := hv
  have hx := B.exec
  have hb := B.bytes
  have hr := B.returns
  have hts := atoms_spec (ws := wsX0_place) B.pre
  have hown : s.vm.findClass RX0 = some m.cls := findClass_of_methodNamed B.named
  have hlocks := B.notSynchronized
  have hin0 : ∀ w ∈ wsX00, w ∈ wsX0_place := by decide +kernel
  have fl_places := hts (.fieldLink RX0 13 "ProcessRoom" "places" "[I") (by decide +kernel)
  have hS : va_S (fun _ => False) s.heap s.heap [] := va_S.rf
  have hl := lv_entry ([.ref (ad 0), .int p1]) (n := 2) (Nat.le_of_ble_eq_true rfl)
  rw [lg_entry_eq]
  generalize (lg_sl ([.ref (ad 0), .int p1]) ++ List.replicate (2 - (lg_sl ([.ref (ad 0), .int p1])).length) Slot.unset).toArray = ls at hl ⊢
  have hl : lv_has ls 2 [(0, .ref (ad 0)), (1, .int p1)] := hl
  refine lv_aload_n hx hb dX0_place_0 rfl (lv_at hl 0 rfl) ?_
  refine lv_iload_n hx hb dX0_place_1 rfl (lv_at hl 1 rfl) ?_
  refine va_calli (va_runV (As := [.int p1]) (rest := []) ⟨hx, hb, hml, hown, hts⟩ (rc_isMade l dC dI ad cA u p1 _ rfl) (cwV 1 hts gX0_place_X0_isMade rfl rfl rfl (by decide +kernel) ⟨Nat.le_of_ble_eq_true rfl, Nat.le_of_ble_eq_true rfl⟩) ⟨fun a U g mk q => by obtain ⟨q0, qP, qK⟩ := q; exact ⟨q0, qP, va_K.moved (u := U) (U := U.calling g mk a) (Vm.Alike.refl U.vm) qK⟩, va_recv hK hP (ci := 0) (q0 := 0) rfl rfl, fun U hU hW => ⟨rfl, by rw [hU]; exact hP, va_K.moved hW.alike hK⟩⟩ rfl rfl hl.1 rfl (lv_room (Nat.le_of_ble_eq_true rfl)) dX0_place_2 ⟨Nat.le_of_ble_eq_true rfl, Nat.le_of_ble_eq_true rfl⟩) hS (fun _ _ h => h.elim) (fun _ h => h.elim) (fun r_11 u_ t H1 locs ht hvm hr_11 hB hz1 hk1 hS => ?_)
  have hP := hP.kept (fun k x hx => hk1 x.1 ((hP k x hx).lt) (fun h => h))
  generalize H1 = H at hP hS ⊢
  refine lv_if_eq (tgt := 17) hx hb dX0_place_5 (by decide) (fun c_12 => ?_) (fun c_12 => ?_)
  · refine lv_iconst (v := 0) hx hb dX0_place_17 (by decide) ?_
    have eT : 0 = T := by subst hr_11; rw [← hf]; simp only [rf_place, if_pos c_12]
    exact W.iret (v := 0) hx hb hr (fun t ht hW => ⟨⟨0, (), rfl, eT, trivial⟩, hS.F ht⟩) hS.2.2 dX0_place_18
  · refine lv_aload_n hx hb dX0_place_8 rfl (lv_at hl 0 rfl) ?_
    refine va_get (D := (dC, dI)) (ci := 0) (v := .ref (ad 2)) (C := RX0) (T := TX0) (N := 12) (fs := rF ad u) hx hb hts hin0 hown hK hP 0 rfl rfl 1 (by decide) fl_places (fun _ h9 => h9) rfl dX0_place_9 ?_
    refine lv_iload_n hx hb dX0_place_12 rfl (lv_at hl 1 rfl) ?_
    refine va_iald hx hb hK hP 2 1 rfl rfl (ri_isMade hr_11 c_12) dX0_place_13 ?_
    refine lv_goto (tgt := 18) hx hb dX0_place_14 (by decide) ?_
    have eT : ra_places u p1.toNatClampNeg = T := by subst hr_11; rw [← hf]; simp only [rf_place, if_neg c_12]
    exact W.iret (v := ra_places u p1.toNatClampNeg) hx hb hr (fun t ht hW => ⟨⟨ra_places u p1.toNatClampNeg, (), rfl, eT, trivial⟩, hS.F ht⟩) hS.2.2 dX0_place_18
set_option maxHeartbeats 4000000 in
set_option maxRecDepth 100000 in
theorem rc_priority (l : Launch) (dC : Nat → ClassId) (dI : Nat → Nat → Nat) (ad : Nat → Nat) (cA : Nat → ClassId) (u : RS) (p1 : Int32) (T : Int32) (hf : rf_priority u p1 = T) : Met l yX0_priority wsX0_priority ({ frames := 2, cells := 0, slots := 0, locals := 41 } : Room) (va_Pc [.ref (ad 0), .int p1] (fun U => va_P (dC, dI) vwCl (rW ad cA u) U.heap ∧ va_K (dC, dI) vwCl (rT cA) U)) (va_Qi (fun r (_ : Unit) => r = T) (fun _ _ => True) (fun _ => False)) 0 0 (fun _ => False) := by
  refine Met.ofW (cc := cX0_priority) (maxL := 2) (ret := (some .int)) (by decide) rfl ?_
  intro p e s m args below meth c s₁ B hml hv
  obtain ⟨rfl, hP, hK⟩ := hv
  have hx := B.exec
  have hb := B.bytes
  have hr := B.returns
  have hts := atoms_spec (ws := wsX0_priority) B.pre
  have hown : s.vm.findClass RX0 = some m.cls := findClass_of_methodNamed B.named
  have hlocks := B.notSynchronized
  have hin0 : ∀ w ∈ wsX00, w ∈ wsX0_priority := by decide +kernel
  have fl_priorities := hts (.fieldLink RX0 9 "ProcessRoom" "priorities" "[I") (by decide +kernel)
  have hS : va_S (fun _ => False) s.heap s.heap [] := va_S.rf
  have hl := lv_entry ([.ref (ad 0), .int p1]) (n := 2) (Nat.le_of_ble_eq_true rfl)
  rw [lg_entry_eq]
  generalize (lg_sl ([.ref (ad 0), .int p1]) ++ List.replicate (2 - (lg_sl ([.ref (ad 0), .int p1])).length) Slot.unset).toArray = ls at hl ⊢
  have hl : lv_has ls 2 [(0, .ref (ad 0)), (1, .int p1)] := hl
  refine lv_aload_n hx hb dX0_priority_0 rfl (lv_at hl 0 rfl) ?_
  refine lv_iload_n hx hb dX0_priority_1 rfl (lv_at hl 1 rfl) ?_
  refine va_calli (va_runV (As := [.int p1]) (rest := []) ⟨hx, hb, hml, hown, hts⟩ (rc_isMade l dC dI ad cA u p1 _ rfl) (cwV 1 hts gX0_priority_X0_isMade rfl rfl rfl (by decide +kernel) ⟨Nat.le_of_ble_eq_true rfl, Nat.le_of_ble_eq_true rfl⟩) ⟨fun a U g mk q => by obtain ⟨q0, qP, qK⟩ := q; exact ⟨q0, qP, va_K.moved (u := U) (U := U.calling g mk a) (Vm.Alike.refl U.vm) qK⟩, va_recv hK hP (ci := 0) (q0 := 0) rfl rfl, fun U hU hW => ⟨rfl, by rw [hU]; exact hP, va_K.moved hW.alike hK⟩⟩ rfl rfl hl.1 rfl (lv_room (Nat.le_of_ble_eq_true rfl)) dX0_priority_2 ⟨Nat.le_of_ble_eq_true rfl, Nat.le_of_ble_eq_true rfl⟩) hS (fun _ _ h => h.elim) (fun _ h => h.elim) (fun r_13 u_ t H1 locs ht hvm hr_13 hB hz1 hk1 hS => ?_)
  have hP := hP.kept (fun k x hx => hk1 x.1 ((hP k x hx).lt) (fun h => h))
  generalize H1 = H at hP hS ⊢
  refine lv_if_eq (tgt := 17) hx hb dX0_priority_5 (by decide) (fun c_14 => ?_) (fun c_14 => ?_)
  · refine lv_iconst (v := (-1)) hx hb dX0_priority_17 (by decide) ?_
    have eT : (-1) = T := by subst hr_13; rw [← hf]; simp only [rf_priority, if_pos c_14]
    exact W.iret (v := (-1)) hx hb hr (fun t ht hW => ⟨⟨(-1), (), rfl, eT, trivial⟩, hS.F ht⟩) hS.2.2 dX0_priority_18
  · refine lv_aload_n hx hb dX0_priority_8 rfl (lv_at hl 0 rfl) ?_
    refine va_get (D := (dC, dI)) (ci := 0) (v := .ref (ad 1)) (C := RX0) (T := TX0) (N := 12) (fs := rF ad u) hx hb hts hin0 hown hK hP 0 rfl rfl 0 (by decide) fl_priorities (fun _ h9 => h9) rfl dX0_priority_9 ?_
    refine lv_iload_n hx hb dX0_priority_12 rfl (lv_at hl 1 rfl) ?_
    refine va_iald hx hb hK hP 1 0 rfl rfl (ri_isMade hr_13 c_14) dX0_priority_13 ?_
    refine lv_goto (tgt := 18) hx hb dX0_priority_14 (by decide) ?_
    have eT : ra_priorities u p1.toNatClampNeg = T := by subst hr_13; rw [← hf]; simp only [rf_priority, if_neg c_14]
    exact W.iret (v := ra_priorities u p1.toNatClampNeg) hx hb hr (fun t ht hW => ⟨⟨ra_priorities u p1.toNatClampNeg, (), rfl, eT, trivial⟩, hS.F ht⟩) hS.2.2 dX0_priority_18
set_option maxHeartbeats 4000000 in
set_option maxRecDepth 100000 in
theorem rc_row (l : Launch) (dC : Nat → ClassId) (dI : Nat → Nat → Nat) (ad : Nat → Nat) (cA : Nat → ClassId) (u : RS) (p1 : Int32) (T : Int32) (hf : rf_row u p1 = T) : Met l yX0_row wsX0_row ({ frames := 2, cells := 0, slots := 0, locals := 41 } : Room) (va_Pc [.ref (ad 0), .int p1] (fun U => va_P (dC, dI) vwCl (rW ad cA u) U.heap ∧ va_K (dC, dI) vwCl (rT cA) U)) (va_Qi (fun r (_ : Unit) => r = T) (fun _ _ => True) (fun _ => False)) 0 0 (fun _ => False) := by
  refine Met.ofW (cc := cX0_row) (maxL := 2) (ret := (some .int)) (by decide) rfl ?_
  intro p e s m args below meth c s₁ B hml hv
  obtain ⟨rfl, hP, hK⟩ := hv
  have hx := B.exec
  have hb := B.bytes
  have hr := B.returns
  have hts := atoms_spec (ws := wsX0_row) B.pre
  have hown : s.vm.findClass RX0 = some m.cls := findClass_of_methodNamed B.named
  have hlocks := B.notSynchronized
  have hin0 : ∀ w ∈ wsX00, w ∈ wsX0_row := by decide +kernel
  have fl_rows := hts (.fieldLink RX0 16 "ProcessRoom" "rows" "[I") (by decide +kernel)
  have hS : va_S (fun _ => False) s.heap s.heap [] := va_S.rf
  have hl := lv_entry ([.ref (ad 0), .int p1]) (n := 2) (Nat.le_of_ble_eq_true rfl)
  rw [lg_entry_eq]
  generalize (lg_sl ([.ref (ad 0), .int p1]) ++ List.replicate (2 - (lg_sl ([.ref (ad 0), .int p1])).length) Slot.unset).toArray = ls at hl ⊢
  have hl : lv_has ls 2 [(0, .ref (ad 0)), (1, .int p1)] := hl
  refine lv_aload_n hx hb dX0_row_0 rfl (lv_at hl 0 rfl) ?_
  refine lv_iload_n hx hb dX0_row_1 rfl (lv_at hl 1 rfl) ?_
  refine va_calli (va_runV (As := [.int p1]) (rest := []) ⟨hx, hb, hml, hown, hts⟩ (rc_isMade l dC dI ad cA u p1 _ rfl) (cwV 1 hts gX0_row_X0_isMade rfl rfl rfl (by decide +kernel) ⟨Nat.le_of_ble_eq_true rfl, Nat.le_of_ble_eq_true rfl⟩) ⟨fun a U g mk q => by obtain ⟨q0, qP, qK⟩ := q; exact ⟨q0, qP, va_K.moved (u := U) (U := U.calling g mk a) (Vm.Alike.refl U.vm) qK⟩, va_recv hK hP (ci := 0) (q0 := 0) rfl rfl, fun U hU hW => ⟨rfl, by rw [hU]; exact hP, va_K.moved hW.alike hK⟩⟩ rfl rfl hl.1 rfl (lv_room (Nat.le_of_ble_eq_true rfl)) dX0_row_2 ⟨Nat.le_of_ble_eq_true rfl, Nat.le_of_ble_eq_true rfl⟩) hS (fun _ _ h => h.elim) (fun _ h => h.elim) (fun r_15 u_ t H1 locs ht hvm hr_15 hB hz1 hk1 hS => ?_)
  have hP := hP.kept (fun k x hx => hk1 x.1 ((hP k x hx).lt) (fun h => h))
  generalize H1 = H at hP hS ⊢
  refine lv_if_eq (tgt := 17) hx hb dX0_row_5 (by decide) (fun c_16 => ?_) (fun c_16 => ?_)
  · refine lv_iconst (v := (-1)) hx hb dX0_row_17 (by decide) ?_
    have eT : (-1) = T := by subst hr_15; rw [← hf]; simp only [rf_row, if_pos c_16]
    exact W.iret (v := (-1)) hx hb hr (fun t ht hW => ⟨⟨(-1), (), rfl, eT, trivial⟩, hS.F ht⟩) hS.2.2 dX0_row_18
  · refine lv_aload_n hx hb dX0_row_8 rfl (lv_at hl 0 rfl) ?_
    refine va_get (D := (dC, dI)) (ci := 0) (v := .ref (ad 3)) (C := RX0) (T := TX0) (N := 12) (fs := rF ad u) hx hb hts hin0 hown hK hP 0 rfl rfl 2 (by decide) fl_rows (fun _ h9 => h9) rfl dX0_row_9 ?_
    refine lv_iload_n hx hb dX0_row_12 rfl (lv_at hl 1 rfl) ?_
    refine va_iald hx hb hK hP 3 2 rfl rfl (ri_isMade hr_15 c_16) dX0_row_13 ?_
    refine lv_goto (tgt := 18) hx hb dX0_row_14 (by decide) ?_
    have eT : ra_rows u p1.toNatClampNeg = T := by subst hr_15; rw [← hf]; simp only [rf_row, if_neg c_16]
    exact W.iret (v := ra_rows u p1.toNatClampNeg) hx hb hr (fun t ht hW => ⟨⟨ra_rows u p1.toNatClampNeg, (), rfl, eT, trivial⟩, hS.F ht⟩) hS.2.2 dX0_row_18
set_option maxHeartbeats 4000000 in
set_option maxRecDepth 100000 in
theorem rc_at (l : Launch) (dC : Nat → ClassId) (dI : Nat → Nat → Nat) (ad : Nat → Nat) (cA : Nat → ClassId) (u : RS) (p1 : Int32) (p2 : Int32) (T : Int32) (hf : rf_at u p1 p2 = T) : Met l yX0_at wsX0_at ({ frames := 1, cells := 0, slots := 0, locals := 20 } : Room) (va_Pc [.ref (ad 0), .int p1, .int p2] (fun U => va_P (dC, dI) vwCl (rW ad cA u) U.heap ∧ va_K (dC, dI) vwCl (rT cA) U)) (va_Qi (fun r (_ : Unit) => r = T) (fun _ _ => True) (fun _ => False)) 0 0 (fun _ => False) := by
  refine Met.ofW (cc := cX0_at) (maxL := 6) (ret := (some .int)) (by decide) rfl ?_
  intro p e s m args below meth c s₁ B hml hv
  obtain ⟨rfl, hP, hK⟩ := hv
  have hx := B.exec
  have hb := B.bytes
  have hr := B.returns
  have hts := atoms_spec (ws := wsX0_at) B.pre
  have hown : s.vm.findClass RX0 = some m.cls := findClass_of_methodNamed B.named
  have hlocks := B.notSynchronized
  have hin0 : ∀ w ∈ wsX00, w ∈ wsX0_at := by decide +kernel
  have fl_lineLength := hts (.fieldLink RX0 22 "ProcessRoom" "lineLength" "I") (by decide +kernel)
  have fl_line := hts (.fieldLink RX0 19 "ProcessRoom" "line" "[I") (by decide +kernel)
  have fl_rows := hts (.fieldLink RX0 16 "ProcessRoom" "rows" "[I") (by decide +kernel)
  have hS : va_S (fun _ => False) s.heap s.heap [] := va_S.rf
  have hl := lv_entry ([.ref (ad 0), .int p1, .int p2]) (n := 6) (Nat.le_of_ble_eq_true rfl)
  rw [lg_entry_eq]
  generalize (lg_sl ([.ref (ad 0), .int p1, .int p2]) ++ List.replicate (6 - (lg_sl ([.ref (ad 0), .int p1, .int p2])).length) Slot.unset).toArray = ls at hl ⊢
  have hl : lv_has ls 6 [(0, .ref (ad 0)), (1, .int p1), (2, .int p2)] := hl
  refine lv_iconst (v := 0) hx hb dX0_at_0 (by decide) ?_
  refine lv_istore_n (lv' := [(3, .int 0), (0, .ref (ad 0)), (1, .int p1), (2, .int p2)]) hx hb dX0_at_1 rfl hl (by decide) rfl (fun ls hl => ?_)
  refine lv_iconst (v := 0) hx hb dX0_at_2 (by decide) ?_
  refine lv_istore (lv' := [(4, .int 0), (3, .int 0), (0, .ref (ad 0)), (1, .int p1), (2, .int p2)]) hx hb dX0_at_3 hl (by decide) rfl (fun ls hl => ?_)
  refine k_nameQ (fun Q hQ => ?_)
  have key : ∀ (n : Nat) (x3 : Int32) (x4 : Int32) (H : Heap) (locs : List Loc) (ls : Array Slot), (∃ j : Nat, x4 = nI j ∧ j + n = 33 ∧ j ≤ 32) → rl_at u p1 p2 n x3 x4 = T → va_P (dC, dI) vwCl (rW ad cA u) H → va_S (fun _ => False) s.heap H locs → lv_has ls 6 [(0, .ref (ad 0)), (1, .int p1), (2, .int p2), (3, .int x3), (4, .int x4)] → W p l e (headSpec wsX0_at ({ frames := 1, cells := 0, slots := 0, locals := 20 } : Room)).room s m ([.ref (ad 0), .int p1, .int p2] : List Value).toArray below meth c H locs 0 0 Q (F0 m 5 ls []) := by
    intro n
    induction n with
    | zero =>
      intro x3 x4 H locs ls hinv
      exact absurd hinv (by rintro ⟨j, -, h1, h2⟩; omega)
    | succ n ih =>
      intro x3 x4 H locs ls hinv hf2 hP hS hl
      obtain ⟨j, hj, hjn, hjl⟩ := hinv
      refine lv_iload hx hb dX0_at_5 (lv_at hl 4 rfl) ?_
      refine lv_aload_n hx hb dX0_at_7 rfl (lv_at hl 0 rfl) ?_
      refine va_get (D := (dC, dI)) (ci := 0) (v := .int (ra_lineLength u)) (C := RX0) (T := TX0) (N := 12) (fs := rF ad u) hx hb hts hin0 hown hK hP 0 rfl rfl 4 (by decide) fl_lineLength (fun _ h9 => h9) rfl dX0_at_8 ?_
      refine lv_icmp_ge (tgt := 66) hx hb dX0_at_11 (by decide) (fun c_17 => ?_) (fun c_17 => ?_)
      · refine lv_iconst (v := (-1)) hx hb dX0_at_66 (by decide) ?_
        subst hQ
        have eT : (-1) = T := by rw [← hf2]; simp only [rl_at, if_pos c_17]
        exact W.iret (v := (-1)) hx hb hr (fun t ht hW => ⟨⟨(-1), (), rfl, eT, trivial⟩, hS.F ht⟩) hS.2.2 dX0_at_67
      · refine lv_iload hx hb dX0_at_14 (lv_at hl 4 rfl) ?_
        refine lv_bipush (v := 32) hx hb dX0_at_16 (by decide) ?_
        refine lv_icmp_ge (tgt := 66) hx hb dX0_at_18 (by decide) (fun c_18 => ?_) (fun c_18 => ?_)
        · refine lv_iconst (v := (-1)) hx hb dX0_at_66 (by decide) ?_
          subst hQ
          have eT : (-1) = T := by rw [← hf2]; simp only [rl_at, if_neg c_17, if_pos c_18]
          exact W.iret (v := (-1)) hx hb hr (fun t ht hW => ⟨⟨(-1), (), rfl, eT, trivial⟩, hS.F ht⟩) hS.2.2 dX0_at_67
        · refine lv_aload_n hx hb dX0_at_21 rfl (lv_at hl 0 rfl) ?_
          refine va_get (D := (dC, dI)) (ci := 0) (v := .ref (ad 4)) (C := RX0) (T := TX0) (N := 12) (fs := rF ad u) hx hb hts hin0 hown hK hP 0 rfl rfl 3 (by decide) fl_line (fun _ h9 => h9) rfl dX0_at_22 ?_
          refine lv_iload hx hb dX0_at_25 (lv_at hl 4 rfl) ?_
          refine va_iald hx hb hK hP 4 3 rfl rfl (k_in hj (k_lt 32 hj (by omega) rfl c_18) (by omega)) dX0_at_27 ?_
          refine lv_istore (lv' := [(5, .int (ra_line u x4.toNatClampNeg)), (0, .ref (ad 0)), (1, .int p1), (2, .int p2), (3, .int x3), (4, .int x4)]) hx hb dX0_at_28 hl (by decide) rfl (fun ls hl => ?_)
          refine lv_iload hx hb dX0_at_30 (lv_at hl 0 rfl) ?_
          refine va_calli (va_runS (As := [.int (ra_line u x4.toNatClampNeg)]) (rest := []) ⟨hx, hb, hml, hown, hts⟩ (rc_isProcess l (ra_line u x4.toNatClampNeg) _ rfl) (va_cwS 1 hts gX0_at_X0_isProcess rfl rfl rfl (by decide +kernel) ⟨Nat.le_of_ble_eq_true rfl, Nat.le_of_ble_eq_true rfl⟩) ⟨fun a U g mk q => ⟨q.1, trivial⟩, fun U hU hW => ⟨rfl, trivial⟩⟩ rfl rfl hl.1 rfl (lv_room (Nat.le_of_ble_eq_true rfl)) dX0_at_32 ⟨Nat.le_of_ble_eq_true rfl, Nat.le_of_ble_eq_true rfl⟩) hS (fun _ _ h => h.elim) (fun _ h => h.elim) (fun r_19 u_ t H1 locs ht hvm hr_19 hB hz1 hk1 hS => ?_)
          have hP := hP.kept (fun k x hx => hk1 x.1 ((hP k x hx).lt) (fun h => h))
          generalize H1 = H at hP hS ⊢
          refine lv_if_eq (tgt := 60) hx hb dX0_at_35 (by decide) (fun c_20 => ?_) (fun c_20 => ?_)
          · refine lv_iinc (v := x4 + 1) (lv' := [(4, .int (x4 + 1)), (5, .int (ra_line u x4.toNatClampNeg)), (0, .ref (ad 0)), (1, .int p1), (2, .int p2), (3, .int x3)]) hx hb dX0_at_60 hl (k := 5) rfl rfl (by decide) rfl (fun ls hl => ?_)
            refine lv_goto (tgt := 5) hx hb dX0_at_63 (by decide) ?_
            have hj2 := (k_lt 32 hj (by omega) rfl c_18)
            exact ih x3 (x4 + 1) _ _ _ (⟨j + 1, by rw [hj, nI_1], by omega, by omega⟩) (by subst hr_19; rw [← hf2]; simp only [rl_at, if_neg c_17, if_neg c_18, if_pos c_20]) hP hS (lv_sub hl [2, 3, 4, 5, 0] rfl)
          · refine lv_aload_n hx hb dX0_at_38 rfl (lv_at hl 1 rfl) ?_
            refine va_get (D := (dC, dI)) (ci := 0) (v := .ref (ad 3)) (C := RX0) (T := TX0) (N := 12) (fs := rF ad u) hx hb hts hin0 hown hK hP 0 rfl rfl 2 (by decide) fl_rows (fun _ h9 => h9) rfl dX0_at_39 ?_
            refine lv_iload hx hb dX0_at_42 (lv_at hl 0 rfl) ?_
            refine va_iald hx hb hK hP 3 2 rfl rfl (ri_isProcess hr_19 c_20) dX0_at_44 ?_
            refine lv_iload_n hx hb dX0_at_45 rfl (lv_at hl 2 rfl) ?_
            refine lv_icmp_ne (tgt := 60) hx hb dX0_at_46 (by decide) (fun c_21 => ?_) (fun c_21 => ?_)
            · refine lv_iinc (v := x4 + 1) (lv' := [(4, .int (x4 + 1)), (5, .int (ra_line u x4.toNatClampNeg)), (0, .ref (ad 0)), (1, .int p1), (2, .int p2), (3, .int x3)]) hx hb dX0_at_60 hl (k := 5) rfl rfl (by decide) rfl (fun ls hl => ?_)
              refine lv_goto (tgt := 5) hx hb dX0_at_63 (by decide) ?_
              have hj2 := (k_lt 32 hj (by omega) rfl c_18)
              exact ih x3 (x4 + 1) _ _ _ (⟨j + 1, by rw [hj, nI_1], by omega, by omega⟩) (by subst hr_19; rw [← hf2]; simp only [rl_at, if_neg c_17, if_neg c_18, if_neg c_20, if_neg c_21]) hP hS (lv_sub hl [2, 3, 4, 5, 0] rfl)
            · refine lv_iload_n hx hb dX0_at_49 rfl (lv_at hl 4 rfl) ?_
              refine lv_iload_n hx hb dX0_at_50 rfl (lv_at hl 3 rfl) ?_
              refine lv_icmp_ne (tgt := 57) hx hb dX0_at_51 (by decide) (fun c_22 => ?_) (fun c_22 => ?_)
              · refine lv_iinc (v := x3 + 1) (lv' := [(3, .int (x3 + 1)), (5, .int (ra_line u x4.toNatClampNeg)), (0, .ref (ad 0)), (1, .int p1), (2, .int p2), (4, .int x4)]) hx hb dX0_at_57 hl (k := 4) rfl rfl (by decide) rfl (fun ls hl => ?_)
                refine lv_iinc (v := x4 + 1) (lv' := [(4, .int (x4 + 1)), (3, .int (x3 + 1)), (5, .int (ra_line u x4.toNatClampNeg)), (0, .ref (ad 0)), (1, .int p1), (2, .int p2)]) hx hb dX0_at_60 hl (k := 5) rfl rfl (by decide) rfl (fun ls hl => ?_)
                refine lv_goto (tgt := 5) hx hb dX0_at_63 (by decide) ?_
                have hj2 := (k_lt 32 hj (by omega) rfl c_18)
                exact ih (x3 + 1) (x4 + 1) _ _ _ (⟨j + 1, by rw [hj, nI_1], by omega, by omega⟩) (by subst hr_19; rw [← hf2]; simp only [rl_at, if_neg c_17, if_neg c_18, if_neg c_20, if_pos c_21, if_neg c_22]) hP hS (lv_sub hl [3, 4, 5, 1, 0] rfl)
              · refine lv_iload hx hb dX0_at_54 (lv_at hl 0 rfl) ?_
                subst hQ
                have eT : ra_line u x4.toNatClampNeg = T := by subst hr_19; rw [← hf2]; simp only [rl_at, if_neg c_17, if_neg c_18, if_neg c_20, if_pos c_21, if_pos c_22]
                exact W.iret (v := ra_line u x4.toNatClampNeg) hx hb hr (fun t ht hW => ⟨⟨ra_line u x4.toNatClampNeg, (), rfl, eT, trivial⟩, hS.F ht⟩) hS.2.2 dX0_at_56
  exact key 33 0 0 _ _ _ (⟨0, nI_0.symm, rfl, by omega⟩) (by rw [← hf]; simp only [rf_at]) hP hS (lv_sub hl [2, 3, 4, 1, 0] rfl)
set_option maxHeartbeats 4000000 in
set_option maxRecDepth 100000 in
theorem rc_extra (l : Launch) (dC : Nat → ClassId) (dI : Nat → Nat → Nat) (ad : Nat → Nat) (cA : Nat → ClassId) (u : RS) (p1 : Int32) (T : Int32) (hf : rf_extra u p1 = T) : Met l yX0_extra wsX0_extra ({ frames := 1, cells := 0, slots := 0, locals := 20 } : Room) (va_Pc [.ref (ad 0), .int p1] (fun U => va_P (dC, dI) vwCl (rW ad cA u) U.heap ∧ va_K (dC, dI) vwCl (rT cA) U)) (va_Qi (fun r (_ : Unit) => r = T) (fun _ _ => True) (fun _ => False)) 0 0 (fun _ => False) := by
  refine Met.ofW (cc := cX0_extra) (maxL := 2) (ret := (some .int)) (by decide) rfl ?_
  intro p e s m args below meth c s₁ B hml hv
  obtain ⟨rfl, hP, hK⟩ := hv
  have hx := B.exec
  have hb := B.bytes
  have hr := B.returns
  have hts := atoms_spec (ws := wsX0_extra) B.pre
  have hown : s.vm.findClass RX0 = some m.cls := findClass_of_methodNamed B.named
  have hlocks := B.notSynchronized
  have hin0 : ∀ w ∈ wsX00, w ∈ wsX0_extra := by decide +kernel
  have fl_extras := hts (.fieldLink RX0 26 "ProcessRoom" "extras" "[I") (by decide +kernel)
  have hS : va_S (fun _ => False) s.heap s.heap [] := va_S.rf
  have hl := lv_entry ([.ref (ad 0), .int p1]) (n := 2) (Nat.le_of_ble_eq_true rfl)
  rw [lg_entry_eq]
  generalize (lg_sl ([.ref (ad 0), .int p1]) ++ List.replicate (2 - (lg_sl ([.ref (ad 0), .int p1])).length) Slot.unset).toArray = ls at hl ⊢
  have hl : lv_has ls 2 [(0, .ref (ad 0)), (1, .int p1)] := hl
  refine lv_iload_n hx hb dX0_extra_0 rfl (lv_at hl 1 rfl) ?_
  refine va_calli (va_runS (As := [.int p1]) (rest := []) ⟨hx, hb, hml, hown, hts⟩ (rc_isSemaphore l p1 _ rfl) (va_cwS 1 hts gX0_extra_X0_isSemaphore rfl rfl rfl (by decide +kernel) ⟨Nat.le_of_ble_eq_true rfl, Nat.le_of_ble_eq_true rfl⟩) ⟨fun a U g mk q => ⟨q.1, trivial⟩, fun U hU hW => ⟨rfl, trivial⟩⟩ rfl rfl hl.1 rfl (lv_room (Nat.le_of_ble_eq_true rfl)) dX0_extra_1 ⟨Nat.le_of_ble_eq_true rfl, Nat.le_of_ble_eq_true rfl⟩) hS (fun _ _ h => h.elim) (fun _ h => h.elim) (fun r_23 u_ t H1 locs ht hvm hr_23 hB hz1 hk1 hS => ?_)
  have hP := hP.kept (fun k x hx => hk1 x.1 ((hP k x hx).lt) (fun h => h))
  generalize H1 = H at hP hS ⊢
  refine lv_if_eq (tgt := 16) hx hb dX0_extra_4 (by decide) (fun c_24 => ?_) (fun c_24 => ?_)
  · refine lv_iconst (v := (-1)) hx hb dX0_extra_16 (by decide) ?_
    have eT : (-1) = T := by subst hr_23; rw [← hf]; simp only [rf_extra, if_pos c_24]
    exact W.iret (v := (-1)) hx hb hr (fun t ht hW => ⟨⟨(-1), (), rfl, eT, trivial⟩, hS.F ht⟩) hS.2.2 dX0_extra_17
  · refine lv_aload_n hx hb dX0_extra_7 rfl (lv_at hl 0 rfl) ?_
    refine va_get (D := (dC, dI)) (ci := 0) (v := .ref (ad 5)) (C := RX0) (T := TX0) (N := 12) (fs := rF ad u) hx hb hts hin0 hown hK hP 0 rfl rfl 5 (by decide) fl_extras (fun _ h9 => h9) rfl dX0_extra_8 ?_
    refine lv_iload_n hx hb dX0_extra_11 rfl (lv_at hl 1 rfl) ?_
    refine va_iald hx hb hK hP 5 4 rfl rfl (ri_isSemaphore hr_23 c_24) dX0_extra_12 ?_
    refine lv_goto (tgt := 17) hx hb dX0_extra_13 (by decide) ?_
    have eT : ra_extras u p1.toNatClampNeg = T := by subst hr_23; rw [← hf]; simp only [rf_extra, if_neg c_24]
    exact W.iret (v := ra_extras u p1.toNatClampNeg) hx hb hr (fun t ht hW => ⟨⟨ra_extras u p1.toNatClampNeg, (), rfl, eT, trivial⟩, hS.F ht⟩) hS.2.2 dX0_extra_17
set_option maxHeartbeats 4000000 in
set_option maxRecDepth 100000 in
theorem rc_posted (l : Launch) (dC : Nat → ClassId) (dI : Nat → Nat → Nat) (ad : Nat → Nat) (cA : Nat → ClassId) (u : RS) (p1 : Int32) (T : Int32) (hf : rf_posted u p1 = T) : Met l yX0_posted wsX0_posted ({ frames := 0, cells := 0, slots := 0, locals := 0 } : Room) (va_Pc [.ref (ad 0), .int p1] (fun U => va_P (dC, dI) vwCl (rW ad cA u) U.heap ∧ va_K (dC, dI) vwCl (rT cA) U)) (va_Qi (fun r (_ : Unit) => r = T) (fun _ _ => True) (fun _ => False)) 0 0 (fun _ => False) := by
  refine Met.ofW (cc := cX0_posted) (maxL := 2) (ret := (some .int)) (by decide) rfl ?_
  intro p e s m args below meth c s₁ B hml hv
  obtain ⟨rfl, hP, hK⟩ := hv
  have hx := B.exec
  have hb := B.bytes
  have hr := B.returns
  have hts := atoms_spec (ws := wsX0_posted) B.pre
  have hown : s.vm.findClass RX0 = some m.cls := findClass_of_methodNamed B.named
  have hlocks := B.notSynchronized
  have hin0 : ∀ w ∈ wsX00, w ∈ wsX0_posted := by decide +kernel
  have fl_postCount := hts (.fieldLink RX0 32 "ProcessRoom" "postCount" "I") (by decide +kernel)
  have fl_posts := hts (.fieldLink RX0 29 "ProcessRoom" "posts" "[I") (by decide +kernel)
  have hS : va_S (fun _ => False) s.heap s.heap [] := va_S.rf
  have hl := lv_entry ([.ref (ad 0), .int p1]) (n := 2) (Nat.le_of_ble_eq_true rfl)
  rw [lg_entry_eq]
  generalize (lg_sl ([.ref (ad 0), .int p1]) ++ List.replicate (2 - (lg_sl ([.ref (ad 0), .int p1])).length) Slot.unset).toArray = ls at hl ⊢
  have hl : lv_has ls 2 [(0, .ref (ad 0)), (1, .int p1)] := hl
  refine lv_iload_n hx hb dX0_posted_0 rfl (lv_at hl 1 rfl) ?_
  refine lv_if_lt (tgt := 27) hx hb dX0_posted_1 (by decide) (fun c_25 => ?_) (fun c_25 => ?_)
  · refine lv_iconst (v := (-1)) hx hb dX0_posted_27 (by decide) ?_
    have eT : (-1) = T := by rw [← hf]; simp only [rf_posted, if_pos c_25]
    exact W.iret (v := (-1)) hx hb hr (fun t ht hW => ⟨⟨(-1), (), rfl, eT, trivial⟩, hS.F ht⟩) hS.2.2 dX0_posted_28
  · refine lv_iload_n hx hb dX0_posted_4 rfl (lv_at hl 1 rfl) ?_
    refine lv_aload_n hx hb dX0_posted_5 rfl (lv_at hl 0 rfl) ?_
    refine va_get (D := (dC, dI)) (ci := 0) (v := .int (ra_postCount u)) (C := RX0) (T := TX0) (N := 12) (fs := rF ad u) hx hb hts hin0 hown hK hP 0 rfl rfl 7 (by decide) fl_postCount (fun _ h9 => h9) rfl dX0_posted_6 ?_
    refine lv_icmp_ge (tgt := 27) hx hb dX0_posted_9 (by decide) (fun c_26 => ?_) (fun c_26 => ?_)
    · refine lv_iconst (v := (-1)) hx hb dX0_posted_27 (by decide) ?_
      have eT : (-1) = T := by rw [← hf]; simp only [rf_posted, if_neg c_25, if_pos c_26]
      exact W.iret (v := (-1)) hx hb hr (fun t ht hW => ⟨⟨(-1), (), rfl, eT, trivial⟩, hS.F ht⟩) hS.2.2 dX0_posted_28
    · refine lv_iload_n hx hb dX0_posted_12 rfl (lv_at hl 1 rfl) ?_
      refine lv_bipush (v := 40) hx hb dX0_posted_13 (by decide) ?_
      refine lv_icmp_ge (tgt := 27) hx hb dX0_posted_15 (by decide) (fun c_27 => ?_) (fun c_27 => ?_)
      · refine lv_iconst (v := (-1)) hx hb dX0_posted_27 (by decide) ?_
        have eT : (-1) = T := by rw [← hf]; simp only [rf_posted, if_neg c_25, if_neg c_26, if_pos c_27]
        exact W.iret (v := (-1)) hx hb hr (fun t ht hW => ⟨⟨(-1), (), rfl, eT, trivial⟩, hS.F ht⟩) hS.2.2 dX0_posted_28
      · refine lv_aload_n hx hb dX0_posted_18 rfl (lv_at hl 0 rfl) ?_
        refine va_get (D := (dC, dI)) (ci := 0) (v := .ref (ad 6)) (C := RX0) (T := TX0) (N := 12) (fs := rF ad u) hx hb hts hin0 hown hK hP 0 rfl rfl 6 (by decide) fl_posts (fun _ h9 => h9) rfl dX0_posted_19 ?_
        refine lv_iload_n hx hb dX0_posted_22 rfl (lv_at hl 1 rfl) ?_
        refine va_iald hx hb hK hP 6 5 rfl rfl (k_in2 c_25 c_27 rfl) dX0_posted_23 ?_
        refine lv_goto (tgt := 28) hx hb dX0_posted_24 (by decide) ?_
        have eT : ra_posts u p1.toNatClampNeg = T := by rw [← hf]; simp only [rf_posted, if_neg c_25, if_neg c_26, if_neg c_27]
        exact W.iret (v := ra_posts u p1.toNatClampNeg) hx hb hr (fun t ht hW => ⟨⟨ra_posts u p1.toNatClampNeg, (), rfl, eT, trivial⟩, hS.F ht⟩) hS.2.2 dX0_posted_28
set_option maxHeartbeats 4000000 in
set_option maxRecDepth 100000 in
theorem rc_firstReady (l : Launch) (dC : Nat → ClassId) (dI : Nat → Nat → Nat) (ad : Nat → Nat) (cA : Nat → ClassId) (u : RS)  (T : Int32) (hf : rf_firstReady u = T) : Met l yX0_firstReady wsX0_firstReady ({ frames := 2, cells := 0, slots := 0, locals := 45 } : Room) (va_Pc [.ref (ad 0)] (fun U => va_P (dC, dI) vwCl (rW ad cA u) U.heap ∧ va_K (dC, dI) vwCl (rT cA) U)) (va_Qi (fun r (_ : Unit) => r = T) (fun _ _ => True) (fun _ => False)) 0 0 (fun _ => False) := by
  refine Met.ofW (cc := cX0_firstReady) (maxL := 3) (ret := (some .int)) (by decide) rfl ?_
  intro p e s m args below meth c s₁ B hml hv
  obtain ⟨rfl, hP, hK⟩ := hv
  have hx := B.exec
  have hb := B.bytes
  have hr := B.returns
  have hts := atoms_spec (ws := wsX0_firstReady) B.pre
  have hown : s.vm.findClass RX0 = some m.cls := findClass_of_methodNamed B.named
  have hlocks := B.notSynchronized
  have hS : va_S (fun _ => False) s.heap s.heap [] := va_S.rf
  have hl := lv_entry ([.ref (ad 0)]) (n := 3) (Nat.le_of_ble_eq_true rfl)
  rw [lg_entry_eq]
  generalize (lg_sl ([.ref (ad 0)]) ++ List.replicate (3 - (lg_sl ([.ref (ad 0)])).length) Slot.unset).toArray = ls at hl ⊢
  have hl : lv_has ls 3 [(0, .ref (ad 0))] := hl
  refine lv_bipush (v := 8) hx hb dX0_firstReady_0 (by decide) ?_
  refine lv_istore_n (lv' := [(1, .int 8), (0, .ref (ad 0))]) hx hb dX0_firstReady_2 rfl hl (by decide) rfl (fun ls hl => ?_)
  refine k_nameQ (fun Q hQ => ?_)
  have key : ∀ (n : Nat) (x1 : Int32) (H : Heap) (locs : List Loc) (ls : Array Slot), (∃ j : Nat, x1 = nI j ∧ n = j + 1 ∧ j ≤ 8) → rl_firstReady u n x1 = T → va_P (dC, dI) vwCl (rW ad cA u) H → va_S (fun _ => False) s.heap H locs → lv_has ls 3 [(0, .ref (ad 0)), (1, .int x1)] → W p l e (headSpec wsX0_firstReady ({ frames := 2, cells := 0, slots := 0, locals := 45 } : Room)).room s m ([.ref (ad 0)] : List Value).toArray below meth c H locs 0 0 Q (F0 m 3 ls []) := by
    intro n
    induction n with
    | zero =>
      intro x1 H locs ls hinv
      exact absurd hinv (by rintro ⟨j, -, h1, h2⟩; omega)
    | succ n ih =>
      intro x1 H locs ls hinv hf2 hP hS hl
      obtain ⟨j, hj, hjn, hjl⟩ := hinv
      refine lv_iload_n hx hb dX0_firstReady_3 rfl (lv_at hl 1 rfl) ?_
      refine lv_iconst (v := 1) hx hb dX0_firstReady_4 (by decide) ?_
      refine lv_icmp_lt (tgt := 28) hx hb dX0_firstReady_5 (by decide) (fun c_28 => ?_) (fun c_28 => ?_)
      · refine lv_iconst (v := (-1)) hx hb dX0_firstReady_28 (by decide) ?_
        subst hQ
        have eT : (-1) = T := by rw [← hf2]; simp only [rl_firstReady, if_pos c_28]
        exact W.iret (v := (-1)) hx hb hr (fun t ht hW => ⟨⟨(-1), (), rfl, eT, trivial⟩, hS.F ht⟩) hS.2.2 dX0_firstReady_29
      · refine lv_aload_n hx hb dX0_firstReady_8 rfl (lv_at hl 0 rfl) ?_
        refine lv_iload_n hx hb dX0_firstReady_9 rfl (lv_at hl 1 rfl) ?_
        refine lv_iconst (v := 0) hx hb dX0_firstReady_10 (by decide) ?_
        refine va_calli (va_runV (As := [.int x1, .int 0]) (rest := []) ⟨hx, hb, hml, hown, hts⟩ (rc_at l dC dI ad cA u x1 0 _ rfl) (cwV 2 hts gX0_firstReady_X0_at rfl rfl rfl (by decide +kernel) ⟨Nat.le_of_ble_eq_true rfl, Nat.le_of_ble_eq_true rfl⟩) ⟨fun a U g mk q => by obtain ⟨q0, qP, qK⟩ := q; exact ⟨q0, qP, va_K.moved (u := U) (U := U.calling g mk a) (Vm.Alike.refl U.vm) qK⟩, va_recv hK hP (ci := 0) (q0 := 0) rfl rfl, fun U hU hW => ⟨rfl, by rw [hU]; exact hP, va_K.moved hW.alike hK⟩⟩ rfl rfl hl.1 rfl (lv_room (Nat.le_of_ble_eq_true rfl)) dX0_firstReady_11 ⟨Nat.le_of_ble_eq_true rfl, Nat.le_of_ble_eq_true rfl⟩) hS (fun _ _ h => h.elim) (fun _ h => h.elim) (fun r_29 u_ t H1 locs ht hvm hr_29 hB hz1 hk1 hS => ?_)
        have hP := hP.kept (fun k x hx => hk1 x.1 ((hP k x hx).lt) (fun h => h))
        generalize H1 = H at hP hS ⊢
        refine lv_istore_n (lv' := [(2, .int r_29), (0, .ref (ad 0)), (1, .int x1)]) hx hb dX0_firstReady_14 rfl hl (by decide) rfl (fun ls hl => ?_)
        refine lv_iload_n hx hb dX0_firstReady_15 rfl (lv_at hl 0 rfl) ?_
        refine lv_iconst (v := (-1)) hx hb dX0_firstReady_16 (by decide) ?_
        refine lv_icmp_eq (tgt := 22) hx hb dX0_firstReady_17 (by decide) (fun c_30 => ?_) (fun c_30 => ?_)
        · refine lv_iinc (v := x1 + (-1)) (lv' := [(1, .int (x1 + (-1))), (2, .int r_29), (0, .ref (ad 0))]) hx hb dX0_firstReady_22 hl (k := 2) rfl rfl (by decide) rfl (fun ls hl => ?_)
          refine lv_goto (tgt := 3) hx hb dX0_firstReady_25 (by decide) ?_
          have hj2 : 1 ≤ j := k_ge1 hj (by omega) c_28
          exact ih (x1 + (-1)) _ _ _ (⟨j - 1, by rw [hj]; exact k_pred hj2, by omega, by omega⟩) (by subst hr_29; rw [← hf2]; simp only [rl_firstReady, if_neg c_28, if_pos c_30]) hP hS (lv_sub hl [2, 0] rfl)
        · refine lv_iload_n hx hb dX0_firstReady_20 rfl (lv_at hl 0 rfl) ?_
          subst hQ
          have eT : r_29 = T := by subst hr_29; rw [← hf2]; simp only [rl_firstReady, if_neg c_28, if_neg c_30]
          exact W.iret (v := r_29) hx hb hr (fun t ht hW => ⟨⟨r_29, (), rfl, eT, trivial⟩, hS.F ht⟩) hS.2.2 dX0_firstReady_21
  exact key 9 8 _ _ _ (⟨8, rfl, rfl, by omega⟩) (by rw [← hf]; simp only [rf_firstReady]) hP hS (lv_sub hl [1, 0] rfl)
set_option maxHeartbeats 4000000 in
set_option maxRecDepth 100000 in
theorem rc_want (l : Launch) (dC : Nat → ClassId) (dI : Nat → Nat → Nat) (ad : Nat → Nat) (cA : Nat → ClassId) (sz : Nat) (u : RS) (p1 : Int32) (T : RS) (hf : rf_want u p1 = T) : Met l yX0_want wsX0_want ({ frames := 0, cells := 0, slots := 0, locals := 0 } : Room) (va_Pc [.ref (ad 0), .int p1] (fun U => U.heap.size = sz ∧ va_P (dC, dI) vwCl (rW ad cA u) U.heap ∧ va_K (dC, dI) vwCl (rT cA) U ∧ va_D (fun _ => True) (rW ad cA u))) (va_Qv (fun u2 => u2 = T) (rAt dC dI (va_A (rW ad cA u) sz) ad cA) (va_A (rW ad cA u) sz)) 0 0 (va_A (rW ad cA u) sz) := by
  refine Met.ofW (cc := cX0_want) (maxL := 2) (ret := none) (by decide) rfl ?_
  intro p e s m args below meth c s₁ B hml hv
  obtain ⟨rfl, hsz, hP, hK, hD0⟩ := hv
  have hx := B.exec
  have hb := B.bytes
  have hr := B.returns
  have hts := atoms_spec (ws := wsX0_want) B.pre
  have hown : s.vm.findClass RX0 = some m.cls := findClass_of_methodNamed B.named
  have hlocks := B.notSynchronized
  have hin0 : ∀ w ∈ wsX00, w ∈ wsX0_want := by decide +kernel
  have fl_wanted := hts (.fieldLink RX0 41 "ProcessRoom" "wanted" "Z") (by decide +kernel)
  have fl_wantedOne := hts (.fieldLink RX0 45 "ProcessRoom" "wantedOne" "I") (by decide +kernel)
  subst hsz
  have hD := hD0.self (sz := s.heap.size)
  generalize hAe : va_A (rW ad cA u) s.heap.size = A at hD ⊢
  have hA : ∀ q : Nat, s.heap.size ≤ q → A q := fun q h => by rw [← hAe]; exact Or.inr h
  have hS : va_S A s.heap s.heap [] := va_S.rf
  have hl := lv_entry ([.ref (ad 0), .int p1]) (n := 2) (Nat.le_of_ble_eq_true rfl)
  rw [lg_entry_eq]
  generalize (lg_sl ([.ref (ad 0), .int p1]) ++ List.replicate (2 - (lg_sl ([.ref (ad 0), .int p1])).length) Slot.unset).toArray = ls at hl ⊢
  have hl : lv_has ls 2 [(0, .ref (ad 0)), (1, .int p1)] := hl
  refine lv_aload_n hx hb dX0_want_0 rfl (lv_at hl 0 rfl) ?_
  refine lv_iconst (v := 1) hx hb dX0_want_1 (by decide) ?_
  refine va_put (D := (dC, dI)) (ci := 0) (v := .int 1) (ty := .boolean) (C := RX0) (T := TX0) (N := 12) (fs := rF ad u) hx hb hts hin0 tyX0 tyX0_ok nmX0 hown hK hP hD hS 0 rfl rfl 10 (by decide) fl_wanted (fun _ h9 => h9) rfl (by decide +kernel) rfl rfl (Nat.le_of_ble_eq_true rfl) dX0_want_2 (fun H locs hP hD hS => ?_)
  rw [rw_wanted] at hP hD
  obtain ⟨u_31, hu_31⟩ : ∃ w : RS, w = rs_wanted u 1 := ⟨_, rfl⟩
  rw [← hu_31] at hP hD
  refine lv_aload_n hx hb dX0_want_5 rfl (lv_at hl 0 rfl) ?_
  refine lv_iload_n hx hb dX0_want_6 rfl (lv_at hl 1 rfl) ?_
  refine va_put (D := (dC, dI)) (ci := 0) (v := .int p1) (ty := .int) (C := RX0) (T := TX0) (N := 12) (fs := rF ad u_31) hx hb hts hin0 tyX0 tyX0_ok nmX0 hown hK hP hD hS 0 rfl rfl 11 (by decide) fl_wantedOne (fun _ h9 => h9) rfl (by decide +kernel) rfl rfl (Nat.le_of_ble_eq_true rfl) dX0_want_7 (fun H locs hP hD hS => ?_)
  rw [rw_wantedOne] at hP hD
  obtain ⟨u_32, hu_32⟩ : ∃ w : RS, w = rs_wantedOne u_31 p1 := ⟨_, rfl⟩
  rw [← hu_32] at hP hD
  have eT : u_32 = T := by subst hu_31 hu_32; rw [← hf]; simp only [rf_want]
  exact W.vret hx hb hr (fun t ht hW => ⟨⟨u_32, rfl, eT, by rw [ht]; exact hP, va_K.moved hW.alike hK, hD⟩, hS.F ht⟩) hS.2.2 dX0_want_10
