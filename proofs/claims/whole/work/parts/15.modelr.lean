set_option maxHeartbeats 4000000 in
set_option maxRecDepth 100000 in
theorem mc_isProcess (l : Launch) (p1 : Int32) (T : Int32) (hf : mf_isProcess p1 = T) : Met l yM_isProcess wM_isProcess ({ frames := 0, cells := 0, slots := 0, locals := 0 } : Room) (va_Pc [.int p1] (fun _ => True)) (va_Qi (fun r (_ : Unit) => r = T) (fun _ _ => True) (fun _ => False)) 0 0 (fun _ => False) := by
  refine Met.ofW (cc := cM_isProcess) (maxL := 1) (ret := (some .boolean)) (by decide) rfl ?_
  intro p e s m args below meth c s₁ B hml hv
  obtain ⟨rfl, -⟩ := hv
  have hx := B.exec
  have hb := B.bytes
  have hr := B.returns
  have hts := atoms_spec (ws := wM_isProcess) B.pre
  have hown : s.vm.findClass RX1 = some m.cls := findClass_of_methodNamed B.named
  have hlocks := B.notSynchronized
  have hS : va_S (fun _ => False) s.heap s.heap [] := va_S.rf
  have hl := lv_entry ([.int p1]) (n := 1) (Nat.le_of_ble_eq_true rfl)
  rw [lg_entry_eq]
  generalize (lg_sl ([.int p1]) ++ List.replicate (1 - (lg_sl ([.int p1])).length) Slot.unset).toArray = ls at hl ⊢
  have hl : lv_has ls 1 [(0, .int p1)] := hl
  refine lv_iload_n hx hb dM_isProcess_0 rfl (lv_at hl 0 rfl) ?_
  refine lv_if_lt (tgt := 14) hx hb dM_isProcess_1 (by decide) (fun c_1 => ?_) (fun c_1 => ?_)
  · refine lv_iconst (v := 0) hx hb dM_isProcess_14 (by decide) ?_
    have eT : 0 = T := by rw [← hf]; simp only [mf_isProcess, if_pos c_1]
    exact W.zret (v := 0) hx hb hr (rfl) (fun t ht hW => ⟨⟨0, (), rfl, eT, trivial⟩, hS.F ht⟩) hS.2.2 dM_isProcess_15
  · refine lv_iload_n hx hb dM_isProcess_4 rfl (lv_at hl 0 rfl) ?_
    refine lv_bipush (v := 32) hx hb dM_isProcess_5 (by decide) ?_
    refine lv_icmp_ge (tgt := 14) hx hb dM_isProcess_7 (by decide) (fun c_2 => ?_) (fun c_2 => ?_)
    · refine lv_iconst (v := 0) hx hb dM_isProcess_14 (by decide) ?_
      have eT : 0 = T := by rw [← hf]; simp only [mf_isProcess, if_neg c_1, if_pos c_2]
      exact W.zret (v := 0) hx hb hr (rfl) (fun t ht hW => ⟨⟨0, (), rfl, eT, trivial⟩, hS.F ht⟩) hS.2.2 dM_isProcess_15
    · refine lv_iconst (v := 1) hx hb dM_isProcess_10 (by decide) ?_
      refine lv_goto (tgt := 15) hx hb dM_isProcess_11 (by decide) ?_
      have eT : 1 = T := by rw [← hf]; simp only [mf_isProcess, if_neg c_1, if_neg c_2]
      exact W.zret (v := 1) hx hb hr (rfl) (fun t ht hW => ⟨⟨1, (), rfl, eT, trivial⟩, hS.F ht⟩) hS.2.2 dM_isProcess_15
set_option maxHeartbeats 4000000 in
set_option maxRecDepth 100000 in
theorem mc_isSemaphore (l : Launch) (p1 : Int32) (T : Int32) (hf : mf_isSemaphore p1 = T) : Met l yM_isSemaphore wM_isSemaphore ({ frames := 0, cells := 0, slots := 0, locals := 0 } : Room) (va_Pc [.int p1] (fun _ => True)) (va_Qi (fun r (_ : Unit) => r = T) (fun _ _ => True) (fun _ => False)) 0 0 (fun _ => False) := by
  refine Met.ofW (cc := cM_isSemaphore) (maxL := 1) (ret := (some .boolean)) (by decide) rfl ?_
  intro p e s m args below meth c s₁ B hml hv
  obtain ⟨rfl, -⟩ := hv
  have hx := B.exec
  have hb := B.bytes
  have hr := B.returns
  have hts := atoms_spec (ws := wM_isSemaphore) B.pre
  have hown : s.vm.findClass RX1 = some m.cls := findClass_of_methodNamed B.named
  have hlocks := B.notSynchronized
  have hS : va_S (fun _ => False) s.heap s.heap [] := va_S.rf
  have hl := lv_entry ([.int p1]) (n := 1) (Nat.le_of_ble_eq_true rfl)
  rw [lg_entry_eq]
  generalize (lg_sl ([.int p1]) ++ List.replicate (1 - (lg_sl ([.int p1])).length) Slot.unset).toArray = ls at hl ⊢
  have hl : lv_has ls 1 [(0, .int p1)] := hl
  refine lv_iload_n hx hb dM_isSemaphore_0 rfl (lv_at hl 0 rfl) ?_
  refine lv_if_lt (tgt := 14) hx hb dM_isSemaphore_1 (by decide) (fun c_3 => ?_) (fun c_3 => ?_)
  · refine lv_iconst (v := 0) hx hb dM_isSemaphore_14 (by decide) ?_
    have eT : 0 = T := by rw [← hf]; simp only [mf_isSemaphore, if_pos c_3]
    exact W.zret (v := 0) hx hb hr (rfl) (fun t ht hW => ⟨⟨0, (), rfl, eT, trivial⟩, hS.F ht⟩) hS.2.2 dM_isSemaphore_15
  · refine lv_iload_n hx hb dM_isSemaphore_4 rfl (lv_at hl 0 rfl) ?_
    refine lv_bipush (v := 16) hx hb dM_isSemaphore_5 (by decide) ?_
    refine lv_icmp_ge (tgt := 14) hx hb dM_isSemaphore_7 (by decide) (fun c_4 => ?_) (fun c_4 => ?_)
    · refine lv_iconst (v := 0) hx hb dM_isSemaphore_14 (by decide) ?_
      have eT : 0 = T := by rw [← hf]; simp only [mf_isSemaphore, if_neg c_3, if_pos c_4]
      exact W.zret (v := 0) hx hb hr (rfl) (fun t ht hW => ⟨⟨0, (), rfl, eT, trivial⟩, hS.F ht⟩) hS.2.2 dM_isSemaphore_15
    · refine lv_iconst (v := 1) hx hb dM_isSemaphore_10 (by decide) ?_
      refine lv_goto (tgt := 15) hx hb dM_isSemaphore_11 (by decide) ?_
      have eT : 1 = T := by rw [← hf]; simp only [mf_isSemaphore, if_neg c_3, if_neg c_4]
      exact W.zret (v := 1) hx hb hr (rfl) (fun t ht hW => ⟨⟨1, (), rfl, eT, trivial⟩, hS.F ht⟩) hS.2.2 dM_isSemaphore_15
set_option maxHeartbeats 4000000 in
set_option maxRecDepth 100000 in
theorem mc_isPriority (l : Launch) (p1 : Int32) (T : Int32) (hf : mf_isPriority p1 = T) : Met l yM_isPriority wM_isPriority ({ frames := 0, cells := 0, slots := 0, locals := 0 } : Room) (va_Pc [.int p1] (fun _ => True)) (va_Qi (fun r (_ : Unit) => r = T) (fun _ _ => True) (fun _ => False)) 0 0 (fun _ => False) := by
  refine Met.ofW (cc := cM_isPriority) (maxL := 1) (ret := (some .boolean)) (by decide) rfl ?_
  intro p e s m args below meth c s₁ B hml hv
  obtain ⟨rfl, -⟩ := hv
  have hx := B.exec
  have hb := B.bytes
  have hr := B.returns
  have hts := atoms_spec (ws := wM_isPriority) B.pre
  have hown : s.vm.findClass RX1 = some m.cls := findClass_of_methodNamed B.named
  have hlocks := B.notSynchronized
  have hS : va_S (fun _ => False) s.heap s.heap [] := va_S.rf
  have hl := lv_entry ([.int p1]) (n := 1) (Nat.le_of_ble_eq_true rfl)
  rw [lg_entry_eq]
  generalize (lg_sl ([.int p1]) ++ List.replicate (1 - (lg_sl ([.int p1])).length) Slot.unset).toArray = ls at hl ⊢
  have hl : lv_has ls 1 [(0, .int p1)] := hl
  refine lv_iload_n hx hb dM_isPriority_0 rfl (lv_at hl 0 rfl) ?_
  refine lv_iconst (v := 1) hx hb dM_isPriority_1 (by decide) ?_
  refine lv_icmp_lt (tgt := 15) hx hb dM_isPriority_2 (by decide) (fun c_5 => ?_) (fun c_5 => ?_)
  · refine lv_iconst (v := 0) hx hb dM_isPriority_15 (by decide) ?_
    have eT : 0 = T := by rw [← hf]; simp only [mf_isPriority, if_pos c_5]
    exact W.zret (v := 0) hx hb hr (rfl) (fun t ht hW => ⟨⟨0, (), rfl, eT, trivial⟩, hS.F ht⟩) hS.2.2 dM_isPriority_16
  · refine lv_iload_n hx hb dM_isPriority_5 rfl (lv_at hl 0 rfl) ?_
    refine lv_bipush (v := 8) hx hb dM_isPriority_6 (by decide) ?_
    refine lv_icmp_gt (tgt := 15) hx hb dM_isPriority_8 (by decide) (fun c_6 => ?_) (fun c_6 => ?_)
    · refine lv_iconst (v := 0) hx hb dM_isPriority_15 (by decide) ?_
      have eT : 0 = T := by rw [← hf]; simp only [mf_isPriority, if_neg c_5, if_pos c_6]
      exact W.zret (v := 0) hx hb hr (rfl) (fun t ht hW => ⟨⟨0, (), rfl, eT, trivial⟩, hS.F ht⟩) hS.2.2 dM_isPriority_16
    · refine lv_iconst (v := 1) hx hb dM_isPriority_11 (by decide) ?_
      refine lv_goto (tgt := 16) hx hb dM_isPriority_12 (by decide) ?_
      have eT : 1 = T := by rw [← hf]; simp only [mf_isPriority, if_neg c_5, if_neg c_6]
      exact W.zret (v := 1) hx hb hr (rfl) (fun t ht hW => ⟨⟨1, (), rfl, eT, trivial⟩, hS.F ht⟩) hS.2.2 dM_isPriority_16
set_option maxHeartbeats 4000000 in
set_option maxRecDepth 100000 in
theorem mc_isMade (l : Launch) (dC : Nat → ClassId) (dI : Nat → Nat → Nat) (ad : Nat → Nat) (cA : Nat → ClassId) (u : MS) (p1 : Int32) (T : Int32) (hf : mf_isMade u p1 = T) : Met l yM_isMade wM_isMade ({ frames := 1, cells := 0, slots := 0, locals := 20 } : Room) (va_Pc [.ref (ad 0), .int p1] (fun U => va_P (dC, dI) vwCl (mW ad cA u) U.heap ∧ va_K (dC, dI) vwCl (mT cA) U)) (va_Qi (fun r (_ : Unit) => r = T) (fun _ _ => True) (fun _ => False)) 0 0 (fun _ => False) := by
  refine Met.ofW (cc := cM_isMade) (maxL := 2) (ret := (some .boolean)) (by decide) rfl ?_
  intro p e s m args below meth c s₁ B hml hv
  obtain ⟨rfl, hP, hK⟩ := hv
  have hx := B.exec
  have hb := B.bytes
  have hr := B.returns
  have hts := atoms_spec (ws := wM_isMade) B.pre
  have hown : s.vm.findClass RX1 = some m.cls := findClass_of_methodNamed B.named
  have hlocks := B.notSynchronized
  have hin0 : ∀ w ∈ wsX10, w ∈ wM_isMade := by decide +kernel
  have fl_made := hts (.fieldLink RX1 7 "ProcessRoomModel" "made" "[Z") (by decide +kernel)
  have hS : va_S (fun _ => False) s.heap s.heap [] := va_S.rf
  have hl := lv_entry ([.ref (ad 0), .int p1]) (n := 2) (Nat.le_of_ble_eq_true rfl)
  rw [lg_entry_eq]
  generalize (lg_sl ([.ref (ad 0), .int p1]) ++ List.replicate (2 - (lg_sl ([.ref (ad 0), .int p1])).length) Slot.unset).toArray = ls at hl ⊢
  have hl : lv_has ls 2 [(0, .ref (ad 0)), (1, .int p1)] := hl
  refine lv_iload_n hx hb dM_isMade_0 rfl (lv_at hl 1 rfl) ?_
  refine va_calli (va_runS (As := [.int p1]) (rest := []) ⟨hx, hb, hml, hown, hts⟩ (mc_isProcess l p1 _ rfl) (va_cwS 1 hts gM_isMade_isProcess rfl rfl rfl (by decide +kernel) ⟨Nat.le_of_ble_eq_true rfl, Nat.le_of_ble_eq_true rfl⟩) ⟨fun a U g mk q => ⟨q.1, trivial⟩, fun U hU hW => ⟨rfl, trivial⟩⟩ rfl rfl hl.1 rfl (lv_room (Nat.le_of_ble_eq_true rfl)) dM_isMade_1 ⟨Nat.le_of_ble_eq_true rfl, Nat.le_of_ble_eq_true rfl⟩) hS (fun _ _ h => h.elim) (fun _ h => h.elim) (fun r_7 u_ t H1 locs ht hvm hr_7 hB hz1 hk1 hS => ?_)
  have hP := hP.kept (fun k x hx => hk1 x.1 ((hP k x hx).lt) (fun h => h))
  generalize H1 = H at hP hS ⊢
  refine lv_if_eq (tgt := 20) hx hb dM_isMade_4 (by decide) (fun c_8 => ?_) (fun c_8 => ?_)
  · refine lv_iconst (v := 0) hx hb dM_isMade_20 (by decide) ?_
    have eT : 0 = T := by subst hr_7; rw [← hf]; simp only [mf_isMade, if_pos c_8]
    exact W.zret (v := 0) hx hb hr (rfl) (fun t ht hW => ⟨⟨0, (), rfl, eT, trivial⟩, hS.F ht⟩) hS.2.2 dM_isMade_21
  · refine lv_aload_n hx hb dM_isMade_7 rfl (lv_at hl 0 rfl) ?_
    refine va_get (D := (dC, dI)) (ci := 1) (v := .ref (ad 1)) (C := RX1) (T := TX1) (N := 13) (fs := mF ad u) hx hb hts hin0 hown hK hP 0 rfl rfl 0 (by decide) fl_made (fun _ h9 => h9) rfl dM_isMade_8 ?_
    refine lv_iload_n hx hb dM_isMade_11 rfl (lv_at hl 1 rfl) ?_
    refine va_zald hx hb hK hP 1 0 rfl rfl (mi_isProcess hr_7 c_8) dM_isMade_12 ?_
    refine lv_if_eq (tgt := 20) hx hb dM_isMade_13 (by decide) (fun c_9 => ?_) (fun c_9 => ?_)
    · refine lv_iconst (v := 0) hx hb dM_isMade_20 (by decide) ?_
      have eT : 0 = T := by subst hr_7; rw [← hf]; simp only [mf_isMade, if_neg c_8, if_pos c_9]
      exact W.zret (v := 0) hx hb hr (rfl) (fun t ht hW => ⟨⟨0, (), rfl, eT, trivial⟩, hS.F ht⟩) hS.2.2 dM_isMade_21
    · refine lv_iconst (v := 1) hx hb dM_isMade_16 (by decide) ?_
      refine lv_goto (tgt := 21) hx hb dM_isMade_17 (by decide) ?_
      have eT : 1 = T := by subst hr_7; rw [← hf]; simp only [mf_isMade, if_neg c_8, if_neg c_9]
      exact W.zret (v := 1) hx hb hr (rfl) (fun t ht hW => ⟨⟨1, (), rfl, eT, trivial⟩, hS.F ht⟩) hS.2.2 dM_isMade_21
set_option maxHeartbeats 4000000 in
set_option maxRecDepth 100000 in
theorem mc_presentOne (l : Launch) (dC : Nat → ClassId) (dI : Nat → Nat → Nat) (ad : Nat → Nat) (cA : Nat → ClassId) (u : MS)  (T : Int32) (hf : mf_presentOne u = T) : Met l yM_presentOne wM_presentOne ({ frames := 0, cells := 0, slots := 0, locals := 0 } : Room) (va_Pc [.ref (ad 0)] (fun U => va_P (dC, dI) vwCl (mW ad cA u) U.heap ∧ va_K (dC, dI) vwCl (mT cA) U)) (va_Qi (fun r (_ : Unit) => r = T) (fun _ _ => True) (fun _ => False)) 0 0 (fun _ => False) := by
  refine Met.ofW (cc := cM_presentOne) (maxL := 1) (ret := (some .int)) (by decide) rfl ?_
  intro p e s m args below meth c s₁ B hml hv
  obtain ⟨rfl, hP, hK⟩ := hv
  have hx := B.exec
  have hb := B.bytes
  have hr := B.returns
  have hts := atoms_spec (ws := wM_presentOne) B.pre
  have hown : s.vm.findClass RX1 = some m.cls := findClass_of_methodNamed B.named
  have hlocks := B.notSynchronized
  have hin0 : ∀ w ∈ wsX10, w ∈ wM_presentOne := by decide +kernel
  have fl_wanted := hts (.fieldLink RX1 48 "ProcessRoomModel" "wanted" "Z") (by decide +kernel)
  have fl_change := hts (.fieldLink RX1 37 "ProcessRoomModel" "change" "I") (by decide +kernel)
  have fl_active := hts (.fieldLink RX1 33 "ProcessRoomModel" "active" "I") (by decide +kernel)
  have hS : va_S (fun _ => False) s.heap s.heap [] := va_S.rf
  have hl := lv_entry ([.ref (ad 0)]) (n := 1) (Nat.le_of_ble_eq_true rfl)
  rw [lg_entry_eq]
  generalize (lg_sl ([.ref (ad 0)]) ++ List.replicate (1 - (lg_sl ([.ref (ad 0)])).length) Slot.unset).toArray = ls at hl ⊢
  have hl : lv_has ls 1 [(0, .ref (ad 0))] := hl
  refine lv_aload_n hx hb dM_presentOne_0 rfl (lv_at hl 0 rfl) ?_
  refine va_get (D := (dC, dI)) (ci := 1) (v := .int (ma_wanted u)) (C := RX1) (T := TX1) (N := 13) (fs := mF ad u) hx hb hts hin0 hown hK hP 0 rfl rfl 11 (by decide) fl_wanted (fun _ h9 => h9) rfl dM_presentOne_1 ?_
  refine lv_if_eq (tgt := 14) hx hb dM_presentOne_4 (by decide) (fun c_10 => ?_) (fun c_10 => ?_)
  · refine lv_aload_n hx hb dM_presentOne_14 rfl (lv_at hl 0 rfl) ?_
    refine va_get (D := (dC, dI)) (ci := 1) (v := .int (ma_active u)) (C := RX1) (T := TX1) (N := 13) (fs := mF ad u) hx hb hts hin0 hown hK hP 0 rfl rfl 9 (by decide) fl_active (fun _ h9 => h9) rfl dM_presentOne_15 ?_
    have eT : ma_active u = T := by rw [← hf]; simp only [mf_presentOne, if_pos c_10]
    exact W.iret (v := ma_active u) hx hb hr (fun t ht hW => ⟨⟨ma_active u, (), rfl, eT, trivial⟩, hS.F ht⟩) hS.2.2 dM_presentOne_18
  · refine lv_aload_n hx hb dM_presentOne_7 rfl (lv_at hl 0 rfl) ?_
    refine va_get (D := (dC, dI)) (ci := 1) (v := .int (ma_change u)) (C := RX1) (T := TX1) (N := 13) (fs := mF ad u) hx hb hts hin0 hown hK hP 0 rfl rfl 12 (by decide) fl_change (fun _ h9 => h9) rfl dM_presentOne_8 ?_
    refine lv_goto (tgt := 18) hx hb dM_presentOne_11 (by decide) ?_
    have eT : ma_change u = T := by rw [← hf]; simp only [mf_presentOne, if_neg c_10]
    exact W.iret (v := ma_change u) hx hb hr (fun t ht hW => ⟨⟨ma_change u, (), rfl, eT, trivial⟩, hS.F ht⟩) hS.2.2 dM_presentOne_18
set_option maxHeartbeats 4000000 in
set_option maxRecDepth 100000 in
theorem mc_present (l : Launch) (dC : Nat → ClassId) (dI : Nat → Nat → Nat) (ad : Nat → Nat) (cA : Nat → ClassId) (u : MS)  (T : Int32) (hf : mf_present u = T) : Met l yM_present wM_present ({ frames := 1, cells := 0, slots := 0, locals := 20 } : Room) (va_Pc [.ref (ad 0)] (fun U => va_P (dC, dI) vwCl (mW ad cA u) U.heap ∧ va_K (dC, dI) vwCl (mT cA) U)) (va_Qi (fun r (_ : Unit) => r = T) (fun _ _ => True) (fun _ => False)) 0 0 (fun _ => False) := by
  refine Met.ofW (cc := cM_present) (maxL := 1) (ret := (some .int)) (by decide) rfl ?_
  intro p e s m args below meth c s₁ B hml hv
  obtain ⟨rfl, hP, hK⟩ := hv
  have hx := B.exec
  have hb := B.bytes
  have hr := B.returns
  have hts := atoms_spec (ws := wM_present) B.pre
  have hown : s.vm.findClass RX1 = some m.cls := findClass_of_methodNamed B.named
  have hlocks := B.notSynchronized
  have hS : va_S (fun _ => False) s.heap s.heap [] := va_S.rf
  have hl := lv_entry ([.ref (ad 0)]) (n := 1) (Nat.le_of_ble_eq_true rfl)
  rw [lg_entry_eq]
  generalize (lg_sl ([.ref (ad 0)]) ++ List.replicate (1 - (lg_sl ([.ref (ad 0)])).length) Slot.unset).toArray = ls at hl ⊢
  have hl : lv_has ls 1 [(0, .ref (ad 0))] := hl
  refine lv_aload_n hx hb dM_present_0 rfl (lv_at hl 0 rfl) ?_
  refine va_calli (va_runV (As := []) (rest := []) ⟨hx, hb, hml, hown, hts⟩ (mc_presentOne l dC dI ad cA u _ rfl) (cwV 0 hts gM_present_presentOne rfl rfl rfl (by decide +kernel) ⟨Nat.le_of_ble_eq_true rfl, Nat.le_of_ble_eq_true rfl⟩) ⟨fun a U g mk q => by obtain ⟨q0, qP, qK⟩ := q; exact ⟨q0, qP, va_K.moved (u := U) (U := U.calling g mk a) (Vm.Alike.refl U.vm) qK⟩, va_recv hK hP (ci := 1) (q0 := 0) rfl rfl, fun U hU hW => ⟨rfl, by rw [hU]; exact hP, va_K.moved hW.alike hK⟩⟩ rfl rfl hl.1 rfl (lv_room (Nat.le_of_ble_eq_true rfl)) dM_present_1 ⟨Nat.le_of_ble_eq_true rfl, Nat.le_of_ble_eq_true rfl⟩) hS (fun _ _ h => h.elim) (fun _ h => h.elim) (fun r_11 u_ t H1 locs ht hvm hr_11 hB hz1 hk1 hS => ?_)
  have hP := hP.kept (fun k x hx => hk1 x.1 ((hP k x hx).lt) (fun h => h))
  generalize H1 = H at hP hS ⊢
  have eT : r_11 = T := by subst hr_11; rw [← hf]; simp only [mf_present]
  exact W.iret (v := r_11) hx hb hr (fun t ht hW => ⟨⟨r_11, (), rfl, eT, trivial⟩, hS.F ht⟩) hS.2.2 dM_present_4
set_option maxHeartbeats 4000000 in
set_option maxRecDepth 100000 in
theorem mc_active (l : Launch) (dC : Nat → ClassId) (dI : Nat → Nat → Nat) (ad : Nat → Nat) (cA : Nat → ClassId) (u : MS)  (T : Int32) (hf : mf_active u = T) : Met l yM_active wM_active ({ frames := 0, cells := 0, slots := 0, locals := 0 } : Room) (va_Pc [.ref (ad 0)] (fun U => va_P (dC, dI) vwCl (mW ad cA u) U.heap ∧ va_K (dC, dI) vwCl (mT cA) U)) (va_Qi (fun r (_ : Unit) => r = T) (fun _ _ => True) (fun _ => False)) 0 0 (fun _ => False) := by
  refine Met.ofW (cc := cM_active) (maxL := 1) (ret := (some .int)) (by decide) rfl ?_
  intro p e s m args below meth c s₁ B hml hv
  obtain ⟨rfl, hP, hK⟩ := hv
  have hx := B.exec
  have hb := B.bytes
  have hr := B.returns
  have hts := atoms_spec (ws := wM_active) B.pre
  have hown : s.vm.findClass RX1 = some m.cls := findClass_of_methodNamed B.named
  have hlocks := B.notSynchronized
  have hin0 : ∀ w ∈ wsX10, w ∈ wM_active := by decide +kernel
  have fl_active := hts (.fieldLink RX1 33 "ProcessRoomModel" "active" "I") (by decide +kernel)
  have hS : va_S (fun _ => False) s.heap s.heap [] := va_S.rf
  have hl := lv_entry ([.ref (ad 0)]) (n := 1) (Nat.le_of_ble_eq_true rfl)
  rw [lg_entry_eq]
  generalize (lg_sl ([.ref (ad 0)]) ++ List.replicate (1 - (lg_sl ([.ref (ad 0)])).length) Slot.unset).toArray = ls at hl ⊢
  have hl : lv_has ls 1 [(0, .ref (ad 0))] := hl
  refine lv_aload_n hx hb dM_active_0 rfl (lv_at hl 0 rfl) ?_
  refine va_get (D := (dC, dI)) (ci := 1) (v := .int (ma_active u)) (C := RX1) (T := TX1) (N := 13) (fs := mF ad u) hx hb hts hin0 hown hK hP 0 rfl rfl 9 (by decide) fl_active (fun _ h9 => h9) rfl dM_active_1 ?_
  have eT : ma_active u = T := by rw [← hf]; simp only [mf_active]
  exact W.iret (v := ma_active u) hx hb hr (fun t ht hW => ⟨⟨ma_active u, (), rfl, eT, trivial⟩, hS.F ht⟩) hS.2.2 dM_active_4
set_option maxHeartbeats 4000000 in
set_option maxRecDepth 100000 in
theorem mc_wanted (l : Launch) (dC : Nat → ClassId) (dI : Nat → Nat → Nat) (ad : Nat → Nat) (cA : Nat → ClassId) (u : MS)  (hI : mInv u) (T : Int32) (hf : mf_wanted u = T) : Met l yM_wanted wM_wanted ({ frames := 0, cells := 0, slots := 0, locals := 0 } : Room) (va_Pc [.ref (ad 0)] (fun U => va_P (dC, dI) vwCl (mW ad cA u) U.heap ∧ va_K (dC, dI) vwCl (mT cA) U)) (va_Qi (fun r (_ : Unit) => r = T) (fun _ _ => True) (fun _ => False)) 0 0 (fun _ => False) := by
  refine Met.ofW (cc := cM_wanted) (maxL := 1) (ret := (some .boolean)) (by decide) rfl ?_
  intro p e s m args below meth c s₁ B hml hv
  obtain ⟨rfl, hP, hK⟩ := hv
  have hx := B.exec
  have hb := B.bytes
  have hr := B.returns
  have hts := atoms_spec (ws := wM_wanted) B.pre
  have hown : s.vm.findClass RX1 = some m.cls := findClass_of_methodNamed B.named
  have hlocks := B.notSynchronized
  have hin0 : ∀ w ∈ wsX10, w ∈ wM_wanted := by decide +kernel
  have fl_wanted := hts (.fieldLink RX1 48 "ProcessRoomModel" "wanted" "Z") (by decide +kernel)
  have hS : va_S (fun _ => False) s.heap s.heap [] := va_S.rf
  have hl := lv_entry ([.ref (ad 0)]) (n := 1) (Nat.le_of_ble_eq_true rfl)
  rw [lg_entry_eq]
  generalize (lg_sl ([.ref (ad 0)]) ++ List.replicate (1 - (lg_sl ([.ref (ad 0)])).length) Slot.unset).toArray = ls at hl ⊢
  have hl : lv_has ls 1 [(0, .ref (ad 0))] := hl
  refine lv_aload_n hx hb dM_wanted_0 rfl (lv_at hl 0 rfl) ?_
  refine va_get (D := (dC, dI)) (ci := 1) (v := .int (ma_wanted u)) (C := RX1) (T := TX1) (N := 13) (fs := mF ad u) hx hb hts hin0 hown hK hP 0 rfl rfl 11 (by decide) fl_wanted (fun _ h9 => h9) rfl dM_wanted_1 ?_
  have eT : ma_wanted u = T := by rw [← hf]; simp only [mf_wanted]
  exact W.zret (v := ma_wanted u) hx hb hr (k_nar hI.2.2.2) (fun t ht hW => ⟨⟨ma_wanted u, (), rfl, eT, trivial⟩, hS.F ht⟩) hS.2.2 dM_wanted_4
set_option maxHeartbeats 4000000 in
set_option maxRecDepth 100000 in
theorem mc_here (l : Launch) (dC : Nat → ClassId) (dI : Nat → Nat → Nat) (ad : Nat → Nat) (cA : Nat → ClassId) (u : MS)  (T : Int32) (hf : mf_here u = T) : Met l yM_here wM_here ({ frames := 0, cells := 0, slots := 0, locals := 0 } : Room) (va_Pc [.ref (ad 0)] (fun U => va_P (dC, dI) vwCl (mW ad cA u) U.heap ∧ va_K (dC, dI) vwCl (mT cA) U)) (va_Qi (fun r (_ : Unit) => r = T) (fun _ _ => True) (fun _ => False)) 0 0 (fun _ => False) := by
  refine Met.ofW (cc := cM_here) (maxL := 1) (ret := (some .int)) (by decide) rfl ?_
  intro p e s m args below meth c s₁ B hml hv
  obtain ⟨rfl, hP, hK⟩ := hv
  have hx := B.exec
  have hb := B.bytes
  have hr := B.returns
  have hts := atoms_spec (ws := wM_here) B.pre
  have hown : s.vm.findClass RX1 = some m.cls := findClass_of_methodNamed B.named
  have hlocks := B.notSynchronized
  have hin0 : ∀ w ∈ wsX10, w ∈ wM_here := by decide +kernel
  have fl_here := hts (.fieldLink RX1 89 "ProcessRoomModel" "here" "I") (by decide +kernel)
  have hS : va_S (fun _ => False) s.heap s.heap [] := va_S.rf
  have hl := lv_entry ([.ref (ad 0)]) (n := 1) (Nat.le_of_ble_eq_true rfl)
  rw [lg_entry_eq]
  generalize (lg_sl ([.ref (ad 0)]) ++ List.replicate (1 - (lg_sl ([.ref (ad 0)])).length) Slot.unset).toArray = ls at hl ⊢
  have hl : lv_has ls 1 [(0, .ref (ad 0))] := hl
  refine lv_aload_n hx hb dM_here_0 rfl (lv_at hl 0 rfl) ?_
  refine va_get (D := (dC, dI)) (ci := 1) (v := .int (ma_here u)) (C := RX1) (T := TX1) (N := 13) (fs := mF ad u) hx hb hts hin0 hown hK hP 0 rfl rfl 10 (by decide) fl_here (fun _ h9 => h9) rfl dM_here_1 ?_
  have eT : ma_here u = T := by rw [← hf]; simp only [mf_here]
  exact W.iret (v := ma_here u) hx hb hr (fun t ht hW => ⟨⟨ma_here u, (), rfl, eT, trivial⟩, hS.F ht⟩) hS.2.2 dM_here_4
set_option maxHeartbeats 4000000 in
set_option maxRecDepth 100000 in
theorem mc_place (l : Launch) (dC : Nat → ClassId) (dI : Nat → Nat → Nat) (ad : Nat → Nat) (cA : Nat → ClassId) (u : MS) (p1 : Int32) (T : Int32) (hf : mf_place u p1 = T) : Met l yM_place wM_place ({ frames := 2, cells := 0, slots := 0, locals := 41 } : Room) (va_Pc [.ref (ad 0), .int p1] (fun U => va_P (dC, dI) vwCl (mW ad cA u) U.heap ∧ va_K (dC, dI) vwCl (mT cA) U)) (va_Qi (fun r (_ : Unit) => r = T) (fun _ _ => True) (fun _ => False)) 0 0 (fun _ => False) := by
  refine Met.ofW (cc := cM_place) (maxL := 2) (ret := (some .int)) (by decide) rfl ?_
  intro p e s m args below meth c s₁ B hml hv
  obtain ⟨rfl, hP, hK⟩ := hv
  have hx := B.exec
  have hb := B.bytes
  have hr := B.returns
  have hts := atoms_spec (ws := wM_place) B.pre
  have hown : s.vm.findClass RX1 = some m.cls := findClass_of_methodNamed B.named
  have hlocks := B.notSynchronized
  have hin0 : ∀ w ∈ wsX10, w ∈ wM_place := by decide +kernel
  have fl_places := hts (.fieldLink RX1 17 "ProcessRoomModel" "places" "[I") (by decide +kernel)
  have hS : va_S (fun _ => False) s.heap s.heap [] := va_S.rf
  have hl := lv_entry ([.ref (ad 0), .int p1]) (n := 2) (Nat.le_of_ble_eq_true rfl)
  rw [lg_entry_eq]
  generalize (lg_sl ([.ref (ad 0), .int p1]) ++ List.replicate (2 - (lg_sl ([.ref (ad 0), .int p1])).length) Slot.unset).toArray = ls at hl ⊢
  have hl : lv_has ls 2 [(0, .ref (ad 0)), (1, .int p1)] := hl
  refine lv_aload_n hx hb dM_place_0 rfl (lv_at hl 0 rfl) ?_
  refine lv_iload_n hx hb dM_place_1 rfl (lv_at hl 1 rfl) ?_
  refine va_calli (va_runV (As := [.int p1]) (rest := []) ⟨hx, hb, hml, hown, hts⟩ (mc_isMade l dC dI ad cA u p1 _ rfl) (cwV 1 hts gM_place_isMade rfl rfl rfl (by decide +kernel) ⟨Nat.le_of_ble_eq_true rfl, Nat.le_of_ble_eq_true rfl⟩) ⟨fun a U g mk q => by obtain ⟨q0, qP, qK⟩ := q; exact ⟨q0, qP, va_K.moved (u := U) (U := U.calling g mk a) (Vm.Alike.refl U.vm) qK⟩, va_recv hK hP (ci := 1) (q0 := 0) rfl rfl, fun U hU hW => ⟨rfl, by rw [hU]; exact hP, va_K.moved hW.alike hK⟩⟩ rfl rfl hl.1 rfl (lv_room (Nat.le_of_ble_eq_true rfl)) dM_place_2 ⟨Nat.le_of_ble_eq_true rfl, Nat.le_of_ble_eq_true rfl⟩) hS (fun _ _ h => h.elim) (fun _ h => h.elim) (fun r_12 u_ t H1 locs ht hvm hr_12 hB hz1 hk1 hS => ?_)
  have hP := hP.kept (fun k x hx => hk1 x.1 ((hP k x hx).lt) (fun h => h))
  generalize H1 = H at hP hS ⊢
  refine lv_if_eq (tgt := 17) hx hb dM_place_5 (by decide) (fun c_13 => ?_) (fun c_13 => ?_)
  · refine lv_iconst (v := 0) hx hb dM_place_17 (by decide) ?_
    have eT : 0 = T := by subst hr_12; rw [← hf]; simp only [mf_place, if_pos c_13]
    exact W.iret (v := 0) hx hb hr (fun t ht hW => ⟨⟨0, (), rfl, eT, trivial⟩, hS.F ht⟩) hS.2.2 dM_place_18
  · refine lv_aload_n hx hb dM_place_8 rfl (lv_at hl 0 rfl) ?_
    refine va_get (D := (dC, dI)) (ci := 1) (v := .ref (ad 3)) (C := RX1) (T := TX1) (N := 13) (fs := mF ad u) hx hb hts hin0 hown hK hP 0 rfl rfl 2 (by decide) fl_places (fun _ h9 => h9) rfl dM_place_9 ?_
    refine lv_iload_n hx hb dM_place_12 rfl (lv_at hl 1 rfl) ?_
    refine va_iald hx hb hK hP 3 2 rfl rfl (mi_isMade hr_12 c_13) dM_place_13 ?_
    refine lv_goto (tgt := 18) hx hb dM_place_14 (by decide) ?_
    have eT : ma_places u p1.toNatClampNeg = T := by subst hr_12; rw [← hf]; simp only [mf_place, if_neg c_13]
    exact W.iret (v := ma_places u p1.toNatClampNeg) hx hb hr (fun t ht hW => ⟨⟨ma_places u p1.toNatClampNeg, (), rfl, eT, trivial⟩, hS.F ht⟩) hS.2.2 dM_place_18
set_option maxHeartbeats 4000000 in
set_option maxRecDepth 100000 in
theorem mc_priority (l : Launch) (dC : Nat → ClassId) (dI : Nat → Nat → Nat) (ad : Nat → Nat) (cA : Nat → ClassId) (u : MS) (p1 : Int32) (T : Int32) (hf : mf_priority u p1 = T) : Met l yM_priority wM_priority ({ frames := 2, cells := 0, slots := 0, locals := 41 } : Room) (va_Pc [.ref (ad 0), .int p1] (fun U => va_P (dC, dI) vwCl (mW ad cA u) U.heap ∧ va_K (dC, dI) vwCl (mT cA) U)) (va_Qi (fun r (_ : Unit) => r = T) (fun _ _ => True) (fun _ => False)) 0 0 (fun _ => False) := by
  refine Met.ofW (cc := cM_priority) (maxL := 2) (ret := (some .int)) (by decide) rfl ?_
  intro p e s m args below meth c s₁ B hml hv
  obtain ⟨rfl, hP, hK⟩ := hv
  have hx := B.exec
  have hb := B.bytes
  have hr := B.returns
  have hts := atoms_spec (ws := wM_priority) B.pre
  have hown : s.vm.findClass RX1 = some m.cls := findClass_of_methodNamed B.named
  have hlocks := B.notSynchronized
  have hin0 : ∀ w ∈ wsX10, w ∈ wM_priority := by decide +kernel
  have fl_priorities := hts (.fieldLink RX1 13 "ProcessRoomModel" "priorities" "[I") (by decide +kernel)
  have hS : va_S (fun _ => False) s.heap s.heap [] := va_S.rf
  have hl := lv_entry ([.ref (ad 0), .int p1]) (n := 2) (Nat.le_of_ble_eq_true rfl)
  rw [lg_entry_eq]
  generalize (lg_sl ([.ref (ad 0), .int p1]) ++ List.replicate (2 - (lg_sl ([.ref (ad 0), .int p1])).length) Slot.unset).toArray = ls at hl ⊢
  have hl : lv_has ls 2 [(0, .ref (ad 0)), (1, .int p1)] := hl
  refine lv_aload_n hx hb dM_priority_0 rfl (lv_at hl 0 rfl) ?_
  refine lv_iload_n hx hb dM_priority_1 rfl (lv_at hl 1 rfl) ?_
  refine va_calli (va_runV (As := [.int p1]) (rest := []) ⟨hx, hb, hml, hown, hts⟩ (mc_isMade l dC dI ad cA u p1 _ rfl) (cwV 1 hts gM_priority_isMade rfl rfl rfl (by decide +kernel) ⟨Nat.le_of_ble_eq_true rfl, Nat.le_of_ble_eq_true rfl⟩) ⟨fun a U g mk q => by obtain ⟨q0, qP, qK⟩ := q; exact ⟨q0, qP, va_K.moved (u := U) (U := U.calling g mk a) (Vm.Alike.refl U.vm) qK⟩, va_recv hK hP (ci := 1) (q0 := 0) rfl rfl, fun U hU hW => ⟨rfl, by rw [hU]; exact hP, va_K.moved hW.alike hK⟩⟩ rfl rfl hl.1 rfl (lv_room (Nat.le_of_ble_eq_true rfl)) dM_priority_2 ⟨Nat.le_of_ble_eq_true rfl, Nat.le_of_ble_eq_true rfl⟩) hS (fun _ _ h => h.elim) (fun _ h => h.elim) (fun r_14 u_ t H1 locs ht hvm hr_14 hB hz1 hk1 hS => ?_)
  have hP := hP.kept (fun k x hx => hk1 x.1 ((hP k x hx).lt) (fun h => h))
  generalize H1 = H at hP hS ⊢
  refine lv_if_eq (tgt := 17) hx hb dM_priority_5 (by decide) (fun c_15 => ?_) (fun c_15 => ?_)
  · refine lv_iconst (v := (-1)) hx hb dM_priority_17 (by decide) ?_
    have eT : (-1) = T := by subst hr_14; rw [← hf]; simp only [mf_priority, if_pos c_15]
    exact W.iret (v := (-1)) hx hb hr (fun t ht hW => ⟨⟨(-1), (), rfl, eT, trivial⟩, hS.F ht⟩) hS.2.2 dM_priority_18
  · refine lv_aload_n hx hb dM_priority_8 rfl (lv_at hl 0 rfl) ?_
    refine va_get (D := (dC, dI)) (ci := 1) (v := .ref (ad 2)) (C := RX1) (T := TX1) (N := 13) (fs := mF ad u) hx hb hts hin0 hown hK hP 0 rfl rfl 1 (by decide) fl_priorities (fun _ h9 => h9) rfl dM_priority_9 ?_
    refine lv_iload_n hx hb dM_priority_12 rfl (lv_at hl 1 rfl) ?_
    refine va_iald hx hb hK hP 2 1 rfl rfl (mi_isMade hr_14 c_15) dM_priority_13 ?_
    refine lv_goto (tgt := 18) hx hb dM_priority_14 (by decide) ?_
    have eT : ma_priorities u p1.toNatClampNeg = T := by subst hr_14; rw [← hf]; simp only [mf_priority, if_neg c_15]
    exact W.iret (v := ma_priorities u p1.toNatClampNeg) hx hb hr (fun t ht hW => ⟨⟨ma_priorities u p1.toNatClampNeg, (), rfl, eT, trivial⟩, hS.F ht⟩) hS.2.2 dM_priority_18
set_option maxHeartbeats 4000000 in
set_option maxRecDepth 100000 in
theorem mc_row (l : Launch) (dC : Nat → ClassId) (dI : Nat → Nat → Nat) (ad : Nat → Nat) (cA : Nat → ClassId) (u : MS) (p1 : Int32) (T : Int32) (hf : mf_row u p1 = T) : Met l yM_row wM_row ({ frames := 2, cells := 0, slots := 0, locals := 41 } : Room) (va_Pc [.ref (ad 0), .int p1] (fun U => va_P (dC, dI) vwCl (mW ad cA u) U.heap ∧ va_K (dC, dI) vwCl (mT cA) U)) (va_Qi (fun r (_ : Unit) => r = T) (fun _ _ => True) (fun _ => False)) 0 0 (fun _ => False) := by
  refine Met.ofW (cc := cM_row) (maxL := 2) (ret := (some .int)) (by decide) rfl ?_
  intro p e s m args below meth c s₁ B hml hv
  obtain ⟨rfl, hP, hK⟩ := hv
  have hx := B.exec
  have hb := B.bytes
  have hr := B.returns
  have hts := atoms_spec (ws := wM_row) B.pre
  have hown : s.vm.findClass RX1 = some m.cls := findClass_of_methodNamed B.named
  have hlocks := B.notSynchronized
  have hin0 : ∀ w ∈ wsX10, w ∈ wM_row := by decide +kernel
  have fl_rows := hts (.fieldLink RX1 20 "ProcessRoomModel" "rows" "[I") (by decide +kernel)
  have hS : va_S (fun _ => False) s.heap s.heap [] := va_S.rf
  have hl := lv_entry ([.ref (ad 0), .int p1]) (n := 2) (Nat.le_of_ble_eq_true rfl)
  rw [lg_entry_eq]
  generalize (lg_sl ([.ref (ad 0), .int p1]) ++ List.replicate (2 - (lg_sl ([.ref (ad 0), .int p1])).length) Slot.unset).toArray = ls at hl ⊢
  have hl : lv_has ls 2 [(0, .ref (ad 0)), (1, .int p1)] := hl
  refine lv_aload_n hx hb dM_row_0 rfl (lv_at hl 0 rfl) ?_
  refine lv_iload_n hx hb dM_row_1 rfl (lv_at hl 1 rfl) ?_
  refine va_calli (va_runV (As := [.int p1]) (rest := []) ⟨hx, hb, hml, hown, hts⟩ (mc_isMade l dC dI ad cA u p1 _ rfl) (cwV 1 hts gM_row_isMade rfl rfl rfl (by decide +kernel) ⟨Nat.le_of_ble_eq_true rfl, Nat.le_of_ble_eq_true rfl⟩) ⟨fun a U g mk q => by obtain ⟨q0, qP, qK⟩ := q; exact ⟨q0, qP, va_K.moved (u := U) (U := U.calling g mk a) (Vm.Alike.refl U.vm) qK⟩, va_recv hK hP (ci := 1) (q0 := 0) rfl rfl, fun U hU hW => ⟨rfl, by rw [hU]; exact hP, va_K.moved hW.alike hK⟩⟩ rfl rfl hl.1 rfl (lv_room (Nat.le_of_ble_eq_true rfl)) dM_row_2 ⟨Nat.le_of_ble_eq_true rfl, Nat.le_of_ble_eq_true rfl⟩) hS (fun _ _ h => h.elim) (fun _ h => h.elim) (fun r_16 u_ t H1 locs ht hvm hr_16 hB hz1 hk1 hS => ?_)
  have hP := hP.kept (fun k x hx => hk1 x.1 ((hP k x hx).lt) (fun h => h))
  generalize H1 = H at hP hS ⊢
  refine lv_if_eq (tgt := 17) hx hb dM_row_5 (by decide) (fun c_17 => ?_) (fun c_17 => ?_)
  · refine lv_iconst (v := (-1)) hx hb dM_row_17 (by decide) ?_
    have eT : (-1) = T := by subst hr_16; rw [← hf]; simp only [mf_row, if_pos c_17]
    exact W.iret (v := (-1)) hx hb hr (fun t ht hW => ⟨⟨(-1), (), rfl, eT, trivial⟩, hS.F ht⟩) hS.2.2 dM_row_18
  · refine lv_aload_n hx hb dM_row_8 rfl (lv_at hl 0 rfl) ?_
    refine va_get (D := (dC, dI)) (ci := 1) (v := .ref (ad 4)) (C := RX1) (T := TX1) (N := 13) (fs := mF ad u) hx hb hts hin0 hown hK hP 0 rfl rfl 3 (by decide) fl_rows (fun _ h9 => h9) rfl dM_row_9 ?_
    refine lv_iload_n hx hb dM_row_12 rfl (lv_at hl 1 rfl) ?_
    refine va_iald hx hb hK hP 4 3 rfl rfl (mi_isMade hr_16 c_17) dM_row_13 ?_
    refine lv_goto (tgt := 18) hx hb dM_row_14 (by decide) ?_
    have eT : ma_rows u p1.toNatClampNeg = T := by subst hr_16; rw [← hf]; simp only [mf_row, if_neg c_17]
    exact W.iret (v := ma_rows u p1.toNatClampNeg) hx hb hr (fun t ht hW => ⟨⟨ma_rows u p1.toNatClampNeg, (), rfl, eT, trivial⟩, hS.F ht⟩) hS.2.2 dM_row_18
set_option maxHeartbeats 4000000 in
set_option maxRecDepth 100000 in
theorem mc_find (l : Launch) (dC : Nat → ClassId) (dI : Nat → Nat → Nat) (ad : Nat → Nat) (cA : Nat → ClassId) (u : MS) (p1 : Int32) (p2 : Int32) (hp : ∃ a : Nat, a < 32 ∧ p2 = nI a) (T : Int32) (hf : mf_find u p1 p2 = T) : Met l yM_find wM_find ({ frames := 0, cells := 0, slots := 0, locals := 0 } : Room) (va_Pc [.ref (ad 0), .int p1, .int p2] (fun U => va_P (dC, dI) vwCl (mW ad cA u) U.heap ∧ va_K (dC, dI) vwCl (mT cA) U)) (va_Qi (fun r (_ : Unit) => r = T) (fun _ _ => True) (fun _ => False)) 0 0 (fun _ => False) := by
  refine Met.ofW (cc := cM_find) (maxL := 8) (ret := (some .int)) (by decide) rfl ?_
  intro p e s m args below meth c s₁ B hml hv
  obtain ⟨rfl, hP, hK⟩ := hv
  have hx := B.exec
  have hb := B.bytes
  have hr := B.returns
  have hts := atoms_spec (ws := wM_find) B.pre
  have hown : s.vm.findClass RX1 = some m.cls := findClass_of_methodNamed B.named
  have hlocks := B.notSynchronized
  have hin0 : ∀ w ∈ wsX10, w ∈ wM_find := by decide +kernel
  have fl_when := hts (.fieldLink RX1 23 "ProcessRoomModel" "when" "[J") (by decide +kernel)
  have fl_made := hts (.fieldLink RX1 7 "ProcessRoomModel" "made" "[Z") (by decide +kernel)
  have fl_rows := hts (.fieldLink RX1 20 "ProcessRoomModel" "rows" "[I") (by decide +kernel)
  have hS : va_S (fun _ => False) s.heap s.heap [] := va_S.rf
  have hl := lv_entry ([.ref (ad 0), .int p1, .int p2]) (n := 8) (Nat.le_of_ble_eq_true rfl)
  rw [lg_entry_eq]
  generalize (lg_sl ([.ref (ad 0), .int p1, .int p2]) ++ List.replicate (8 - (lg_sl ([.ref (ad 0), .int p1, .int p2])).length) Slot.unset).toArray = ls at hl ⊢
  have hl : lv_has ls 8 [(0, .ref (ad 0)), (1, .int p1), (2, .int p2)] := hl
  refine lv_iload_n hx hb dM_find_0 rfl (lv_at hl 2 rfl) ?_
  refine lv_istore_n (lv' := [(3, .int p2), (0, .ref (ad 0)), (1, .int p1), (2, .int p2)]) hx hb dM_find_1 rfl hl (by decide) rfl (fun ls hl => ?_)
  refine lv_iconst (v := (-1)) hx hb dM_find_2 (by decide) ?_
  refine lv_istore (lv' := [(4, .int (-1)), (3, .int p2), (0, .ref (ad 0)), (1, .int p1), (2, .int p2)]) hx hb dM_find_3 hl (by decide) rfl (fun ls hl => ?_)
  refine k_nameQ (fun Q hQ => ?_)
  have key : ∀ (n : Nat) (x3 : Int32) (x4 : Int32) (H : Heap) (locs : List Loc) (ls : Array Slot), (∃ j : Nat, x3 = nI j + (-1) ∧ n = j + 1 + (32 - p2.toNatClampNeg - 1) ∧ j ≤ p2.toNatClampNeg + 1 ∧ p2.toNatClampNeg < 32 ∧ (x4 < 0 ∨ vp_in x4 32)) → ml_find u p1 p2 n x3 x4 = T → va_P (dC, dI) vwCl (mW ad cA u) H → va_S (fun _ => False) s.heap H locs → lv_has ls 8 [(0, .ref (ad 0)), (1, .int p1), (2, .int p2), (3, .int x3), (4, .int x4)] → W p l e (headSpec wM_find ({ frames := 0, cells := 0, slots := 0, locals := 0 } : Room)).room s m ([.ref (ad 0), .int p1, .int p2] : List Value).toArray below meth c H locs 0 0 Q (F0 m 5 ls []) := by
    intro n
    induction n with
    | zero =>
      intro x3 x4 H locs ls hinv
      exact absurd hinv (by rintro ⟨j, -, h1, h2, h3, -⟩; omega)
    | succ n ih =>
      intro x3 x4 H locs ls hinv hf2 hP hS hl
      obtain ⟨j, hj, hjn, hjl, hjp, hlast⟩ := hinv
      refine lv_iload_n hx hb dM_find_5 rfl (lv_at hl 3 rfl) ?_
      refine lv_if_lt (tgt := 134) hx hb dM_find_6 (by decide) (fun c_18 => ?_) (fun c_18 => ?_)
      · refine lv_iload hx hb dM_find_134 (lv_at hl 4 rfl) ?_
        subst hQ
        have eT : x4 = T := by rw [← hf2]; simp only [ml_find, if_pos c_18]
        exact W.iret (v := x4) hx hb hr (fun t ht hW => ⟨⟨x4, (), rfl, eT, trivial⟩, hS.F ht⟩) hS.2.2 dM_find_136
      · refine lv_iconst (v := (-1)) hx hb dM_find_9 (by decide) ?_
        refine lv_istore (lv' := [(5, .int (-1)), (0, .ref (ad 0)), (1, .int p1), (2, .int p2), (3, .int x3), (4, .int x4)]) hx hb dM_find_10 hl (by decide) rfl (fun ls hl => ?_)
        refine lv_iconst (v := 0) hx hb dM_find_12 (by decide) ?_
        refine lv_istore (lv' := [(6, .int 0), (5, .int (-1)), (0, .ref (ad 0)), (1, .int p1), (2, .int p2), (3, .int x3), (4, .int x4)]) hx hb dM_find_13 hl (by decide) rfl (fun ls hl => ?_)
        obtain ⟨B_19, hB_19⟩ : ∃ B : Int32, B = ml_find2 u p1 p2 x4 33 (-1) 0 := ⟨_, rfl⟩
        have kin : ∀ (n : Nat) (x5 : Int32) (x6 : Int32) (H : Heap) (locs : List Loc) (ls : Array Slot), (∃ k : Nat, x6 = nI k ∧ k + n = 33 ∧ k ≤ 32 ∧ (x5 < 0 ∨ vp_in x5 32)) → ml_find2 u p1 p2 x4 n x5 x6 = B_19 → va_P (dC, dI) vwCl (mW ad cA u) H → va_S (fun _ => False) s.heap H locs → lv_has ls 8 [(0, .ref (ad 0)), (1, .int p1), (2, .int p2), (3, .int x3), (4, .int x4), (5, .int x5), (6, .int x6)] → (∀ (H : Heap) (locs : List Loc) (ls : Array Slot), va_P (dC, dI) vwCl (mW ad cA u) H → va_S (fun _ => False) s.heap H locs → lv_has ls 8 [(0, .ref (ad 0)), (1, .int p1), (2, .int p2), (3, .int x3), (4, .int x4), (5, .int B_19)] → W p l e (headSpec wM_find ({ frames := 0, cells := 0, slots := 0, locals := 0 } : Room)).room s m ([.ref (ad 0), .int p1, .int p2] : List Value).toArray below meth c H locs 0 0 Q (F0 m 116 ls [])) → W p l e (headSpec wM_find ({ frames := 0, cells := 0, slots := 0, locals := 0 } : Room)).room s m ([.ref (ad 0), .int p1, .int p2] : List Value).toArray below meth c H locs 0 0 Q (F0 m 15 ls []) := by
          intro n
          induction n with
          | zero =>
            intro x5 x6 H locs ls hinv
            exact absurd hinv (by rintro ⟨k, -, h1, h2, -⟩; omega)
          | succ n ih =>
            intro x5 x6 H locs ls hinv hB2 hP hS hl kx
            obtain ⟨k, hk, hkn, hkl, hbest⟩ := hinv
            refine lv_iload hx hb dM_find_15 (lv_at hl 6 rfl) ?_
            refine lv_bipush (v := 32) hx hb dM_find_17 (by decide) ?_
            refine lv_icmp_ge (tgt := 116) hx hb dM_find_19 (by decide) (fun c_20 => ?_) (fun c_20 => ?_)
            · have eB : x5 = B_19 := by rw [← hB2]; simp only [ml_find2, if_pos c_20]
              rw [eB] at hl
              exact kx _ _ _ hP hS (lv_sub hl [0, 1, 2, 3, 4, 5] rfl)
            · refine lv_iload hx hb dM_find_22 (lv_at hl 4 rfl) ?_
              refine lv_if_lt (tgt := 45) hx hb dM_find_24 (by decide) (fun c_21 => ?_) (fun c_21 => ?_)
              · refine lv_iconst (v := 1) hx hb dM_find_45 (by decide) ?_
                refine lv_goto (tgt := 50) hx hb dM_find_46 (by decide) ?_
                refine lv_istore (lv' := [(7, .int 1), (0, .ref (ad 0)), (1, .int p1), (2, .int p2), (3, .int x3), (4, .int x4), (5, .int x5), (6, .int x6)]) hx hb dM_find_50 hl (by decide) rfl (fun ls hl => ?_)
                refine lv_aload_n hx hb dM_find_52 rfl (lv_at hl 1 rfl) ?_
                refine va_get (D := (dC, dI)) (ci := 1) (v := .ref (ad 1)) (C := RX1) (T := TX1) (N := 13) (fs := mF ad u) hx hb hts hin0 hown hK hP 0 rfl rfl 0 (by decide) fl_made (fun _ h9 => h9) rfl dM_find_53 ?_
                refine lv_iload hx hb dM_find_56 (lv_at hl 7 rfl) ?_
                refine va_zald hx hb hK hP 1 0 rfl rfl (k_in hk (k_lt 32 hk (by omega) rfl c_20) (by omega)) dM_find_58 ?_
                refine lv_if_eq (tgt := 106) hx hb dM_find_59 (by decide) (fun c_22 => ?_) (fun c_22 => ?_)
                · refine lv_iload hx hb dM_find_106 (lv_at hl 6 rfl) ?_
                  refine lv_istore (lv' := [(5, .int x5), (7, .int 1), (0, .ref (ad 0)), (1, .int p1), (2, .int p2), (3, .int x3), (4, .int x4), (6, .int x6)]) hx hb dM_find_108 hl (by decide) rfl (fun ls hl => ?_)
                  refine lv_iinc (v := x6 + 1) (lv' := [(6, .int (x6 + 1)), (5, .int x5), (7, .int 1), (0, .ref (ad 0)), (1, .int p1), (2, .int p2), (3, .int x3), (4, .int x4)]) hx hb dM_find_110 hl (k := 7) rfl rfl (by decide) rfl (fun ls hl => ?_)
                  refine lv_goto (tgt := 15) hx hb dM_find_113 (by decide) ?_
                  have hk2 := (k_lt 32 hk (by omega) rfl c_20)
                  exact ih x5 (x6 + 1) _ _ _ (⟨k + 1, by rw [hk, nI_1], by omega, by omega, hbest⟩) (by rw [← hB2]; simp only [ml_find2, if_neg c_20, if_pos c_21, if_pos c_22]) hP hS (lv_sub hl [3, 4, 5, 6, 7, 1, 0] rfl) kx
                · refine lv_aload_n hx hb dM_find_62 rfl (lv_at hl 1 rfl) ?_
                  refine va_get (D := (dC, dI)) (ci := 1) (v := .ref (ad 4)) (C := RX1) (T := TX1) (N := 13) (fs := mF ad u) hx hb hts hin0 hown hK hP 0 rfl rfl 3 (by decide) fl_rows (fun _ h9 => h9) rfl dM_find_63 ?_
                  refine lv_iload hx hb dM_find_66 (lv_at hl 7 rfl) ?_
                  refine va_iald hx hb hK hP 4 3 rfl rfl (k_in hk (k_lt 32 hk (by omega) rfl c_20) (by omega)) dM_find_68 ?_
                  refine lv_iload_n hx hb dM_find_69 rfl (lv_at hl 2 rfl) ?_
                  refine lv_icmp_ne (tgt := 106) hx hb dM_find_70 (by decide) (fun c_23 => ?_) (fun c_23 => ?_)
                  · refine lv_iload hx hb dM_find_106 (lv_at hl 6 rfl) ?_
                    refine lv_istore (lv' := [(5, .int x5), (7, .int 1), (0, .ref (ad 0)), (1, .int p1), (2, .int p2), (3, .int x3), (4, .int x4), (6, .int x6)]) hx hb dM_find_108 hl (by decide) rfl (fun ls hl => ?_)
                    refine lv_iinc (v := x6 + 1) (lv' := [(6, .int (x6 + 1)), (5, .int x5), (7, .int 1), (0, .ref (ad 0)), (1, .int p1), (2, .int p2), (3, .int x3), (4, .int x4)]) hx hb dM_find_110 hl (k := 7) rfl rfl (by decide) rfl (fun ls hl => ?_)
                    refine lv_goto (tgt := 15) hx hb dM_find_113 (by decide) ?_
                    have hk2 := (k_lt 32 hk (by omega) rfl c_20)
                    exact ih x5 (x6 + 1) _ _ _ (⟨k + 1, by rw [hk, nI_1], by omega, by omega, hbest⟩) (by rw [← hB2]; simp only [ml_find2, if_neg c_20, if_pos c_21, if_neg c_22, if_neg c_23]) hP hS (lv_sub hl [3, 4, 5, 6, 7, 1, 0] rfl) kx
                  · refine lv_iload hx hb dM_find_73 (lv_at hl 0 rfl) ?_
                    refine lv_if_eq (tgt := 106) hx hb dM_find_75 (by decide) (fun c_24 => ?_) (fun c_24 => ?_)
                    · exact absurd c_24 (by decide)
                    · refine lv_iload hx hb dM_find_78 (lv_at hl 6 rfl) ?_
                      refine lv_if_lt (tgt := 101) hx hb dM_find_80 (by decide) (fun c_25 => ?_) (fun c_25 => ?_)
                      · refine lv_iload hx hb dM_find_101 (lv_at hl 7 rfl) ?_
                        refine lv_goto (tgt := 108) hx hb dM_find_103 (by decide) ?_
                        refine lv_istore (lv' := [(5, .int x6), (7, .int 1), (0, .ref (ad 0)), (1, .int p1), (2, .int p2), (3, .int x3), (4, .int x4), (6, .int x6)]) hx hb dM_find_108 hl (by decide) rfl (fun ls hl => ?_)
                        refine lv_iinc (v := x6 + 1) (lv' := [(6, .int (x6 + 1)), (5, .int x6), (7, .int 1), (0, .ref (ad 0)), (1, .int p1), (2, .int p2), (3, .int x3), (4, .int x4)]) hx hb dM_find_110 hl (k := 7) rfl rfl (by decide) rfl (fun ls hl => ?_)
                        refine lv_goto (tgt := 15) hx hb dM_find_113 (by decide) ?_
                        have hk2 := (k_lt 32 hk (by omega) rfl c_20)
                        exact ih x6 (x6 + 1) _ _ _ (⟨k + 1, by rw [hk, nI_1], by omega, by omega, Or.inr (k_in hk hk2 (by omega))⟩) (by rw [← hB2]; simp only [ml_find2, if_neg c_20, if_pos c_21, if_neg c_22, if_pos c_23, if_pos c_25]) hP hS (lv_sub hl [3, 4, 5, 6, 7, 1, 0] rfl) kx
                      · refine lv_aload_n hx hb dM_find_83 rfl (lv_at hl 1 rfl) ?_
                        refine va_get (D := (dC, dI)) (ci := 1) (v := .ref (ad 5)) (C := RX1) (T := TX1) (N := 13) (fs := mF ad u) hx hb hts hin0 hown hK hP 0 rfl rfl 4 (by decide) fl_when (fun _ h9 => h9) rfl dM_find_84 ?_
                        refine lv_iload hx hb dM_find_87 (lv_at hl 7 rfl) ?_
                        refine va_lald hx hb hK hP 5 4 rfl rfl (k_in hk (k_lt 32 hk (by omega) rfl c_20) (by omega)) dM_find_89 ?_
                        refine lv_aload_n hx hb dM_find_90 rfl (lv_at hl 1 rfl) ?_
                        refine va_get (D := (dC, dI)) (ci := 1) (v := .ref (ad 5)) (C := RX1) (T := TX1) (N := 13) (fs := mF ad u) hx hb hts hin0 hown hK hP 0 rfl rfl 4 (by decide) fl_when (fun _ h9 => h9) rfl dM_find_91 ?_
                        refine lv_iload hx hb dM_find_94 (lv_at hl 6 rfl) ?_
                        refine va_lald hx hb hK hP 5 4 rfl rfl (mi_ge hbest c_25) dM_find_96 ?_
                        refine W.lcmp hx hb dM_find_97 ?_
                        refine lv_if_ge (tgt := 106) hx hb dM_find_98 (by decide) (fun c_26 => ?_) (fun c_26 => ?_)
                        · refine lv_iload hx hb dM_find_106 (lv_at hl 6 rfl) ?_
                          refine lv_istore (lv' := [(5, .int x5), (7, .int 1), (0, .ref (ad 0)), (1, .int p1), (2, .int p2), (3, .int x3), (4, .int x4), (6, .int x6)]) hx hb dM_find_108 hl (by decide) rfl (fun ls hl => ?_)
                          refine lv_iinc (v := x6 + 1) (lv' := [(6, .int (x6 + 1)), (5, .int x5), (7, .int 1), (0, .ref (ad 0)), (1, .int p1), (2, .int p2), (3, .int x3), (4, .int x4)]) hx hb dM_find_110 hl (k := 7) rfl rfl (by decide) rfl (fun ls hl => ?_)
                          refine lv_goto (tgt := 15) hx hb dM_find_113 (by decide) ?_
                          have hk2 := (k_lt 32 hk (by omega) rfl c_20)
                          exact ih x5 (x6 + 1) _ _ _ (⟨k + 1, by rw [hk, nI_1], by omega, by omega, hbest⟩) (by rw [← hB2]; simp only [ml_find2, if_neg c_20, if_pos c_21, if_neg c_22, if_pos c_23, if_neg c_25, if_pos c_26]) hP hS (lv_sub hl [3, 4, 5, 6, 7, 1, 0] rfl) kx
                        · refine lv_iload hx hb dM_find_101 (lv_at hl 7 rfl) ?_
                          refine lv_goto (tgt := 108) hx hb dM_find_103 (by decide) ?_
                          refine lv_istore (lv' := [(5, .int x6), (7, .int 1), (0, .ref (ad 0)), (1, .int p1), (2, .int p2), (3, .int x3), (4, .int x4), (6, .int x6)]) hx hb dM_find_108 hl (by decide) rfl (fun ls hl => ?_)
                          refine lv_iinc (v := x6 + 1) (lv' := [(6, .int (x6 + 1)), (5, .int x6), (7, .int 1), (0, .ref (ad 0)), (1, .int p1), (2, .int p2), (3, .int x3), (4, .int x4)]) hx hb dM_find_110 hl (k := 7) rfl rfl (by decide) rfl (fun ls hl => ?_)
                          refine lv_goto (tgt := 15) hx hb dM_find_113 (by decide) ?_
                          have hk2 := (k_lt 32 hk (by omega) rfl c_20)
                          exact ih x6 (x6 + 1) _ _ _ (⟨k + 1, by rw [hk, nI_1], by omega, by omega, Or.inr (k_in hk hk2 (by omega))⟩) (by rw [← hB2]; simp only [ml_find2, if_neg c_20, if_pos c_21, if_neg c_22, if_pos c_23, if_neg c_25, if_neg c_26]) hP hS (lv_sub hl [3, 4, 5, 6, 7, 1, 0] rfl) kx
              · refine lv_aload_n hx hb dM_find_27 rfl (lv_at hl 0 rfl) ?_
                refine va_get (D := (dC, dI)) (ci := 1) (v := .ref (ad 5)) (C := RX1) (T := TX1) (N := 13) (fs := mF ad u) hx hb hts hin0 hown hK hP 0 rfl rfl 4 (by decide) fl_when (fun _ h9 => h9) rfl dM_find_28 ?_
                refine lv_iload hx hb dM_find_31 (lv_at hl 6 rfl) ?_
                refine va_lald hx hb hK hP 5 4 rfl rfl (k_in hk (k_lt 32 hk (by omega) rfl c_20) (by omega)) dM_find_33 ?_
                refine lv_aload_n hx hb dM_find_34 rfl (lv_at hl 0 rfl) ?_
                refine va_get (D := (dC, dI)) (ci := 1) (v := .ref (ad 5)) (C := RX1) (T := TX1) (N := 13) (fs := mF ad u) hx hb hts hin0 hown hK hP 0 rfl rfl 4 (by decide) fl_when (fun _ h9 => h9) rfl dM_find_35 ?_
                refine lv_iload hx hb dM_find_38 (lv_at hl 4 rfl) ?_
                refine va_lald hx hb hK hP 5 4 rfl rfl (mi_ge hlast c_21) dM_find_40 ?_
                refine W.lcmp hx hb dM_find_41 ?_
                refine lv_if_le (tgt := 49) hx hb dM_find_42 (by decide) (fun c_27 => ?_) (fun c_27 => ?_)
                · refine lv_iconst (v := 0) hx hb dM_find_49 (by decide) ?_
                  refine lv_istore (lv' := [(7, .int 0), (0, .ref (ad 0)), (1, .int p1), (2, .int p2), (3, .int x3), (4, .int x4), (5, .int x5), (6, .int x6)]) hx hb dM_find_50 hl (by decide) rfl (fun ls hl => ?_)
                  refine lv_aload_n hx hb dM_find_52 rfl (lv_at hl 1 rfl) ?_
                  refine va_get (D := (dC, dI)) (ci := 1) (v := .ref (ad 1)) (C := RX1) (T := TX1) (N := 13) (fs := mF ad u) hx hb hts hin0 hown hK hP 0 rfl rfl 0 (by decide) fl_made (fun _ h9 => h9) rfl dM_find_53 ?_
                  refine lv_iload hx hb dM_find_56 (lv_at hl 7 rfl) ?_
                  refine va_zald hx hb hK hP 1 0 rfl rfl (k_in hk (k_lt 32 hk (by omega) rfl c_20) (by omega)) dM_find_58 ?_
                  refine lv_if_eq (tgt := 106) hx hb dM_find_59 (by decide) (fun c_28 => ?_) (fun c_28 => ?_)
                  · refine lv_iload hx hb dM_find_106 (lv_at hl 6 rfl) ?_
                    refine lv_istore (lv' := [(5, .int x5), (7, .int 0), (0, .ref (ad 0)), (1, .int p1), (2, .int p2), (3, .int x3), (4, .int x4), (6, .int x6)]) hx hb dM_find_108 hl (by decide) rfl (fun ls hl => ?_)
                    refine lv_iinc (v := x6 + 1) (lv' := [(6, .int (x6 + 1)), (5, .int x5), (7, .int 0), (0, .ref (ad 0)), (1, .int p1), (2, .int p2), (3, .int x3), (4, .int x4)]) hx hb dM_find_110 hl (k := 7) rfl rfl (by decide) rfl (fun ls hl => ?_)
                    refine lv_goto (tgt := 15) hx hb dM_find_113 (by decide) ?_
                    have hk2 := (k_lt 32 hk (by omega) rfl c_20)
                    exact ih x5 (x6 + 1) _ _ _ (⟨k + 1, by rw [hk, nI_1], by omega, by omega, hbest⟩) (by rw [← hB2]; simp only [ml_find2, if_neg c_20, if_neg c_21, if_pos c_27, if_pos c_28]) hP hS (lv_sub hl [3, 4, 5, 6, 7, 1, 0] rfl) kx
                  · refine lv_aload_n hx hb dM_find_62 rfl (lv_at hl 1 rfl) ?_
                    refine va_get (D := (dC, dI)) (ci := 1) (v := .ref (ad 4)) (C := RX1) (T := TX1) (N := 13) (fs := mF ad u) hx hb hts hin0 hown hK hP 0 rfl rfl 3 (by decide) fl_rows (fun _ h9 => h9) rfl dM_find_63 ?_
                    refine lv_iload hx hb dM_find_66 (lv_at hl 7 rfl) ?_
                    refine va_iald hx hb hK hP 4 3 rfl rfl (k_in hk (k_lt 32 hk (by omega) rfl c_20) (by omega)) dM_find_68 ?_
                    refine lv_iload_n hx hb dM_find_69 rfl (lv_at hl 2 rfl) ?_
                    refine lv_icmp_ne (tgt := 106) hx hb dM_find_70 (by decide) (fun c_29 => ?_) (fun c_29 => ?_)
                    · refine lv_iload hx hb dM_find_106 (lv_at hl 6 rfl) ?_
                      refine lv_istore (lv' := [(5, .int x5), (7, .int 0), (0, .ref (ad 0)), (1, .int p1), (2, .int p2), (3, .int x3), (4, .int x4), (6, .int x6)]) hx hb dM_find_108 hl (by decide) rfl (fun ls hl => ?_)
                      refine lv_iinc (v := x6 + 1) (lv' := [(6, .int (x6 + 1)), (5, .int x5), (7, .int 0), (0, .ref (ad 0)), (1, .int p1), (2, .int p2), (3, .int x3), (4, .int x4)]) hx hb dM_find_110 hl (k := 7) rfl rfl (by decide) rfl (fun ls hl => ?_)
                      refine lv_goto (tgt := 15) hx hb dM_find_113 (by decide) ?_
                      have hk2 := (k_lt 32 hk (by omega) rfl c_20)
                      exact ih x5 (x6 + 1) _ _ _ (⟨k + 1, by rw [hk, nI_1], by omega, by omega, hbest⟩) (by rw [← hB2]; simp only [ml_find2, if_neg c_20, if_neg c_21, if_pos c_27, if_neg c_28, if_neg c_29]) hP hS (lv_sub hl [3, 4, 5, 6, 7, 1, 0] rfl) kx
                    · refine lv_iload hx hb dM_find_73 (lv_at hl 0 rfl) ?_
                      refine lv_if_eq (tgt := 106) hx hb dM_find_75 (by decide) (fun c_30 => ?_) (fun c_30 => ?_)
                      · refine lv_iload hx hb dM_find_106 (lv_at hl 6 rfl) ?_
                        refine lv_istore (lv' := [(5, .int x5), (7, .int 0), (0, .ref (ad 0)), (1, .int p1), (2, .int p2), (3, .int x3), (4, .int x4), (6, .int x6)]) hx hb dM_find_108 hl (by decide) rfl (fun ls hl => ?_)
                        refine lv_iinc (v := x6 + 1) (lv' := [(6, .int (x6 + 1)), (5, .int x5), (7, .int 0), (0, .ref (ad 0)), (1, .int p1), (2, .int p2), (3, .int x3), (4, .int x4)]) hx hb dM_find_110 hl (k := 7) rfl rfl (by decide) rfl (fun ls hl => ?_)
                        refine lv_goto (tgt := 15) hx hb dM_find_113 (by decide) ?_
                        have hk2 := (k_lt 32 hk (by omega) rfl c_20)
                        exact ih x5 (x6 + 1) _ _ _ (⟨k + 1, by rw [hk, nI_1], by omega, by omega, hbest⟩) (by rw [← hB2]; simp only [ml_find2, if_neg c_20, if_neg c_21, if_pos c_27, if_neg c_28, if_pos c_29]) hP hS (lv_sub hl [3, 4, 5, 6, 7, 1, 0] rfl) kx
                      · exact absurd rfl c_30
                · refine lv_iconst (v := 1) hx hb dM_find_45 (by decide) ?_
                  refine lv_goto (tgt := 50) hx hb dM_find_46 (by decide) ?_
                  refine lv_istore (lv' := [(7, .int 1), (0, .ref (ad 0)), (1, .int p1), (2, .int p2), (3, .int x3), (4, .int x4), (5, .int x5), (6, .int x6)]) hx hb dM_find_50 hl (by decide) rfl (fun ls hl => ?_)
                  refine lv_aload_n hx hb dM_find_52 rfl (lv_at hl 1 rfl) ?_
                  refine va_get (D := (dC, dI)) (ci := 1) (v := .ref (ad 1)) (C := RX1) (T := TX1) (N := 13) (fs := mF ad u) hx hb hts hin0 hown hK hP 0 rfl rfl 0 (by decide) fl_made (fun _ h9 => h9) rfl dM_find_53 ?_
                  refine lv_iload hx hb dM_find_56 (lv_at hl 7 rfl) ?_
                  refine va_zald hx hb hK hP 1 0 rfl rfl (k_in hk (k_lt 32 hk (by omega) rfl c_20) (by omega)) dM_find_58 ?_
                  refine lv_if_eq (tgt := 106) hx hb dM_find_59 (by decide) (fun c_31 => ?_) (fun c_31 => ?_)
                  · refine lv_iload hx hb dM_find_106 (lv_at hl 6 rfl) ?_
                    refine lv_istore (lv' := [(5, .int x5), (7, .int 1), (0, .ref (ad 0)), (1, .int p1), (2, .int p2), (3, .int x3), (4, .int x4), (6, .int x6)]) hx hb dM_find_108 hl (by decide) rfl (fun ls hl => ?_)
                    refine lv_iinc (v := x6 + 1) (lv' := [(6, .int (x6 + 1)), (5, .int x5), (7, .int 1), (0, .ref (ad 0)), (1, .int p1), (2, .int p2), (3, .int x3), (4, .int x4)]) hx hb dM_find_110 hl (k := 7) rfl rfl (by decide) rfl (fun ls hl => ?_)
                    refine lv_goto (tgt := 15) hx hb dM_find_113 (by decide) ?_
                    have hk2 := (k_lt 32 hk (by omega) rfl c_20)
                    exact ih x5 (x6 + 1) _ _ _ (⟨k + 1, by rw [hk, nI_1], by omega, by omega, hbest⟩) (by rw [← hB2]; simp only [ml_find2, if_neg c_20, if_neg c_21, if_neg c_27, if_pos c_31]) hP hS (lv_sub hl [3, 4, 5, 6, 7, 1, 0] rfl) kx
                  · refine lv_aload_n hx hb dM_find_62 rfl (lv_at hl 1 rfl) ?_
                    refine va_get (D := (dC, dI)) (ci := 1) (v := .ref (ad 4)) (C := RX1) (T := TX1) (N := 13) (fs := mF ad u) hx hb hts hin0 hown hK hP 0 rfl rfl 3 (by decide) fl_rows (fun _ h9 => h9) rfl dM_find_63 ?_
                    refine lv_iload hx hb dM_find_66 (lv_at hl 7 rfl) ?_
                    refine va_iald hx hb hK hP 4 3 rfl rfl (k_in hk (k_lt 32 hk (by omega) rfl c_20) (by omega)) dM_find_68 ?_
                    refine lv_iload_n hx hb dM_find_69 rfl (lv_at hl 2 rfl) ?_
                    refine lv_icmp_ne (tgt := 106) hx hb dM_find_70 (by decide) (fun c_32 => ?_) (fun c_32 => ?_)
                    · refine lv_iload hx hb dM_find_106 (lv_at hl 6 rfl) ?_
                      refine lv_istore (lv' := [(5, .int x5), (7, .int 1), (0, .ref (ad 0)), (1, .int p1), (2, .int p2), (3, .int x3), (4, .int x4), (6, .int x6)]) hx hb dM_find_108 hl (by decide) rfl (fun ls hl => ?_)
                      refine lv_iinc (v := x6 + 1) (lv' := [(6, .int (x6 + 1)), (5, .int x5), (7, .int 1), (0, .ref (ad 0)), (1, .int p1), (2, .int p2), (3, .int x3), (4, .int x4)]) hx hb dM_find_110 hl (k := 7) rfl rfl (by decide) rfl (fun ls hl => ?_)
                      refine lv_goto (tgt := 15) hx hb dM_find_113 (by decide) ?_
                      have hk2 := (k_lt 32 hk (by omega) rfl c_20)
                      exact ih x5 (x6 + 1) _ _ _ (⟨k + 1, by rw [hk, nI_1], by omega, by omega, hbest⟩) (by rw [← hB2]; simp only [ml_find2, if_neg c_20, if_neg c_21, if_neg c_27, if_neg c_31, if_neg c_32]) hP hS (lv_sub hl [3, 4, 5, 6, 7, 1, 0] rfl) kx
                    · refine lv_iload hx hb dM_find_73 (lv_at hl 0 rfl) ?_
                      refine lv_if_eq (tgt := 106) hx hb dM_find_75 (by decide) (fun c_33 => ?_) (fun c_33 => ?_)
                      · exact absurd c_33 (by decide)
                      · refine lv_iload hx hb dM_find_78 (lv_at hl 6 rfl) ?_
                        refine lv_if_lt (tgt := 101) hx hb dM_find_80 (by decide) (fun c_34 => ?_) (fun c_34 => ?_)
                        · refine lv_iload hx hb dM_find_101 (lv_at hl 7 rfl) ?_
                          refine lv_goto (tgt := 108) hx hb dM_find_103 (by decide) ?_
                          refine lv_istore (lv' := [(5, .int x6), (7, .int 1), (0, .ref (ad 0)), (1, .int p1), (2, .int p2), (3, .int x3), (4, .int x4), (6, .int x6)]) hx hb dM_find_108 hl (by decide) rfl (fun ls hl => ?_)
                          refine lv_iinc (v := x6 + 1) (lv' := [(6, .int (x6 + 1)), (5, .int x6), (7, .int 1), (0, .ref (ad 0)), (1, .int p1), (2, .int p2), (3, .int x3), (4, .int x4)]) hx hb dM_find_110 hl (k := 7) rfl rfl (by decide) rfl (fun ls hl => ?_)
                          refine lv_goto (tgt := 15) hx hb dM_find_113 (by decide) ?_
                          have hk2 := (k_lt 32 hk (by omega) rfl c_20)
                          exact ih x6 (x6 + 1) _ _ _ (⟨k + 1, by rw [hk, nI_1], by omega, by omega, Or.inr (k_in hk hk2 (by omega))⟩) (by rw [← hB2]; simp only [ml_find2, if_neg c_20, if_neg c_21, if_neg c_27, if_neg c_31, if_pos c_32, if_pos c_34]) hP hS (lv_sub hl [3, 4, 5, 6, 7, 1, 0] rfl) kx
                        · refine lv_aload_n hx hb dM_find_83 rfl (lv_at hl 1 rfl) ?_
                          refine va_get (D := (dC, dI)) (ci := 1) (v := .ref (ad 5)) (C := RX1) (T := TX1) (N := 13) (fs := mF ad u) hx hb hts hin0 hown hK hP 0 rfl rfl 4 (by decide) fl_when (fun _ h9 => h9) rfl dM_find_84 ?_
                          refine lv_iload hx hb dM_find_87 (lv_at hl 7 rfl) ?_
                          refine va_lald hx hb hK hP 5 4 rfl rfl (k_in hk (k_lt 32 hk (by omega) rfl c_20) (by omega)) dM_find_89 ?_
                          refine lv_aload_n hx hb dM_find_90 rfl (lv_at hl 1 rfl) ?_
                          refine va_get (D := (dC, dI)) (ci := 1) (v := .ref (ad 5)) (C := RX1) (T := TX1) (N := 13) (fs := mF ad u) hx hb hts hin0 hown hK hP 0 rfl rfl 4 (by decide) fl_when (fun _ h9 => h9) rfl dM_find_91 ?_
                          refine lv_iload hx hb dM_find_94 (lv_at hl 6 rfl) ?_
                          refine va_lald hx hb hK hP 5 4 rfl rfl (mi_ge hbest c_34) dM_find_96 ?_
                          refine W.lcmp hx hb dM_find_97 ?_
                          refine lv_if_ge (tgt := 106) hx hb dM_find_98 (by decide) (fun c_35 => ?_) (fun c_35 => ?_)
                          · refine lv_iload hx hb dM_find_106 (lv_at hl 6 rfl) ?_
                            refine lv_istore (lv' := [(5, .int x5), (7, .int 1), (0, .ref (ad 0)), (1, .int p1), (2, .int p2), (3, .int x3), (4, .int x4), (6, .int x6)]) hx hb dM_find_108 hl (by decide) rfl (fun ls hl => ?_)
                            refine lv_iinc (v := x6 + 1) (lv' := [(6, .int (x6 + 1)), (5, .int x5), (7, .int 1), (0, .ref (ad 0)), (1, .int p1), (2, .int p2), (3, .int x3), (4, .int x4)]) hx hb dM_find_110 hl (k := 7) rfl rfl (by decide) rfl (fun ls hl => ?_)
                            refine lv_goto (tgt := 15) hx hb dM_find_113 (by decide) ?_
                            have hk2 := (k_lt 32 hk (by omega) rfl c_20)
                            exact ih x5 (x6 + 1) _ _ _ (⟨k + 1, by rw [hk, nI_1], by omega, by omega, hbest⟩) (by rw [← hB2]; simp only [ml_find2, if_neg c_20, if_neg c_21, if_neg c_27, if_neg c_31, if_pos c_32, if_neg c_34, if_pos c_35]) hP hS (lv_sub hl [3, 4, 5, 6, 7, 1, 0] rfl) kx
                          · refine lv_iload hx hb dM_find_101 (lv_at hl 7 rfl) ?_
                            refine lv_goto (tgt := 108) hx hb dM_find_103 (by decide) ?_
                            refine lv_istore (lv' := [(5, .int x6), (7, .int 1), (0, .ref (ad 0)), (1, .int p1), (2, .int p2), (3, .int x3), (4, .int x4), (6, .int x6)]) hx hb dM_find_108 hl (by decide) rfl (fun ls hl => ?_)
                            refine lv_iinc (v := x6 + 1) (lv' := [(6, .int (x6 + 1)), (5, .int x6), (7, .int 1), (0, .ref (ad 0)), (1, .int p1), (2, .int p2), (3, .int x3), (4, .int x4)]) hx hb dM_find_110 hl (k := 7) rfl rfl (by decide) rfl (fun ls hl => ?_)
                            refine lv_goto (tgt := 15) hx hb dM_find_113 (by decide) ?_
                            have hk2 := (k_lt 32 hk (by omega) rfl c_20)
                            exact ih x6 (x6 + 1) _ _ _ (⟨k + 1, by rw [hk, nI_1], by omega, by omega, Or.inr (k_in hk hk2 (by omega))⟩) (by rw [← hB2]; simp only [ml_find2, if_neg c_20, if_neg c_21, if_neg c_27, if_neg c_31, if_pos c_32, if_neg c_34, if_neg c_35]) hP hS (lv_sub hl [3, 4, 5, 6, 7, 1, 0] rfl) kx
        refine kin 33 (-1) 0 _ _ _ (⟨0, nI_0.symm, by omega, by omega, Or.inl (by decide)⟩) hB_19.symm hP hS (lv_sub hl [2, 3, 4, 5, 6, 1, 0] rfl) (fun H locs ls hP hS hl => ?_)
        refine lv_iload hx hb dM_find_116 (lv_at hl 5 rfl) ?_
        refine lv_if_ge (tgt := 123) hx hb dM_find_118 (by decide) (fun c_36 => ?_) (fun c_36 => ?_)
        · refine lv_iload hx hb dM_find_123 (lv_at hl 5 rfl) ?_
          refine lv_istore (lv' := [(4, .int B_19), (0, .ref (ad 0)), (1, .int p1), (2, .int p2), (3, .int x3), (5, .int B_19)]) hx hb dM_find_125 hl (by decide) rfl (fun ls hl => ?_)
          refine lv_iload_n hx hb dM_find_127 rfl (lv_at hl 4 rfl) ?_
          refine lv_iconst (v := 1) hx hb dM_find_128 (by decide) ?_
          refine lv_isub hx hb dM_find_129 ?_
          refine lv_istore_n (lv' := [(3, .int (x3 - 1)), (4, .int B_19), (0, .ref (ad 0)), (1, .int p1), (2, .int p2), (5, .int B_19)]) hx hb dM_find_130 rfl hl (by decide) rfl (fun ls hl => ?_)
          refine lv_goto (tgt := 5) hx hb dM_find_131 (by decide) ?_
          have hj2 : 1 ≤ j := mi_pos hj (by omega) c_18
          exact ih (x3 - 1) B_19 _ _ _ (⟨j - 1, by rw [hj]; exact mi_pred hj2, by omega, by omega, hjp, mi_find2 hB_19⟩) (by subst hB_19; rw [← hf2]; simp only [ml_find, if_neg c_18, if_pos c_36]) hP hS (lv_sub hl [2, 3, 4, 0, 1] rfl)
        · refine lv_iconst (v := (-1)) hx hb dM_find_121 (by decide) ?_
          subst hQ
          have eT : (-1) = T := by subst hB_19; rw [← hf2]; simp only [ml_find, if_neg c_18, if_neg c_36]
          exact W.iret (v := (-1)) hx hb hr (fun t ht hW => ⟨⟨(-1), (), rfl, eT, trivial⟩, hS.F ht⟩) hS.2.2 dM_find_122
  exact key 33 p2 (-1) _ _ _ (by obtain ⟨a, ha, e⟩ := hp; subst e; rw [k_clamp (by omega)]; exact ⟨a + 1, (pk_m1 a).symm, by omega, by omega, ha, Or.inl (by decide)⟩) (by rw [← hf]; simp only [mf_find]) hP hS (lv_sub hl [2, 3, 4, 1, 0] rfl)
set_option maxHeartbeats 4000000 in
set_option maxRecDepth 100000 in
theorem mc_at (l : Launch) (dC : Nat → ClassId) (dI : Nat → Nat → Nat) (ad : Nat → Nat) (cA : Nat → ClassId) (u : MS) (p1 : Int32) (p2 : Int32) (T : Int32) (hf : mf_at u p1 p2 = T) : Met l yM_at wM_at ({ frames := 1, cells := 0, slots := 0, locals := 27 } : Room) (va_Pc [.ref (ad 0), .int p1, .int p2] (fun U => va_P (dC, dI) vwCl (mW ad cA u) U.heap ∧ va_K (dC, dI) vwCl (mT cA) U)) (va_Qi (fun r (_ : Unit) => r = T) (fun _ _ => True) (fun _ => False)) 0 0 (fun _ => False) := by
  refine Met.ofW (cc := cM_at) (maxL := 4) (ret := (some .int)) (by decide) rfl ?_
  intro p e s m args below meth c s₁ B hml hv
  obtain ⟨rfl, hP, hK⟩ := hv
  have hx := B.exec
  have hb := B.bytes
  have hr := B.returns
  have hts := atoms_spec (ws := wM_at) B.pre
  have hown : s.vm.findClass RX1 = some m.cls := findClass_of_methodNamed B.named
  have hlocks := B.notSynchronized
  have hS : va_S (fun _ => False) s.heap s.heap [] := va_S.rf
  have hl := lv_entry ([.ref (ad 0), .int p1, .int p2]) (n := 4) (Nat.le_of_ble_eq_true rfl)
  rw [lg_entry_eq]
  generalize (lg_sl ([.ref (ad 0), .int p1, .int p2]) ++ List.replicate (4 - (lg_sl ([.ref (ad 0), .int p1, .int p2])).length) Slot.unset).toArray = ls at hl ⊢
  have hl : lv_has ls 4 [(0, .ref (ad 0)), (1, .int p1), (2, .int p2)] := hl
  refine lv_iload_n hx hb dM_at_0 rfl (lv_at hl 1 rfl) ?_
  refine va_calli (va_runS (As := [.int p1]) (rest := []) ⟨hx, hb, hml, hown, hts⟩ (mc_isPriority l p1 _ rfl) (va_cwS 1 hts gM_at_isPriority rfl rfl rfl (by decide +kernel) ⟨Nat.le_of_ble_eq_true rfl, Nat.le_of_ble_eq_true rfl⟩) ⟨fun a U g mk q => ⟨q.1, trivial⟩, fun U hU hW => ⟨rfl, trivial⟩⟩ rfl rfl hl.1 rfl (lv_room (Nat.le_of_ble_eq_true rfl)) dM_at_1 ⟨Nat.le_of_ble_eq_true rfl, Nat.le_of_ble_eq_true rfl⟩) hS (fun _ _ h => h.elim) (fun _ h => h.elim) (fun r_37 u_ t H1 locs ht hvm hr_37 hB hz1 hk1 hS => ?_)
  have hP := hP.kept (fun k x hx => hk1 x.1 ((hP k x hx).lt) (fun h => h))
  generalize H1 = H at hP hS ⊢
  refine lv_if_ne (tgt := 19) hx hb dM_at_4 (by decide) (fun c_38 => ?_) (fun c_38 => ?_)
  · refine lv_iconst (v := 1) hx hb dM_at_19 (by decide) ?_
    refine lv_goto (tgt := 24) hx hb dM_at_20 (by decide) ?_
    refine lv_istore_n (lv' := [(3, .int 1), (0, .ref (ad 0)), (1, .int p1), (2, .int p2)]) hx hb dM_at_24 rfl hl (by decide) rfl (fun ls hl => ?_)
    refine lv_iload_n hx hb dM_at_25 rfl (lv_at hl 0 rfl) ?_
    refine lv_if_eq (tgt := 48) hx hb dM_at_26 (by decide) (fun c_39 => ?_) (fun c_39 => ?_)
    · exact absurd c_39 (by decide)
    · refine lv_iload_n hx hb dM_at_29 rfl (lv_at hl 3 rfl) ?_
      refine lv_if_lt (tgt := 48) hx hb dM_at_30 (by decide) (fun c_40 => ?_) (fun c_40 => ?_)
      · refine lv_iconst (v := (-1)) hx hb dM_at_48 (by decide) ?_
        have eT : (-1) = T := by subst hr_37; rw [← hf]; simp only [mf_at, if_neg c_38, if_pos c_40]
        exact W.iret (v := (-1)) hx hb hr (fun t ht hW => ⟨⟨(-1), (), rfl, eT, trivial⟩, hS.F ht⟩) hS.2.2 dM_at_49
      · refine lv_iload_n hx hb dM_at_33 rfl (lv_at hl 3 rfl) ?_
        refine lv_bipush (v := 32) hx hb dM_at_34 (by decide) ?_
        refine lv_icmp_ge (tgt := 48) hx hb dM_at_36 (by decide) (fun c_41 => ?_) (fun c_41 => ?_)
        · refine lv_iconst (v := (-1)) hx hb dM_at_48 (by decide) ?_
          have eT : (-1) = T := by subst hr_37; rw [← hf]; simp only [mf_at, if_neg c_38, if_neg c_40, if_pos c_41]
          exact W.iret (v := (-1)) hx hb hr (fun t ht hW => ⟨⟨(-1), (), rfl, eT, trivial⟩, hS.F ht⟩) hS.2.2 dM_at_49
        · refine lv_aload_n hx hb dM_at_39 rfl (lv_at hl 1 rfl) ?_
          refine lv_iload_n hx hb dM_at_40 rfl (lv_at hl 2 rfl) ?_
          refine lv_iload_n hx hb dM_at_41 rfl (lv_at hl 3 rfl) ?_
          refine va_calli (va_runV (As := [.int p1, .int p2]) (rest := []) ⟨hx, hb, hml, hown, hts⟩ (mc_find l dC dI ad cA u p1 p2 (mi_arg c_40 c_41) _ rfl) (cwV 2 hts gM_at_find rfl rfl rfl (by decide +kernel) ⟨Nat.le_of_ble_eq_true rfl, Nat.le_of_ble_eq_true rfl⟩) ⟨fun a U g mk q => by obtain ⟨q0, qP, qK⟩ := q; exact ⟨q0, qP, va_K.moved (u := U) (U := U.calling g mk a) (Vm.Alike.refl U.vm) qK⟩, va_recv hK hP (ci := 1) (q0 := 0) rfl rfl, fun U hU hW => ⟨rfl, by rw [hU]; exact hP, va_K.moved hW.alike hK⟩⟩ rfl rfl hl.1 rfl (lv_room (Nat.le_of_ble_eq_true rfl)) dM_at_42 ⟨Nat.le_of_ble_eq_true rfl, Nat.le_of_ble_eq_true rfl⟩) hS (fun _ _ h => h.elim) (fun _ h => h.elim) (fun r_42 u_ t H1 locs ht hvm hr_42 hB hz1 hk1 hS => ?_)
          have hP := hP.kept (fun k x hx => hk1 x.1 ((hP k x hx).lt) (fun h => h))
          generalize H1 = H at hP hS ⊢
          refine lv_goto (tgt := 49) hx hb dM_at_45 (by decide) ?_
          have eT : r_42 = T := by subst hr_37 hr_42; rw [← hf]; simp only [mf_at, if_neg c_38, if_neg c_40, if_neg c_41]
          exact W.iret (v := r_42) hx hb hr (fun t ht hW => ⟨⟨r_42, (), rfl, eT, trivial⟩, hS.F ht⟩) hS.2.2 dM_at_49
  · refine lv_iload_n hx hb dM_at_7 rfl (lv_at hl 1 rfl) ?_
    refine lv_bipush (v := 16) hx hb dM_at_8 (by decide) ?_
    refine lv_icmp_lt (tgt := 23) hx hb dM_at_10 (by decide) (fun c_43 => ?_) (fun c_43 => ?_)
    · refine lv_iconst (v := 0) hx hb dM_at_23 (by decide) ?_
      refine lv_istore_n (lv' := [(3, .int 0), (0, .ref (ad 0)), (1, .int p1), (2, .int p2)]) hx hb dM_at_24 rfl hl (by decide) rfl (fun ls hl => ?_)
      refine lv_iload_n hx hb dM_at_25 rfl (lv_at hl 0 rfl) ?_
      refine lv_if_eq (tgt := 48) hx hb dM_at_26 (by decide) (fun c_44 => ?_) (fun c_44 => ?_)
      · refine lv_iconst (v := (-1)) hx hb dM_at_48 (by decide) ?_
        have eT : (-1) = T := by subst hr_37; rw [← hf]; simp only [mf_at, if_pos c_38, if_pos c_43]
        exact W.iret (v := (-1)) hx hb hr (fun t ht hW => ⟨⟨(-1), (), rfl, eT, trivial⟩, hS.F ht⟩) hS.2.2 dM_at_49
      · exact absurd rfl c_44
    · refine lv_iload_n hx hb dM_at_13 rfl (lv_at hl 1 rfl) ?_
      refine lv_bipush (v := 32) hx hb dM_at_14 (by decide) ?_
      refine lv_icmp_ge (tgt := 23) hx hb dM_at_16 (by decide) (fun c_45 => ?_) (fun c_45 => ?_)
      · refine lv_iconst (v := 0) hx hb dM_at_23 (by decide) ?_
        refine lv_istore_n (lv' := [(3, .int 0), (0, .ref (ad 0)), (1, .int p1), (2, .int p2)]) hx hb dM_at_24 rfl hl (by decide) rfl (fun ls hl => ?_)
        refine lv_iload_n hx hb dM_at_25 rfl (lv_at hl 0 rfl) ?_
        refine lv_if_eq (tgt := 48) hx hb dM_at_26 (by decide) (fun c_46 => ?_) (fun c_46 => ?_)
        · refine lv_iconst (v := (-1)) hx hb dM_at_48 (by decide) ?_
          have eT : (-1) = T := by subst hr_37; rw [← hf]; simp only [mf_at, if_pos c_38, if_neg c_43, if_pos c_45]
          exact W.iret (v := (-1)) hx hb hr (fun t ht hW => ⟨⟨(-1), (), rfl, eT, trivial⟩, hS.F ht⟩) hS.2.2 dM_at_49
        · exact absurd rfl c_46
      · refine lv_iconst (v := 1) hx hb dM_at_19 (by decide) ?_
        refine lv_goto (tgt := 24) hx hb dM_at_20 (by decide) ?_
        refine lv_istore_n (lv' := [(3, .int 1), (0, .ref (ad 0)), (1, .int p1), (2, .int p2)]) hx hb dM_at_24 rfl hl (by decide) rfl (fun ls hl => ?_)
        refine lv_iload_n hx hb dM_at_25 rfl (lv_at hl 0 rfl) ?_
        refine lv_if_eq (tgt := 48) hx hb dM_at_26 (by decide) (fun c_47 => ?_) (fun c_47 => ?_)
        · exact absurd c_47 (by decide)
        · refine lv_iload_n hx hb dM_at_29 rfl (lv_at hl 3 rfl) ?_
          refine lv_if_lt (tgt := 48) hx hb dM_at_30 (by decide) (fun c_48 => ?_) (fun c_48 => ?_)
          · refine lv_iconst (v := (-1)) hx hb dM_at_48 (by decide) ?_
            have eT : (-1) = T := by subst hr_37; rw [← hf]; simp only [mf_at, if_pos c_38, if_neg c_43, if_neg c_45, if_pos c_48]
            exact W.iret (v := (-1)) hx hb hr (fun t ht hW => ⟨⟨(-1), (), rfl, eT, trivial⟩, hS.F ht⟩) hS.2.2 dM_at_49
          · refine lv_iload_n hx hb dM_at_33 rfl (lv_at hl 3 rfl) ?_
            refine lv_bipush (v := 32) hx hb dM_at_34 (by decide) ?_
            refine lv_icmp_ge (tgt := 48) hx hb dM_at_36 (by decide) (fun c_49 => ?_) (fun c_49 => ?_)
            · refine lv_iconst (v := (-1)) hx hb dM_at_48 (by decide) ?_
              have eT : (-1) = T := by subst hr_37; rw [← hf]; simp only [mf_at, if_pos c_38, if_neg c_43, if_neg c_45, if_neg c_48, if_pos c_49]
              exact W.iret (v := (-1)) hx hb hr (fun t ht hW => ⟨⟨(-1), (), rfl, eT, trivial⟩, hS.F ht⟩) hS.2.2 dM_at_49
            · refine lv_aload_n hx hb dM_at_39 rfl (lv_at hl 1 rfl) ?_
              refine lv_iload_n hx hb dM_at_40 rfl (lv_at hl 2 rfl) ?_
              refine lv_iload_n hx hb dM_at_41 rfl (lv_at hl 3 rfl) ?_
              refine va_calli (va_runV (As := [.int p1, .int p2]) (rest := []) ⟨hx, hb, hml, hown, hts⟩ (mc_find l dC dI ad cA u p1 p2 (mi_arg c_48 c_49) _ rfl) (cwV 2 hts gM_at_find rfl rfl rfl (by decide +kernel) ⟨Nat.le_of_ble_eq_true rfl, Nat.le_of_ble_eq_true rfl⟩) ⟨fun a U g mk q => by obtain ⟨q0, qP, qK⟩ := q; exact ⟨q0, qP, va_K.moved (u := U) (U := U.calling g mk a) (Vm.Alike.refl U.vm) qK⟩, va_recv hK hP (ci := 1) (q0 := 0) rfl rfl, fun U hU hW => ⟨rfl, by rw [hU]; exact hP, va_K.moved hW.alike hK⟩⟩ rfl rfl hl.1 rfl (lv_room (Nat.le_of_ble_eq_true rfl)) dM_at_42 ⟨Nat.le_of_ble_eq_true rfl, Nat.le_of_ble_eq_true rfl⟩) hS (fun _ _ h => h.elim) (fun _ h => h.elim) (fun r_50 u_ t H1 locs ht hvm hr_50 hB hz1 hk1 hS => ?_)
              have hP := hP.kept (fun k x hx => hk1 x.1 ((hP k x hx).lt) (fun h => h))
              generalize H1 = H at hP hS ⊢
              refine lv_goto (tgt := 49) hx hb dM_at_45 (by decide) ?_
              have eT : r_50 = T := by subst hr_37 hr_50; rw [← hf]; simp only [mf_at, if_pos c_38, if_neg c_43, if_neg c_45, if_neg c_48, if_neg c_49]
              exact W.iret (v := r_50) hx hb hr (fun t ht hW => ⟨⟨r_50, (), rfl, eT, trivial⟩, hS.F ht⟩) hS.2.2 dM_at_49
set_option maxHeartbeats 4000000 in
set_option maxRecDepth 100000 in
theorem mc_extra (l : Launch) (dC : Nat → ClassId) (dI : Nat → Nat → Nat) (ad : Nat → Nat) (cA : Nat → ClassId) (u : MS) (p1 : Int32) (T : Int32) (hf : mf_extra u p1 = T) : Met l yM_extra wM_extra ({ frames := 1, cells := 0, slots := 0, locals := 20 } : Room) (va_Pc [.ref (ad 0), .int p1] (fun U => va_P (dC, dI) vwCl (mW ad cA u) U.heap ∧ va_K (dC, dI) vwCl (mT cA) U)) (va_Qi (fun r (_ : Unit) => r = T) (fun _ _ => True) (fun _ => False)) 0 0 (fun _ => False) := by
  refine Met.ofW (cc := cM_extra) (maxL := 2) (ret := (some .int)) (by decide) rfl ?_
  intro p e s m args below meth c s₁ B hml hv
  obtain ⟨rfl, hP, hK⟩ := hv
  have hx := B.exec
  have hb := B.bytes
  have hr := B.returns
  have hts := atoms_spec (ws := wM_extra) B.pre
  have hown : s.vm.findClass RX1 = some m.cls := findClass_of_methodNamed B.named
  have hlocks := B.notSynchronized
  have hin0 : ∀ w ∈ wsX10, w ∈ wM_extra := by decide +kernel
  have fl_extras := hts (.fieldLink RX1 27 "ProcessRoomModel" "extras" "[I") (by decide +kernel)
  have hS : va_S (fun _ => False) s.heap s.heap [] := va_S.rf
  have hl := lv_entry ([.ref (ad 0), .int p1]) (n := 2) (Nat.le_of_ble_eq_true rfl)
  rw [lg_entry_eq]
  generalize (lg_sl ([.ref (ad 0), .int p1]) ++ List.replicate (2 - (lg_sl ([.ref (ad 0), .int p1])).length) Slot.unset).toArray = ls at hl ⊢
  have hl : lv_has ls 2 [(0, .ref (ad 0)), (1, .int p1)] := hl
  refine lv_iload_n hx hb dM_extra_0 rfl (lv_at hl 1 rfl) ?_
  refine va_calli (va_runS (As := [.int p1]) (rest := []) ⟨hx, hb, hml, hown, hts⟩ (mc_isSemaphore l p1 _ rfl) (va_cwS 1 hts gM_extra_isSemaphore rfl rfl rfl (by decide +kernel) ⟨Nat.le_of_ble_eq_true rfl, Nat.le_of_ble_eq_true rfl⟩) ⟨fun a U g mk q => ⟨q.1, trivial⟩, fun U hU hW => ⟨rfl, trivial⟩⟩ rfl rfl hl.1 rfl (lv_room (Nat.le_of_ble_eq_true rfl)) dM_extra_1 ⟨Nat.le_of_ble_eq_true rfl, Nat.le_of_ble_eq_true rfl⟩) hS (fun _ _ h => h.elim) (fun _ h => h.elim) (fun r_51 u_ t H1 locs ht hvm hr_51 hB hz1 hk1 hS => ?_)
  have hP := hP.kept (fun k x hx => hk1 x.1 ((hP k x hx).lt) (fun h => h))
  generalize H1 = H at hP hS ⊢
  refine lv_if_eq (tgt := 16) hx hb dM_extra_4 (by decide) (fun c_52 => ?_) (fun c_52 => ?_)
  · refine lv_iconst (v := (-1)) hx hb dM_extra_16 (by decide) ?_
    have eT : (-1) = T := by subst hr_51; rw [← hf]; simp only [mf_extra, if_pos c_52]
    exact W.iret (v := (-1)) hx hb hr (fun t ht hW => ⟨⟨(-1), (), rfl, eT, trivial⟩, hS.F ht⟩) hS.2.2 dM_extra_17
  · refine lv_aload_n hx hb dM_extra_7 rfl (lv_at hl 0 rfl) ?_
    refine va_get (D := (dC, dI)) (ci := 1) (v := .ref (ad 6)) (C := RX1) (T := TX1) (N := 13) (fs := mF ad u) hx hb hts hin0 hown hK hP 0 rfl rfl 6 (by decide) fl_extras (fun _ h9 => h9) rfl dM_extra_8 ?_
    refine lv_iload_n hx hb dM_extra_11 rfl (lv_at hl 1 rfl) ?_
    refine va_iald hx hb hK hP 6 5 rfl rfl (mi_isSemaphore hr_51 c_52) dM_extra_12 ?_
    refine lv_goto (tgt := 17) hx hb dM_extra_13 (by decide) ?_
    have eT : ma_extras u p1.toNatClampNeg = T := by subst hr_51; rw [← hf]; simp only [mf_extra, if_neg c_52]
    exact W.iret (v := ma_extras u p1.toNatClampNeg) hx hb hr (fun t ht hW => ⟨⟨ma_extras u p1.toNatClampNeg, (), rfl, eT, trivial⟩, hS.F ht⟩) hS.2.2 dM_extra_17
set_option maxHeartbeats 4000000 in
set_option maxRecDepth 100000 in
theorem mc_posted (l : Launch) (dC : Nat → ClassId) (dI : Nat → Nat → Nat) (ad : Nat → Nat) (cA : Nat → ClassId) (u : MS) (p1 : Int32) (hI : mInv u) (T : Int32) (hf : mf_posted u p1 = T) : Met l yM_posted wM_posted ({ frames := 0, cells := 0, slots := 0, locals := 0 } : Room) (va_Pc [.ref (ad 0), .int p1] (fun U => va_P (dC, dI) vwCl (mW ad cA u) U.heap ∧ va_K (dC, dI) vwCl (mT cA) U)) (va_Qi (fun r (_ : Unit) => r = T) (fun _ _ => True) (fun _ => False)) 0 0 (fun _ => False) := by
  refine Met.ofW (cc := cM_posted) (maxL := 2) (ret := (some .int)) (by decide) rfl ?_
  intro p e s m args below meth c s₁ B hml hv
  obtain ⟨rfl, hP, hK⟩ := hv
  have hx := B.exec
  have hb := B.bytes
  have hr := B.returns
  have hts := atoms_spec (ws := wM_posted) B.pre
  have hown : s.vm.findClass RX1 = some m.cls := findClass_of_methodNamed B.named
  have hlocks := B.notSynchronized
  have hin0 : ∀ w ∈ wsX10, w ∈ wM_posted := by decide +kernel
  have fl_posts := hts (.fieldLink RX1 86 "ProcessRoomModel" "posts" "I") (by decide +kernel)
  have fl_posted := hts (.fieldLink RX1 30 "ProcessRoomModel" "posted" "[I") (by decide +kernel)
  have hS : va_S (fun _ => False) s.heap s.heap [] := va_S.rf
  have hl := lv_entry ([.ref (ad 0), .int p1]) (n := 2) (Nat.le_of_ble_eq_true rfl)
  rw [lg_entry_eq]
  generalize (lg_sl ([.ref (ad 0), .int p1]) ++ List.replicate (2 - (lg_sl ([.ref (ad 0), .int p1])).length) Slot.unset).toArray = ls at hl ⊢
  have hl : lv_has ls 2 [(0, .ref (ad 0)), (1, .int p1)] := hl
  refine lv_iload_n hx hb dM_posted_0 rfl (lv_at hl 1 rfl) ?_
  refine lv_if_lt (tgt := 21) hx hb dM_posted_1 (by decide) (fun c_53 => ?_) (fun c_53 => ?_)
  · refine lv_iconst (v := (-1)) hx hb dM_posted_21 (by decide) ?_
    have eT : (-1) = T := by rw [← hf]; simp only [mf_posted, if_pos c_53]
    exact W.iret (v := (-1)) hx hb hr (fun t ht hW => ⟨⟨(-1), (), rfl, eT, trivial⟩, hS.F ht⟩) hS.2.2 dM_posted_22
  · refine lv_iload_n hx hb dM_posted_4 rfl (lv_at hl 1 rfl) ?_
    refine lv_aload_n hx hb dM_posted_5 rfl (lv_at hl 0 rfl) ?_
    refine va_get (D := (dC, dI)) (ci := 1) (v := .int (ma_posts u)) (C := RX1) (T := TX1) (N := 13) (fs := mF ad u) hx hb hts hin0 hown hK hP 0 rfl rfl 7 (by decide) fl_posts (fun _ h9 => h9) rfl dM_posted_6 ?_
    refine lv_icmp_ge (tgt := 21) hx hb dM_posted_9 (by decide) (fun c_54 => ?_) (fun c_54 => ?_)
    · refine lv_iconst (v := (-1)) hx hb dM_posted_21 (by decide) ?_
      have eT : (-1) = T := by rw [← hf]; simp only [mf_posted, if_neg c_53, if_pos c_54]
      exact W.iret (v := (-1)) hx hb hr (fun t ht hW => ⟨⟨(-1), (), rfl, eT, trivial⟩, hS.F ht⟩) hS.2.2 dM_posted_22
    · refine lv_aload_n hx hb dM_posted_12 rfl (lv_at hl 0 rfl) ?_
      refine va_get (D := (dC, dI)) (ci := 1) (v := .ref (ad 7)) (C := RX1) (T := TX1) (N := 13) (fs := mF ad u) hx hb hts hin0 hown hK hP 0 rfl rfl 8 (by decide) fl_posted (fun _ h9 => h9) rfl dM_posted_13 ?_
      refine lv_iload_n hx hb dM_posted_16 rfl (lv_at hl 1 rfl) ?_
      refine va_iald hx hb hK hP 7 6 rfl rfl (mi_posted hI c_53 c_54) dM_posted_17 ?_
      refine lv_goto (tgt := 22) hx hb dM_posted_18 (by decide) ?_
      have eT : ma_posted u p1.toNatClampNeg = T := by rw [← hf]; simp only [mf_posted, if_neg c_53, if_neg c_54]
      exact W.iret (v := ma_posted u p1.toNatClampNeg) hx hb hr (fun t ht hW => ⟨⟨ma_posted u p1.toNatClampNeg, (), rfl, eT, trivial⟩, hS.F ht⟩) hS.2.2 dM_posted_22
