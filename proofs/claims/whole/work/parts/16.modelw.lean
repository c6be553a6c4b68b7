set_option maxHeartbeats 4000000 in
set_option maxRecDepth 100000 in
theorem mc_want (l : Launch) (dC : Nat → ClassId) (dI : Nat → Nat → Nat) (ad : Nat → Nat) (cA : Nat → ClassId) (sz : Nat) (u : MS) (p1 : Int32) (T : MS) (hf : mf_want u p1 = T) : Met l yM_want wM_want ({ frames := 0, cells := 0, slots := 0, locals := 0 } : Room) (va_Pc [.ref (ad 0), .int p1] (fun U => U.heap.size = sz ∧ va_P (dC, dI) vwCl (mW ad cA u) U.heap ∧ va_K (dC, dI) vwCl (mT cA) U ∧ va_D (fun _ => True) (mW ad cA u))) (va_Qv (fun u2 => u2 = T) (mAt dC dI (va_A (mW ad cA u) sz) ad cA) (va_A (mW ad cA u) sz)) 0 0 (va_A (mW ad cA u) sz) := by
  refine Met.ofW (cc := cM_want) (maxL := 2) (ret := none) (by decide) rfl ?_
  intro p e s m args below meth c s₁ B hml hv
  obtain ⟨rfl, hsz, hP, hK, hD0⟩ := hv
  have hx := B.exec
  have hb := B.bytes
  have hr := B.returns
  have hts := atoms_spec (ws := wM_want) B.pre
  have hown : s.vm.findClass RX1 = some m.cls := findClass_of_methodNamed B.named
  have hlocks := B.notSynchronized
  have hin0 : ∀ w ∈ wsX10, w ∈ wM_want := by decide +kernel
  have fl_wanted := hts (.fieldLink RX1 48 "ProcessRoomModel" "wanted" "Z") (by decide +kernel)
  have fl_change := hts (.fieldLink RX1 37 "ProcessRoomModel" "change" "I") (by decide +kernel)
  subst hsz
  have hD := hD0.self (sz := s.heap.size)
  generalize hAe : va_A (mW ad cA u) s.heap.size = A at hD ⊢
  have hA : ∀ q : Nat, s.heap.size ≤ q → A q := fun q h => by rw [← hAe]; exact Or.inr h
  have hS : va_S A s.heap s.heap [] := va_S.rf
  have hl := lv_entry ([.ref (ad 0), .int p1]) (n := 2) (Nat.le_of_ble_eq_true rfl)
  rw [lg_entry_eq]
  generalize (lg_sl ([.ref (ad 0), .int p1]) ++ List.replicate (2 - (lg_sl ([.ref (ad 0), .int p1])).length) Slot.unset).toArray = ls at hl ⊢
  have hl : lv_has ls 2 [(0, .ref (ad 0)), (1, .int p1)] := hl
  refine lv_aload_n hx hb dM_want_0 rfl (lv_at hl 0 rfl) ?_
  refine lv_iconst (v := 1) hx hb dM_want_1 (by decide) ?_
  refine va_put (D := (dC, dI)) (ci := 1) (v := .int 1) (ty := .boolean) (C := RX1) (T := TX1) (N := 13) (fs := mF ad u) hx hb hts hin0 tyX1 tyX1_ok nmX1 hown hK hP hD hS 0 rfl rfl 11 (by decide) fl_wanted (fun _ h9 => h9) rfl (by decide +kernel) rfl rfl (Nat.le_of_ble_eq_true rfl) dM_want_2 (fun H locs hP hD hS => ?_)
  rw [mw_wanted] at hP hD
  obtain ⟨u_55, hu_55⟩ : ∃ w : MS, w = ms_wanted u 1 := ⟨_, rfl⟩
  rw [← hu_55] at hP hD
  refine lv_aload_n hx hb dM_want_5 rfl (lv_at hl 0 rfl) ?_
  refine lv_iload_n hx hb dM_want_6 rfl (lv_at hl 1 rfl) ?_
  refine va_put (D := (dC, dI)) (ci := 1) (v := .int p1) (ty := .int) (C := RX1) (T := TX1) (N := 13) (fs := mF ad u_55) hx hb hts hin0 tyX1 tyX1_ok nmX1 hown hK hP hD hS 0 rfl rfl 12 (by decide) fl_change (fun _ h9 => h9) rfl (by decide +kernel) rfl rfl (Nat.le_of_ble_eq_true rfl) dM_want_7 (fun H locs hP hD hS => ?_)
  rw [mw_change] at hP hD
  obtain ⟨u_56, hu_56⟩ : ∃ w : MS, w = ms_change u_55 p1 := ⟨_, rfl⟩
  rw [← hu_56] at hP hD
  have eT : u_56 = T := by subst hu_55 hu_56; rw [← hf]; simp only [mf_want]
  exact W.vret hx hb hr (fun t ht hW => ⟨⟨u_56, rfl, eT, by rw [ht]; exact hP, va_K.moved hW.alike hK, hD⟩, hS.F ht⟩) hS.2.2 dM_want_10
set_option maxHeartbeats 4000000 in
set_option maxRecDepth 100000 in
theorem mc_enter (l : Launch) (dC : Nat → ClassId) (dI : Nat → Nat → Nat) (ad : Nat → Nat) (cA : Nat → ClassId) (sz : Nat) (u : MS) (p1 : Int32) (p2 : Int32) (hp : vp_in p1 32) (T : MS) (hf : mf_enter u p1 p2 = T) : Met l yM_enter wM_enter ({ frames := 0, cells := 0, slots := 0, locals := 0 } : Room) (va_Pc [.ref (ad 0), .int p1, .int p2] (fun U => U.heap.size = sz ∧ va_P (dC, dI) vwCl (mW ad cA u) U.heap ∧ va_K (dC, dI) vwCl (mT cA) U ∧ va_D (fun _ => True) (mW ad cA u))) (va_Qv (fun u2 => u2 = T) (mAt dC dI (va_A (mW ad cA u) sz) ad cA) (va_A (mW ad cA u) sz)) 0 0 (va_A (mW ad cA u) sz) := by
  refine Met.ofW (cc := cM_enter) (maxL := 3) (ret := none) (by decide) rfl ?_
  intro p e s m args below meth c s₁ B hml hv
  obtain ⟨rfl, hsz, hP, hK, hD0⟩ := hv
  have hx := B.exec
  have hb := B.bytes
  have hr := B.returns
  have hts := atoms_spec (ws := wM_enter) B.pre
  have hown : s.vm.findClass RX1 = some m.cls := findClass_of_methodNamed B.named
  have hlocks := B.notSynchronized
  have hin0 : ∀ w ∈ wsX10, w ∈ wM_enter := by decide +kernel
  have fl_rows := hts (.fieldLink RX1 20 "ProcessRoomModel" "rows" "[I") (by decide +kernel)
  have fl_when := hts (.fieldLink RX1 23 "ProcessRoomModel" "when" "[J") (by decide +kernel)
  have fl_now := hts (.fieldLink RX1 44 "ProcessRoomModel" "now" "J") (by decide +kernel)
  subst hsz
  have hD := hD0.self (sz := s.heap.size)
  generalize hAe : va_A (mW ad cA u) s.heap.size = A at hD ⊢
  have hA : ∀ q : Nat, s.heap.size ≤ q → A q := fun q h => by rw [← hAe]; exact Or.inr h
  have hS : va_S A s.heap s.heap [] := va_S.rf
  have hl := lv_entry ([.ref (ad 0), .int p1, .int p2]) (n := 3) (Nat.le_of_ble_eq_true rfl)
  rw [lg_entry_eq]
  generalize (lg_sl ([.ref (ad 0), .int p1, .int p2]) ++ List.replicate (3 - (lg_sl ([.ref (ad 0), .int p1, .int p2])).length) Slot.unset).toArray = ls at hl ⊢
  have hl : lv_has ls 3 [(0, .ref (ad 0)), (1, .int p1), (2, .int p2)] := hl
  refine lv_aload_n hx hb dM_enter_0 rfl (lv_at hl 0 rfl) ?_
  refine va_get (D := (dC, dI)) (ci := 1) (v := .ref (ad 4)) (C := RX1) (T := TX1) (N := 13) (fs := mF ad u) hx hb hts hin0 hown hK hP 0 rfl rfl 3 (by decide) fl_rows (fun _ h9 => h9) rfl dM_enter_1 ?_
  refine lv_iload_n hx hb dM_enter_4 rfl (lv_at hl 1 rfl) ?_
  refine lv_iload_n hx hb dM_enter_5 rfl (lv_at hl 2 rfl) ?_
  refine va_iast hx hb hK hP hD hS 4 3 rfl rfl hp dM_enter_6 (fun H locs hP hD hS => ?_)
  rw [mw_rows] at hP hD
  obtain ⟨u_57, hu_57⟩ : ∃ w : MS, w = ms_rows u (upd (ma_rows u) p1.toNatClampNeg p2) := ⟨_, rfl⟩
  rw [← hu_57] at hP hD
  refine lv_aload_n hx hb dM_enter_7 rfl (lv_at hl 0 rfl) ?_
  refine va_get (D := (dC, dI)) (ci := 1) (v := .ref (ad 5)) (C := RX1) (T := TX1) (N := 13) (fs := mF ad u_57) hx hb hts hin0 hown hK hP 0 rfl rfl 4 (by decide) fl_when (fun _ h9 => h9) rfl dM_enter_8 ?_
  refine lv_iload_n hx hb dM_enter_11 rfl (lv_at hl 1 rfl) ?_
  refine lv_aload_n hx hb dM_enter_12 rfl (lv_at hl 0 rfl) ?_
  refine va_get (D := (dC, dI)) (ci := 1) (v := .long (ma_now u)) (C := RX1) (T := TX1) (N := 13) (fs := mF ad u_57) hx hb hts hin0 hown hK hP 0 rfl rfl 5 (by decide) fl_now (fun _ h9 => h9) (congrArg (fun z => some (Value.long z)) (show ma_now u_57 = ma_now u from by rw [hu_57, mq_now_rows])) dM_enter_13 ?_
  refine va_last hx hb hK hP hD hS 5 4 (show (mW ad cA u_57)[5]? = some (ad 5, .inl (cA 5, 32, .inr (.inl (ma_when u)))) from by rw [← (show ma_when u_57 = ma_when u from by rw [hu_57, mq_when_rows])]; rfl) rfl hp dM_enter_16 (fun H locs hP hD hS => ?_)
  rw [mw_when] at hP hD
  obtain ⟨u_58, hu_58⟩ : ∃ w : MS, w = ms_when u_57 (vp_updL (ma_when u) p1.toNatClampNeg (ma_now u)) := ⟨_, rfl⟩
  rw [← hu_58] at hP hD
  refine lv_aload_n hx hb dM_enter_17 rfl (lv_at hl 0 rfl) ?_
  refine lv_aload_n hx hb dM_enter_18 rfl (lv_at hl 0 rfl) ?_
  refine va_get (D := (dC, dI)) (ci := 1) (v := .long (ma_now u)) (C := RX1) (T := TX1) (N := 13) (fs := mF ad u_58) hx hb hts hin0 hown hK hP 0 rfl rfl 5 (by decide) fl_now (fun _ h9 => h9) (congrArg (fun z => some (Value.long z)) (show ma_now u_58 = ma_now u from by rw [hu_58, mq_now_when, hu_57, mq_now_rows])) dM_enter_19 ?_
  refine lv_lconst (v := 1) hx hb dM_enter_22 rfl ?_
  refine lv_ladd hx hb dM_enter_23 ?_
  refine va_put (D := (dC, dI)) (ci := 1) (v := .long ((ma_now u) + 1)) (ty := .long) (C := RX1) (T := TX1) (N := 13) (fs := mF ad u_58) hx hb hts hin0 tyX1 tyX1_ok nmX1 hown hK hP hD hS 0 rfl rfl 5 (by decide) fl_now (fun _ h9 => h9) rfl (by decide +kernel) rfl rfl (Nat.le_of_ble_eq_true rfl) dM_enter_24 (fun H locs hP hD hS => ?_)
  rw [mw_now] at hP hD
  obtain ⟨u_59, hu_59⟩ : ∃ w : MS, w = ms_now u_58 ((ma_now u) + 1) := ⟨_, rfl⟩
  rw [← hu_59] at hP hD
  have eT : u_59 = T := by subst hu_57 hu_58 hu_59; rw [← hf]; simp only [mf_enter]
  exact W.vret hx hb hr (fun t ht hW => ⟨⟨u_59, rfl, eT, by rw [ht]; exact hP, va_K.moved hW.alike hK, hD⟩, hS.F ht⟩) hS.2.2 dM_enter_27
set_option maxHeartbeats 4000000 in
set_option maxRecDepth 100000 in
theorem mc_wake (l : Launch) (dC : Nat → ClassId) (dI : Nat → Nat → Nat) (ad : Nat → Nat) (cA : Nat → ClassId) (sz : Nat) (u : MS) (p1 : Int32) (hI : mInv u) (hp : vp_in p1 32) (T : MS) (hf : mf_wake u p1 = T) : Met l yM_wake wM_wake ({ frames := 1, cells := 0, slots := 0, locals := 22 } : Room) (va_Pc [.ref (ad 0), .int p1] (fun U => U.heap.size = sz ∧ va_P (dC, dI) vwCl (mW ad cA u) U.heap ∧ va_K (dC, dI) vwCl (mT cA) U ∧ va_D (fun _ => True) (mW ad cA u))) (va_Qv (fun u2 => u2 = T) (mAt dC dI (va_A (mW ad cA u) sz) ad cA) (va_A (mW ad cA u) sz)) 0 0 (va_A (mW ad cA u) sz) := by
  refine Met.ofW (cc := cM_wake) (maxL := 3) (ret := none) (by decide) rfl ?_
  intro p e s m args below meth c s₁ B hml hv
  obtain ⟨rfl, hsz, hP, hK, hD0⟩ := hv
  have hx := B.exec
  have hb := B.bytes
  have hr := B.returns
  have hts := atoms_spec (ws := wM_wake) B.pre
  have hown : s.vm.findClass RX1 = some m.cls := findClass_of_methodNamed B.named
  have hlocks := B.notSynchronized
  have hin0 : ∀ w ∈ wsX10, w ∈ wM_wake := by decide +kernel
  have fl_priorities := hts (.fieldLink RX1 13 "ProcessRoomModel" "priorities" "[I") (by decide +kernel)
  have fl_rows := hts (.fieldLink RX1 20 "ProcessRoomModel" "rows" "[I") (by decide +kernel)
  subst hsz
  have hD := hD0.self (sz := s.heap.size)
  generalize hAe : va_A (mW ad cA u) s.heap.size = A at hD ⊢
  have hA : ∀ q : Nat, s.heap.size ≤ q → A q := fun q h => by rw [← hAe]; exact Or.inr h
  have hS : va_S A s.heap s.heap [] := va_S.rf
  have hl := lv_entry ([.ref (ad 0), .int p1]) (n := 3) (Nat.le_of_ble_eq_true rfl)
  rw [lg_entry_eq]
  generalize (lg_sl ([.ref (ad 0), .int p1]) ++ List.replicate (3 - (lg_sl ([.ref (ad 0), .int p1])).length) Slot.unset).toArray = ls at hl ⊢
  have hl : lv_has ls 3 [(0, .ref (ad 0)), (1, .int p1)] := hl
  refine lv_aload_n hx hb dM_wake_0 rfl (lv_at hl 0 rfl) ?_
  refine va_calli (va_runV (As := []) (rest := []) ⟨hx, hb, hml, hown, hts⟩ (mc_presentOne l dC dI ad cA u _ rfl) (cwV 0 hts gM_wake_presentOne rfl rfl rfl (by decide +kernel) ⟨Nat.le_of_ble_eq_true rfl, Nat.le_of_ble_eq_true rfl⟩) ⟨fun a U g mk q => by obtain ⟨q0, qP, qK⟩ := q; exact ⟨q0, qP, va_K.moved (u := U) (U := U.calling g mk a) (Vm.Alike.refl U.vm) qK⟩, va_recv hK hP (ci := 1) (q0 := 0) rfl rfl, fun U hU hW => ⟨rfl, by rw [hU]; exact hP, va_K.moved hW.alike hK⟩⟩ rfl rfl hl.1 rfl (lv_room (Nat.le_of_ble_eq_true rfl)) dM_wake_1 ⟨Nat.le_of_ble_eq_true rfl, Nat.le_of_ble_eq_true rfl⟩) hS (fun _ _ h => h.elim) (fun _ h => h.elim) (fun r_60 u_ t H1 locs ht hvm hr_60 hB hz1 hk1 hS => ?_)
  have hP := hP.kept (fun k x hx => hk1 x.1 ((hP k x hx).lt) (fun h => h))
  generalize H1 = H at hP hS ⊢
  refine lv_istore_n (lv' := [(2, .int r_60), (0, .ref (ad 0)), (1, .int p1)]) hx hb dM_wake_4 rfl hl (by decide) rfl (fun ls hl => ?_)
  refine lv_iload_n hx hb dM_wake_5 rfl (lv_at hl 0 rfl) ?_
  refine lv_if_lt (tgt := 36) hx hb dM_wake_6 (by decide) (fun c_61 => ?_) (fun c_61 => ?_)
  · refine lv_iload_n hx hb dM_wake_36 rfl (lv_at hl 0 rfl) ?_
    refine lv_if_lt (tgt := 51) hx hb dM_wake_37 (by decide) (fun c_62 => ?_) (fun c_62 => ?_)
    · refine lv_aload_n hx hb dM_wake_51 rfl (lv_at hl 1 rfl) ?_
      refine va_get (D := (dC, dI)) (ci := 1) (v := .ref (ad 4)) (C := RX1) (T := TX1) (N := 13) (fs := mF ad u) hx hb hts hin0 hown hK hP 0 rfl rfl 3 (by decide) fl_rows (fun _ h9 => h9) rfl dM_wake_52 ?_
      refine lv_iload_n hx hb dM_wake_55 rfl (lv_at hl 2 rfl) ?_
      refine lv_iconst (v := 0) hx hb dM_wake_56 (by decide) ?_
      refine va_iast hx hb hK hP hD hS 4 3 rfl rfl hp dM_wake_57 (fun H locs hP hD hS => ?_)
      rw [mw_rows] at hP hD
      obtain ⟨u_63, hu_63⟩ : ∃ w : MS, w = ms_rows u (upd (ma_rows u) p1.toNatClampNeg 0) := ⟨_, rfl⟩
      rw [← hu_63] at hP hD
      refine lv_aload_n hx hb dM_wake_58 rfl (lv_at hl 1 rfl) ?_
      refine lv_iload_n hx hb dM_wake_59 rfl (lv_at hl 2 rfl) ?_
      have hFc := va_free (wc := (mW ad cA u_63)) hD hS hA [0, 1, 2, 3, 4, 5, 6, 7] rfl
      refine va_callv (va_runV (As := [.int p1]) (rest := []) ⟨hx, hb, hml, hown, hts⟩ (mc_want l dC dI ad cA _ u_63 p1 _ rfl) (cwV 1 hts gM_wake_want rfl rfl rfl (by decide +kernel) ⟨Nat.le_of_ble_eq_true rfl, Nat.le_of_ble_eq_true rfl⟩) ⟨fun a U g mk q => by obtain ⟨q0, q1, qP, qK, qD⟩ := q; exact ⟨q0, q1, qP, va_K.moved (u := U) (U := U.calling g mk a) (Vm.Alike.refl U.vm) qK, qD⟩, va_recv hK hP (ci := 1) (q0 := 0) rfl rfl, fun U hU hW => ⟨rfl, by rw [hU], by rw [hU]; exact hP, va_K.moved hW.alike hK, hD.weaken (fun _ _ _ _ => trivial)⟩⟩ rfl rfl hl.1 rfl (lv_room (Nat.le_of_ble_eq_true rfl)) dM_wake_60 ⟨Nat.le_of_ble_eq_true rfl, Nat.le_of_ble_eq_true rfl⟩) hS (fun q _ h => hFc q h) hFc (fun u_65 t H1 locs ht hvm hu_65 hB hz1 hk1 hS => ?_)
      obtain ⟨hP, hK1, hD1⟩ := hB
      rw [ht] at hP
      have hD := hD1.weaken (fun _ _ _ h => hFc _ h)
      generalize H1 = H at hP hS ⊢
      have hP : va_P (dC, dI) vwCl (mW ad cA u_65) H := hP
      have hD : va_D A (mW ad cA u_65) := hD
      have eT : u_65 = T := by subst hr_60 hu_63 hu_65; rw [← hf]; simp only [mf_wake, if_pos c_61]
      exact W.vret hx hb hr (fun t ht hW => ⟨⟨u_65, rfl, eT, by rw [ht]; exact hP, va_K.moved hW.alike hK, hD⟩, hS.F ht⟩) hS.2.2 dM_wake_63
    · exact absurd c_61 c_62
  · refine lv_aload_n hx hb dM_wake_9 rfl (lv_at hl 1 rfl) ?_
    refine va_get (D := (dC, dI)) (ci := 1) (v := .ref (ad 2)) (C := RX1) (T := TX1) (N := 13) (fs := mF ad u) hx hb hts hin0 hown hK hP 0 rfl rfl 1 (by decide) fl_priorities (fun _ h9 => h9) rfl dM_wake_10 ?_
    refine lv_iload_n hx hb dM_wake_13 rfl (lv_at hl 0 rfl) ?_
    refine va_iald hx hb hK hP 2 1 rfl rfl (mi_presentOne hr_60 hI c_61) dM_wake_14 ?_
    refine lv_aload_n hx hb dM_wake_15 rfl (lv_at hl 1 rfl) ?_
    refine va_get (D := (dC, dI)) (ci := 1) (v := .ref (ad 2)) (C := RX1) (T := TX1) (N := 13) (fs := mF ad u) hx hb hts hin0 hown hK hP 0 rfl rfl 1 (by decide) fl_priorities (fun _ h9 => h9) rfl dM_wake_16 ?_
    refine lv_iload_n hx hb dM_wake_19 rfl (lv_at hl 2 rfl) ?_
    refine va_iald hx hb hK hP 2 1 rfl rfl hp dM_wake_20 ?_
    refine lv_icmp_lt (tgt := 36) hx hb dM_wake_21 (by decide) (fun c_66 => ?_) (fun c_66 => ?_)
    · refine lv_iload_n hx hb dM_wake_36 rfl (lv_at hl 0 rfl) ?_
      refine lv_if_lt (tgt := 51) hx hb dM_wake_37 (by decide) (fun c_67 => ?_) (fun c_67 => ?_)
      · exact absurd c_67 c_61
      · refine lv_aload_n hx hb dM_wake_40 rfl (lv_at hl 1 rfl) ?_
        refine lv_iload_n hx hb dM_wake_41 rfl (lv_at hl 0 rfl) ?_
        refine lv_aload_n hx hb dM_wake_42 rfl (lv_at hl 1 rfl) ?_
        refine va_get (D := (dC, dI)) (ci := 1) (v := .ref (ad 2)) (C := RX1) (T := TX1) (N := 13) (fs := mF ad u) hx hb hts hin0 hown hK hP 0 rfl rfl 1 (by decide) fl_priorities (fun _ h9 => h9) rfl dM_wake_43 ?_
        refine lv_iload_n hx hb dM_wake_46 rfl (lv_at hl 0 rfl) ?_
        refine va_iald hx hb hK hP 2 1 rfl rfl (mi_presentOne hr_60 hI c_61) dM_wake_47 ?_
        have hFc := va_free (wc := (mW ad cA u)) hD hS hA [0, 1, 2, 3, 4, 5, 6, 7] rfl
        refine va_callv (va_runV (As := [.int r_60, .int (ma_priorities u r_60.toNatClampNeg)]) (rest := []) ⟨hx, hb, hml, hown, hts⟩ (mc_enter l dC dI ad cA _ u r_60 (ma_priorities u r_60.toNatClampNeg) (mi_presentOne hr_60 hI c_61) _ rfl) (cwV 2 hts gM_wake_enter rfl rfl rfl (by decide +kernel) ⟨Nat.le_of_ble_eq_true rfl, Nat.le_of_ble_eq_true rfl⟩) ⟨fun a U g mk q => by obtain ⟨q0, q1, qP, qK, qD⟩ := q; exact ⟨q0, q1, qP, va_K.moved (u := U) (U := U.calling g mk a) (Vm.Alike.refl U.vm) qK, qD⟩, va_recv hK hP (ci := 1) (q0 := 0) rfl rfl, fun U hU hW => ⟨rfl, by rw [hU], by rw [hU]; exact hP, va_K.moved hW.alike hK, hD.weaken (fun _ _ _ _ => trivial)⟩⟩ rfl rfl hl.1 rfl (lv_room (Nat.le_of_ble_eq_true rfl)) dM_wake_48 ⟨Nat.le_of_ble_eq_true rfl, Nat.le_of_ble_eq_true rfl⟩) hS (fun q _ h => hFc q h) hFc (fun u_69 t H1 locs ht hvm hu_69 hB hz1 hk1 hS => ?_)
        obtain ⟨hP, hK1, hD1⟩ := hB
        rw [ht] at hP
        have hD := hD1.weaken (fun _ _ _ h => hFc _ h)
        generalize H1 = H at hP hS ⊢
        have hP : va_P (dC, dI) vwCl (mW ad cA u_69) H := hP
        have hD : va_D A (mW ad cA u_69) := hD
        refine lv_aload_n hx hb dM_wake_51 rfl (lv_at hl 1 rfl) ?_
        refine va_get (D := (dC, dI)) (ci := 1) (v := .ref (ad 4)) (C := RX1) (T := TX1) (N := 13) (fs := mF ad u_69) hx hb hts hin0 hown hK hP 0 rfl rfl 3 (by decide) fl_rows (fun _ h9 => h9) rfl dM_wake_52 ?_
        refine lv_iload_n hx hb dM_wake_55 rfl (lv_at hl 2 rfl) ?_
        refine lv_iconst (v := 0) hx hb dM_wake_56 (by decide) ?_
        refine va_iast hx hb hK hP hD hS 4 3 rfl rfl hp dM_wake_57 (fun H locs hP hD hS => ?_)
        rw [mw_rows] at hP hD
        obtain ⟨u_70, hu_70⟩ : ∃ w : MS, w = ms_rows u_69 (upd (ma_rows u_69) p1.toNatClampNeg 0) := ⟨_, rfl⟩
        rw [← hu_70] at hP hD
        refine lv_aload_n hx hb dM_wake_58 rfl (lv_at hl 1 rfl) ?_
        refine lv_iload_n hx hb dM_wake_59 rfl (lv_at hl 2 rfl) ?_
        have hFc := va_free (wc := (mW ad cA u_70)) hD hS hA [0, 1, 2, 3, 4, 5, 6, 7] rfl
        refine va_callv (va_runV (As := [.int p1]) (rest := []) ⟨hx, hb, hml, hown, hts⟩ (mc_want l dC dI ad cA _ u_70 p1 _ rfl) (cwV 1 hts gM_wake_want rfl rfl rfl (by decide +kernel) ⟨Nat.le_of_ble_eq_true rfl, Nat.le_of_ble_eq_true rfl⟩) ⟨fun a U g mk q => by obtain ⟨q0, q1, qP, qK, qD⟩ := q; exact ⟨q0, q1, qP, va_K.moved (u := U) (U := U.calling g mk a) (Vm.Alike.refl U.vm) qK, qD⟩, va_recv hK hP (ci := 1) (q0 := 0) rfl rfl, fun U hU hW => ⟨rfl, by rw [hU], by rw [hU]; exact hP, va_K.moved hW.alike hK, hD.weaken (fun _ _ _ _ => trivial)⟩⟩ rfl rfl hl.1 rfl (lv_room (Nat.le_of_ble_eq_true rfl)) dM_wake_60 ⟨Nat.le_of_ble_eq_true rfl, Nat.le_of_ble_eq_true rfl⟩) hS (fun q _ h => hFc q h) hFc (fun u_72 t H1 locs ht hvm hu_72 hB hz1 hk1 hS => ?_)
        obtain ⟨hP, hK1, hD1⟩ := hB
        rw [ht] at hP
        have hD := hD1.weaken (fun _ _ _ h => hFc _ h)
        generalize H1 = H at hP hS ⊢
        have hP : va_P (dC, dI) vwCl (mW ad cA u_72) H := hP
        have hD : va_D A (mW ad cA u_72) := hD
        have eT : u_72 = T := by subst hr_60 hu_69 hu_70 hu_72; rw [← hf]; simp only [mf_wake, if_neg c_61, if_pos c_66]
        exact W.vret hx hb hr (fun t ht hW => ⟨⟨u_72, rfl, eT, by rw [ht]; exact hP, va_K.moved hW.alike hK, hD⟩, hS.F ht⟩) hS.2.2 dM_wake_63
    · refine lv_aload_n hx hb dM_wake_24 rfl (lv_at hl 1 rfl) ?_
      refine lv_iload_n hx hb dM_wake_25 rfl (lv_at hl 2 rfl) ?_
      refine lv_aload_n hx hb dM_wake_26 rfl (lv_at hl 1 rfl) ?_
      refine va_get (D := (dC, dI)) (ci := 1) (v := .ref (ad 2)) (C := RX1) (T := TX1) (N := 13) (fs := mF ad u) hx hb hts hin0 hown hK hP 0 rfl rfl 1 (by decide) fl_priorities (fun _ h9 => h9) rfl dM_wake_27 ?_
      refine lv_iload_n hx hb dM_wake_30 rfl (lv_at hl 2 rfl) ?_
      refine va_iald hx hb hK hP 2 1 rfl rfl hp dM_wake_31 ?_
      have hFc := va_free (wc := (mW ad cA u)) hD hS hA [0, 1, 2, 3, 4, 5, 6, 7] rfl
      refine va_callv (va_runV (As := [.int p1, .int (ma_priorities u p1.toNatClampNeg)]) (rest := []) ⟨hx, hb, hml, hown, hts⟩ (mc_enter l dC dI ad cA _ u p1 (ma_priorities u p1.toNatClampNeg) hp _ rfl) (cwV 2 hts gM_wake_enter rfl rfl rfl (by decide +kernel) ⟨Nat.le_of_ble_eq_true rfl, Nat.le_of_ble_eq_true rfl⟩) ⟨fun a U g mk q => by obtain ⟨q0, q1, qP, qK, qD⟩ := q; exact ⟨q0, q1, qP, va_K.moved (u := U) (U := U.calling g mk a) (Vm.Alike.refl U.vm) qK, qD⟩, va_recv hK hP (ci := 1) (q0 := 0) rfl rfl, fun U hU hW => ⟨rfl, by rw [hU], by rw [hU]; exact hP, va_K.moved hW.alike hK, hD.weaken (fun _ _ _ _ => trivial)⟩⟩ rfl rfl hl.1 rfl (lv_room (Nat.le_of_ble_eq_true rfl)) dM_wake_32 ⟨Nat.le_of_ble_eq_true rfl, Nat.le_of_ble_eq_true rfl⟩) hS (fun q _ h => hFc q h) hFc (fun u_74 t H1 locs ht hvm hu_74 hB hz1 hk1 hS => ?_)
      obtain ⟨hP, hK1, hD1⟩ := hB
      rw [ht] at hP
      have hD := hD1.weaken (fun _ _ _ h => hFc _ h)
      generalize H1 = H at hP hS ⊢
      have hP : va_P (dC, dI) vwCl (mW ad cA u_74) H := hP
      have hD : va_D A (mW ad cA u_74) := hD
      have eT : u_74 = T := by subst hr_60 hu_74; rw [← hf]; simp only [mf_wake, if_neg c_61, if_neg c_66]
      exact W.vret hx hb hr (fun t ht hW => ⟨⟨u_74, rfl, eT, by rw [ht]; exact hP, va_K.moved hW.alike hK, hD⟩, hS.F ht⟩) hS.2.2 dM_wake_35
set_option maxHeartbeats 4000000 in
set_option maxRecDepth 100000 in
theorem mc_putAside (l : Launch) (dC : Nat → ClassId) (dI : Nat → Nat → Nat) (ad : Nat → Nat) (cA : Nat → ClassId) (sz : Nat) (u : MS)  (T : MS) (hf : mf_putAside u = T) : Met l yM_putAside wM_putAside ({ frames := 1, cells := 0, slots := 0, locals := 27 } : Room) (va_Pc [.ref (ad 0)] (fun U => U.heap.size = sz ∧ va_P (dC, dI) vwCl (mW ad cA u) U.heap ∧ va_K (dC, dI) vwCl (mT cA) U ∧ va_D (fun _ => True) (mW ad cA u))) (va_Qv (fun u2 => u2 = T) (mAt dC dI (va_A (mW ad cA u) sz) ad cA) (va_A (mW ad cA u) sz)) 0 0 (va_A (mW ad cA u) sz) := by
  refine Met.ofW (cc := cM_putAside) (maxL := 4) (ret := none) (by decide) rfl ?_
  intro p e s m args below meth c s₁ B hml hv
  obtain ⟨rfl, hsz, hP, hK, hD0⟩ := hv
  have hx := B.exec
  have hb := B.bytes
  have hr := B.returns
  have hts := atoms_spec (ws := wM_putAside) B.pre
  have hown : s.vm.findClass RX1 = some m.cls := findClass_of_methodNamed B.named
  have hlocks := B.notSynchronized
  have hin0 : ∀ w ∈ wsX10, w ∈ wM_putAside := by decide +kernel
  have fl_rows := hts (.fieldLink RX1 20 "ProcessRoomModel" "rows" "[I") (by decide +kernel)
  subst hsz
  have hD := hD0.self (sz := s.heap.size)
  generalize hAe : va_A (mW ad cA u) s.heap.size = A at hD ⊢
  have hA : ∀ q : Nat, s.heap.size ≤ q → A q := fun q h => by rw [← hAe]; exact Or.inr h
  have hS : va_S A s.heap s.heap [] := va_S.rf
  have hl := lv_entry ([.ref (ad 0)]) (n := 4) (Nat.le_of_ble_eq_true rfl)
  rw [lg_entry_eq]
  generalize (lg_sl ([.ref (ad 0)]) ++ List.replicate (4 - (lg_sl ([.ref (ad 0)])).length) Slot.unset).toArray = ls at hl ⊢
  have hl : lv_has ls 4 [(0, .ref (ad 0))] := hl
  refine lv_iconst (v := (-1)) hx hb dM_putAside_0 (by decide) ?_
  refine lv_istore_n (lv' := [(1, .int (-1)), (0, .ref (ad 0))]) hx hb dM_putAside_1 rfl hl (by decide) rfl (fun ls hl => ?_)
  refine lv_iconst (v := 1) hx hb dM_putAside_2 (by decide) ?_
  refine lv_istore_n (lv' := [(2, .int 1), (1, .int (-1)), (0, .ref (ad 0))]) hx hb dM_putAside_3 rfl hl (by decide) rfl (fun ls hl => ?_)
  refine k_nameQ (fun Q hQ => ?_)
  have key : ∀ (n : Nat) (x1 : Int32) (x2 : Int32) (H : Heap) (locs : List Loc) (ls : Array Slot), (∃ j : Nat, x2 = nI j ∧ j + n = 10 ∧ 1 ≤ j ∧ j ≤ 9 ∧ (x1 < 0 ∨ vp_in x1 32)) → ml_putAside u n x1 x2 = T → va_P (dC, dI) vwCl (mW ad cA u) H → va_D A (mW ad cA u) → va_S A s.heap H locs → lv_has ls 4 [(0, .ref (ad 0)), (1, .int x1), (2, .int x2)] → W p l e (headSpec wM_putAside ({ frames := 1, cells := 0, slots := 0, locals := 27 } : Room)).room s m ([.ref (ad 0)] : List Value).toArray below meth c H locs 0 0 Q (F0 m 4 ls []) := by
    intro n
    induction n with
    | zero =>
      intro x1 x2 H locs ls hinv
      exact absurd hinv (by rintro ⟨j, -, h1, h2, h3, -⟩; omega)
    | succ n ih =>
      intro x1 x2 H locs ls hinv hf2 hP hD hS hl
      obtain ⟨j, hj, hjn, hj1, hjl, hf1⟩ := hinv
      refine lv_iload_n hx hb dM_putAside_4 rfl (lv_at hl 2 rfl) ?_
      refine lv_bipush (v := 8) hx hb dM_putAside_5 (by decide) ?_
      refine lv_icmp_gt (tgt := 33) hx hb dM_putAside_7 (by decide) (fun c_75 => ?_) (fun c_75 => ?_)
      · refine lv_iload_n hx hb dM_putAside_33 rfl (lv_at hl 1 rfl) ?_
        refine lv_if_lt (tgt := 44) hx hb dM_putAside_34 (by decide) (fun c_76 => ?_) (fun c_76 => ?_)
        · refine lv_aload_n hx hb dM_putAside_44 rfl (lv_at hl 0 rfl) ?_
          refine lv_iload_n hx hb dM_putAside_45 rfl (lv_at hl 1 rfl) ?_
          have hFc := va_free (wc := (mW ad cA u)) hD hS hA [0, 1, 2, 3, 4, 5, 6, 7] rfl
          refine va_callv (va_runV (As := [.int x1]) (rest := []) ⟨hx, hb, hml, hown, hts⟩ (mc_want l dC dI ad cA _ u x1 _ rfl) (cwV 1 hts gM_putAside_want rfl rfl rfl (by decide +kernel) ⟨Nat.le_of_ble_eq_true rfl, Nat.le_of_ble_eq_true rfl⟩) ⟨fun a U g mk q => by obtain ⟨q0, q1, qP, qK, qD⟩ := q; exact ⟨q0, q1, qP, va_K.moved (u := U) (U := U.calling g mk a) (Vm.Alike.refl U.vm) qK, qD⟩, va_recv hK hP (ci := 1) (q0 := 0) rfl rfl, fun U hU hW => ⟨rfl, by rw [hU], by rw [hU]; exact hP, va_K.moved hW.alike hK, hD.weaken (fun _ _ _ _ => trivial)⟩⟩ rfl rfl hl.1 rfl (lv_room (Nat.le_of_ble_eq_true rfl)) dM_putAside_46 ⟨Nat.le_of_ble_eq_true rfl, Nat.le_of_ble_eq_true rfl⟩) hS (fun q _ h => hFc q h) hFc (fun u_78 t H1 locs ht hvm hu_78 hB hz1 hk1 hS => ?_)
          obtain ⟨hP, hK1, hD1⟩ := hB
          rw [ht] at hP
          have hD := hD1.weaken (fun _ _ _ h => hFc _ h)
          generalize H1 = H at hP hS ⊢
          have hP : va_P (dC, dI) vwCl (mW ad cA u_78) H := hP
          have hD : va_D A (mW ad cA u_78) := hD
          subst hQ
          have eT : u_78 = T := by subst hu_78; rw [← hf2]; simp only [ml_putAside, if_pos c_75, if_pos c_76]
          exact W.vret hx hb hr (fun t ht hW => ⟨⟨u_78, rfl, eT, by rw [ht]; exact hP, va_K.moved hW.alike hK, hD⟩, hS.F ht⟩) hS.2.2 dM_putAside_49
        · refine lv_aload_n hx hb dM_putAside_37 rfl (lv_at hl 0 rfl) ?_
          refine va_get (D := (dC, dI)) (ci := 1) (v := .ref (ad 4)) (C := RX1) (T := TX1) (N := 13) (fs := mF ad u) hx hb hts hin0 hown hK hP 0 rfl rfl 3 (by decide) fl_rows (fun _ h9 => h9) rfl dM_putAside_38 ?_
          refine lv_iload_n hx hb dM_putAside_41 rfl (lv_at hl 1 rfl) ?_
          refine lv_iconst (v := 0) hx hb dM_putAside_42 (by decide) ?_
          refine va_iast hx hb hK hP hD hS 4 3 rfl rfl (mi_ge hf1 c_76) dM_putAside_43 (fun H locs hP hD hS => ?_)
          rw [mw_rows] at hP hD
          obtain ⟨u_79, hu_79⟩ : ∃ w : MS, w = ms_rows u (upd (ma_rows u) x1.toNatClampNeg 0) := ⟨_, rfl⟩
          rw [← hu_79] at hP hD
          refine lv_aload_n hx hb dM_putAside_44 rfl (lv_at hl 0 rfl) ?_
          refine lv_iload_n hx hb dM_putAside_45 rfl (lv_at hl 1 rfl) ?_
          have hFc := va_free (wc := (mW ad cA u_79)) hD hS hA [0, 1, 2, 3, 4, 5, 6, 7] rfl
          refine va_callv (va_runV (As := [.int x1]) (rest := []) ⟨hx, hb, hml, hown, hts⟩ (mc_want l dC dI ad cA _ u_79 x1 _ rfl) (cwV 1 hts gM_putAside_want rfl rfl rfl (by decide +kernel) ⟨Nat.le_of_ble_eq_true rfl, Nat.le_of_ble_eq_true rfl⟩) ⟨fun a U g mk q => by obtain ⟨q0, q1, qP, qK, qD⟩ := q; exact ⟨q0, q1, qP, va_K.moved (u := U) (U := U.calling g mk a) (Vm.Alike.refl U.vm) qK, qD⟩, va_recv hK hP (ci := 1) (q0 := 0) rfl rfl, fun U hU hW => ⟨rfl, by rw [hU], by rw [hU]; exact hP, va_K.moved hW.alike hK, hD.weaken (fun _ _ _ _ => trivial)⟩⟩ rfl rfl hl.1 rfl (lv_room (Nat.le_of_ble_eq_true rfl)) dM_putAside_46 ⟨Nat.le_of_ble_eq_true rfl, Nat.le_of_ble_eq_true rfl⟩) hS (fun q _ h => hFc q h) hFc (fun u_81 t H1 locs ht hvm hu_81 hB hz1 hk1 hS => ?_)
          obtain ⟨hP, hK1, hD1⟩ := hB
          rw [ht] at hP
          have hD := hD1.weaken (fun _ _ _ h => hFc _ h)
          generalize H1 = H at hP hS ⊢
          have hP : va_P (dC, dI) vwCl (mW ad cA u_81) H := hP
          have hD : va_D A (mW ad cA u_81) := hD
          subst hQ
          have eT : u_81 = T := by subst hu_79 hu_81; rw [← hf2]; simp only [ml_putAside, if_pos c_75, if_neg c_76]
          exact W.vret hx hb hr (fun t ht hW => ⟨⟨u_81, rfl, eT, by rw [ht]; exact hP, va_K.moved hW.alike hK, hD⟩, hS.F ht⟩) hS.2.2 dM_putAside_49
      · refine lv_aload_n hx hb dM_putAside_10 rfl (lv_at hl 0 rfl) ?_
        refine lv_iload_n hx hb dM_putAside_11 rfl (lv_at hl 2 rfl) ?_
        refine lv_iconst (v := 0) hx hb dM_putAside_12 (by decide) ?_
        refine va_calli (va_runV (As := [.int x2, .int 0]) (rest := []) ⟨hx, hb, hml, hown, hts⟩ (mc_find l dC dI ad cA u x2 0 ⟨0, by omega, nI_0.symm⟩ _ rfl) (cwV 2 hts gM_putAside_find rfl rfl rfl (by decide +kernel) ⟨Nat.le_of_ble_eq_true rfl, Nat.le_of_ble_eq_true rfl⟩) ⟨fun a U g mk q => by obtain ⟨q0, qP, qK⟩ := q; exact ⟨q0, qP, va_K.moved (u := U) (U := U.calling g mk a) (Vm.Alike.refl U.vm) qK⟩, va_recv hK hP (ci := 1) (q0 := 0) rfl rfl, fun U hU hW => ⟨rfl, by rw [hU]; exact hP, va_K.moved hW.alike hK⟩⟩ rfl rfl hl.1 rfl (lv_room (Nat.le_of_ble_eq_true rfl)) dM_putAside_13 ⟨Nat.le_of_ble_eq_true rfl, Nat.le_of_ble_eq_true rfl⟩) hS (fun _ _ h => h.elim) (fun _ h => h.elim) (fun r_82 u_ t H1 locs ht hvm hr_82 hB hz1 hk1 hS => ?_)
        have hP := hP.kept (fun k x hx => hk1 x.1 ((hP k x hx).lt) (fun h => h))
        generalize H1 = H at hP hS ⊢
        refine lv_istore_n (lv' := [(3, .int r_82), (0, .ref (ad 0)), (1, .int x1), (2, .int x2)]) hx hb dM_putAside_16 rfl hl (by decide) rfl (fun ls hl => ?_)
        refine lv_iload_n hx hb dM_putAside_17 rfl (lv_at hl 0 rfl) ?_
        refine lv_if_lt (tgt := 25) hx hb dM_putAside_18 (by decide) (fun c_83 => ?_) (fun c_83 => ?_)
        · refine lv_iload_n hx hb dM_putAside_25 rfl (lv_at hl 2 rfl) ?_
          refine lv_istore_n (lv' := [(1, .int x1), (3, .int r_82), (0, .ref (ad 0)), (2, .int x2)]) hx hb dM_putAside_26 rfl hl (by decide) rfl (fun ls hl => ?_)
          refine lv_iinc (v := x2 + 1) (lv' := [(2, .int (x2 + 1)), (1, .int x1), (3, .int r_82), (0, .ref (ad 0))]) hx hb dM_putAside_27 hl (k := 3) rfl rfl (by decide) rfl (fun ls hl => ?_)
          refine lv_goto (tgt := 4) hx hb dM_putAside_30 (by decide) ?_
          have hj2 := mi_le8 hj (by omega) c_75
          exact ih x1 (x2 + 1) _ _ _ (⟨j + 1, by rw [hj, nI_1], by omega, by omega, by omega, hf1⟩) (by subst hr_82; rw [← hf2]; simp only [ml_putAside, if_neg c_75, if_pos c_83]) hP hD hS (lv_sub hl [3, 1, 0] rfl)
        · refine lv_iload_n hx hb dM_putAside_21 rfl (lv_at hl 0 rfl) ?_
          refine lv_goto (tgt := 26) hx hb dM_putAside_22 (by decide) ?_
          refine lv_istore_n (lv' := [(1, .int r_82), (3, .int r_82), (0, .ref (ad 0)), (2, .int x2)]) hx hb dM_putAside_26 rfl hl (by decide) rfl (fun ls hl => ?_)
          refine lv_iinc (v := x2 + 1) (lv' := [(2, .int (x2 + 1)), (1, .int r_82), (3, .int r_82), (0, .ref (ad 0))]) hx hb dM_putAside_27 hl (k := 3) rfl rfl (by decide) rfl (fun ls hl => ?_)
          refine lv_goto (tgt := 4) hx hb dM_putAside_30 (by decide) ?_
          have hj2 := mi_le8 hj (by omega) c_75
          exact ih r_82 (x2 + 1) _ _ _ (⟨j + 1, by rw [hj, nI_1], by omega, by omega, by omega, mi_find hr_82⟩) (by subst hr_82; rw [← hf2]; simp only [ml_putAside, if_neg c_75, if_neg c_83]) hP hD hS (lv_sub hl [3, 1, 0] rfl)
  exact key 9 (-1) 1 _ _ _ (⟨1, rfl, by omega, by omega, by omega, Or.inl (by decide)⟩) (by rw [← hf]; simp only [mf_putAside]) hP hD hS (lv_sub hl [2, 1, 0] rfl)
set_option maxHeartbeats 4000000 in
set_option maxRecDepth 100000 in
theorem mc_give (l : Launch) (dC : Nat → ClassId) (dI : Nat → Nat → Nat) (ad : Nat → Nat) (cA : Nat → ClassId) (sz : Nat) (u : MS) (p1 : Int32) (hI : mInv u) (hp : vp_in p1 16) (T : MS) (hf : mf_give u p1 = T) : Met l yM_give wM_give ({ frames := 2, cells := 0, slots := 0, locals := 44 } : Room) (va_Pc [.ref (ad 0), .int p1] (fun U => U.heap.size = sz ∧ va_P (dC, dI) vwCl (mW ad cA u) U.heap ∧ va_K (dC, dI) vwCl (mT cA) U ∧ va_D (fun _ => True) (mW ad cA u))) (va_Qv (fun u2 => u2 = T) (mAt dC dI (va_A (mW ad cA u) sz) ad cA) (va_A (mW ad cA u) sz)) 0 0 (va_A (mW ad cA u) sz) := by
  refine Met.ofW (cc := cM_give) (maxL := 3) (ret := none) (by decide) rfl ?_
  intro p e s m args below meth c s₁ B hml hv
  obtain ⟨rfl, hsz, hP, hK, hD0⟩ := hv
  have hx := B.exec
  have hb := B.bytes
  have hr := B.returns
  have hts := atoms_spec (ws := wM_give) B.pre
  have hown : s.vm.findClass RX1 = some m.cls := findClass_of_methodNamed B.named
  have hlocks := B.notSynchronized
  have hin0 : ∀ w ∈ wsX10, w ∈ wM_give := by decide +kernel
  have fl_extras := hts (.fieldLink RX1 27 "ProcessRoomModel" "extras" "[I") (by decide +kernel)
  have fl_rows := hts (.fieldLink RX1 20 "ProcessRoomModel" "rows" "[I") (by decide +kernel)
  subst hsz
  have hD := hD0.self (sz := s.heap.size)
  generalize hAe : va_A (mW ad cA u) s.heap.size = A at hD ⊢
  have hA : ∀ q : Nat, s.heap.size ≤ q → A q := fun q h => by rw [← hAe]; exact Or.inr h
  have hS : va_S A s.heap s.heap [] := va_S.rf
  have hl := lv_entry ([.ref (ad 0), .int p1]) (n := 3) (Nat.le_of_ble_eq_true rfl)
  rw [lg_entry_eq]
  generalize (lg_sl ([.ref (ad 0), .int p1]) ++ List.replicate (3 - (lg_sl ([.ref (ad 0), .int p1])).length) Slot.unset).toArray = ls at hl ⊢
  have hl : lv_has ls 3 [(0, .ref (ad 0)), (1, .int p1)] := hl
  refine lv_aload_n hx hb dM_give_0 rfl (lv_at hl 0 rfl) ?_
  refine lv_bipush (v := 16) hx hb dM_give_1 (by decide) ?_
  refine lv_iload_n hx hb dM_give_3 rfl (lv_at hl 1 rfl) ?_
  refine lv_iadd hx hb dM_give_4 ?_
  refine lv_iconst (v := 0) hx hb dM_give_5 (by decide) ?_
  refine va_calli (va_runV (As := [.int (16 + p1), .int 0]) (rest := []) ⟨hx, hb, hml, hown, hts⟩ (mc_find l dC dI ad cA u (16 + p1) 0 ⟨0, by omega, nI_0.symm⟩ _ rfl) (cwV 2 hts gM_give_find rfl rfl rfl (by decide +kernel) ⟨Nat.le_of_ble_eq_true rfl, Nat.le_of_ble_eq_true rfl⟩) ⟨fun a U g mk q => by obtain ⟨q0, qP, qK⟩ := q; exact ⟨q0, qP, va_K.moved (u := U) (U := U.calling g mk a) (Vm.Alike.refl U.vm) qK⟩, va_recv hK hP (ci := 1) (q0 := 0) rfl rfl, fun U hU hW => ⟨rfl, by rw [hU]; exact hP, va_K.moved hW.alike hK⟩⟩ rfl rfl hl.1 rfl (lv_room (Nat.le_of_ble_eq_true rfl)) dM_give_6 ⟨Nat.le_of_ble_eq_true rfl, Nat.le_of_ble_eq_true rfl⟩) hS (fun _ _ h => h.elim) (fun _ h => h.elim) (fun r_84 u_ t H1 locs ht hvm hr_84 hB hz1 hk1 hS => ?_)
  have hP := hP.kept (fun k x hx => hk1 x.1 ((hP k x hx).lt) (fun h => h))
  generalize H1 = H at hP hS ⊢
  refine lv_istore_n (lv' := [(2, .int r_84), (0, .ref (ad 0)), (1, .int p1)]) hx hb dM_give_9 rfl hl (by decide) rfl (fun ls hl => ?_)
  refine lv_iload_n hx hb dM_give_10 rfl (lv_at hl 0 rfl) ?_
  refine lv_if_ge (tgt := 31) hx hb dM_give_11 (by decide) (fun c_85 => ?_) (fun c_85 => ?_)
  · refine lv_aload_n hx hb dM_give_31 rfl (lv_at hl 1 rfl) ?_
    refine va_get (D := (dC, dI)) (ci := 1) (v := .ref (ad 4)) (C := RX1) (T := TX1) (N := 13) (fs := mF ad u) hx hb hts hin0 hown hK hP 0 rfl rfl 3 (by decide) fl_rows (fun _ h9 => h9) rfl dM_give_32 ?_
    refine lv_iload_n hx hb dM_give_35 rfl (lv_at hl 0 rfl) ?_
    refine lv_iconst (v := 0) hx hb dM_give_36 (by decide) ?_
    refine va_iast hx hb hK hP hD hS 4 3 rfl rfl (mi_le (mi_find hr_84) c_85) dM_give_37 (fun H locs hP hD hS => ?_)
    rw [mw_rows] at hP hD
    obtain ⟨u_86, hu_86⟩ : ∃ w : MS, w = ms_rows u (upd (ma_rows u) r_84.toNatClampNeg 0) := ⟨_, rfl⟩
    rw [← hu_86] at hP hD
    refine lv_aload_n hx hb dM_give_38 rfl (lv_at hl 1 rfl) ?_
    refine lv_iload_n hx hb dM_give_39 rfl (lv_at hl 0 rfl) ?_
    have hFc := va_free (wc := (mW ad cA u_86)) hD hS hA [0, 1, 2, 3, 4, 5, 6, 7] rfl
    refine va_callv (va_runV (As := [.int r_84]) (rest := []) ⟨hx, hb, hml, hown, hts⟩ (mc_wake l dC dI ad cA _ u_86 r_84 (show mInv u_86 from by rw [hu_86]; exact hI) (mi_le (mi_find hr_84) c_85) _ rfl) (cwV 1 hts gM_give_wake rfl rfl rfl (by decide +kernel) ⟨Nat.le_of_ble_eq_true rfl, Nat.le_of_ble_eq_true rfl⟩) ⟨fun a U g mk q => by obtain ⟨q0, q1, qP, qK, qD⟩ := q; exact ⟨q0, q1, qP, va_K.moved (u := U) (U := U.calling g mk a) (Vm.Alike.refl U.vm) qK, qD⟩, va_recv hK hP (ci := 1) (q0 := 0) rfl rfl, fun U hU hW => ⟨rfl, by rw [hU], by rw [hU]; exact hP, va_K.moved hW.alike hK, hD.weaken (fun _ _ _ _ => trivial)⟩⟩ rfl rfl hl.1 rfl (lv_room (Nat.le_of_ble_eq_true rfl)) dM_give_40 ⟨Nat.le_of_ble_eq_true rfl, Nat.le_of_ble_eq_true rfl⟩) hS (fun q _ h => hFc q h) hFc (fun u_88 t H1 locs ht hvm hu_88 hB hz1 hk1 hS => ?_)
    obtain ⟨hP, hK1, hD1⟩ := hB
    rw [ht] at hP
    have hD := hD1.weaken (fun _ _ _ h => hFc _ h)
    generalize H1 = H at hP hS ⊢
    have hP : va_P (dC, dI) vwCl (mW ad cA u_88) H := hP
    have hD : va_D A (mW ad cA u_88) := hD
    have eT : u_88 = T := by subst hr_84 hu_86 hu_88; rw [← hf]; simp only [mf_give, if_pos c_85]
    exact W.vret hx hb hr (fun t ht hW => ⟨⟨u_88, rfl, eT, by rw [ht]; exact hP, va_K.moved hW.alike hK, hD⟩, hS.F ht⟩) hS.2.2 dM_give_43
  · refine lv_aload_n hx hb dM_give_14 rfl (lv_at hl 1 rfl) ?_
    refine va_get (D := (dC, dI)) (ci := 1) (v := .ref (ad 6)) (C := RX1) (T := TX1) (N := 13) (fs := mF ad u) hx hb hts hin0 hown hK hP 0 rfl rfl 6 (by decide) fl_extras (fun _ h9 => h9) rfl dM_give_15 ?_
    refine lv_iload_n hx hb dM_give_18 rfl (lv_at hl 2 rfl) ?_
    refine lv_aload_n hx hb dM_give_19 rfl (lv_at hl 1 rfl) ?_
    refine va_get (D := (dC, dI)) (ci := 1) (v := .ref (ad 6)) (C := RX1) (T := TX1) (N := 13) (fs := mF ad u) hx hb hts hin0 hown hK hP 0 rfl rfl 6 (by decide) fl_extras (fun _ h9 => h9) rfl dM_give_20 ?_
    refine lv_iload_n hx hb dM_give_23 rfl (lv_at hl 2 rfl) ?_
    refine va_iald hx hb hK hP 6 5 rfl rfl hp dM_give_24 ?_
    refine lv_iconst (v := 1) hx hb dM_give_25 (by decide) ?_
    refine lv_iadd hx hb dM_give_26 ?_
    refine va_iast hx hb hK hP hD hS 6 5 rfl rfl hp dM_give_27 (fun H locs hP hD hS => ?_)
    rw [mw_extras] at hP hD
    obtain ⟨u_89, hu_89⟩ : ∃ w : MS, w = ms_extras u (upd (ma_extras u) p1.toNatClampNeg ((ma_extras u p1.toNatClampNeg) + 1)) := ⟨_, rfl⟩
    rw [← hu_89] at hP hD
    refine lv_goto (tgt := 43) hx hb dM_give_28 (by decide) ?_
    have eT : u_89 = T := by subst hr_84 hu_89; rw [← hf]; simp only [mf_give, if_neg c_85]
    exact W.vret hx hb hr (fun t ht hW => ⟨⟨u_89, rfl, eT, by rw [ht]; exact hP, va_K.moved hW.alike hK, hD⟩, hS.F ht⟩) hS.2.2 dM_give_43
set_option maxHeartbeats 4000000 in
set_option maxRecDepth 100000 in
theorem mc_signal (l : Launch) (dC : Nat → ClassId) (dI : Nat → Nat → Nat) (ad : Nat → Nat) (cA : Nat → ClassId) (sz : Nat) (u : MS) (p1 : Int32) (hI : mInv u) (T : Int32 × MS) (hf : mf_signal u p1 = T) : Met l yM_signal wM_signal ({ frames := 3, cells := 0, slots := 0, locals := 66 } : Room) (va_Pc [.ref (ad 0), .int p1] (fun U => U.heap.size = sz ∧ va_P (dC, dI) vwCl (mW ad cA u) U.heap ∧ va_K (dC, dI) vwCl (mT cA) U ∧ va_D (fun _ => True) (mW ad cA u))) (va_Qi (fun r u2 => r = T.1 ∧ u2 = T.2) (mAt dC dI (va_A (mW ad cA u) sz) ad cA) (va_A (mW ad cA u) sz)) 0 0 (va_A (mW ad cA u) sz) := by
  refine Met.ofW (cc := cM_signal) (maxL := 2) (ret := (some .boolean)) (by decide) rfl ?_
  intro p e s m args below meth c s₁ B hml hv
  obtain ⟨rfl, hsz, hP, hK, hD0⟩ := hv
  have hx := B.exec
  have hb := B.bytes
  have hr := B.returns
  have hts := atoms_spec (ws := wM_signal) B.pre
  have hown : s.vm.findClass RX1 = some m.cls := findClass_of_methodNamed B.named
  have hlocks := B.notSynchronized
  subst hsz
  have hD := hD0.self (sz := s.heap.size)
  generalize hAe : va_A (mW ad cA u) s.heap.size = A at hD ⊢
  have hA : ∀ q : Nat, s.heap.size ≤ q → A q := fun q h => by rw [← hAe]; exact Or.inr h
  have hS : va_S A s.heap s.heap [] := va_S.rf
  have hl := lv_entry ([.ref (ad 0), .int p1]) (n := 2) (Nat.le_of_ble_eq_true rfl)
  rw [lg_entry_eq]
  generalize (lg_sl ([.ref (ad 0), .int p1]) ++ List.replicate (2 - (lg_sl ([.ref (ad 0), .int p1])).length) Slot.unset).toArray = ls at hl ⊢
  have hl : lv_has ls 2 [(0, .ref (ad 0)), (1, .int p1)] := hl
  refine lv_iload_n hx hb dM_signal_0 rfl (lv_at hl 1 rfl) ?_
  refine va_calli (va_runS (As := [.int p1]) (rest := []) ⟨hx, hb, hml, hown, hts⟩ (mc_isSemaphore l p1 _ rfl) (va_cwS 1 hts gM_signal_isSemaphore rfl rfl rfl (by decide +kernel) ⟨Nat.le_of_ble_eq_true rfl, Nat.le_of_ble_eq_true rfl⟩) ⟨fun a U g mk q => ⟨q.1, trivial⟩, fun U hU hW => ⟨rfl, trivial⟩⟩ rfl rfl hl.1 rfl (lv_room (Nat.le_of_ble_eq_true rfl)) dM_signal_1 ⟨Nat.le_of_ble_eq_true rfl, Nat.le_of_ble_eq_true rfl⟩) hS (fun _ _ h => h.elim) (fun _ h => h.elim) (fun r_90 u_ t H1 locs ht hvm hr_90 hB hz1 hk1 hS => ?_)
  have hP := hP.kept (fun k x hx => hk1 x.1 ((hP k x hx).lt) (fun h => h))
  generalize H1 = H at hP hS ⊢
  refine lv_if_ne (tgt := 9) hx hb dM_signal_4 (by decide) (fun c_91 => ?_) (fun c_91 => ?_)
  · refine lv_aload_n hx hb dM_signal_9 rfl (lv_at hl 0 rfl) ?_
    refine lv_iload_n hx hb dM_signal_10 rfl (lv_at hl 1 rfl) ?_
    have hFc := va_free (wc := (mW ad cA u)) hD hS hA [0, 1, 2, 3, 4, 5, 6, 7] rfl
    refine va_callv (va_runV (As := [.int p1]) (rest := []) ⟨hx, hb, hml, hown, hts⟩ (mc_give l dC dI ad cA _ u p1 hI (mi_isSemaphore hr_90 c_91) _ rfl) (cwV 1 hts gM_signal_give rfl rfl rfl (by decide +kernel) ⟨Nat.le_of_ble_eq_true rfl, Nat.le_of_ble_eq_true rfl⟩) ⟨fun a U g mk q => by obtain ⟨q0, q1, qP, qK, qD⟩ := q; exact ⟨q0, q1, qP, va_K.moved (u := U) (U := U.calling g mk a) (Vm.Alike.refl U.vm) qK, qD⟩, va_recv hK hP (ci := 1) (q0 := 0) rfl rfl, fun U hU hW => ⟨rfl, by rw [hU], by rw [hU]; exact hP, va_K.moved hW.alike hK, hD.weaken (fun _ _ _ _ => trivial)⟩⟩ rfl rfl hl.1 rfl (lv_room (Nat.le_of_ble_eq_true rfl)) dM_signal_11 ⟨Nat.le_of_ble_eq_true rfl, Nat.le_of_ble_eq_true rfl⟩) hS (fun q _ h => hFc q h) hFc (fun u_93 t H1 locs ht hvm hu_93 hB hz1 hk1 hS => ?_)
    obtain ⟨hP, hK1, hD1⟩ := hB
    rw [ht] at hP
    have hD := hD1.weaken (fun _ _ _ h => hFc _ h)
    generalize H1 = H at hP hS ⊢
    have hP : va_P (dC, dI) vwCl (mW ad cA u_93) H := hP
    have hD : va_D A (mW ad cA u_93) := hD
    refine lv_iconst (v := 1) hx hb dM_signal_14 (by decide) ?_
    have eT : (1, u_93) = T := by subst hr_90 hu_93; rw [← hf]; simp only [mf_signal, if_neg c_91]
    exact W.zret (v := 1) hx hb hr (rfl) (fun t ht hW => ⟨⟨1, u_93, rfl, ⟨congrArg Prod.fst eT, congrArg Prod.snd eT⟩, by rw [ht]; exact hP, va_K.moved hW.alike hK, hD⟩, hS.F ht⟩) hS.2.2 dM_signal_15
  · refine lv_iconst (v := 0) hx hb dM_signal_7 (by decide) ?_
    have eT : (0, u) = T := by subst hr_90; rw [← hf]; simp only [mf_signal, if_pos c_91]
    exact W.zret (v := 0) hx hb hr (rfl) (fun t ht hW => ⟨⟨0, u, rfl, ⟨congrArg Prod.fst eT, congrArg Prod.snd eT⟩, by rw [ht]; exact hP, va_K.moved hW.alike hK, hD⟩, hS.F ht⟩) hS.2.2 dM_signal_8
