set_option maxHeartbeats 4000000 in
set_option maxRecDepth 100000 in
theorem mc_make (l : Launch) (dC : Nat → ClassId) (dI : Nat → Nat → Nat) (ad : Nat → Nat) (cA : Nat → ClassId) (sz : Nat) (u : MS) (p1 : Int32) (p2 : Int32) (p3 : Int32) (T : Int32 × MS) (hf : mf_make u p1 p2 p3 = T) : Met l yM_make wM_make ({ frames := 1, cells := 0, slots := 0, locals := 20 } : Room) (va_Pc [.ref (ad 0), .int p1, .int p2, .int p3] (fun U => U.heap.size = sz ∧ va_P (dC, dI) vwCl (mW ad cA u) U.heap ∧ va_K (dC, dI) vwCl (mT cA) U ∧ va_D (fun _ => True) (mW ad cA u))) (va_Qi (fun r u2 => r = T.1 ∧ u2 = T.2) (mAt dC dI (va_A (mW ad cA u) sz) ad cA) (va_A (mW ad cA u) sz)) 0 0 (va_A (mW ad cA u) sz) := by
  refine Met.ofW (cc := cM_make) (maxL := 4) (ret := (some .boolean)) (by decide) rfl ?_
  intro p e s m args below meth c s₁ B hml hv
  obtain ⟨rfl, hsz, hP, hK, hD0⟩ := hv
  have hx := B.exec
  have hb := B.bytes
  have hr := B.returns
  have hts := atoms_spec (ws := wM_make) B.pre
  have hown : s.vm.findClass RX1 = some m.cls := findClass_of_methodNamed B.named
  have hlocks := B.notSynchronized
  have hin0 : ∀ w ∈ wsX10, w ∈ wM_make := by decide +kernel
  have fl_made := hts (.fieldLink RX1 7 "ProcessRoomModel" "made" "[Z") (by decide +kernel)
  have fl_priorities := hts (.fieldLink RX1 13 "ProcessRoomModel" "priorities" "[I") (by decide +kernel)
  have fl_places := hts (.fieldLink RX1 17 "ProcessRoomModel" "places" "[I") (by decide +kernel)
  have fl_rows := hts (.fieldLink RX1 20 "ProcessRoomModel" "rows" "[I") (by decide +kernel)
  subst hsz
  have hD := hD0.self (sz := s.heap.size)
  generalize hAe : va_A (mW ad cA u) s.heap.size = A at hD ⊢
  have hA : ∀ q : Nat, s.heap.size ≤ q → A q := fun q h => by rw [← hAe]; exact Or.inr h
  have hS : va_S A s.heap s.heap [] := va_S.rf
  have hl := lv_entry ([.ref (ad 0), .int p1, .int p2, .int p3]) (n := 4) (Nat.le_of_ble_eq_true rfl)
  rw [lg_entry_eq]
  generalize (lg_sl ([.ref (ad 0), .int p1, .int p2, .int p3]) ++ List.replicate (4 - (lg_sl ([.ref (ad 0), .int p1, .int p2, .int p3])).length) Slot.unset).toArray = ls at hl ⊢
  have hl : lv_has ls 4 [(0, .ref (ad 0)), (1, .int p1), (2, .int p2), (3, .int p3)] := hl
  refine lv_iload_n hx hb dM_make_0 rfl (lv_at hl 1 rfl) ?_
  refine va_calli (va_runS (As := [.int p1]) (rest := []) ⟨hx, hb, hml, hown, hts⟩ (mc_isProcess l p1 _ rfl) (va_cwS 1 hts gM_make_isProcess rfl rfl rfl (by decide +kernel) ⟨Nat.le_of_ble_eq_true rfl, Nat.le_of_ble_eq_true rfl⟩) ⟨fun a U g mk q => ⟨q.1, trivial⟩, fun U hU hW => ⟨rfl, trivial⟩⟩ rfl rfl hl.1 rfl (lv_room (Nat.le_of_ble_eq_true rfl)) dM_make_1 ⟨Nat.le_of_ble_eq_true rfl, Nat.le_of_ble_eq_true rfl⟩) hS (fun _ _ h => h.elim) (fun _ h => h.elim) (fun r_94 u_ t H1 locs ht hvm hr_94 hB hz1 hk1 hS => ?_)
  have hP := hP.kept (fun k x hx => hk1 x.1 ((hP k x hx).lt) (fun h => h))
  generalize H1 = H at hP hS ⊢
  refine lv_if_eq (tgt := 23) hx hb dM_make_4 (by decide) (fun c_95 => ?_) (fun c_95 => ?_)
  · refine lv_iconst (v := 0) hx hb dM_make_23 (by decide) ?_
    have eT : (0, u) = T := by subst hr_94; rw [← hf]; simp only [mf_make, if_pos c_95]
    exact W.zret (v := 0) hx hb hr (rfl) (fun t ht hW => ⟨⟨0, u, rfl, ⟨congrArg Prod.fst eT, congrArg Prod.snd eT⟩, by rw [ht]; exact hP, va_K.moved hW.alike hK, hD⟩, hS.F ht⟩) hS.2.2 dM_make_24
  · refine lv_aload_n hx hb dM_make_7 rfl (lv_at hl 0 rfl) ?_
    refine va_get (D := (dC, dI)) (ci := 1) (v := .ref (ad 1)) (C := RX1) (T := TX1) (N := 13) (fs := mF ad u) hx hb hts hin0 hown hK hP 0 rfl rfl 0 (by decide) fl_made (fun _ h9 => h9) rfl dM_make_8 ?_
    refine lv_iload_n hx hb dM_make_11 rfl (lv_at hl 1 rfl) ?_
    refine va_zald hx hb hK hP 1 0 rfl rfl (mi_isProcess hr_94 c_95) dM_make_12 ?_
    refine lv_if_ne (tgt := 23) hx hb dM_make_13 (by decide) (fun c_96 => ?_) (fun c_96 => ?_)
    · refine lv_iconst (v := 0) hx hb dM_make_23 (by decide) ?_
      have eT : (0, u) = T := by subst hr_94; rw [← hf]; simp only [mf_make, if_neg c_95, if_neg c_96]
      exact W.zret (v := 0) hx hb hr (rfl) (fun t ht hW => ⟨⟨0, u, rfl, ⟨congrArg Prod.fst eT, congrArg Prod.snd eT⟩, by rw [ht]; exact hP, va_K.moved hW.alike hK, hD⟩, hS.F ht⟩) hS.2.2 dM_make_24
    · refine lv_iload_n hx hb dM_make_16 rfl (lv_at hl 2 rfl) ?_
      refine va_calli (va_runS (As := [.int p2]) (rest := []) ⟨hx, hb, hml, hown, hts⟩ (mc_isPriority l p2 _ rfl) (va_cwS 1 hts gM_make_isPriority rfl rfl rfl (by decide +kernel) ⟨Nat.le_of_ble_eq_true rfl, Nat.le_of_ble_eq_true rfl⟩) ⟨fun a U g mk q => ⟨q.1, trivial⟩, fun U hU hW => ⟨rfl, trivial⟩⟩ rfl rfl hl.1 rfl (lv_room (Nat.le_of_ble_eq_true rfl)) dM_make_17 ⟨Nat.le_of_ble_eq_true rfl, Nat.le_of_ble_eq_true rfl⟩) hS (fun _ _ h => h.elim) (fun _ h => h.elim) (fun r_97 u_ t H1 locs ht hvm hr_97 hB hz1 hk1 hS => ?_)
      have hP := hP.kept (fun k x hx => hk1 x.1 ((hP k x hx).lt) (fun h => h))
      generalize H1 = H at hP hS ⊢
      refine lv_if_ne (tgt := 25) hx hb dM_make_20 (by decide) (fun c_98 => ?_) (fun c_98 => ?_)
      · refine lv_aload_n hx hb dM_make_25 rfl (lv_at hl 0 rfl) ?_
        refine va_get (D := (dC, dI)) (ci := 1) (v := .ref (ad 1)) (C := RX1) (T := TX1) (N := 13) (fs := mF ad u) hx hb hts hin0 hown hK hP 0 rfl rfl 0 (by decide) fl_made (fun _ h9 => h9) rfl dM_make_26 ?_
        refine lv_iload_n hx hb dM_make_29 rfl (lv_at hl 1 rfl) ?_
        refine lv_iconst (v := 1) hx hb dM_make_30 (by decide) ?_
        refine va_zast hx hb hK hP hD hS 1 0 rfl rfl (mi_isProcess hr_94 c_95) dM_make_31 (fun H locs hP hD hS => ?_)
        rw [k_nz1] at hP hD
        rw [mw_made] at hP hD
        obtain ⟨u_99, hu_99⟩ : ∃ w : MS, w = ms_made u (upd (ma_made u) p1.toNatClampNeg 1) := ⟨_, rfl⟩
        rw [← hu_99] at hP hD
        refine lv_aload_n hx hb dM_make_32 rfl (lv_at hl 0 rfl) ?_
        refine va_get (D := (dC, dI)) (ci := 1) (v := .ref (ad 2)) (C := RX1) (T := TX1) (N := 13) (fs := mF ad u_99) hx hb hts hin0 hown hK hP 0 rfl rfl 1 (by decide) fl_priorities (fun _ h9 => h9) rfl dM_make_33 ?_
        refine lv_iload_n hx hb dM_make_36 rfl (lv_at hl 1 rfl) ?_
        refine lv_iload_n hx hb dM_make_37 rfl (lv_at hl 2 rfl) ?_
        refine va_iast hx hb hK hP hD hS 2 1 (show (mW ad cA u_99)[2]? = some (ad 2, .inl (cA 2, 32, .inl (ma_priorities u))) from by rw [← (show ma_priorities u_99 = ma_priorities u from by rw [hu_99, mq_priorities_made])]; rfl) rfl (mi_isProcess hr_94 c_95) dM_make_38 (fun H locs hP hD hS => ?_)
        rw [mw_priorities] at hP hD
        obtain ⟨u_100, hu_100⟩ : ∃ w : MS, w = ms_priorities u_99 (upd (ma_priorities u) p1.toNatClampNeg p2) := ⟨_, rfl⟩
        rw [← hu_100] at hP hD
        refine lv_aload_n hx hb dM_make_39 rfl (lv_at hl 0 rfl) ?_
        refine va_get (D := (dC, dI)) (ci := 1) (v := .ref (ad 3)) (C := RX1) (T := TX1) (N := 13) (fs := mF ad u_100) hx hb hts hin0 hown hK hP 0 rfl rfl 2 (by decide) fl_places (fun _ h9 => h9) rfl dM_make_40 ?_
        refine lv_iload_n hx hb dM_make_43 rfl (lv_at hl 1 rfl) ?_
        refine lv_iload_n hx hb dM_make_44 rfl (lv_at hl 3 rfl) ?_
        refine va_iast hx hb hK hP hD hS 3 2 (show (mW ad cA u_100)[3]? = some (ad 3, .inl (cA 3, 32, .inl (ma_places u))) from by rw [← (show ma_places u_100 = ma_places u from by rw [hu_100, mq_places_priorities, hu_99, mq_places_made])]; rfl) rfl (mi_isProcess hr_94 c_95) dM_make_45 (fun H locs hP hD hS => ?_)
        rw [mw_places] at hP hD
        obtain ⟨u_101, hu_101⟩ : ∃ w : MS, w = ms_places u_100 (upd (ma_places u) p1.toNatClampNeg p3) := ⟨_, rfl⟩
        rw [← hu_101] at hP hD
        refine lv_aload_n hx hb dM_make_46 rfl (lv_at hl 0 rfl) ?_
        refine va_get (D := (dC, dI)) (ci := 1) (v := .ref (ad 4)) (C := RX1) (T := TX1) (N := 13) (fs := mF ad u_101) hx hb hts hin0 hown hK hP 0 rfl rfl 3 (by decide) fl_rows (fun _ h9 => h9) rfl dM_make_47 ?_
        refine lv_iload_n hx hb dM_make_50 rfl (lv_at hl 1 rfl) ?_
        refine lv_iconst (v := 0) hx hb dM_make_51 (by decide) ?_
        refine va_iast hx hb hK hP hD hS 4 3 (show (mW ad cA u_101)[4]? = some (ad 4, .inl (cA 4, 32, .inl (ma_rows u))) from by rw [← (show ma_rows u_101 = ma_rows u from by rw [hu_101, mq_rows_places, hu_100, mq_rows_priorities, hu_99, mq_rows_made])]; rfl) rfl (mi_isProcess hr_94 c_95) dM_make_52 (fun H locs hP hD hS => ?_)
        rw [mw_rows] at hP hD
        obtain ⟨u_102, hu_102⟩ : ∃ w : MS, w = ms_rows u_101 (upd (ma_rows u) p1.toNatClampNeg 0) := ⟨_, rfl⟩
        rw [← hu_102] at hP hD
        refine lv_iconst (v := 1) hx hb dM_make_53 (by decide) ?_
        have eT : (1, u_102) = T := by subst hr_94 hr_97 hu_99 hu_100 hu_101 hu_102; rw [← hf]; simp only [mf_make, if_neg c_95, if_pos c_96, if_neg c_98]
        exact W.zret (v := 1) hx hb hr (rfl) (fun t ht hW => ⟨⟨1, u_102, rfl, ⟨congrArg Prod.fst eT, congrArg Prod.snd eT⟩, by rw [ht]; exact hP, va_K.moved hW.alike hK, hD⟩, hS.F ht⟩) hS.2.2 dM_make_54
      · refine lv_iconst (v := 0) hx hb dM_make_23 (by decide) ?_
        have eT : (0, u) = T := by subst hr_94 hr_97; rw [← hf]; simp only [mf_make, if_neg c_95, if_pos c_96, if_pos c_98]
        exact W.zret (v := 0) hx hb hr (rfl) (fun t ht hW => ⟨⟨0, u, rfl, ⟨congrArg Prod.fst eT, congrArg Prod.snd eT⟩, by rw [ht]; exact hP, va_K.moved hW.alike hK, hD⟩, hS.F ht⟩) hS.2.2 dM_make_24
set_option maxHeartbeats 4000000 in
set_option maxRecDepth 100000 in
theorem mc_resume (l : Launch) (dC : Nat → ClassId) (dI : Nat → Nat → Nat) (ad : Nat → Nat) (cA : Nat → ClassId) (sz : Nat) (u : MS) (p1 : Int32) (hI : mInv u) (T : Int32 × MS) (hf : mf_resume u p1 = T) : Met l yM_resume wM_resume ({ frames := 2, cells := 0, slots := 0, locals := 44 } : Room) (va_Pc [.ref (ad 0), .int p1] (fun U => U.heap.size = sz ∧ va_P (dC, dI) vwCl (mW ad cA u) U.heap ∧ va_K (dC, dI) vwCl (mT cA) U ∧ va_D (fun _ => True) (mW ad cA u))) (va_Qi (fun r u2 => r = T.1 ∧ u2 = T.2) (mAt dC dI (va_A (mW ad cA u) sz) ad cA) (va_A (mW ad cA u) sz)) 0 0 (va_A (mW ad cA u) sz) := by
  refine Met.ofW (cc := cM_resume) (maxL := 2) (ret := (some .boolean)) (by decide) rfl ?_
  intro p e s m args below meth c s₁ B hml hv
  obtain ⟨rfl, hsz, hP, hK, hD0⟩ := hv
  have hx := B.exec
  have hb := B.bytes
  have hr := B.returns
  have hts := atoms_spec (ws := wM_resume) B.pre
  have hown : s.vm.findClass RX1 = some m.cls := findClass_of_methodNamed B.named
  have hlocks := B.notSynchronized
  have hin0 : ∀ w ∈ wsX10, w ∈ wM_resume := by decide +kernel
  have fl_rows := hts (.fieldLink RX1 20 "ProcessRoomModel" "rows" "[I") (by decide +kernel)
  have fl_active := hts (.fieldLink RX1 33 "ProcessRoomModel" "active" "I") (by decide +kernel)
  subst hsz
  have hD := hD0.self (sz := s.heap.size)
  generalize hAe : va_A (mW ad cA u) s.heap.size = A at hD ⊢
  have hA : ∀ q : Nat, s.heap.size ≤ q → A q := fun q h => by rw [← hAe]; exact Or.inr h
  have hS : va_S A s.heap s.heap [] := va_S.rf
  have hl := lv_entry ([.ref (ad 0), .int p1]) (n := 2) (Nat.le_of_ble_eq_true rfl)
  rw [lg_entry_eq]
  generalize (lg_sl ([.ref (ad 0), .int p1]) ++ List.replicate (2 - (lg_sl ([.ref (ad 0), .int p1])).length) Slot.unset).toArray = ls at hl ⊢
  have hl : lv_has ls 2 [(0, .ref (ad 0)), (1, .int p1)] := hl
  refine lv_aload_n hx hb dM_resume_0 rfl (lv_at hl 0 rfl) ?_
  refine lv_iload_n hx hb dM_resume_1 rfl (lv_at hl 1 rfl) ?_
  refine va_calli (va_runV (As := [.int p1]) (rest := []) ⟨hx, hb, hml, hown, hts⟩ (mc_isMade l dC dI ad cA u p1 _ rfl) (cwV 1 hts gM_resume_isMade rfl rfl rfl (by decide +kernel) ⟨Nat.le_of_ble_eq_true rfl, Nat.le_of_ble_eq_true rfl⟩) ⟨fun a U g mk q => by obtain ⟨q0, qP, qK⟩ := q; exact ⟨q0, qP, va_K.moved (u := U) (U := U.calling g mk a) (Vm.Alike.refl U.vm) qK⟩, va_recv hK hP (ci := 1) (q0 := 0) rfl rfl, fun U hU hW => ⟨rfl, by rw [hU]; exact hP, va_K.moved hW.alike hK⟩⟩ rfl rfl hl.1 rfl (lv_room (Nat.le_of_ble_eq_true rfl)) dM_resume_2 ⟨Nat.le_of_ble_eq_true rfl, Nat.le_of_ble_eq_true rfl⟩) hS (fun _ _ h => h.elim) (fun _ h => h.elim) (fun r_103 u_ t H1 locs ht hvm hr_103 hB hz1 hk1 hS => ?_)
  have hP := hP.kept (fun k x hx => hk1 x.1 ((hP k x hx).lt) (fun h => h))
  generalize H1 = H at hP hS ⊢
  refine lv_if_eq (tgt := 33) hx hb dM_resume_5 (by decide) (fun c_104 => ?_) (fun c_104 => ?_)
  · refine lv_iconst (v := 0) hx hb dM_resume_33 (by decide) ?_
    have eT : (0, u) = T := by subst hr_103; rw [← hf]; simp only [mf_resume, if_pos c_104]
    exact W.zret (v := 0) hx hb hr (rfl) (fun t ht hW => ⟨⟨0, u, rfl, ⟨congrArg Prod.fst eT, congrArg Prod.snd eT⟩, by rw [ht]; exact hP, va_K.moved hW.alike hK, hD⟩, hS.F ht⟩) hS.2.2 dM_resume_34
  · refine lv_aload_n hx hb dM_resume_8 rfl (lv_at hl 0 rfl) ?_
    refine va_get (D := (dC, dI)) (ci := 1) (v := .ref (ad 4)) (C := RX1) (T := TX1) (N := 13) (fs := mF ad u) hx hb hts hin0 hown hK hP 0 rfl rfl 3 (by decide) fl_rows (fun _ h9 => h9) rfl dM_resume_9 ?_
    refine lv_iload_n hx hb dM_resume_12 rfl (lv_at hl 1 rfl) ?_
    refine va_iald hx hb hK hP 4 3 rfl rfl (mi_isMade hr_103 c_104) dM_resume_13 ?_
    refine lv_if_ne (tgt := 33) hx hb dM_resume_14 (by decide) (fun c_105 => ?_) (fun c_105 => ?_)
    · refine lv_iconst (v := 0) hx hb dM_resume_33 (by decide) ?_
      have eT : (0, u) = T := by subst hr_103; rw [← hf]; simp only [mf_resume, if_neg c_104, if_neg c_105]
      exact W.zret (v := 0) hx hb hr (rfl) (fun t ht hW => ⟨⟨0, u, rfl, ⟨congrArg Prod.fst eT, congrArg Prod.snd eT⟩, by rw [ht]; exact hP, va_K.moved hW.alike hK, hD⟩, hS.F ht⟩) hS.2.2 dM_resume_34
    · refine lv_iload_n hx hb dM_resume_17 rfl (lv_at hl 1 rfl) ?_
      refine lv_aload_n hx hb dM_resume_18 rfl (lv_at hl 0 rfl) ?_
      refine va_calli (va_runV (As := []) (rest := [.int p1]) ⟨hx, hb, hml, hown, hts⟩ (mc_presentOne l dC dI ad cA u _ rfl) (cwV 0 hts gM_resume_presentOne rfl rfl rfl (by decide +kernel) ⟨Nat.le_of_ble_eq_true rfl, Nat.le_of_ble_eq_true rfl⟩) ⟨fun a U g mk q => by obtain ⟨q0, qP, qK⟩ := q; exact ⟨q0, qP, va_K.moved (u := U) (U := U.calling g mk a) (Vm.Alike.refl U.vm) qK⟩, va_recv hK hP (ci := 1) (q0 := 0) rfl rfl, fun U hU hW => ⟨rfl, by rw [hU]; exact hP, va_K.moved hW.alike hK⟩⟩ rfl rfl hl.1 rfl (lv_room (Nat.le_of_ble_eq_true rfl)) dM_resume_19 ⟨Nat.le_of_ble_eq_true rfl, Nat.le_of_ble_eq_true rfl⟩) hS (fun _ _ h => h.elim) (fun _ h => h.elim) (fun r_106 u_ t H1 locs ht hvm hr_106 hB hz1 hk1 hS => ?_)
      have hP := hP.kept (fun k x hx => hk1 x.1 ((hP k x hx).lt) (fun h => h))
      generalize H1 = H at hP hS ⊢
      refine lv_icmp_eq (tgt := 33) hx hb dM_resume_22 (by decide) (fun c_107 => ?_) (fun c_107 => ?_)
      · refine lv_iconst (v := 0) hx hb dM_resume_33 (by decide) ?_
        have eT : (0, u) = T := by subst hr_103 hr_106; rw [← hf]; simp only [mf_resume, if_neg c_104, if_pos c_105, if_pos c_107]
        exact W.zret (v := 0) hx hb hr (rfl) (fun t ht hW => ⟨⟨0, u, rfl, ⟨congrArg Prod.fst eT, congrArg Prod.snd eT⟩, by rw [ht]; exact hP, va_K.moved hW.alike hK, hD⟩, hS.F ht⟩) hS.2.2 dM_resume_34
      · refine lv_iload_n hx hb dM_resume_25 rfl (lv_at hl 1 rfl) ?_
        refine lv_aload_n hx hb dM_resume_26 rfl (lv_at hl 0 rfl) ?_
        refine va_get (D := (dC, dI)) (ci := 1) (v := .int (ma_active u)) (C := RX1) (T := TX1) (N := 13) (fs := mF ad u) hx hb hts hin0 hown hK hP 0 rfl rfl 9 (by decide) fl_active (fun _ h9 => h9) rfl dM_resume_27 ?_
        refine lv_icmp_ne (tgt := 35) hx hb dM_resume_30 (by decide) (fun c_108 => ?_) (fun c_108 => ?_)
        · refine lv_aload_n hx hb dM_resume_35 rfl (lv_at hl 0 rfl) ?_
          refine lv_iload_n hx hb dM_resume_36 rfl (lv_at hl 1 rfl) ?_
          have hFc := va_free (wc := (mW ad cA u)) hD hS hA [0, 1, 2, 3, 4, 5, 6, 7] rfl
          refine va_callv (va_runV (As := [.int p1]) (rest := []) ⟨hx, hb, hml, hown, hts⟩ (mc_wake l dC dI ad cA _ u p1 hI (mi_isMade hr_103 c_104) _ rfl) (cwV 1 hts gM_resume_wake rfl rfl rfl (by decide +kernel) ⟨Nat.le_of_ble_eq_true rfl, Nat.le_of_ble_eq_true rfl⟩) ⟨fun a U g mk q => by obtain ⟨q0, q1, qP, qK, qD⟩ := q; exact ⟨q0, q1, qP, va_K.moved (u := U) (U := U.calling g mk a) (Vm.Alike.refl U.vm) qK, qD⟩, va_recv hK hP (ci := 1) (q0 := 0) rfl rfl, fun U hU hW => ⟨rfl, by rw [hU], by rw [hU]; exact hP, va_K.moved hW.alike hK, hD.weaken (fun _ _ _ _ => trivial)⟩⟩ rfl rfl hl.1 rfl (lv_room (Nat.le_of_ble_eq_true rfl)) dM_resume_37 ⟨Nat.le_of_ble_eq_true rfl, Nat.le_of_ble_eq_true rfl⟩) hS (fun q _ h => hFc q h) hFc (fun u_110 t H1 locs ht hvm hu_110 hB hz1 hk1 hS => ?_)
          obtain ⟨hP, hK1, hD1⟩ := hB
          rw [ht] at hP
          have hD := hD1.weaken (fun _ _ _ h => hFc _ h)
          generalize H1 = H at hP hS ⊢
          have hP : va_P (dC, dI) vwCl (mW ad cA u_110) H := hP
          have hD : va_D A (mW ad cA u_110) := hD
          refine lv_iconst (v := 1) hx hb dM_resume_40 (by decide) ?_
          have eT : (1, u_110) = T := by subst hr_103 hr_106 hu_110; rw [← hf]; simp only [mf_resume, if_neg c_104, if_pos c_105, if_neg c_107, if_neg c_108]
          exact W.zret (v := 1) hx hb hr (rfl) (fun t ht hW => ⟨⟨1, u_110, rfl, ⟨congrArg Prod.fst eT, congrArg Prod.snd eT⟩, by rw [ht]; exact hP, va_K.moved hW.alike hK, hD⟩, hS.F ht⟩) hS.2.2 dM_resume_41
        · refine lv_iconst (v := 0) hx hb dM_resume_33 (by decide) ?_
          have eT : (0, u) = T := by subst hr_103 hr_106; rw [← hf]; simp only [mf_resume, if_neg c_104, if_pos c_105, if_neg c_107, if_pos c_108]
          exact W.zret (v := 0) hx hb hr (rfl) (fun t ht hW => ⟨⟨0, u, rfl, ⟨congrArg Prod.fst eT, congrArg Prod.snd eT⟩, by rw [ht]; exact hP, va_K.moved hW.alike hK, hD⟩, hS.F ht⟩) hS.2.2 dM_resume_34
set_option maxHeartbeats 4000000 in
set_option maxRecDepth 100000 in
theorem mc_suspend (l : Launch) (dC : Nat → ClassId) (dI : Nat → Nat → Nat) (ad : Nat → Nat) (cA : Nat → ClassId) (sz : Nat) (u : MS)  (T : Int32 × MS) (hf : mf_suspend u = T) : Met l yM_suspend wM_suspend ({ frames := 2, cells := 0, slots := 0, locals := 50 } : Room) (va_Pc [.ref (ad 0)] (fun U => U.heap.size = sz ∧ va_P (dC, dI) vwCl (mW ad cA u) U.heap ∧ va_K (dC, dI) vwCl (mT cA) U ∧ va_D (fun _ => True) (mW ad cA u))) (va_Qi (fun r u2 => r = T.1 ∧ u2 = T.2) (mAt dC dI (va_A (mW ad cA u) sz) ad cA) (va_A (mW ad cA u) sz)) 0 0 (va_A (mW ad cA u) sz) := by
  refine Met.ofW (cc := cM_suspend) (maxL := 2) (ret := (some .int)) (by decide) rfl ?_
  intro p e s m args below meth c s₁ B hml hv
  obtain ⟨rfl, hsz, hP, hK, hD0⟩ := hv
  have hx := B.exec
  have hb := B.bytes
  have hr := B.returns
  have hts := atoms_spec (ws := wM_suspend) B.pre
  have hown : s.vm.findClass RX1 = some m.cls := findClass_of_methodNamed B.named
  have hlocks := B.notSynchronized
  subst hsz
  have hD := hD0.self (sz := s.heap.size)
  generalize hAe : va_A (mW ad cA u) s.heap.size = A at hD ⊢
  have hA : ∀ q : Nat, s.heap.size ≤ q → A q := fun q h => by rw [← hAe]; exact Or.inr h
  have hS : va_S A s.heap s.heap [] := va_S.rf
  have hl := lv_entry ([.ref (ad 0)]) (n := 2) (Nat.le_of_ble_eq_true rfl)
  rw [lg_entry_eq]
  generalize (lg_sl ([.ref (ad 0)]) ++ List.replicate (2 - (lg_sl ([.ref (ad 0)])).length) Slot.unset).toArray = ls at hl ⊢
  have hl : lv_has ls 2 [(0, .ref (ad 0))] := hl
  refine lv_aload_n hx hb dM_suspend_0 rfl (lv_at hl 0 rfl) ?_
  refine va_calli (va_runV (As := []) (rest := []) ⟨hx, hb, hml, hown, hts⟩ (mc_presentOne l dC dI ad cA u _ rfl) (cwV 0 hts gM_suspend_presentOne rfl rfl rfl (by decide +kernel) ⟨Nat.le_of_ble_eq_true rfl, Nat.le_of_ble_eq_true rfl⟩) ⟨fun a U g mk q => by obtain ⟨q0, qP, qK⟩ := q; exact ⟨q0, qP, va_K.moved (u := U) (U := U.calling g mk a) (Vm.Alike.refl U.vm) qK⟩, va_recv hK hP (ci := 1) (q0 := 0) rfl rfl, fun U hU hW => ⟨rfl, by rw [hU]; exact hP, va_K.moved hW.alike hK⟩⟩ rfl rfl hl.1 rfl (lv_room (Nat.le_of_ble_eq_true rfl)) dM_suspend_1 ⟨Nat.le_of_ble_eq_true rfl, Nat.le_of_ble_eq_true rfl⟩) hS (fun _ _ h => h.elim) (fun _ h => h.elim) (fun r_111 u_ t H1 locs ht hvm hr_111 hB hz1 hk1 hS => ?_)
  have hP := hP.kept (fun k x hx => hk1 x.1 ((hP k x hx).lt) (fun h => h))
  generalize H1 = H at hP hS ⊢
  refine lv_istore_n (lv' := [(1, .int r_111), (0, .ref (ad 0))]) hx hb dM_suspend_4 rfl hl (by decide) rfl (fun ls hl => ?_)
  refine lv_iload_n hx hb dM_suspend_5 rfl (lv_at hl 0 rfl) ?_
  refine lv_if_lt (tgt := 13) hx hb dM_suspend_6 (by decide) (fun c_112 => ?_) (fun c_112 => ?_)
  · refine lv_iload_n hx hb dM_suspend_13 rfl (lv_at hl 0 rfl) ?_
    have eT : (r_111, u) = T := by subst hr_111; rw [← hf]; simp only [mf_suspend, if_pos c_112]
    exact W.iret (v := r_111) hx hb hr (fun t ht hW => ⟨⟨r_111, u, rfl, ⟨congrArg Prod.fst eT, congrArg Prod.snd eT⟩, by rw [ht]; exact hP, va_K.moved hW.alike hK, hD⟩, hS.F ht⟩) hS.2.2 dM_suspend_14
  · refine lv_aload_n hx hb dM_suspend_9 rfl (lv_at hl 1 rfl) ?_
    have hFc := va_free (wc := (mW ad cA u)) hD hS hA [0, 1, 2, 3, 4, 5, 6, 7] rfl
    refine va_callv (va_runV (As := []) (rest := []) ⟨hx, hb, hml, hown, hts⟩ (mc_putAside l dC dI ad cA _ u _ rfl) (cwV 0 hts gM_suspend_putAside rfl rfl rfl (by decide +kernel) ⟨Nat.le_of_ble_eq_true rfl, Nat.le_of_ble_eq_true rfl⟩) ⟨fun a U g mk q => by obtain ⟨q0, q1, qP, qK, qD⟩ := q; exact ⟨q0, q1, qP, va_K.moved (u := U) (U := U.calling g mk a) (Vm.Alike.refl U.vm) qK, qD⟩, va_recv hK hP (ci := 1) (q0 := 0) rfl rfl, fun U hU hW => ⟨rfl, by rw [hU], by rw [hU]; exact hP, va_K.moved hW.alike hK, hD.weaken (fun _ _ _ _ => trivial)⟩⟩ rfl rfl hl.1 rfl (lv_room (Nat.le_of_ble_eq_true rfl)) dM_suspend_10 ⟨Nat.le_of_ble_eq_true rfl, Nat.le_of_ble_eq_true rfl⟩) hS (fun q _ h => hFc q h) hFc (fun u_114 t H1 locs ht hvm hu_114 hB hz1 hk1 hS => ?_)
    obtain ⟨hP, hK1, hD1⟩ := hB
    rw [ht] at hP
    have hD := hD1.weaken (fun _ _ _ h => hFc _ h)
    generalize H1 = H at hP hS ⊢
    have hP : va_P (dC, dI) vwCl (mW ad cA u_114) H := hP
    have hD : va_D A (mW ad cA u_114) := hD
    refine lv_iload_n hx hb dM_suspend_13 rfl (lv_at hl 0 rfl) ?_
    have eT : (r_111, u_114) = T := by subst hr_111 hu_114; rw [← hf]; simp only [mf_suspend, if_neg c_112]
    exact W.iret (v := r_111) hx hb hr (fun t ht hW => ⟨⟨r_111, u_114, rfl, ⟨congrArg Prod.fst eT, congrArg Prod.snd eT⟩, by rw [ht]; exact hP, va_K.moved hW.alike hK, hD⟩, hS.F ht⟩) hS.2.2 dM_suspend_14
set_option maxHeartbeats 4000000 in
set_option maxRecDepth 100000 in
theorem mc_end (l : Launch) (dC : Nat → ClassId) (dI : Nat → Nat → Nat) (ad : Nat → Nat) (cA : Nat → ClassId) (sz : Nat) (u : MS)  (hI : mInv u) (T : Int32 × MS) (hf : mf_end u = T) : Met l yM_end wM_end ({ frames := 2, cells := 0, slots := 0, locals := 50 } : Room) (va_Pc [.ref (ad 0)] (fun U => U.heap.size = sz ∧ va_P (dC, dI) vwCl (mW ad cA u) U.heap ∧ va_K (dC, dI) vwCl (mT cA) U ∧ va_D (fun _ => True) (mW ad cA u))) (va_Qi (fun r u2 => r = T.1 ∧ u2 = T.2) (mAt dC dI (va_A (mW ad cA u) sz) ad cA) (va_A (mW ad cA u) sz)) 0 0 (va_A (mW ad cA u) sz) := by
  refine Met.ofW (cc := cM_end) (maxL := 2) (ret := (some .int)) (by decide) rfl ?_
  intro p e s m args below meth c s₁ B hml hv
  obtain ⟨rfl, hsz, hP, hK, hD0⟩ := hv
  have hx := B.exec
  have hb := B.bytes
  have hr := B.returns
  have hts := atoms_spec (ws := wM_end) B.pre
  have hown : s.vm.findClass RX1 = some m.cls := findClass_of_methodNamed B.named
  have hlocks := B.notSynchronized
  have hin0 : ∀ w ∈ wsX10, w ∈ wM_end := by decide +kernel
  have fl_made := hts (.fieldLink RX1 7 "ProcessRoomModel" "made" "[Z") (by decide +kernel)
  have fl_active := hts (.fieldLink RX1 33 "ProcessRoomModel" "active" "I") (by decide +kernel)
  subst hsz
  have hD := hD0.self (sz := s.heap.size)
  generalize hAe : va_A (mW ad cA u) s.heap.size = A at hD ⊢
  have hA : ∀ q : Nat, s.heap.size ≤ q → A q := fun q h => by rw [← hAe]; exact Or.inr h
  have hS : va_S A s.heap s.heap [] := va_S.rf
  have hl := lv_entry ([.ref (ad 0)]) (n := 2) (Nat.le_of_ble_eq_true rfl)
  rw [lg_entry_eq]
  generalize (lg_sl ([.ref (ad 0)]) ++ List.replicate (2 - (lg_sl ([.ref (ad 0)])).length) Slot.unset).toArray = ls at hl ⊢
  have hl : lv_has ls 2 [(0, .ref (ad 0))] := hl
  refine lv_aload_n hx hb dM_end_0 rfl (lv_at hl 0 rfl) ?_
  refine va_calli (va_runV (As := []) (rest := []) ⟨hx, hb, hml, hown, hts⟩ (mc_presentOne l dC dI ad cA u _ rfl) (cwV 0 hts gM_end_presentOne rfl rfl rfl (by decide +kernel) ⟨Nat.le_of_ble_eq_true rfl, Nat.le_of_ble_eq_true rfl⟩) ⟨fun a U g mk q => by obtain ⟨q0, qP, qK⟩ := q; exact ⟨q0, qP, va_K.moved (u := U) (U := U.calling g mk a) (Vm.Alike.refl U.vm) qK⟩, va_recv hK hP (ci := 1) (q0 := 0) rfl rfl, fun U hU hW => ⟨rfl, by rw [hU]; exact hP, va_K.moved hW.alike hK⟩⟩ rfl rfl hl.1 rfl (lv_room (Nat.le_of_ble_eq_true rfl)) dM_end_1 ⟨Nat.le_of_ble_eq_true rfl, Nat.le_of_ble_eq_true rfl⟩) hS (fun _ _ h => h.elim) (fun _ h => h.elim) (fun r_115 u_ t H1 locs ht hvm hr_115 hB hz1 hk1 hS => ?_)
  have hP := hP.kept (fun k x hx => hk1 x.1 ((hP k x hx).lt) (fun h => h))
  generalize H1 = H at hP hS ⊢
  refine lv_istore_n (lv' := [(1, .int r_115), (0, .ref (ad 0))]) hx hb dM_end_4 rfl hl (by decide) rfl (fun ls hl => ?_)
  refine lv_iload_n hx hb dM_end_5 rfl (lv_at hl 0 rfl) ?_
  refine lv_if_lt (tgt := 40) hx hb dM_end_6 (by decide) (fun c_116 => ?_) (fun c_116 => ?_)
  · refine lv_iload_n hx hb dM_end_40 rfl (lv_at hl 0 rfl) ?_
    have eT : (r_115, u) = T := by subst hr_115; rw [← hf]; simp only [mf_end, if_pos c_116]
    exact W.iret (v := r_115) hx hb hr (fun t ht hW => ⟨⟨r_115, u, rfl, ⟨congrArg Prod.fst eT, congrArg Prod.snd eT⟩, by rw [ht]; exact hP, va_K.moved hW.alike hK, hD⟩, hS.F ht⟩) hS.2.2 dM_end_41
  · refine lv_aload_n hx hb dM_end_9 rfl (lv_at hl 1 rfl) ?_
    refine va_get (D := (dC, dI)) (ci := 1) (v := .ref (ad 1)) (C := RX1) (T := TX1) (N := 13) (fs := mF ad u) hx hb hts hin0 hown hK hP 0 rfl rfl 0 (by decide) fl_made (fun _ h9 => h9) rfl dM_end_10 ?_
    refine lv_iload_n hx hb dM_end_13 rfl (lv_at hl 0 rfl) ?_
    refine lv_iconst (v := 0) hx hb dM_end_14 (by decide) ?_
    refine va_zast hx hb hK hP hD hS 1 0 rfl rfl (mi_presentOne hr_115 hI c_116) dM_end_15 (fun H locs hP hD hS => ?_)
    rw [k_nz0] at hP hD
    rw [mw_made] at hP hD
    obtain ⟨u_117, hu_117⟩ : ∃ w : MS, w = ms_made u (upd (ma_made u) r_115.toNatClampNeg 0) := ⟨_, rfl⟩
    rw [← hu_117] at hP hD
    refine lv_aload_n hx hb dM_end_16 rfl (lv_at hl 1 rfl) ?_
    have hFc := va_free (wc := (mW ad cA u_117)) hD hS hA [0, 1, 2, 3, 4, 5, 6, 7] rfl
    refine va_callv (va_runV (As := []) (rest := []) ⟨hx, hb, hml, hown, hts⟩ (mc_putAside l dC dI ad cA _ u_117 _ rfl) (cwV 0 hts gM_end_putAside rfl rfl rfl (by decide +kernel) ⟨Nat.le_of_ble_eq_true rfl, Nat.le_of_ble_eq_true rfl⟩) ⟨fun a U g mk q => by obtain ⟨q0, q1, qP, qK, qD⟩ := q; exact ⟨q0, q1, qP, va_K.moved (u := U) (U := U.calling g mk a) (Vm.Alike.refl U.vm) qK, qD⟩, va_recv hK hP (ci := 1) (q0 := 0) rfl rfl, fun U hU hW => ⟨rfl, by rw [hU], by rw [hU]; exact hP, va_K.moved hW.alike hK, hD.weaken (fun _ _ _ _ => trivial)⟩⟩ rfl rfl hl.1 rfl (lv_room (Nat.le_of_ble_eq_true rfl)) dM_end_17 ⟨Nat.le_of_ble_eq_true rfl, Nat.le_of_ble_eq_true rfl⟩) hS (fun q _ h => hFc q h) hFc (fun u_119 t H1 locs ht hvm hu_119 hB hz1 hk1 hS => ?_)
    obtain ⟨hP, hK1, hD1⟩ := hB
    rw [ht] at hP
    have hD := hD1.weaken (fun _ _ _ h => hFc _ h)
    generalize H1 = H at hP hS ⊢
    have hP : va_P (dC, dI) vwCl (mW ad cA u_119) H := hP
    have hD : va_D A (mW ad cA u_119) := hD
    refine lv_aload_n hx hb dM_end_20 rfl (lv_at hl 1 rfl) ?_
    refine lv_iload_n hx hb dM_end_21 rfl (lv_at hl 0 rfl) ?_
    refine lv_aload_n hx hb dM_end_22 rfl (lv_at hl 1 rfl) ?_
    refine va_get (D := (dC, dI)) (ci := 1) (v := .int (ma_active u_119)) (C := RX1) (T := TX1) (N := 13) (fs := mF ad u_119) hx hb hts hin0 hown hK hP 0 rfl rfl 9 (by decide) fl_active (fun _ h9 => h9) rfl dM_end_23 ?_
    refine lv_icmp_ne (tgt := 33) hx hb dM_end_26 (by decide) (fun c_120 => ?_) (fun c_120 => ?_)
    · refine lv_aload_n hx hb dM_end_33 rfl (lv_at hl 1 rfl) ?_
      refine va_get (D := (dC, dI)) (ci := 1) (v := .int (ma_active u_119)) (C := RX1) (T := TX1) (N := 13) (fs := mF ad u_119) hx hb hts hin0 hown hK hP 0 rfl rfl 9 (by decide) fl_active (fun _ h9 => h9) rfl dM_end_34 ?_
      refine va_put (D := (dC, dI)) (ci := 1) (v := .int (ma_active u_119)) (ty := .int) (C := RX1) (T := TX1) (N := 13) (fs := mF ad u_119) hx hb hts hin0 tyX1 tyX1_ok nmX1 hown hK hP hD hS 0 rfl rfl 9 (by decide) fl_active (fun _ h9 => h9) rfl (by decide +kernel) rfl rfl (Nat.le_of_ble_eq_true rfl) dM_end_37 (fun H locs hP hD hS => ?_)
      rw [mw_active] at hP hD
      obtain ⟨u_121, hu_121⟩ : ∃ w : MS, w = ms_active u_119 (ma_active u_119) := ⟨_, rfl⟩
      rw [← hu_121] at hP hD
      refine lv_iload_n hx hb dM_end_40 rfl (lv_at hl 0 rfl) ?_
      have eT : (r_115, u_121) = T := by subst hr_115 hu_117 hu_119 hu_121; rw [← hf]; simp only [mf_end, if_neg c_116, if_neg c_120]
      exact W.iret (v := r_115) hx hb hr (fun t ht hW => ⟨⟨r_115, u_121, rfl, ⟨congrArg Prod.fst eT, congrArg Prod.snd eT⟩, by rw [ht]; exact hP, va_K.moved hW.alike hK, hD⟩, hS.F ht⟩) hS.2.2 dM_end_41
    · refine lv_iconst (v := (-1)) hx hb dM_end_29 (by decide) ?_
      refine lv_goto (tgt := 37) hx hb dM_end_30 (by decide) ?_
      refine va_put (D := (dC, dI)) (ci := 1) (v := .int (-1)) (ty := .int) (C := RX1) (T := TX1) (N := 13) (fs := mF ad u_119) hx hb hts hin0 tyX1 tyX1_ok nmX1 hown hK hP hD hS 0 rfl rfl 9 (by decide) fl_active (fun _ h9 => h9) rfl (by decide +kernel) rfl rfl (Nat.le_of_ble_eq_true rfl) dM_end_37 (fun H locs hP hD hS => ?_)
      rw [mw_active] at hP hD
      obtain ⟨u_122, hu_122⟩ : ∃ w : MS, w = ms_active u_119 (-1) := ⟨_, rfl⟩
      rw [← hu_122] at hP hD
      refine lv_iload_n hx hb dM_end_40 rfl (lv_at hl 0 rfl) ?_
      have eT : (r_115, u_122) = T := by subst hr_115 hu_117 hu_119 hu_122; rw [← hf]; simp only [mf_end, if_neg c_116, if_pos c_120]
      exact W.iret (v := r_115) hx hb hr (fun t ht hW => ⟨⟨r_115, u_122, rfl, ⟨congrArg Prod.fst eT, congrArg Prod.snd eT⟩, by rw [ht]; exact hP, va_K.moved hW.alike hK, hD⟩, hS.F ht⟩) hS.2.2 dM_end_41
set_option maxHeartbeats 4000000 in
set_option maxRecDepth 100000 in
theorem mc_await (l : Launch) (dC : Nat → ClassId) (dI : Nat → Nat → Nat) (ad : Nat → Nat) (cA : Nat → ClassId) (sz : Nat) (u : MS) (p1 : Int32) (hI : mInv u) (T : Int32 × MS) (hf : mf_await u p1 = T) : Met l yM_await wM_await ({ frames := 2, cells := 0, slots := 0, locals := 50 } : Room) (va_Pc [.ref (ad 0), .int p1] (fun U => U.heap.size = sz ∧ va_P (dC, dI) vwCl (mW ad cA u) U.heap ∧ va_K (dC, dI) vwCl (mT cA) U ∧ va_D (fun _ => True) (mW ad cA u))) (va_Qi (fun r u2 => r = T.1 ∧ u2 = T.2) (mAt dC dI (va_A (mW ad cA u) sz) ad cA) (va_A (mW ad cA u) sz)) 0 0 (va_A (mW ad cA u) sz) := by
  refine Met.ofW (cc := cM_await) (maxL := 3) (ret := (some .int)) (by decide) rfl ?_
  intro p e s m args below meth c s₁ B hml hv
  obtain ⟨rfl, hsz, hP, hK, hD0⟩ := hv
  have hx := B.exec
  have hb := B.bytes
  have hr := B.returns
  have hts := atoms_spec (ws := wM_await) B.pre
  have hown : s.vm.findClass RX1 = some m.cls := findClass_of_methodNamed B.named
  have hlocks := B.notSynchronized
  have hin0 : ∀ w ∈ wsX10, w ∈ wM_await := by decide +kernel
  have fl_extras := hts (.fieldLink RX1 27 "ProcessRoomModel" "extras" "[I") (by decide +kernel)
  subst hsz
  have hD := hD0.self (sz := s.heap.size)
  generalize hAe : va_A (mW ad cA u) s.heap.size = A at hD ⊢
  have hA : ∀ q : Nat, s.heap.size ≤ q → A q := fun q h => by rw [← hAe]; exact Or.inr h
  have hS : va_S A s.heap s.heap [] := va_S.rf
  have hl := lv_entry ([.ref (ad 0), .int p1]) (n := 3) (Nat.le_of_ble_eq_true rfl)
  rw [lg_entry_eq]
  generalize (lg_sl ([.ref (ad 0), .int p1]) ++ List.replicate (3 - (lg_sl ([.ref (ad 0), .int p1])).length) Slot.unset).toArray = ls at hl ⊢
  have hl : lv_has ls 3 [(0, .ref (ad 0)), (1, .int p1)] := hl
  refine lv_aload_n hx hb dM_await_0 rfl (lv_at hl 0 rfl) ?_
  refine va_calli (va_runV (As := []) (rest := []) ⟨hx, hb, hml, hown, hts⟩ (mc_presentOne l dC dI ad cA u _ rfl) (cwV 0 hts gM_await_presentOne rfl rfl rfl (by decide +kernel) ⟨Nat.le_of_ble_eq_true rfl, Nat.le_of_ble_eq_true rfl⟩) ⟨fun a U g mk q => by obtain ⟨q0, qP, qK⟩ := q; exact ⟨q0, qP, va_K.moved (u := U) (U := U.calling g mk a) (Vm.Alike.refl U.vm) qK⟩, va_recv hK hP (ci := 1) (q0 := 0) rfl rfl, fun U hU hW => ⟨rfl, by rw [hU]; exact hP, va_K.moved hW.alike hK⟩⟩ rfl rfl hl.1 rfl (lv_room (Nat.le_of_ble_eq_true rfl)) dM_await_1 ⟨Nat.le_of_ble_eq_true rfl, Nat.le_of_ble_eq_true rfl⟩) hS (fun _ _ h => h.elim) (fun _ h => h.elim) (fun r_123 u_ t H1 locs ht hvm hr_123 hB hz1 hk1 hS => ?_)
  have hP := hP.kept (fun k x hx => hk1 x.1 ((hP k x hx).lt) (fun h => h))
  generalize H1 = H at hP hS ⊢
  refine lv_istore_n (lv' := [(2, .int r_123), (0, .ref (ad 0)), (1, .int p1)]) hx hb dM_await_4 rfl hl (by decide) rfl (fun ls hl => ?_)
  refine lv_iload_n hx hb dM_await_5 rfl (lv_at hl 2 rfl) ?_
  refine va_calli (va_runS (As := [.int p1]) (rest := []) ⟨hx, hb, hml, hown, hts⟩ (mc_isSemaphore l p1 _ rfl) (va_cwS 1 hts gM_await_isSemaphore rfl rfl rfl (by decide +kernel) ⟨Nat.le_of_ble_eq_true rfl, Nat.le_of_ble_eq_true rfl⟩) ⟨fun a U g mk q => ⟨q.1, trivial⟩, fun U hU hW => ⟨rfl, trivial⟩⟩ rfl rfl hl.1 rfl (lv_room (Nat.le_of_ble_eq_true rfl)) dM_await_6 ⟨Nat.le_of_ble_eq_true rfl, Nat.le_of_ble_eq_true rfl⟩) hS (fun _ _ h => h.elim) (fun _ h => h.elim) (fun r_124 u_ t H1 locs ht hvm hr_124 hB hz1 hk1 hS => ?_)
  have hP := hP.kept (fun k x hx => hk1 x.1 ((hP k x hx).lt) (fun h => h))
  generalize H1 = H at hP hS ⊢
  refine lv_if_eq (tgt := 16) hx hb dM_await_9 (by decide) (fun c_125 => ?_) (fun c_125 => ?_)
  · refine lv_iconst (v := (-1)) hx hb dM_await_16 (by decide) ?_
    have eT : ((-1), u) = T := by subst hr_123 hr_124; rw [← hf]; simp only [mf_await, if_pos c_125]
    exact W.iret (v := (-1)) hx hb hr (fun t ht hW => ⟨⟨(-1), u, rfl, ⟨congrArg Prod.fst eT, congrArg Prod.snd eT⟩, by rw [ht]; exact hP, va_K.moved hW.alike hK, hD⟩, hS.F ht⟩) hS.2.2 dM_await_17
  · refine lv_iload_n hx hb dM_await_12 rfl (lv_at hl 0 rfl) ?_
    refine lv_if_ge (tgt := 18) hx hb dM_await_13 (by decide) (fun c_126 => ?_) (fun c_126 => ?_)
    · refine lv_aload_n hx hb dM_await_18 rfl (lv_at hl 1 rfl) ?_
      refine va_get (D := (dC, dI)) (ci := 1) (v := .ref (ad 6)) (C := RX1) (T := TX1) (N := 13) (fs := mF ad u) hx hb hts hin0 hown hK hP 0 rfl rfl 6 (by decide) fl_extras (fun _ h9 => h9) rfl dM_await_19 ?_
      refine lv_iload_n hx hb dM_await_22 rfl (lv_at hl 2 rfl) ?_
      refine va_iald hx hb hK hP 6 5 rfl rfl (mi_isSemaphore hr_124 c_125) dM_await_23 ?_
      refine lv_if_le (tgt := 43) hx hb dM_await_24 (by decide) (fun c_127 => ?_) (fun c_127 => ?_)
      · refine lv_aload_n hx hb dM_await_43 rfl (lv_at hl 1 rfl) ?_
        refine lv_iload_n hx hb dM_await_44 rfl (lv_at hl 0 rfl) ?_
        refine lv_bipush (v := 16) hx hb dM_await_45 (by decide) ?_
        refine lv_iload_n hx hb dM_await_47 rfl (lv_at hl 2 rfl) ?_
        refine lv_iadd hx hb dM_await_48 ?_
        have hFc := va_free (wc := (mW ad cA u)) hD hS hA [0, 1, 2, 3, 4, 5, 6, 7] rfl
        refine va_callv (va_runV (As := [.int r_123, .int (16 + p1)]) (rest := []) ⟨hx, hb, hml, hown, hts⟩ (mc_enter l dC dI ad cA _ u r_123 (16 + p1) (mi_presentOne2 hr_123 hI c_126) _ rfl) (cwV 2 hts gM_await_enter rfl rfl rfl (by decide +kernel) ⟨Nat.le_of_ble_eq_true rfl, Nat.le_of_ble_eq_true rfl⟩) ⟨fun a U g mk q => by obtain ⟨q0, q1, qP, qK, qD⟩ := q; exact ⟨q0, q1, qP, va_K.moved (u := U) (U := U.calling g mk a) (Vm.Alike.refl U.vm) qK, qD⟩, va_recv hK hP (ci := 1) (q0 := 0) rfl rfl, fun U hU hW => ⟨rfl, by rw [hU], by rw [hU]; exact hP, va_K.moved hW.alike hK, hD.weaken (fun _ _ _ _ => trivial)⟩⟩ rfl rfl hl.1 rfl (lv_room (Nat.le_of_ble_eq_true rfl)) dM_await_49 ⟨Nat.le_of_ble_eq_true rfl, Nat.le_of_ble_eq_true rfl⟩) hS (fun q _ h => hFc q h) hFc (fun u_129 t H1 locs ht hvm hu_129 hB hz1 hk1 hS => ?_)
        obtain ⟨hP, hK1, hD1⟩ := hB
        rw [ht] at hP
        have hD := hD1.weaken (fun _ _ _ h => hFc _ h)
        generalize H1 = H at hP hS ⊢
        have hP : va_P (dC, dI) vwCl (mW ad cA u_129) H := hP
        have hD : va_D A (mW ad cA u_129) := hD
        refine lv_aload_n hx hb dM_await_52 rfl (lv_at hl 1 rfl) ?_
        have hFc := va_free (wc := (mW ad cA u_129)) hD hS hA [0, 1, 2, 3, 4, 5, 6, 7] rfl
        refine va_callv (va_runV (As := []) (rest := []) ⟨hx, hb, hml, hown, hts⟩ (mc_putAside l dC dI ad cA _ u_129 _ rfl) (cwV 0 hts gM_await_putAside rfl rfl rfl (by decide +kernel) ⟨Nat.le_of_ble_eq_true rfl, Nat.le_of_ble_eq_true rfl⟩) ⟨fun a U g mk q => by obtain ⟨q0, q1, qP, qK, qD⟩ := q; exact ⟨q0, q1, qP, va_K.moved (u := U) (U := U.calling g mk a) (Vm.Alike.refl U.vm) qK, qD⟩, va_recv hK hP (ci := 1) (q0 := 0) rfl rfl, fun U hU hW => ⟨rfl, by rw [hU], by rw [hU]; exact hP, va_K.moved hW.alike hK, hD.weaken (fun _ _ _ _ => trivial)⟩⟩ rfl rfl hl.1 rfl (lv_room (Nat.le_of_ble_eq_true rfl)) dM_await_53 ⟨Nat.le_of_ble_eq_true rfl, Nat.le_of_ble_eq_true rfl⟩) hS (fun q _ h => hFc q h) hFc (fun u_131 t H1 locs ht hvm hu_131 hB hz1 hk1 hS => ?_)
        obtain ⟨hP, hK1, hD1⟩ := hB
        rw [ht] at hP
        have hD := hD1.weaken (fun _ _ _ h => hFc _ h)
        generalize H1 = H at hP hS ⊢
        have hP : va_P (dC, dI) vwCl (mW ad cA u_131) H := hP
        have hD : va_D A (mW ad cA u_131) := hD
        refine lv_iconst (v := 0) hx hb dM_await_56 (by decide) ?_
        have eT : (0, u_131) = T := by subst hr_123 hr_124 hu_129 hu_131; rw [← hf]; simp only [mf_await, if_neg c_125, if_pos c_126, if_pos c_127]
        exact W.iret (v := 0) hx hb hr (fun t ht hW => ⟨⟨0, u_131, rfl, ⟨congrArg Prod.fst eT, congrArg Prod.snd eT⟩, by rw [ht]; exact hP, va_K.moved hW.alike hK, hD⟩, hS.F ht⟩) hS.2.2 dM_await_57
      · refine lv_aload_n hx hb dM_await_27 rfl (lv_at hl 1 rfl) ?_
        refine va_get (D := (dC, dI)) (ci := 1) (v := .ref (ad 6)) (C := RX1) (T := TX1) (N := 13) (fs := mF ad u) hx hb hts hin0 hown hK hP 0 rfl rfl 6 (by decide) fl_extras (fun _ h9 => h9) rfl dM_await_28 ?_
        refine lv_iload_n hx hb dM_await_31 rfl (lv_at hl 2 rfl) ?_
        refine lv_aload_n hx hb dM_await_32 rfl (lv_at hl 1 rfl) ?_
        refine va_get (D := (dC, dI)) (ci := 1) (v := .ref (ad 6)) (C := RX1) (T := TX1) (N := 13) (fs := mF ad u) hx hb hts hin0 hown hK hP 0 rfl rfl 6 (by decide) fl_extras (fun _ h9 => h9) rfl dM_await_33 ?_
        refine lv_iload_n hx hb dM_await_36 rfl (lv_at hl 2 rfl) ?_
        refine va_iald hx hb hK hP 6 5 rfl rfl (mi_isSemaphore hr_124 c_125) dM_await_37 ?_
        refine lv_iconst (v := 1) hx hb dM_await_38 (by decide) ?_
        refine lv_isub hx hb dM_await_39 ?_
        refine va_iast hx hb hK hP hD hS 6 5 rfl rfl (mi_isSemaphore hr_124 c_125) dM_await_40 (fun H locs hP hD hS => ?_)
        rw [mw_extras] at hP hD
        obtain ⟨u_132, hu_132⟩ : ∃ w : MS, w = ms_extras u (upd (ma_extras u) p1.toNatClampNeg ((ma_extras u p1.toNatClampNeg) - 1)) := ⟨_, rfl⟩
        rw [← hu_132] at hP hD
        refine lv_iconst (v := 1) hx hb dM_await_41 (by decide) ?_
        have eT : (1, u_132) = T := by subst hr_123 hr_124 hu_132; rw [← hf]; simp only [mf_await, if_neg c_125, if_pos c_126, if_neg c_127]
        exact W.iret (v := 1) hx hb hr (fun t ht hW => ⟨⟨1, u_132, rfl, ⟨congrArg Prod.fst eT, congrArg Prod.snd eT⟩, by rw [ht]; exact hP, va_K.moved hW.alike hK, hD⟩, hS.F ht⟩) hS.2.2 dM_await_42
    · refine lv_iconst (v := (-1)) hx hb dM_await_16 (by decide) ?_
      have eT : ((-1), u) = T := by subst hr_123 hr_124; rw [← hf]; simp only [mf_await, if_neg c_125, if_neg c_126]
      exact W.iret (v := (-1)) hx hb hr (fun t ht hW => ⟨⟨(-1), u, rfl, ⟨congrArg Prod.fst eT, congrArg Prod.snd eT⟩, by rw [ht]; exact hP, va_K.moved hW.alike hK, hD⟩, hS.F ht⟩) hS.2.2 dM_await_17
set_option maxHeartbeats 4000000 in
set_option maxRecDepth 100000 in
theorem mc_post (l : Launch) (dC : Nat → ClassId) (dI : Nat → Nat → Nat) (ad : Nat → Nat) (cA : Nat → ClassId) (sz : Nat) (u : MS) (p1 : Int32) (hI : mInv u) (T : Int32 × MS) (hf : mf_post u p1 = T) : Met l yM_post wM_post ({ frames := 1, cells := 0, slots := 0, locals := 20 } : Room) (va_Pc [.ref (ad 0), .int p1] (fun U => U.heap.size = sz ∧ va_P (dC, dI) vwCl (mW ad cA u) U.heap ∧ va_K (dC, dI) vwCl (mT cA) U ∧ va_D (fun _ => True) (mW ad cA u))) (va_Qi (fun r u2 => r = T.1 ∧ u2 = T.2) (mAt dC dI (va_A (mW ad cA u) sz) ad cA) (va_A (mW ad cA u) sz)) 0 0 (va_A (mW ad cA u) sz) := by
  refine Met.ofW (cc := cM_post) (maxL := 2) (ret := (some .int)) (by decide) rfl ?_
  intro p e s m args below meth c s₁ B hml hv
  obtain ⟨rfl, hsz, hP, hK, hD0⟩ := hv
  have hx := B.exec
  have hb := B.bytes
  have hr := B.returns
  have hts := atoms_spec (ws := wM_post) B.pre
  have hown : s.vm.findClass RX1 = some m.cls := findClass_of_methodNamed B.named
  have hlocks := B.notSynchronized
  have hin0 : ∀ w ∈ wsX10, w ∈ wM_post := by decide +kernel
  have fl_posts := hts (.fieldLink RX1 86 "ProcessRoomModel" "posts" "I") (by decide +kernel)
  have fl_posted := hts (.fieldLink RX1 30 "ProcessRoomModel" "posted" "[I") (by decide +kernel)
  subst hsz
  have hD := hD0.self (sz := s.heap.size)
  generalize hAe : va_A (mW ad cA u) s.heap.size = A at hD ⊢
  have hA : ∀ q : Nat, s.heap.size ≤ q → A q := fun q h => by rw [← hAe]; exact Or.inr h
  have hS : va_S A s.heap s.heap [] := va_S.rf
  have hl := lv_entry ([.ref (ad 0), .int p1]) (n := 2) (Nat.le_of_ble_eq_true rfl)
  rw [lg_entry_eq]
  generalize (lg_sl ([.ref (ad 0), .int p1]) ++ List.replicate (2 - (lg_sl ([.ref (ad 0), .int p1])).length) Slot.unset).toArray = ls at hl ⊢
  have hl : lv_has ls 2 [(0, .ref (ad 0)), (1, .int p1)] := hl
  refine lv_iload_n hx hb dM_post_0 rfl (lv_at hl 1 rfl) ?_
  refine va_calli (va_runS (As := [.int p1]) (rest := []) ⟨hx, hb, hml, hown, hts⟩ (mc_isSemaphore l p1 _ rfl) (va_cwS 1 hts gM_post_isSemaphore rfl rfl rfl (by decide +kernel) ⟨Nat.le_of_ble_eq_true rfl, Nat.le_of_ble_eq_true rfl⟩) ⟨fun a U g mk q => ⟨q.1, trivial⟩, fun U hU hW => ⟨rfl, trivial⟩⟩ rfl rfl hl.1 rfl (lv_room (Nat.le_of_ble_eq_true rfl)) dM_post_1 ⟨Nat.le_of_ble_eq_true rfl, Nat.le_of_ble_eq_true rfl⟩) hS (fun _ _ h => h.elim) (fun _ h => h.elim) (fun r_133 u_ t H1 locs ht hvm hr_133 hB hz1 hk1 hS => ?_)
  have hP := hP.kept (fun k x hx => hk1 x.1 ((hP k x hx).lt) (fun h => h))
  generalize H1 = H at hP hS ⊢
  refine lv_if_eq (tgt := 16) hx hb dM_post_4 (by decide) (fun c_134 => ?_) (fun c_134 => ?_)
  · refine lv_iconst (v := (-1)) hx hb dM_post_16 (by decide) ?_
    have eT : ((-1), u) = T := by subst hr_133; rw [← hf]; simp only [mf_post, if_pos c_134]
    exact W.iret (v := (-1)) hx hb hr (fun t ht hW => ⟨⟨(-1), u, rfl, ⟨congrArg Prod.fst eT, congrArg Prod.snd eT⟩, by rw [ht]; exact hP, va_K.moved hW.alike hK, hD⟩, hS.F ht⟩) hS.2.2 dM_post_17
  · refine lv_aload_n hx hb dM_post_7 rfl (lv_at hl 0 rfl) ?_
    refine va_get (D := (dC, dI)) (ci := 1) (v := .int (ma_posts u)) (C := RX1) (T := TX1) (N := 13) (fs := mF ad u) hx hb hts hin0 hown hK hP 0 rfl rfl 7 (by decide) fl_posts (fun _ h9 => h9) rfl dM_post_8 ?_
    refine lv_bipush (v := 40) hx hb dM_post_11 (by decide) ?_
    refine lv_icmp_ne (tgt := 18) hx hb dM_post_13 (by decide) (fun c_135 => ?_) (fun c_135 => ?_)
    · refine lv_aload_n hx hb dM_post_18 rfl (lv_at hl 0 rfl) ?_
      refine va_get (D := (dC, dI)) (ci := 1) (v := .ref (ad 7)) (C := RX1) (T := TX1) (N := 13) (fs := mF ad u) hx hb hts hin0 hown hK hP 0 rfl rfl 8 (by decide) fl_posted (fun _ h9 => h9) rfl dM_post_19 ?_
      refine lv_aload_n hx hb dM_post_22 rfl (lv_at hl 0 rfl) ?_
      refine va_get (D := (dC, dI)) (ci := 1) (v := .int (ma_posts u)) (C := RX1) (T := TX1) (N := 13) (fs := mF ad u) hx hb hts hin0 hown hK hP 0 rfl rfl 7 (by decide) fl_posts (fun _ h9 => h9) rfl dM_post_23 ?_
      refine lv_iload_n hx hb dM_post_26 rfl (lv_at hl 1 rfl) ?_
      refine va_iast hx hb hK hP hD hS 7 6 rfl rfl (mi_post hI c_135) dM_post_27 (fun H locs hP hD hS => ?_)
      rw [mw_posted] at hP hD
      obtain ⟨u_136, hu_136⟩ : ∃ w : MS, w = ms_posted u (upd (ma_posted u) (ma_posts u).toNatClampNeg p1) := ⟨_, rfl⟩
      rw [← hu_136] at hP hD
      refine lv_aload_n hx hb dM_post_28 rfl (lv_at hl 0 rfl) ?_
      refine lv_aload_n hx hb dM_post_29 rfl (lv_at hl 0 rfl) ?_
      refine va_get (D := (dC, dI)) (ci := 1) (v := .int (ma_posts u)) (C := RX1) (T := TX1) (N := 13) (fs := mF ad u_136) hx hb hts hin0 hown hK hP 0 rfl rfl 7 (by decide) fl_posts (fun _ h9 => h9) (congrArg (fun z => some (Value.int z)) (show ma_posts u_136 = ma_posts u from by rw [hu_136, mq_posts_posted])) dM_post_30 ?_
      refine lv_iconst (v := 1) hx hb dM_post_33 (by decide) ?_
      refine lv_iadd hx hb dM_post_34 ?_
      refine va_put (D := (dC, dI)) (ci := 1) (v := .int ((ma_posts u) + 1)) (ty := .int) (C := RX1) (T := TX1) (N := 13) (fs := mF ad u_136) hx hb hts hin0 tyX1 tyX1_ok nmX1 hown hK hP hD hS 0 rfl rfl 7 (by decide) fl_posts (fun _ h9 => h9) rfl (by decide +kernel) rfl rfl (Nat.le_of_ble_eq_true rfl) dM_post_35 (fun H locs hP hD hS => ?_)
      rw [mw_posts] at hP hD
      obtain ⟨u_137, hu_137⟩ : ∃ w : MS, w = ms_posts u_136 ((ma_posts u) + 1) := ⟨_, rfl⟩
      rw [← hu_137] at hP hD
      refine lv_aload_n hx hb dM_post_38 rfl (lv_at hl 0 rfl) ?_
      refine va_get (D := (dC, dI)) (ci := 1) (v := .int ((ma_posts u) + 1)) (C := RX1) (T := TX1) (N := 13) (fs := mF ad u_137) hx hb hts hin0 hown hK hP 0 rfl rfl 7 (by decide) fl_posts (fun _ h9 => h9) (congrArg (fun z => some (Value.int z)) (show ma_posts u_137 = (ma_posts u) + 1 from by rw [hu_137, mq_posts_posts])) dM_post_39 ?_
      have eT : ((ma_posts u) + 1, u_137) = T := by subst hr_133 hu_136 hu_137; rw [← hf]; simp only [mf_post, if_neg c_134, if_neg c_135]
      exact W.iret (v := (ma_posts u) + 1) hx hb hr (fun t ht hW => ⟨⟨(ma_posts u) + 1, u_137, rfl, ⟨congrArg Prod.fst eT, congrArg Prod.snd eT⟩, by rw [ht]; exact hP, va_K.moved hW.alike hK, hD⟩, hS.F ht⟩) hS.2.2 dM_post_42
    · refine lv_iconst (v := (-1)) hx hb dM_post_16 (by decide) ?_
      have eT : ((-1), u) = T := by subst hr_133; rw [← hf]; simp only [mf_post, if_neg c_134, if_pos c_135]
      exact W.iret (v := (-1)) hx hb hr (fun t ht hW => ⟨⟨(-1), u, rfl, ⟨congrArg Prod.fst eT, congrArg Prod.snd eT⟩, by rw [ht]; exact hP, va_K.moved hW.alike hK, hD⟩, hS.F ht⟩) hS.2.2 dM_post_17
set_option maxHeartbeats 4000000 in
set_option maxRecDepth 100000 in
theorem mc_step (l : Launch) (dC : Nat → ClassId) (dI : Nat → Nat → Nat) (ad : Nat → Nat) (cA : Nat → ClassId) (sz : Nat) (u : MS)  (hI : mInv u) (T : Int32 × MS) (hf : mf_step u = T) : Met l yM_step wM_step ({ frames := 3, cells := 0, slots := 0, locals := 66 } : Room) (va_Pc [.ref (ad 0)] (fun U => U.heap.size = sz ∧ va_P (dC, dI) vwCl (mW ad cA u) U.heap ∧ va_K (dC, dI) vwCl (mT cA) U ∧ va_D (fun _ => True) (mW ad cA u))) (va_Qi (fun r u2 => r = T.1 ∧ u2 = T.2) (mAt dC dI (va_A (mW ad cA u) sz) ad cA) (va_A (mW ad cA u) sz)) 0 0 (va_A (mW ad cA u) sz) := by
  refine Met.ofW (cc := cM_step) (maxL := 2) (ret := (some .int)) (by decide) rfl ?_
  intro p e s m args below meth c s₁ B hml hv
  obtain ⟨rfl, hsz, hP, hK, hD0⟩ := hv
  have hx := B.exec
  have hb := B.bytes
  have hr := B.returns
  have hts := atoms_spec (ws := wM_step) B.pre
  have hown : s.vm.findClass RX1 = some m.cls := findClass_of_methodNamed B.named
  have hlocks := B.notSynchronized
  have hin0 : ∀ w ∈ wsX10, w ∈ wM_step := by decide +kernel
  have fl_posts := hts (.fieldLink RX1 86 "ProcessRoomModel" "posts" "I") (by decide +kernel)
  have fl_posted := hts (.fieldLink RX1 30 "ProcessRoomModel" "posted" "[I") (by decide +kernel)
  have fl_wanted := hts (.fieldLink RX1 48 "ProcessRoomModel" "wanted" "Z") (by decide +kernel)
  have fl_active := hts (.fieldLink RX1 33 "ProcessRoomModel" "active" "I") (by decide +kernel)
  have fl_places := hts (.fieldLink RX1 17 "ProcessRoomModel" "places" "[I") (by decide +kernel)
  have fl_here := hts (.fieldLink RX1 89 "ProcessRoomModel" "here" "I") (by decide +kernel)
  have fl_change := hts (.fieldLink RX1 37 "ProcessRoomModel" "change" "I") (by decide +kernel)
  subst hsz
  have hD := hD0.self (sz := s.heap.size)
  generalize hAe : va_A (mW ad cA u) s.heap.size = A at hD ⊢
  have hA : ∀ q : Nat, s.heap.size ≤ q → A q := fun q h => by rw [← hAe]; exact Or.inr h
  have hS : va_S A s.heap s.heap [] := va_S.rf
  have hl := lv_entry ([.ref (ad 0)]) (n := 2) (Nat.le_of_ble_eq_true rfl)
  rw [lg_entry_eq]
  generalize (lg_sl ([.ref (ad 0)]) ++ List.replicate (2 - (lg_sl ([.ref (ad 0)])).length) Slot.unset).toArray = ls at hl ⊢
  have hl : lv_has ls 2 [(0, .ref (ad 0))] := hl
  refine lv_iconst (v := 0) hx hb dM_step_0 (by decide) ?_
  refine lv_istore_n (lv' := [(1, .int 0), (0, .ref (ad 0))]) hx hb dM_step_1 rfl hl (by decide) rfl (fun ls hl => ?_)
  refine k_nameQ (fun Q hQ => ?_)
  have key : ∀ (n : Nat) (u2 : MS) (x1 : Int32) (H : Heap) (locs : List Loc) (ls : Array Slot), (mInv u2 ∧ ∃ j : Nat, x1 = nI j ∧ j + n = 41 ∧ j ≤ 40) → ml_step  n u2 x1 = T → va_P (dC, dI) vwCl (mW ad cA u2) H → va_D A (mW ad cA u2) → va_S A s.heap H locs → lv_has ls 2 [(0, .ref (ad 0)), (1, .int x1)] → W p l e (headSpec wM_step ({ frames := 3, cells := 0, slots := 0, locals := 66 } : Room)).room s m ([.ref (ad 0)] : List Value).toArray below meth c H locs 0 0 Q (F0 m 2 ls []) := by
    intro n
    induction n with
    | zero =>
      intro u2 x1 H locs ls hinv
      exact absurd hinv (by rintro ⟨-, j, -, h1, h2⟩; omega)
    | succ n ih =>
      intro u2 x1 H locs ls hinv hf2 hP hD hS hl
      obtain ⟨hI2, j, hj, hjn, hjl⟩ := hinv
      refine lv_iload_n hx hb dM_step_2 rfl (lv_at hl 1 rfl) ?_
      refine lv_aload_n hx hb dM_step_3 rfl (lv_at hl 0 rfl) ?_
      refine va_get (D := (dC, dI)) (ci := 1) (v := .int (ma_posts u2)) (C := RX1) (T := TX1) (N := 13) (fs := mF ad u2) hx hb hts hin0 hown hK hP 0 rfl rfl 7 (by decide) fl_posts (fun _ h9 => h9) rfl dM_step_4 ?_
      refine lv_icmp_ge (tgt := 26) hx hb dM_step_7 (by decide) (fun c_138 => ?_) (fun c_138 => ?_)
      · refine lv_aload_n hx hb dM_step_26 rfl (lv_at hl 0 rfl) ?_
        refine lv_iconst (v := 0) hx hb dM_step_27 (by decide) ?_
        refine va_put (D := (dC, dI)) (ci := 1) (v := .int 0) (ty := .int) (C := RX1) (T := TX1) (N := 13) (fs := mF ad u2) hx hb hts hin0 tyX1 tyX1_ok nmX1 hown hK hP hD hS 0 rfl rfl 7 (by decide) fl_posts (fun _ h9 => h9) rfl (by decide +kernel) rfl rfl (Nat.le_of_ble_eq_true rfl) dM_step_28 (fun H locs hP hD hS => ?_)
        rw [mw_posts] at hP hD
        obtain ⟨u_139, hu_139⟩ : ∃ w : MS, w = ms_posts u2 0 := ⟨_, rfl⟩
        rw [← hu_139] at hP hD
        refine lv_aload_n hx hb dM_step_31 rfl (lv_at hl 0 rfl) ?_
        refine va_get (D := (dC, dI)) (ci := 1) (v := .int (ma_wanted u2)) (C := RX1) (T := TX1) (N := 13) (fs := mF ad u_139) hx hb hts hin0 hown hK hP 0 rfl rfl 11 (by decide) fl_wanted (fun _ h9 => h9) (congrArg (fun z => some (Value.int z)) (show ma_wanted u_139 = ma_wanted u2 from by rw [hu_139, mq_wanted_posts])) dM_step_32 ?_
        refine lv_if_eq (tgt := 95) hx hb dM_step_35 (by decide) (fun c_140 => ?_) (fun c_140 => ?_)
        · refine lv_aload_n hx hb dM_step_95 rfl (lv_at hl 0 rfl) ?_
          refine va_get (D := (dC, dI)) (ci := 1) (v := .int (ma_active u2)) (C := RX1) (T := TX1) (N := 13) (fs := mF ad u_139) hx hb hts hin0 hown hK hP 0 rfl rfl 9 (by decide) fl_active (fun _ h9 => h9) (congrArg (fun z => some (Value.int z)) (show ma_active u_139 = ma_active u2 from by rw [hu_139, mq_active_posts])) dM_step_96 ?_
          subst hQ
          have eT : (ma_active u2, u_139) = T := by subst hu_139; rw [← hf2]; simp only [ml_step, if_pos c_138, if_pos c_140]
          exact W.iret (v := ma_active u2) hx hb hr (fun t ht hW => ⟨⟨ma_active u2, u_139, rfl, ⟨congrArg Prod.fst eT, congrArg Prod.snd eT⟩, by rw [ht]; exact hP, va_K.moved hW.alike hK, hD⟩, hS.F ht⟩) hS.2.2 dM_step_99
        · refine lv_aload_n hx hb dM_step_38 rfl (lv_at hl 0 rfl) ?_
          refine va_get (D := (dC, dI)) (ci := 1) (v := .int (ma_active u2)) (C := RX1) (T := TX1) (N := 13) (fs := mF ad u_139) hx hb hts hin0 hown hK hP 0 rfl rfl 9 (by decide) fl_active (fun _ h9 => h9) (congrArg (fun z => some (Value.int z)) (show ma_active u_139 = ma_active u2 from by rw [hu_139, mq_active_posts])) dM_step_39 ?_
          refine lv_if_lt (tgt := 58) hx hb dM_step_42 (by decide) (fun c_141 => ?_) (fun c_141 => ?_)
          · refine lv_aload_n hx hb dM_step_58 rfl (lv_at hl 0 rfl) ?_
            refine lv_aload_n hx hb dM_step_59 rfl (lv_at hl 0 rfl) ?_
            refine va_get (D := (dC, dI)) (ci := 1) (v := .int (ma_change u2)) (C := RX1) (T := TX1) (N := 13) (fs := mF ad u_139) hx hb hts hin0 hown hK hP 0 rfl rfl 12 (by decide) fl_change (fun _ h9 => h9) (congrArg (fun z => some (Value.int z)) (show ma_change u_139 = ma_change u2 from by rw [hu_139, mq_change_posts])) dM_step_60 ?_
            refine va_put (D := (dC, dI)) (ci := 1) (v := .int (ma_change u2)) (ty := .int) (C := RX1) (T := TX1) (N := 13) (fs := mF ad u_139) hx hb hts hin0 tyX1 tyX1_ok nmX1 hown hK hP hD hS 0 rfl rfl 9 (by decide) fl_active (fun _ h9 => h9) rfl (by decide +kernel) rfl rfl (Nat.le_of_ble_eq_true rfl) dM_step_63 (fun H locs hP hD hS => ?_)
            rw [mw_active] at hP hD
            obtain ⟨u_142, hu_142⟩ : ∃ w : MS, w = ms_active u_139 (ma_change u2) := ⟨_, rfl⟩
            rw [← hu_142] at hP hD
            refine lv_aload_n hx hb dM_step_66 rfl (lv_at hl 0 rfl) ?_
            refine lv_aload_n hx hb dM_step_67 rfl (lv_at hl 0 rfl) ?_
            refine va_get (D := (dC, dI)) (ci := 1) (v := .int (ma_change u2)) (C := RX1) (T := TX1) (N := 13) (fs := mF ad u_142) hx hb hts hin0 hown hK hP 0 rfl rfl 9 (by decide) fl_active (fun _ h9 => h9) (congrArg (fun z => some (Value.int z)) (show ma_active u_142 = ma_change u2 from by rw [hu_142, mq_active_active])) dM_step_68 ?_
            refine lv_if_lt (tgt := 86) hx hb dM_step_71 (by decide) (fun c_143 => ?_) (fun c_143 => ?_)
            · refine lv_iconst (v := 0) hx hb dM_step_86 (by decide) ?_
              refine va_put (D := (dC, dI)) (ci := 1) (v := .int 0) (ty := .int) (C := RX1) (T := TX1) (N := 13) (fs := mF ad u_142) hx hb hts hin0 tyX1 tyX1_ok nmX1 hown hK hP hD hS 0 rfl rfl 10 (by decide) fl_here (fun _ h9 => h9) rfl (by decide +kernel) rfl rfl (Nat.le_of_ble_eq_true rfl) dM_step_87 (fun H locs hP hD hS => ?_)
              rw [mw_here] at hP hD
              obtain ⟨u_144, hu_144⟩ : ∃ w : MS, w = ms_here u_142 0 := ⟨_, rfl⟩
              rw [← hu_144] at hP hD
              refine lv_aload_n hx hb dM_step_90 rfl (lv_at hl 0 rfl) ?_
              refine lv_iconst (v := 0) hx hb dM_step_91 (by decide) ?_
              refine va_put (D := (dC, dI)) (ci := 1) (v := .int 0) (ty := .boolean) (C := RX1) (T := TX1) (N := 13) (fs := mF ad u_144) hx hb hts hin0 tyX1 tyX1_ok nmX1 hown hK hP hD hS 0 rfl rfl 11 (by decide) fl_wanted (fun _ h9 => h9) rfl (by decide +kernel) rfl rfl (Nat.le_of_ble_eq_true rfl) dM_step_92 (fun H locs hP hD hS => ?_)
              rw [mw_wanted] at hP hD
              obtain ⟨u_145, hu_145⟩ : ∃ w : MS, w = ms_wanted u_144 0 := ⟨_, rfl⟩
              rw [← hu_145] at hP hD
              refine lv_aload_n hx hb dM_step_95 rfl (lv_at hl 0 rfl) ?_
              refine va_get (D := (dC, dI)) (ci := 1) (v := .int (ma_change u2)) (C := RX1) (T := TX1) (N := 13) (fs := mF ad u_145) hx hb hts hin0 hown hK hP 0 rfl rfl 9 (by decide) fl_active (fun _ h9 => h9) (congrArg (fun z => some (Value.int z)) (show ma_active u_145 = ma_change u2 from by rw [hu_145, mq_active_wanted, hu_144, mq_active_here, hu_142, mq_active_active])) dM_step_96 ?_
              subst hQ
              have eT : (ma_change u2, u_145) = T := by subst hu_139 hu_142 hu_144 hu_145; rw [← hf2]; simp only [ml_step, if_pos c_138, if_neg c_140, if_pos c_141, if_pos c_143]
              exact W.iret (v := ma_change u2) hx hb hr (fun t ht hW => ⟨⟨ma_change u2, u_145, rfl, ⟨congrArg Prod.fst eT, congrArg Prod.snd eT⟩, by rw [ht]; exact hP, va_K.moved hW.alike hK, hD⟩, hS.F ht⟩) hS.2.2 dM_step_99
            · refine lv_aload_n hx hb dM_step_74 rfl (lv_at hl 0 rfl) ?_
              refine va_get (D := (dC, dI)) (ci := 1) (v := .ref (ad 3)) (C := RX1) (T := TX1) (N := 13) (fs := mF ad u_142) hx hb hts hin0 hown hK hP 0 rfl rfl 2 (by decide) fl_places (fun _ h9 => h9) rfl dM_step_75 ?_
              refine lv_aload_n hx hb dM_step_78 rfl (lv_at hl 0 rfl) ?_
              refine va_get (D := (dC, dI)) (ci := 1) (v := .int (ma_change u2)) (C := RX1) (T := TX1) (N := 13) (fs := mF ad u_142) hx hb hts hin0 hown hK hP 0 rfl rfl 9 (by decide) fl_active (fun _ h9 => h9) (congrArg (fun z => some (Value.int z)) (show ma_active u_142 = ma_change u2 from by rw [hu_142, mq_active_active])) dM_step_79 ?_
              refine va_iald hx hb hK hP 3 2 (show (mW ad cA u_142)[3]? = some (ad 3, .inl (cA 3, 32, .inl (ma_places u2))) from by rw [← (show ma_places u_142 = ma_places u2 from by rw [hu_142, mq_places_active, hu_139, mq_places_posts])]; rfl) rfl (mi_ge hI2.2.1 c_143) dM_step_82 ?_
              refine lv_goto (tgt := 87) hx hb dM_step_83 (by decide) ?_
              refine va_put (D := (dC, dI)) (ci := 1) (v := .int (ma_places u2 (ma_change u2).toNatClampNeg)) (ty := .int) (C := RX1) (T := TX1) (N := 13) (fs := mF ad u_142) hx hb hts hin0 tyX1 tyX1_ok nmX1 hown hK hP hD hS 0 rfl rfl 10 (by decide) fl_here (fun _ h9 => h9) rfl (by decide +kernel) rfl rfl (Nat.le_of_ble_eq_true rfl) dM_step_87 (fun H locs hP hD hS => ?_)
              rw [mw_here] at hP hD
              obtain ⟨u_146, hu_146⟩ : ∃ w : MS, w = ms_here u_142 (ma_places u2 (ma_change u2).toNatClampNeg) := ⟨_, rfl⟩
              rw [← hu_146] at hP hD
              refine lv_aload_n hx hb dM_step_90 rfl (lv_at hl 0 rfl) ?_
              refine lv_iconst (v := 0) hx hb dM_step_91 (by decide) ?_
              refine va_put (D := (dC, dI)) (ci := 1) (v := .int 0) (ty := .boolean) (C := RX1) (T := TX1) (N := 13) (fs := mF ad u_146) hx hb hts hin0 tyX1 tyX1_ok nmX1 hown hK hP hD hS 0 rfl rfl 11 (by decide) fl_wanted (fun _ h9 => h9) rfl (by decide +kernel) rfl rfl (Nat.le_of_ble_eq_true rfl) dM_step_92 (fun H locs hP hD hS => ?_)
              rw [mw_wanted] at hP hD
              obtain ⟨u_147, hu_147⟩ : ∃ w : MS, w = ms_wanted u_146 0 := ⟨_, rfl⟩
              rw [← hu_147] at hP hD
              refine lv_aload_n hx hb dM_step_95 rfl (lv_at hl 0 rfl) ?_
              refine va_get (D := (dC, dI)) (ci := 1) (v := .int (ma_change u2)) (C := RX1) (T := TX1) (N := 13) (fs := mF ad u_147) hx hb hts hin0 hown hK hP 0 rfl rfl 9 (by decide) fl_active (fun _ h9 => h9) (congrArg (fun z => some (Value.int z)) (show ma_active u_147 = ma_change u2 from by rw [hu_147, mq_active_wanted, hu_146, mq_active_here, hu_142, mq_active_active])) dM_step_96 ?_
              subst hQ
              have eT : (ma_change u2, u_147) = T := by subst hu_139 hu_142 hu_146 hu_147; rw [← hf2]; simp only [ml_step, if_pos c_138, if_neg c_140, if_pos c_141, if_neg c_143]
              exact W.iret (v := ma_change u2) hx hb hr (fun t ht hW => ⟨⟨ma_change u2, u_147, rfl, ⟨congrArg Prod.fst eT, congrArg Prod.snd eT⟩, by rw [ht]; exact hP, va_K.moved hW.alike hK, hD⟩, hS.F ht⟩) hS.2.2 dM_step_99
          · refine lv_aload_n hx hb dM_step_45 rfl (lv_at hl 0 rfl) ?_
            refine va_get (D := (dC, dI)) (ci := 1) (v := .ref (ad 3)) (C := RX1) (T := TX1) (N := 13) (fs := mF ad u_139) hx hb hts hin0 hown hK hP 0 rfl rfl 2 (by decide) fl_places (fun _ h9 => h9) rfl dM_step_46 ?_
            refine lv_aload_n hx hb dM_step_49 rfl (lv_at hl 0 rfl) ?_
            refine va_get (D := (dC, dI)) (ci := 1) (v := .int (ma_active u2)) (C := RX1) (T := TX1) (N := 13) (fs := mF ad u_139) hx hb hts hin0 hown hK hP 0 rfl rfl 9 (by decide) fl_active (fun _ h9 => h9) (congrArg (fun z => some (Value.int z)) (show ma_active u_139 = ma_active u2 from by rw [hu_139, mq_active_posts])) dM_step_50 ?_
            refine lv_aload_n hx hb dM_step_53 rfl (lv_at hl 0 rfl) ?_
            refine va_get (D := (dC, dI)) (ci := 1) (v := .int (ma_here u2)) (C := RX1) (T := TX1) (N := 13) (fs := mF ad u_139) hx hb hts hin0 hown hK hP 0 rfl rfl 10 (by decide) fl_here (fun _ h9 => h9) (congrArg (fun z => some (Value.int z)) (show ma_here u_139 = ma_here u2 from by rw [hu_139, mq_here_posts])) dM_step_54 ?_
            refine va_iast hx hb hK hP hD hS 3 2 (show (mW ad cA u_139)[3]? = some (ad 3, .inl (cA 3, 32, .inl (ma_places u2))) from by rw [← (show ma_places u_139 = ma_places u2 from by rw [hu_139, mq_places_posts])]; rfl) rfl (mi_ge hI2.1 c_141) dM_step_57 (fun H locs hP hD hS => ?_)
            rw [mw_places] at hP hD
            obtain ⟨u_148, hu_148⟩ : ∃ w : MS, w = ms_places u_139 (upd (ma_places u2) (ma_active u2).toNatClampNeg (ma_here u2)) := ⟨_, rfl⟩
            rw [← hu_148] at hP hD
            refine lv_aload_n hx hb dM_step_58 rfl (lv_at hl 0 rfl) ?_
            refine lv_aload_n hx hb dM_step_59 rfl (lv_at hl 0 rfl) ?_
            refine va_get (D := (dC, dI)) (ci := 1) (v := .int (ma_change u2)) (C := RX1) (T := TX1) (N := 13) (fs := mF ad u_148) hx hb hts hin0 hown hK hP 0 rfl rfl 12 (by decide) fl_change (fun _ h9 => h9) (congrArg (fun z => some (Value.int z)) (show ma_change u_148 = ma_change u2 from by rw [hu_148, mq_change_places, hu_139, mq_change_posts])) dM_step_60 ?_
            refine va_put (D := (dC, dI)) (ci := 1) (v := .int (ma_change u2)) (ty := .int) (C := RX1) (T := TX1) (N := 13) (fs := mF ad u_148) hx hb hts hin0 tyX1 tyX1_ok nmX1 hown hK hP hD hS 0 rfl rfl 9 (by decide) fl_active (fun _ h9 => h9) rfl (by decide +kernel) rfl rfl (Nat.le_of_ble_eq_true rfl) dM_step_63 (fun H locs hP hD hS => ?_)
            rw [mw_active] at hP hD
            obtain ⟨u_149, hu_149⟩ : ∃ w : MS, w = ms_active u_148 (ma_change u2) := ⟨_, rfl⟩
            rw [← hu_149] at hP hD
            refine lv_aload_n hx hb dM_step_66 rfl (lv_at hl 0 rfl) ?_
            refine lv_aload_n hx hb dM_step_67 rfl (lv_at hl 0 rfl) ?_
            refine va_get (D := (dC, dI)) (ci := 1) (v := .int (ma_change u2)) (C := RX1) (T := TX1) (N := 13) (fs := mF ad u_149) hx hb hts hin0 hown hK hP 0 rfl rfl 9 (by decide) fl_active (fun _ h9 => h9) (congrArg (fun z => some (Value.int z)) (show ma_active u_149 = ma_change u2 from by rw [hu_149, mq_active_active])) dM_step_68 ?_
            refine lv_if_lt (tgt := 86) hx hb dM_step_71 (by decide) (fun c_150 => ?_) (fun c_150 => ?_)
            · refine lv_iconst (v := 0) hx hb dM_step_86 (by decide) ?_
              refine va_put (D := (dC, dI)) (ci := 1) (v := .int 0) (ty := .int) (C := RX1) (T := TX1) (N := 13) (fs := mF ad u_149) hx hb hts hin0 tyX1 tyX1_ok nmX1 hown hK hP hD hS 0 rfl rfl 10 (by decide) fl_here (fun _ h9 => h9) rfl (by decide +kernel) rfl rfl (Nat.le_of_ble_eq_true rfl) dM_step_87 (fun H locs hP hD hS => ?_)
              rw [mw_here] at hP hD
              obtain ⟨u_151, hu_151⟩ : ∃ w : MS, w = ms_here u_149 0 := ⟨_, rfl⟩
              rw [← hu_151] at hP hD
              refine lv_aload_n hx hb dM_step_90 rfl (lv_at hl 0 rfl) ?_
              refine lv_iconst (v := 0) hx hb dM_step_91 (by decide) ?_
              refine va_put (D := (dC, dI)) (ci := 1) (v := .int 0) (ty := .boolean) (C := RX1) (T := TX1) (N := 13) (fs := mF ad u_151) hx hb hts hin0 tyX1 tyX1_ok nmX1 hown hK hP hD hS 0 rfl rfl 11 (by decide) fl_wanted (fun _ h9 => h9) rfl (by decide +kernel) rfl rfl (Nat.le_of_ble_eq_true rfl) dM_step_92 (fun H locs hP hD hS => ?_)
              rw [mw_wanted] at hP hD
              obtain ⟨u_152, hu_152⟩ : ∃ w : MS, w = ms_wanted u_151 0 := ⟨_, rfl⟩
              rw [← hu_152] at hP hD
              refine lv_aload_n hx hb dM_step_95 rfl (lv_at hl 0 rfl) ?_
              refine va_get (D := (dC, dI)) (ci := 1) (v := .int (ma_change u2)) (C := RX1) (T := TX1) (N := 13) (fs := mF ad u_152) hx hb hts hin0 hown hK hP 0 rfl rfl 9 (by decide) fl_active (fun _ h9 => h9) (congrArg (fun z => some (Value.int z)) (show ma_active u_152 = ma_change u2 from by rw [hu_152, mq_active_wanted, hu_151, mq_active_here, hu_149, mq_active_active])) dM_step_96 ?_
              subst hQ
              have eT : (ma_change u2, u_152) = T := by subst hu_139 hu_148 hu_149 hu_151 hu_152; rw [← hf2]; simp only [ml_step, if_pos c_138, if_neg c_140, if_neg c_141, if_pos c_150]
              exact W.iret (v := ma_change u2) hx hb hr (fun t ht hW => ⟨⟨ma_change u2, u_152, rfl, ⟨congrArg Prod.fst eT, congrArg Prod.snd eT⟩, by rw [ht]; exact hP, va_K.moved hW.alike hK, hD⟩, hS.F ht⟩) hS.2.2 dM_step_99
            · refine lv_aload_n hx hb dM_step_74 rfl (lv_at hl 0 rfl) ?_
              refine va_get (D := (dC, dI)) (ci := 1) (v := .ref (ad 3)) (C := RX1) (T := TX1) (N := 13) (fs := mF ad u_149) hx hb hts hin0 hown hK hP 0 rfl rfl 2 (by decide) fl_places (fun _ h9 => h9) rfl dM_step_75 ?_
              refine lv_aload_n hx hb dM_step_78 rfl (lv_at hl 0 rfl) ?_
              refine va_get (D := (dC, dI)) (ci := 1) (v := .int (ma_change u2)) (C := RX1) (T := TX1) (N := 13) (fs := mF ad u_149) hx hb hts hin0 hown hK hP 0 rfl rfl 9 (by decide) fl_active (fun _ h9 => h9) (congrArg (fun z => some (Value.int z)) (show ma_active u_149 = ma_change u2 from by rw [hu_149, mq_active_active])) dM_step_79 ?_
              refine va_iald hx hb hK hP 3 2 (show (mW ad cA u_149)[3]? = some (ad 3, .inl (cA 3, 32, .inl (upd (ma_places u2) (ma_active u2).toNatClampNeg (ma_here u2)))) from by rw [← (show ma_places u_149 = upd (ma_places u2) (ma_active u2).toNatClampNeg (ma_here u2) from by rw [hu_149, mq_places_active, hu_148, mq_places_places])]; rfl) rfl (mi_ge hI2.2.1 c_150) dM_step_82 ?_
              refine lv_goto (tgt := 87) hx hb dM_step_83 (by decide) ?_
              refine va_put (D := (dC, dI)) (ci := 1) (v := .int ((upd (ma_places u2) (ma_active u2).toNatClampNeg (ma_here u2)) (ma_change u2).toNatClampNeg)) (ty := .int) (C := RX1) (T := TX1) (N := 13) (fs := mF ad u_149) hx hb hts hin0 tyX1 tyX1_ok nmX1 hown hK hP hD hS 0 rfl rfl 10 (by decide) fl_here (fun _ h9 => h9) rfl (by decide +kernel) rfl rfl (Nat.le_of_ble_eq_true rfl) dM_step_87 (fun H locs hP hD hS => ?_)
              rw [mw_here] at hP hD
              obtain ⟨u_153, hu_153⟩ : ∃ w : MS, w = ms_here u_149 ((upd (ma_places u2) (ma_active u2).toNatClampNeg (ma_here u2)) (ma_change u2).toNatClampNeg) := ⟨_, rfl⟩
              rw [← hu_153] at hP hD
              refine lv_aload_n hx hb dM_step_90 rfl (lv_at hl 0 rfl) ?_
              refine lv_iconst (v := 0) hx hb dM_step_91 (by decide) ?_
              refine va_put (D := (dC, dI)) (ci := 1) (v := .int 0) (ty := .boolean) (C := RX1) (T := TX1) (N := 13) (fs := mF ad u_153) hx hb hts hin0 tyX1 tyX1_ok nmX1 hown hK hP hD hS 0 rfl rfl 11 (by decide) fl_wanted (fun _ h9 => h9) rfl (by decide +kernel) rfl rfl (Nat.le_of_ble_eq_true rfl) dM_step_92 (fun H locs hP hD hS => ?_)
              rw [mw_wanted] at hP hD
              obtain ⟨u_154, hu_154⟩ : ∃ w : MS, w = ms_wanted u_153 0 := ⟨_, rfl⟩
              rw [← hu_154] at hP hD
              refine lv_aload_n hx hb dM_step_95 rfl (lv_at hl 0 rfl) ?_
              refine va_get (D := (dC, dI)) (ci := 1) (v := .int (ma_change u2)) (C := RX1) (T := TX1) (N := 13) (fs := mF ad u_154) hx hb hts hin0 hown hK hP 0 rfl rfl 9 (by decide) fl_active (fun _ h9 => h9) (congrArg (fun z => some (Value.int z)) (show ma_active u_154 = ma_change u2 from by rw [hu_154, mq_active_wanted, hu_153, mq_active_here, hu_149, mq_active_active])) dM_step_96 ?_
              subst hQ
              have eT : (ma_change u2, u_154) = T := by subst hu_139 hu_148 hu_149 hu_153 hu_154; rw [← hf2]; simp only [ml_step, if_pos c_138, if_neg c_140, if_neg c_141, if_neg c_150]
              exact W.iret (v := ma_change u2) hx hb hr (fun t ht hW => ⟨⟨ma_change u2, u_154, rfl, ⟨congrArg Prod.fst eT, congrArg Prod.snd eT⟩, by rw [ht]; exact hP, va_K.moved hW.alike hK, hD⟩, hS.F ht⟩) hS.2.2 dM_step_99
      · refine lv_aload_n hx hb dM_step_10 rfl (lv_at hl 0 rfl) ?_
        refine lv_aload_n hx hb dM_step_11 rfl (lv_at hl 0 rfl) ?_
        refine va_get (D := (dC, dI)) (ci := 1) (v := .ref (ad 7)) (C := RX1) (T := TX1) (N := 13) (fs := mF ad u2) hx hb hts hin0 hown hK hP 0 rfl rfl 8 (by decide) fl_posted (fun _ h9 => h9) rfl dM_step_12 ?_
        refine lv_iload_n hx hb dM_step_15 rfl (lv_at hl 1 rfl) ?_
        refine va_iald hx hb hK hP 7 6 rfl rfl (mi_posted hI2 (mi_nn hj (by omega)) c_138) dM_step_16 ?_
        have hFc := va_free (wc := (mW ad cA u2)) hD hS hA [0, 1, 2, 3, 4, 5, 6, 7] rfl
        refine va_callv (va_runV (As := [.int (ma_posted u2 x1.toNatClampNeg)]) (rest := []) ⟨hx, hb, hml, hown, hts⟩ (mc_give l dC dI ad cA _ u2 (ma_posted u2 x1.toNatClampNeg) hI2 (mi_sem hI2 (mi_nn hj (by omega)) c_138) _ rfl) (cwV 1 hts gM_step_give rfl rfl rfl (by decide +kernel) ⟨Nat.le_of_ble_eq_true rfl, Nat.le_of_ble_eq_true rfl⟩) ⟨fun a U g mk q => by obtain ⟨q0, q1, qP, qK, qD⟩ := q; exact ⟨q0, q1, qP, va_K.moved (u := U) (U := U.calling g mk a) (Vm.Alike.refl U.vm) qK, qD⟩, va_recv hK hP (ci := 1) (q0 := 0) rfl rfl, fun U hU hW => ⟨rfl, by rw [hU], by rw [hU]; exact hP, va_K.moved hW.alike hK, hD.weaken (fun _ _ _ _ => trivial)⟩⟩ rfl rfl hl.1 rfl (lv_room (Nat.le_of_ble_eq_true rfl)) dM_step_17 ⟨Nat.le_of_ble_eq_true rfl, Nat.le_of_ble_eq_true rfl⟩) hS (fun q _ h => hFc q h) hFc (fun u_156 t H1 locs ht hvm hu_156 hB hz1 hk1 hS => ?_)
        obtain ⟨hP, hK1, hD1⟩ := hB
        rw [ht] at hP
        have hD := hD1.weaken (fun _ _ _ h => hFc _ h)
        generalize H1 = H at hP hS ⊢
        have hP : va_P (dC, dI) vwCl (mW ad cA u_156) H := hP
        have hD : va_D A (mW ad cA u_156) := hD
        refine lv_iinc (v := x1 + 1) (lv' := [(1, .int (x1 + 1)), (0, .ref (ad 0))]) hx hb dM_step_20 hl (k := 1) rfl rfl (by decide) rfl (fun ls hl => ?_)
        refine lv_goto (tgt := 2) hx hb dM_step_23 (by decide) ?_
        have hj2 := mi_jlt hI2 hj (by omega) c_138
        exact ih u_156 (x1 + 1) _ _ _ (⟨mi_give hu_156 hI2, j + 1, by rw [hj, nI_1], by omega, by omega⟩) (by subst hu_156; rw [← hf2]; simp only [ml_step, if_neg c_138]) hP hD hS (lv_sub hl [1, 0] rfl)
  exact key 41 u 0 _ _ _ (⟨hI, 0, nI_0.symm, by omega, by omega⟩) (by rw [← hf]; simp only [mf_step]) hP hD hS (lv_sub hl [1, 0] rfl)
set_option maxHeartbeats 4000000 in
set_option maxRecDepth 100000 in
theorem mc_work (l : Launch) (dC : Nat → ClassId) (dI : Nat → Nat → Nat) (ad : Nat → Nat) (cA : Nat → ClassId) (sz : Nat) (u : MS) (p1 : Int32) (T : Int32 × MS) (hf : mf_work u p1 = T) : Met l yM_work wM_work ({ frames := 0, cells := 0, slots := 0, locals := 0 } : Room) (va_Pc [.ref (ad 0), .int p1] (fun U => U.heap.size = sz ∧ va_P (dC, dI) vwCl (mW ad cA u) U.heap ∧ va_K (dC, dI) vwCl (mT cA) U ∧ va_D (fun _ => True) (mW ad cA u))) (va_Qi (fun r u2 => r = T.1 ∧ u2 = T.2) (mAt dC dI (va_A (mW ad cA u) sz) ad cA) (va_A (mW ad cA u) sz)) 0 0 (va_A (mW ad cA u) sz) := by
  refine Met.ofW (cc := cM_work) (maxL := 2) (ret := (some .boolean)) (by decide) rfl ?_
  intro p e s m args below meth c s₁ B hml hv
  obtain ⟨rfl, hsz, hP, hK, hD0⟩ := hv
  have hx := B.exec
  have hb := B.bytes
  have hr := B.returns
  have hts := atoms_spec (ws := wM_work) B.pre
  have hown : s.vm.findClass RX1 = some m.cls := findClass_of_methodNamed B.named
  have hlocks := B.notSynchronized
  have hin0 : ∀ w ∈ wsX10, w ∈ wM_work := by decide +kernel
  have fl_active := hts (.fieldLink RX1 33 "ProcessRoomModel" "active" "I") (by decide +kernel)
  have fl_wanted := hts (.fieldLink RX1 48 "ProcessRoomModel" "wanted" "Z") (by decide +kernel)
  have fl_here := hts (.fieldLink RX1 89 "ProcessRoomModel" "here" "I") (by decide +kernel)
  subst hsz
  have hD := hD0.self (sz := s.heap.size)
  generalize hAe : va_A (mW ad cA u) s.heap.size = A at hD ⊢
  have hA : ∀ q : Nat, s.heap.size ≤ q → A q := fun q h => by rw [← hAe]; exact Or.inr h
  have hS : va_S A s.heap s.heap [] := va_S.rf
  have hl := lv_entry ([.ref (ad 0), .int p1]) (n := 2) (Nat.le_of_ble_eq_true rfl)
  rw [lg_entry_eq]
  generalize (lg_sl ([.ref (ad 0), .int p1]) ++ List.replicate (2 - (lg_sl ([.ref (ad 0), .int p1])).length) Slot.unset).toArray = ls at hl ⊢
  have hl : lv_has ls 2 [(0, .ref (ad 0)), (1, .int p1)] := hl
  refine lv_iload_n hx hb dM_work_0 rfl (lv_at hl 1 rfl) ?_
  refine lv_iconst (v := 1) hx hb dM_work_1 (by decide) ?_
  refine lv_icmp_lt (tgt := 26) hx hb dM_work_2 (by decide) (fun c_157 => ?_) (fun c_157 => ?_)
  · refine lv_iconst (v := 0) hx hb dM_work_26 (by decide) ?_
    have eT : (0, u) = T := by rw [← hf]; simp only [mf_work, if_pos c_157]
    exact W.zret (v := 0) hx hb hr (rfl) (fun t ht hW => ⟨⟨0, u, rfl, ⟨congrArg Prod.fst eT, congrArg Prod.snd eT⟩, by rw [ht]; exact hP, va_K.moved hW.alike hK, hD⟩, hS.F ht⟩) hS.2.2 dM_work_27
  · refine lv_iload_n hx hb dM_work_5 rfl (lv_at hl 1 rfl) ?_
    refine lv_sipush (v := 1000) hx hb dM_work_6 (by decide) ?_
    refine lv_icmp_gt (tgt := 26) hx hb dM_work_9 (by decide) (fun c_158 => ?_) (fun c_158 => ?_)
    · refine lv_iconst (v := 0) hx hb dM_work_26 (by decide) ?_
      have eT : (0, u) = T := by rw [← hf]; simp only [mf_work, if_neg c_157, if_pos c_158]
      exact W.zret (v := 0) hx hb hr (rfl) (fun t ht hW => ⟨⟨0, u, rfl, ⟨congrArg Prod.fst eT, congrArg Prod.snd eT⟩, by rw [ht]; exact hP, va_K.moved hW.alike hK, hD⟩, hS.F ht⟩) hS.2.2 dM_work_27
    · refine lv_aload_n hx hb dM_work_12 rfl (lv_at hl 0 rfl) ?_
      refine va_get (D := (dC, dI)) (ci := 1) (v := .int (ma_active u)) (C := RX1) (T := TX1) (N := 13) (fs := mF ad u) hx hb hts hin0 hown hK hP 0 rfl rfl 9 (by decide) fl_active (fun _ h9 => h9) rfl dM_work_13 ?_
      refine lv_if_lt (tgt := 26) hx hb dM_work_16 (by decide) (fun c_159 => ?_) (fun c_159 => ?_)
      · refine lv_iconst (v := 0) hx hb dM_work_26 (by decide) ?_
        have eT : (0, u) = T := by rw [← hf]; simp only [mf_work, if_neg c_157, if_neg c_158, if_pos c_159]
        exact W.zret (v := 0) hx hb hr (rfl) (fun t ht hW => ⟨⟨0, u, rfl, ⟨congrArg Prod.fst eT, congrArg Prod.snd eT⟩, by rw [ht]; exact hP, va_K.moved hW.alike hK, hD⟩, hS.F ht⟩) hS.2.2 dM_work_27
      · refine lv_aload_n hx hb dM_work_19 rfl (lv_at hl 0 rfl) ?_
        refine va_get (D := (dC, dI)) (ci := 1) (v := .int (ma_wanted u)) (C := RX1) (T := TX1) (N := 13) (fs := mF ad u) hx hb hts hin0 hown hK hP 0 rfl rfl 11 (by decide) fl_wanted (fun _ h9 => h9) rfl dM_work_20 ?_
        refine lv_if_eq (tgt := 28) hx hb dM_work_23 (by decide) (fun c_160 => ?_) (fun c_160 => ?_)
        · refine lv_aload_n hx hb dM_work_28 rfl (lv_at hl 0 rfl) ?_
          refine lv_aload_n hx hb dM_work_29 rfl (lv_at hl 0 rfl) ?_
          refine va_get (D := (dC, dI)) (ci := 1) (v := .int (ma_here u)) (C := RX1) (T := TX1) (N := 13) (fs := mF ad u) hx hb hts hin0 hown hK hP 0 rfl rfl 10 (by decide) fl_here (fun _ h9 => h9) rfl dM_work_30 ?_
          refine lv_iload_n hx hb dM_work_33 rfl (lv_at hl 1 rfl) ?_
          refine lv_iadd hx hb dM_work_34 ?_
          refine va_put (D := (dC, dI)) (ci := 1) (v := .int ((ma_here u) + p1)) (ty := .int) (C := RX1) (T := TX1) (N := 13) (fs := mF ad u) hx hb hts hin0 tyX1 tyX1_ok nmX1 hown hK hP hD hS 0 rfl rfl 10 (by decide) fl_here (fun _ h9 => h9) rfl (by decide +kernel) rfl rfl (Nat.le_of_ble_eq_true rfl) dM_work_35 (fun H locs hP hD hS => ?_)
          rw [mw_here] at hP hD
          obtain ⟨u_161, hu_161⟩ : ∃ w : MS, w = ms_here u ((ma_here u) + p1) := ⟨_, rfl⟩
          rw [← hu_161] at hP hD
          refine lv_iconst (v := 1) hx hb dM_work_38 (by decide) ?_
          have eT : (1, u_161) = T := by subst hu_161; rw [← hf]; simp only [mf_work, if_neg c_157, if_neg c_158, if_neg c_159, if_pos c_160]
          exact W.zret (v := 1) hx hb hr (rfl) (fun t ht hW => ⟨⟨1, u_161, rfl, ⟨congrArg Prod.fst eT, congrArg Prod.snd eT⟩, by rw [ht]; exact hP, va_K.moved hW.alike hK, hD⟩, hS.F ht⟩) hS.2.2 dM_work_39
        · refine lv_iconst (v := 0) hx hb dM_work_26 (by decide) ?_
          have eT : (0, u) = T := by rw [← hf]; simp only [mf_work, if_neg c_157, if_neg c_158, if_neg c_159, if_neg c_160]
          exact W.zret (v := 0) hx hb hr (rfl) (fun t ht hW => ⟨⟨0, u, rfl, ⟨congrArg Prod.fst eT, congrArg Prod.snd eT⟩, by rw [ht]; exact hP, va_K.moved hW.alike hK, hD⟩, hS.F ht⟩) hS.2.2 dM_work_27
set_option maxHeartbeats 4000000 in
set_option maxRecDepth 100000 in
theorem mc_take (l : Launch) (dC : Nat → ClassId) (dI : Nat → Nat → Nat) (ad : Nat → Nat) (cA : Nat → ClassId) (sz : Nat) (u : MS) (p1 : Int32) (T : Int32 × MS) (hf : mf_take u p1 = T) : Met l yM_take wM_take ({ frames := 2, cells := 0, slots := 0, locals := 41 } : Room) (va_Pc [.ref (ad 0), .int p1] (fun U => U.heap.size = sz ∧ va_P (dC, dI) vwCl (mW ad cA u) U.heap ∧ va_K (dC, dI) vwCl (mT cA) U ∧ va_D (fun _ => True) (mW ad cA u))) (va_Qi (fun r u2 => r = T.1 ∧ u2 = T.2) (mAt dC dI (va_A (mW ad cA u) sz) ad cA) (va_A (mW ad cA u) sz)) 0 0 (va_A (mW ad cA u) sz) := by
  refine Met.ofW (cc := cM_take) (maxL := 2) (ret := (some .boolean)) (by decide) rfl ?_
  intro p e s m args below meth c s₁ B hml hv
  obtain ⟨rfl, hsz, hP, hK, hD0⟩ := hv
  have hx := B.exec
  have hb := B.bytes
  have hr := B.returns
  have hts := atoms_spec (ws := wM_take) B.pre
  have hown : s.vm.findClass RX1 = some m.cls := findClass_of_methodNamed B.named
  have hlocks := B.notSynchronized
  have hin0 : ∀ w ∈ wsX10, w ∈ wM_take := by decide +kernel
  have fl_rows := hts (.fieldLink RX1 20 "ProcessRoomModel" "rows" "[I") (by decide +kernel)
  subst hsz
  have hD := hD0.self (sz := s.heap.size)
  generalize hAe : va_A (mW ad cA u) s.heap.size = A at hD ⊢
  have hA : ∀ q : Nat, s.heap.size ≤ q → A q := fun q h => by rw [← hAe]; exact Or.inr h
  have hS : va_S A s.heap s.heap [] := va_S.rf
  have hl := lv_entry ([.ref (ad 0), .int p1]) (n := 2) (Nat.le_of_ble_eq_true rfl)
  rw [lg_entry_eq]
  generalize (lg_sl ([.ref (ad 0), .int p1]) ++ List.replicate (2 - (lg_sl ([.ref (ad 0), .int p1])).length) Slot.unset).toArray = ls at hl ⊢
  have hl : lv_has ls 2 [(0, .ref (ad 0)), (1, .int p1)] := hl
  refine lv_aload_n hx hb dM_take_0 rfl (lv_at hl 0 rfl) ?_
  refine lv_iload_n hx hb dM_take_1 rfl (lv_at hl 1 rfl) ?_
  refine va_calli (va_runV (As := [.int p1]) (rest := []) ⟨hx, hb, hml, hown, hts⟩ (mc_isMade l dC dI ad cA u p1 _ rfl) (cwV 1 hts gM_take_isMade rfl rfl rfl (by decide +kernel) ⟨Nat.le_of_ble_eq_true rfl, Nat.le_of_ble_eq_true rfl⟩) ⟨fun a U g mk q => by obtain ⟨q0, qP, qK⟩ := q; exact ⟨q0, qP, va_K.moved (u := U) (U := U.calling g mk a) (Vm.Alike.refl U.vm) qK⟩, va_recv hK hP (ci := 1) (q0 := 0) rfl rfl, fun U hU hW => ⟨rfl, by rw [hU]; exact hP, va_K.moved hW.alike hK⟩⟩ rfl rfl hl.1 rfl (lv_room (Nat.le_of_ble_eq_true rfl)) dM_take_2 ⟨Nat.le_of_ble_eq_true rfl, Nat.le_of_ble_eq_true rfl⟩) hS (fun _ _ h => h.elim) (fun _ h => h.elim) (fun r_162 u_ t H1 locs ht hvm hr_162 hB hz1 hk1 hS => ?_)
  have hP := hP.kept (fun k x hx => hk1 x.1 ((hP k x hx).lt) (fun h => h))
  generalize H1 = H at hP hS ⊢
  refine lv_if_eq (tgt := 17) hx hb dM_take_5 (by decide) (fun c_163 => ?_) (fun c_163 => ?_)
  · refine lv_iconst (v := 0) hx hb dM_take_17 (by decide) ?_
    have eT : (0, u) = T := by subst hr_162; rw [← hf]; simp only [mf_take, if_pos c_163]
    exact W.zret (v := 0) hx hb hr (rfl) (fun t ht hW => ⟨⟨0, u, rfl, ⟨congrArg Prod.fst eT, congrArg Prod.snd eT⟩, by rw [ht]; exact hP, va_K.moved hW.alike hK, hD⟩, hS.F ht⟩) hS.2.2 dM_take_18
  · refine lv_aload_n hx hb dM_take_8 rfl (lv_at hl 0 rfl) ?_
    refine va_get (D := (dC, dI)) (ci := 1) (v := .ref (ad 4)) (C := RX1) (T := TX1) (N := 13) (fs := mF ad u) hx hb hts hin0 hown hK hP 0 rfl rfl 3 (by decide) fl_rows (fun _ h9 => h9) rfl dM_take_9 ?_
    refine lv_iload_n hx hb dM_take_12 rfl (lv_at hl 1 rfl) ?_
    refine va_iald hx hb hK hP 4 3 rfl rfl (mi_isMade hr_162 c_163) dM_take_13 ?_
    refine lv_if_ne (tgt := 19) hx hb dM_take_14 (by decide) (fun c_164 => ?_) (fun c_164 => ?_)
    · refine lv_aload_n hx hb dM_take_19 rfl (lv_at hl 0 rfl) ?_
      refine va_get (D := (dC, dI)) (ci := 1) (v := .ref (ad 4)) (C := RX1) (T := TX1) (N := 13) (fs := mF ad u) hx hb hts hin0 hown hK hP 0 rfl rfl 3 (by decide) fl_rows (fun _ h9 => h9) rfl dM_take_20 ?_
      refine lv_iload_n hx hb dM_take_23 rfl (lv_at hl 1 rfl) ?_
      refine lv_iconst (v := 0) hx hb dM_take_24 (by decide) ?_
      refine va_iast hx hb hK hP hD hS 4 3 rfl rfl (mi_isMade hr_162 c_163) dM_take_25 (fun H locs hP hD hS => ?_)
      rw [mw_rows] at hP hD
      obtain ⟨u_165, hu_165⟩ : ∃ w : MS, w = ms_rows u (upd (ma_rows u) p1.toNatClampNeg 0) := ⟨_, rfl⟩
      rw [← hu_165] at hP hD
      refine lv_iconst (v := 1) hx hb dM_take_26 (by decide) ?_
      have eT : (1, u_165) = T := by subst hr_162 hu_165; rw [← hf]; simp only [mf_take, if_neg c_163, if_neg c_164]
      exact W.zret (v := 1) hx hb hr (rfl) (fun t ht hW => ⟨⟨1, u_165, rfl, ⟨congrArg Prod.fst eT, congrArg Prod.snd eT⟩, by rw [ht]; exact hP, va_K.moved hW.alike hK, hD⟩, hS.F ht⟩) hS.2.2 dM_take_27
    · refine lv_iconst (v := 0) hx hb dM_take_17 (by decide) ?_
      have eT : (0, u) = T := by subst hr_162; rw [← hf]; simp only [mf_take, if_neg c_163, if_pos c_164]
      exact W.zret (v := 0) hx hb hr (rfl) (fun t ht hW => ⟨⟨0, u, rfl, ⟨congrArg Prod.fst eT, congrArg Prod.snd eT⟩, by rw [ht]; exact hP, va_K.moved hW.alike hK, hD⟩, hS.F ht⟩) hS.2.2 dM_take_18
set_option maxHeartbeats 4000000 in
set_option maxRecDepth 100000 in
theorem mc_rate (l : Launch) (dC : Nat → ClassId) (dI : Nat → Nat → Nat) (ad : Nat → Nat) (cA : Nat → ClassId) (sz : Nat) (u : MS) (p1 : Int32) (p2 : Int32) (T : Int32 × MS) (hf : mf_rate u p1 p2 = T) : Met l yM_rate wM_rate ({ frames := 2, cells := 0, slots := 0, locals := 41 } : Room) (va_Pc [.ref (ad 0), .int p1, .int p2] (fun U => U.heap.size = sz ∧ va_P (dC, dI) vwCl (mW ad cA u) U.heap ∧ va_K (dC, dI) vwCl (mT cA) U ∧ va_D (fun _ => True) (mW ad cA u))) (va_Qi (fun r u2 => r = T.1 ∧ u2 = T.2) (mAt dC dI (va_A (mW ad cA u) sz) ad cA) (va_A (mW ad cA u) sz)) 0 0 (va_A (mW ad cA u) sz) := by
  refine Met.ofW (cc := cM_rate) (maxL := 4) (ret := (some .int)) (by decide) rfl ?_
  intro p e s m args below meth c s₁ B hml hv
  obtain ⟨rfl, hsz, hP, hK, hD0⟩ := hv
  have hx := B.exec
  have hb := B.bytes
  have hr := B.returns
  have hts := atoms_spec (ws := wM_rate) B.pre
  have hown : s.vm.findClass RX1 = some m.cls := findClass_of_methodNamed B.named
  have hlocks := B.notSynchronized
  have hin0 : ∀ w ∈ wsX10, w ∈ wM_rate := by decide +kernel
  have fl_priorities := hts (.fieldLink RX1 13 "ProcessRoomModel" "priorities" "[I") (by decide +kernel)
  subst hsz
  have hD := hD0.self (sz := s.heap.size)
  generalize hAe : va_A (mW ad cA u) s.heap.size = A at hD ⊢
  have hA : ∀ q : Nat, s.heap.size ≤ q → A q := fun q h => by rw [← hAe]; exact Or.inr h
  have hS : va_S A s.heap s.heap [] := va_S.rf
  have hl := lv_entry ([.ref (ad 0), .int p1, .int p2]) (n := 4) (Nat.le_of_ble_eq_true rfl)
  rw [lg_entry_eq]
  generalize (lg_sl ([.ref (ad 0), .int p1, .int p2]) ++ List.replicate (4 - (lg_sl ([.ref (ad 0), .int p1, .int p2])).length) Slot.unset).toArray = ls at hl ⊢
  have hl : lv_has ls 4 [(0, .ref (ad 0)), (1, .int p1), (2, .int p2)] := hl
  refine lv_aload_n hx hb dM_rate_0 rfl (lv_at hl 0 rfl) ?_
  refine lv_iload_n hx hb dM_rate_1 rfl (lv_at hl 1 rfl) ?_
  refine va_calli (va_runV (As := [.int p1]) (rest := []) ⟨hx, hb, hml, hown, hts⟩ (mc_isMade l dC dI ad cA u p1 _ rfl) (cwV 1 hts gM_rate_isMade rfl rfl rfl (by decide +kernel) ⟨Nat.le_of_ble_eq_true rfl, Nat.le_of_ble_eq_true rfl⟩) ⟨fun a U g mk q => by obtain ⟨q0, qP, qK⟩ := q; exact ⟨q0, qP, va_K.moved (u := U) (U := U.calling g mk a) (Vm.Alike.refl U.vm) qK⟩, va_recv hK hP (ci := 1) (q0 := 0) rfl rfl, fun U hU hW => ⟨rfl, by rw [hU]; exact hP, va_K.moved hW.alike hK⟩⟩ rfl rfl hl.1 rfl (lv_room (Nat.le_of_ble_eq_true rfl)) dM_rate_2 ⟨Nat.le_of_ble_eq_true rfl, Nat.le_of_ble_eq_true rfl⟩) hS (fun _ _ h => h.elim) (fun _ h => h.elim) (fun r_166 u_ t H1 locs ht hvm hr_166 hB hz1 hk1 hS => ?_)
  have hP := hP.kept (fun k x hx => hk1 x.1 ((hP k x hx).lt) (fun h => h))
  generalize H1 = H at hP hS ⊢
  refine lv_if_eq (tgt := 15) hx hb dM_rate_5 (by decide) (fun c_167 => ?_) (fun c_167 => ?_)
  · refine lv_iconst (v := (-1)) hx hb dM_rate_15 (by decide) ?_
    have eT : ((-1), u) = T := by subst hr_166; rw [← hf]; simp only [mf_rate, if_pos c_167]
    exact W.iret (v := (-1)) hx hb hr (fun t ht hW => ⟨⟨(-1), u, rfl, ⟨congrArg Prod.fst eT, congrArg Prod.snd eT⟩, by rw [ht]; exact hP, va_K.moved hW.alike hK, hD⟩, hS.F ht⟩) hS.2.2 dM_rate_16
  · refine lv_iload_n hx hb dM_rate_8 rfl (lv_at hl 2 rfl) ?_
    refine va_calli (va_runS (As := [.int p2]) (rest := []) ⟨hx, hb, hml, hown, hts⟩ (mc_isPriority l p2 _ rfl) (va_cwS 1 hts gM_rate_isPriority rfl rfl rfl (by decide +kernel) ⟨Nat.le_of_ble_eq_true rfl, Nat.le_of_ble_eq_true rfl⟩) ⟨fun a U g mk q => ⟨q.1, trivial⟩, fun U hU hW => ⟨rfl, trivial⟩⟩ rfl rfl hl.1 rfl (lv_room (Nat.le_of_ble_eq_true rfl)) dM_rate_9 ⟨Nat.le_of_ble_eq_true rfl, Nat.le_of_ble_eq_true rfl⟩) hS (fun _ _ h => h.elim) (fun _ h => h.elim) (fun r_168 u_ t H1 locs ht hvm hr_168 hB hz1 hk1 hS => ?_)
    have hP := hP.kept (fun k x hx => hk1 x.1 ((hP k x hx).lt) (fun h => h))
    generalize H1 = H at hP hS ⊢
    refine lv_if_ne (tgt := 17) hx hb dM_rate_12 (by decide) (fun c_169 => ?_) (fun c_169 => ?_)
    · refine lv_aload_n hx hb dM_rate_17 rfl (lv_at hl 0 rfl) ?_
      refine va_get (D := (dC, dI)) (ci := 1) (v := .ref (ad 2)) (C := RX1) (T := TX1) (N := 13) (fs := mF ad u) hx hb hts hin0 hown hK hP 0 rfl rfl 1 (by decide) fl_priorities (fun _ h9 => h9) rfl dM_rate_18 ?_
      refine lv_iload_n hx hb dM_rate_21 rfl (lv_at hl 1 rfl) ?_
      refine va_iald hx hb hK hP 2 1 rfl rfl (mi_isMade hr_166 c_167) dM_rate_22 ?_
      refine lv_istore_n (lv' := [(3, .int (ma_priorities u p1.toNatClampNeg)), (0, .ref (ad 0)), (1, .int p1), (2, .int p2)]) hx hb dM_rate_23 rfl hl (by decide) rfl (fun ls hl => ?_)
      refine lv_aload_n hx hb dM_rate_24 rfl (lv_at hl 1 rfl) ?_
      refine va_get (D := (dC, dI)) (ci := 1) (v := .ref (ad 2)) (C := RX1) (T := TX1) (N := 13) (fs := mF ad u) hx hb hts hin0 hown hK hP 0 rfl rfl 1 (by decide) fl_priorities (fun _ h9 => h9) rfl dM_rate_25 ?_
      refine lv_iload_n hx hb dM_rate_28 rfl (lv_at hl 2 rfl) ?_
      refine lv_iload_n hx hb dM_rate_29 rfl (lv_at hl 3 rfl) ?_
      refine va_iast hx hb hK hP hD hS 2 1 rfl rfl (mi_isMade hr_166 c_167) dM_rate_30 (fun H locs hP hD hS => ?_)
      rw [mw_priorities] at hP hD
      obtain ⟨u_170, hu_170⟩ : ∃ w : MS, w = ms_priorities u (upd (ma_priorities u) p1.toNatClampNeg p2) := ⟨_, rfl⟩
      rw [← hu_170] at hP hD
      refine lv_iload_n hx hb dM_rate_31 rfl (lv_at hl 0 rfl) ?_
      have eT : (ma_priorities u p1.toNatClampNeg, u_170) = T := by subst hr_166 hr_168 hu_170; rw [← hf]; simp only [mf_rate, if_neg c_167, if_neg c_169]
      exact W.iret (v := ma_priorities u p1.toNatClampNeg) hx hb hr (fun t ht hW => ⟨⟨ma_priorities u p1.toNatClampNeg, u_170, rfl, ⟨congrArg Prod.fst eT, congrArg Prod.snd eT⟩, by rw [ht]; exact hP, va_K.moved hW.alike hK, hD⟩, hS.F ht⟩) hS.2.2 dM_rate_32
    · refine lv_iconst (v := (-1)) hx hb dM_rate_15 (by decide) ?_
      have eT : ((-1), u) = T := by subst hr_166 hr_168; rw [← hf]; simp only [mf_rate, if_neg c_167, if_pos c_169]
      exact W.iret (v := (-1)) hx hb hr (fun t ht hW => ⟨⟨(-1), u, rfl, ⟨congrArg Prod.fst eT, congrArg Prod.snd eT⟩, by rw [ht]; exact hP, va_K.moved hW.alike hK, hD⟩, hS.F ht⟩) hS.2.2 dM_rate_16
set_option maxHeartbeats 4000000 in
set_option maxRecDepth 100000 in
theorem mc_yield (l : Launch) (dC : Nat → ClassId) (dI : Nat → Nat → Nat) (ad : Nat → Nat) (cA : Nat → ClassId) (sz : Nat) (u : MS)  (hI : mInv u) (T : Int32 × MS) (hf : mf_yield u = T) : Met l yM_yield wM_yield ({ frames := 2, cells := 0, slots := 0, locals := 50 } : Room) (va_Pc [.ref (ad 0)] (fun U => U.heap.size = sz ∧ va_P (dC, dI) vwCl (mW ad cA u) U.heap ∧ va_K (dC, dI) vwCl (mT cA) U ∧ va_D (fun _ => True) (mW ad cA u))) (va_Qi (fun r u2 => r = T.1 ∧ u2 = T.2) (mAt dC dI (va_A (mW ad cA u) sz) ad cA) (va_A (mW ad cA u) sz)) 0 0 (va_A (mW ad cA u) sz) := by
  refine Met.ofW (cc := cM_yield) (maxL := 2) (ret := (some .boolean)) (by decide) rfl ?_
  intro p e s m args below meth c s₁ B hml hv
  obtain ⟨rfl, hsz, hP, hK, hD0⟩ := hv
  have hx := B.exec
  have hb := B.bytes
  have hr := B.returns
  have hts := atoms_spec (ws := wM_yield) B.pre
  have hown : s.vm.findClass RX1 = some m.cls := findClass_of_methodNamed B.named
  have hlocks := B.notSynchronized
  have hin0 : ∀ w ∈ wsX10, w ∈ wM_yield := by decide +kernel
  have fl_priorities := hts (.fieldLink RX1 13 "ProcessRoomModel" "priorities" "[I") (by decide +kernel)
  subst hsz
  have hD := hD0.self (sz := s.heap.size)
  generalize hAe : va_A (mW ad cA u) s.heap.size = A at hD ⊢
  have hA : ∀ q : Nat, s.heap.size ≤ q → A q := fun q h => by rw [← hAe]; exact Or.inr h
  have hS : va_S A s.heap s.heap [] := va_S.rf
  have hl := lv_entry ([.ref (ad 0)]) (n := 2) (Nat.le_of_ble_eq_true rfl)
  rw [lg_entry_eq]
  generalize (lg_sl ([.ref (ad 0)]) ++ List.replicate (2 - (lg_sl ([.ref (ad 0)])).length) Slot.unset).toArray = ls at hl ⊢
  have hl : lv_has ls 2 [(0, .ref (ad 0))] := hl
  refine lv_aload_n hx hb dM_yield_0 rfl (lv_at hl 0 rfl) ?_
  refine va_calli (va_runV (As := []) (rest := []) ⟨hx, hb, hml, hown, hts⟩ (mc_presentOne l dC dI ad cA u _ rfl) (cwV 0 hts gM_yield_presentOne rfl rfl rfl (by decide +kernel) ⟨Nat.le_of_ble_eq_true rfl, Nat.le_of_ble_eq_true rfl⟩) ⟨fun a U g mk q => by obtain ⟨q0, qP, qK⟩ := q; exact ⟨q0, qP, va_K.moved (u := U) (U := U.calling g mk a) (Vm.Alike.refl U.vm) qK⟩, va_recv hK hP (ci := 1) (q0 := 0) rfl rfl, fun U hU hW => ⟨rfl, by rw [hU]; exact hP, va_K.moved hW.alike hK⟩⟩ rfl rfl hl.1 rfl (lv_room (Nat.le_of_ble_eq_true rfl)) dM_yield_1 ⟨Nat.le_of_ble_eq_true rfl, Nat.le_of_ble_eq_true rfl⟩) hS (fun _ _ h => h.elim) (fun _ h => h.elim) (fun r_171 u_ t H1 locs ht hvm hr_171 hB hz1 hk1 hS => ?_)
  have hP := hP.kept (fun k x hx => hk1 x.1 ((hP k x hx).lt) (fun h => h))
  generalize H1 = H at hP hS ⊢
  refine lv_istore_n (lv' := [(1, .int r_171), (0, .ref (ad 0))]) hx hb dM_yield_4 rfl hl (by decide) rfl (fun ls hl => ?_)
  refine lv_iload_n hx hb dM_yield_5 rfl (lv_at hl 0 rfl) ?_
  refine lv_if_lt (tgt := 23) hx hb dM_yield_6 (by decide) (fun c_172 => ?_) (fun c_172 => ?_)
  · refine lv_iconst (v := 0) hx hb dM_yield_23 (by decide) ?_
    have eT : (0, u) = T := by subst hr_171; rw [← hf]; simp only [mf_yield, if_pos c_172]
    exact W.zret (v := 0) hx hb hr (rfl) (fun t ht hW => ⟨⟨0, u, rfl, ⟨congrArg Prod.fst eT, congrArg Prod.snd eT⟩, by rw [ht]; exact hP, va_K.moved hW.alike hK, hD⟩, hS.F ht⟩) hS.2.2 dM_yield_24
  · refine lv_aload_n hx hb dM_yield_9 rfl (lv_at hl 1 rfl) ?_
    refine lv_aload_n hx hb dM_yield_10 rfl (lv_at hl 1 rfl) ?_
    refine va_get (D := (dC, dI)) (ci := 1) (v := .ref (ad 2)) (C := RX1) (T := TX1) (N := 13) (fs := mF ad u) hx hb hts hin0 hown hK hP 0 rfl rfl 1 (by decide) fl_priorities (fun _ h9 => h9) rfl dM_yield_11 ?_
    refine lv_iload_n hx hb dM_yield_14 rfl (lv_at hl 0 rfl) ?_
    refine va_iald hx hb hK hP 2 1 rfl rfl (mi_presentOne hr_171 hI c_172) dM_yield_15 ?_
    refine lv_iconst (v := 0) hx hb dM_yield_16 (by decide) ?_
    refine va_calli (va_runV (As := [.int (ma_priorities u r_171.toNatClampNeg), .int 0]) (rest := []) ⟨hx, hb, hml, hown, hts⟩ (mc_find l dC dI ad cA u (ma_priorities u r_171.toNatClampNeg) 0 ⟨0, by omega, nI_0.symm⟩ _ rfl) (cwV 2 hts gM_yield_find rfl rfl rfl (by decide +kernel) ⟨Nat.le_of_ble_eq_true rfl, Nat.le_of_ble_eq_true rfl⟩) ⟨fun a U g mk q => by obtain ⟨q0, qP, qK⟩ := q; exact ⟨q0, qP, va_K.moved (u := U) (U := U.calling g mk a) (Vm.Alike.refl U.vm) qK⟩, va_recv hK hP (ci := 1) (q0 := 0) rfl rfl, fun U hU hW => ⟨rfl, by rw [hU]; exact hP, va_K.moved hW.alike hK⟩⟩ rfl rfl hl.1 rfl (lv_room (Nat.le_of_ble_eq_true rfl)) dM_yield_17 ⟨Nat.le_of_ble_eq_true rfl, Nat.le_of_ble_eq_true rfl⟩) hS (fun _ _ h => h.elim) (fun _ h => h.elim) (fun r_173 u_ t H1 locs ht hvm hr_173 hB hz1 hk1 hS => ?_)
    have hP := hP.kept (fun k x hx => hk1 x.1 ((hP k x hx).lt) (fun h => h))
    generalize H1 = H at hP hS ⊢
    refine lv_if_ge (tgt := 25) hx hb dM_yield_20 (by decide) (fun c_174 => ?_) (fun c_174 => ?_)
    · refine lv_aload_n hx hb dM_yield_25 rfl (lv_at hl 1 rfl) ?_
      refine lv_iload_n hx hb dM_yield_26 rfl (lv_at hl 0 rfl) ?_
      refine lv_aload_n hx hb dM_yield_27 rfl (lv_at hl 1 rfl) ?_
      refine va_get (D := (dC, dI)) (ci := 1) (v := .ref (ad 2)) (C := RX1) (T := TX1) (N := 13) (fs := mF ad u) hx hb hts hin0 hown hK hP 0 rfl rfl 1 (by decide) fl_priorities (fun _ h9 => h9) rfl dM_yield_28 ?_
      refine lv_iload_n hx hb dM_yield_31 rfl (lv_at hl 0 rfl) ?_
      refine va_iald hx hb hK hP 2 1 rfl rfl (mi_presentOne hr_171 hI c_172) dM_yield_32 ?_
      have hFc := va_free (wc := (mW ad cA u)) hD hS hA [0, 1, 2, 3, 4, 5, 6, 7] rfl
      refine va_callv (va_runV (As := [.int r_171, .int (ma_priorities u r_171.toNatClampNeg)]) (rest := []) ⟨hx, hb, hml, hown, hts⟩ (mc_enter l dC dI ad cA _ u r_171 (ma_priorities u r_171.toNatClampNeg) (mi_presentOne hr_171 hI c_172) _ rfl) (cwV 2 hts gM_yield_enter rfl rfl rfl (by decide +kernel) ⟨Nat.le_of_ble_eq_true rfl, Nat.le_of_ble_eq_true rfl⟩) ⟨fun a U g mk q => by obtain ⟨q0, q1, qP, qK, qD⟩ := q; exact ⟨q0, q1, qP, va_K.moved (u := U) (U := U.calling g mk a) (Vm.Alike.refl U.vm) qK, qD⟩, va_recv hK hP (ci := 1) (q0 := 0) rfl rfl, fun U hU hW => ⟨rfl, by rw [hU], by rw [hU]; exact hP, va_K.moved hW.alike hK, hD.weaken (fun _ _ _ _ => trivial)⟩⟩ rfl rfl hl.1 rfl (lv_room (Nat.le_of_ble_eq_true rfl)) dM_yield_33 ⟨Nat.le_of_ble_eq_true rfl, Nat.le_of_ble_eq_true rfl⟩) hS (fun q _ h => hFc q h) hFc (fun u_176 t H1 locs ht hvm hu_176 hB hz1 hk1 hS => ?_)
      obtain ⟨hP, hK1, hD1⟩ := hB
      rw [ht] at hP
      have hD := hD1.weaken (fun _ _ _ h => hFc _ h)
      generalize H1 = H at hP hS ⊢
      have hP : va_P (dC, dI) vwCl (mW ad cA u_176) H := hP
      have hD : va_D A (mW ad cA u_176) := hD
      refine lv_aload_n hx hb dM_yield_36 rfl (lv_at hl 1 rfl) ?_
      have hFc := va_free (wc := (mW ad cA u_176)) hD hS hA [0, 1, 2, 3, 4, 5, 6, 7] rfl
      refine va_callv (va_runV (As := []) (rest := []) ⟨hx, hb, hml, hown, hts⟩ (mc_putAside l dC dI ad cA _ u_176 _ rfl) (cwV 0 hts gM_yield_putAside rfl rfl rfl (by decide +kernel) ⟨Nat.le_of_ble_eq_true rfl, Nat.le_of_ble_eq_true rfl⟩) ⟨fun a U g mk q => by obtain ⟨q0, q1, qP, qK, qD⟩ := q; exact ⟨q0, q1, qP, va_K.moved (u := U) (U := U.calling g mk a) (Vm.Alike.refl U.vm) qK, qD⟩, va_recv hK hP (ci := 1) (q0 := 0) rfl rfl, fun U hU hW => ⟨rfl, by rw [hU], by rw [hU]; exact hP, va_K.moved hW.alike hK, hD.weaken (fun _ _ _ _ => trivial)⟩⟩ rfl rfl hl.1 rfl (lv_room (Nat.le_of_ble_eq_true rfl)) dM_yield_37 ⟨Nat.le_of_ble_eq_true rfl, Nat.le_of_ble_eq_true rfl⟩) hS (fun q _ h => hFc q h) hFc (fun u_178 t H1 locs ht hvm hu_178 hB hz1 hk1 hS => ?_)
      obtain ⟨hP, hK1, hD1⟩ := hB
      rw [ht] at hP
      have hD := hD1.weaken (fun _ _ _ h => hFc _ h)
      generalize H1 = H at hP hS ⊢
      have hP : va_P (dC, dI) vwCl (mW ad cA u_178) H := hP
      have hD : va_D A (mW ad cA u_178) := hD
      refine lv_iconst (v := 1) hx hb dM_yield_40 (by decide) ?_
      have eT : (1, u_178) = T := by subst hr_171 hr_173 hu_176 hu_178; rw [← hf]; simp only [mf_yield, if_neg c_172, if_pos c_174]
      exact W.zret (v := 1) hx hb hr (rfl) (fun t ht hW => ⟨⟨1, u_178, rfl, ⟨congrArg Prod.fst eT, congrArg Prod.snd eT⟩, by rw [ht]; exact hP, va_K.moved hW.alike hK, hD⟩, hS.F ht⟩) hS.2.2 dM_yield_41
    · refine lv_iconst (v := 0) hx hb dM_yield_23 (by decide) ?_
      have eT : (0, u) = T := by subst hr_171 hr_173; rw [← hf]; simp only [mf_yield, if_neg c_172, if_neg c_174]
      exact W.zret (v := 0) hx hb hr (rfl) (fun t ht hW => ⟨⟨0, u, rfl, ⟨congrArg Prod.fst eT, congrArg Prod.snd eT⟩, by rw [ht]; exact hP, va_K.moved hW.alike hK, hD⟩, hS.F ht⟩) hS.2.2 dM_yield_24
def m0 : MS := ((fun _ => 0), (fun _ => 0), (fun _ => 0), (fun _ => 0), (fun _ => 0), 0, (fun _ => 0), 0, (fun _ => 0), (-1), 0, 0, (-1))
def mNew (dC : Nat → ClassId) (dI : Nat → Nat → Nat) (A : Nat → Prop) (h0 : Nat) (u : MS) (t : State) : Prop := ∃ (ad : Nat → Nat) (cA : Nat → ClassId), ad 0 = h0 ∧ mAt dC dI A ad cA u t
set_option maxHeartbeats 4000000 in
set_option maxRecDepth 100000 in
theorem mc_init (l : Launch) (dC : Nat → ClassId) (dI : Nat → Nat → Nat) (h0 sz : Nat) : Met l yX1_init wsX1_init ({ frames := 1, cells := 7, slots := 216, locals := 12 } : Room) (va_Pc [.ref h0] (fun U => U.heap.size = sz ∧ va_P (dC, dI) vwCl [(h0, .inr (1, [.null, .null, .null, .null, .null, .long 0, .null, .int 0, .null, .int 0, .int 0, .int 0, .int 0]))] U.heap ∧ va_K (dC, dI) vwCl [] U ∧ va_D (fun _ => True) [(h0, .inr (1, [.null, .null, .null, .null, .null, .long 0, .null, .int 0, .null, .int 0, .int 0, .int 0, .int 0]))])) (va_Qv (fun u => u = m0) (mNew dC dI (va_A [(h0, .inr (1, [.null, .null, .null, .null, .null, .long 0, .null, .int 0, .null, .int 0, .int 0, .int 0, .int 0]))] sz) h0) (va_A [(h0, .inr (1, [.null, .null, .null, .null, .null, .long 0, .null, .int 0, .null, .int 0, .int 0, .int 0, .int 0]))] sz)) 7 216 (va_A [(h0, .inr (1, [.null, .null, .null, .null, .null, .long 0, .null, .int 0, .null, .int 0, .int 0, .int 0, .int 0]))] sz) := by
  refine Met.ofW (cc := cX1_init) (maxL := 1) (ret := none) (by decide) rfl ?_
  intro p e s m args below meth c s₁ B hml hv
  obtain ⟨rfl, hsz, hP, hK, hD0⟩ := hv
  have hx := B.exec
  have hb := B.bytes
  have hr := B.returns
  have hts := atoms_spec (ws := wsX1_init) B.pre
  have hown : s.vm.findClass RX1 = some m.cls := findClass_of_methodNamed B.named
  have hlocks := B.notSynchronized
  have hin : meth.name = "<init>" := (name_of_methodNamed B.named B.method).1
  have hin0 : ∀ w ∈ wsX10, w ∈ wsX1_init := by decide +kernel
  have fl_made := hts (.fieldLink RX1 7 "ProcessRoomModel" "made" "[Z") (by decide +kernel)
  have fl_priorities := hts (.fieldLink RX1 13 "ProcessRoomModel" "priorities" "[I") (by decide +kernel)
  have fl_places := hts (.fieldLink RX1 17 "ProcessRoomModel" "places" "[I") (by decide +kernel)
  have fl_rows := hts (.fieldLink RX1 20 "ProcessRoomModel" "rows" "[I") (by decide +kernel)
  have fl_when := hts (.fieldLink RX1 23 "ProcessRoomModel" "when" "[J") (by decide +kernel)
  have fl_extras := hts (.fieldLink RX1 27 "ProcessRoomModel" "extras" "[I") (by decide +kernel)
  have fl_posted := hts (.fieldLink RX1 30 "ProcessRoomModel" "posted" "[I") (by decide +kernel)
  have fl_active := hts (.fieldLink RX1 33 "ProcessRoomModel" "active" "I") (by decide +kernel)
  have fl_change := hts (.fieldLink RX1 37 "ProcessRoomModel" "change" "I") (by decide +kernel)
  subst hsz
  have hD := hD0.self (sz := s.heap.size)
  generalize hAe : va_A [(h0, .inr (1, [.null, .null, .null, .null, .null, .long 0, .null, .int 0, .null, .int 0, .int 0, .int 0, .int 0]))] s.heap.size = A at hD ⊢
  have hA : ∀ q : Nat, s.heap.size ≤ q → A q := fun q h => by rw [← hAe]; exact Or.inr h
  have hS : va_S A s.heap s.heap [] := va_S.rf
  have hl := lv_entry ([.ref h0]) (n := 1) (Nat.le_of_ble_eq_true rfl)
  rw [lg_entry_eq]
  generalize (lg_sl ([.ref h0]) ++ List.replicate (1 - (lg_sl ([.ref h0])).length) Slot.unset).toArray = ls at hl ⊢
  have hl : lv_has ls 1 [(0, .ref h0)] := hl
  refine lv_aload_n hx hb dX1_init_0 rfl (lv_at hl 0 rfl) ?_
  refine W.objInit hx hb hown (hts (.methodLink RX1 1 objectInit) (by decide +kernel)) (hts (.instanceMethod objectInit) (by decide +kernel)) (hts (.code objectInit ⟨#[0xb1]⟩ 1 none) (by decide +kernel)) rfl (by rw [hml]; exact hl.1) rfl dX1_init_1 (Nat.le_of_ble_eq_true rfl) (Nat.le_of_ble_eq_true rfl) ?_
  refine W.eq (g2 := F0 m 4 ls []) rfl ?_
  refine lv_aload_n hx hb dX1_init_4 rfl (lv_at hl 0 rfl) ?_
  refine lv_bipush (v := 32) hx hb dX1_init_5 (by decide) ?_
  refine va_newa (atype := .boolean) (ty := .boolean) (N' := 32) (a0 := (32, .inl (fun _ => 0))) hx hb (hts (.arrayClass .boolean) (by decide +kernel)) rfl hK hP hD hS hA (fun _ => rfl) (by decide) rfl (by decide) (Nat.le_of_ble_eq_true rfl) (Nat.le_of_ble_eq_true rfl) dX1_init_7 (fun q1 c1 H hK hP hD hS => ?_)
  have hK : va_K (dC, dI) vwCl [(c1, .boolean)] s := hK
  have hP : va_P (dC, dI) vwCl [(h0, .inr (1, [.null, .null, .null, .null, .null, .long 0, .null, .int 0, .null, .int 0, .int 0, .int 0, .int 0])), (q1, .inl (c1, 32, .inl (fun _ => 0)))] H := hP
  have hD : va_D A [(h0, .inr (1, [.null, .null, .null, .null, .null, .long 0, .null, .int 0, .null, .int 0, .int 0, .int 0, .int 0])), (q1, .inl (c1, 32, .inl (fun _ => 0)))] := hD
  refine W.widen (k := 1) (n := 32) (by omega) (by omega) ?_
  refine va_putF (D := (dC, dI)) (ci := 1) (v := .ref q1) (ty := (.array .boolean)) (C := RX1) (T := TX1) (N := 13) hx hb hts hin0 tyX1 tyX1_ok nmX1 hown hK hP hD hS 0 rfl rfl 0 (by decide) fl_made (fun _ h9 => h9) rfl hin rfl (by decide +kernel) rfl rfl (Nat.le_of_ble_eq_true rfl) dX1_init_9 (fun H locs hP hD hS => ?_)
  have hP : va_P (dC, dI) vwCl [(h0, .inr (1, [.ref q1, .null, .null, .null, .null, .long 0, .null, .int 0, .null, .int 0, .int 0, .int 0, .int 0])), (q1, .inl (c1, 32, .inl (fun _ => 0)))] H := hP
  have hD : va_D A [(h0, .inr (1, [.ref q1, .null, .null, .null, .null, .long 0, .null, .int 0, .null, .int 0, .int 0, .int 0, .int 0])), (q1, .inl (c1, 32, .inl (fun _ => 0)))] := hD
  refine lv_aload_n hx hb dX1_init_12 rfl (lv_at hl 0 rfl) ?_
  refine lv_bipush (v := 32) hx hb dX1_init_13 (by decide) ?_
  refine va_newa (atype := .int) (ty := .int) (N' := 32) (a0 := (32, .inl (fun _ => 0))) hx hb (hts (.arrayClass .int) (by decide +kernel)) rfl hK hP hD hS hA (fun _ => rfl) (by decide) rfl (by decide) (Nat.le_of_ble_eq_true rfl) (Nat.le_of_ble_eq_true rfl) dX1_init_15 (fun q2 c2 H hK hP hD hS => ?_)
  have hK : va_K (dC, dI) vwCl [(c1, .boolean), (c2, .int)] s := hK
  have hP : va_P (dC, dI) vwCl [(h0, .inr (1, [.ref q1, .null, .null, .null, .null, .long 0, .null, .int 0, .null, .int 0, .int 0, .int 0, .int 0])), (q1, .inl (c1, 32, .inl (fun _ => 0))), (q2, .inl (c2, 32, .inl (fun _ => 0)))] H := hP
  have hD : va_D A [(h0, .inr (1, [.ref q1, .null, .null, .null, .null, .long 0, .null, .int 0, .null, .int 0, .int 0, .int 0, .int 0])), (q1, .inl (c1, 32, .inl (fun _ => 0))), (q2, .inl (c2, 32, .inl (fun _ => 0)))] := hD
  refine W.widen (k := 2) (n := 64) (by omega) (by omega) ?_
  refine va_putF (D := (dC, dI)) (ci := 1) (v := .ref q2) (ty := (.array .int)) (C := RX1) (T := TX1) (N := 13) hx hb hts hin0 tyX1 tyX1_ok nmX1 hown hK hP hD hS 0 rfl rfl 1 (by decide) fl_priorities (fun _ h9 => h9) rfl hin rfl (by decide +kernel) rfl rfl (Nat.le_of_ble_eq_true rfl) dX1_init_17 (fun H locs hP hD hS => ?_)
  have hP : va_P (dC, dI) vwCl [(h0, .inr (1, [.ref q1, .ref q2, .null, .null, .null, .long 0, .null, .int 0, .null, .int 0, .int 0, .int 0, .int 0])), (q1, .inl (c1, 32, .inl (fun _ => 0))), (q2, .inl (c2, 32, .inl (fun _ => 0)))] H := hP
  have hD : va_D A [(h0, .inr (1, [.ref q1, .ref q2, .null, .null, .null, .long 0, .null, .int 0, .null, .int 0, .int 0, .int 0, .int 0])), (q1, .inl (c1, 32, .inl (fun _ => 0))), (q2, .inl (c2, 32, .inl (fun _ => 0)))] := hD
  refine lv_aload_n hx hb dX1_init_20 rfl (lv_at hl 0 rfl) ?_
  refine lv_bipush (v := 32) hx hb dX1_init_21 (by decide) ?_
  refine va_newa (atype := .int) (ty := .int) (N' := 32) (a0 := (32, .inl (fun _ => 0))) hx hb (hts (.arrayClass .int) (by decide +kernel)) rfl hK hP hD hS hA (fun _ => rfl) (by decide) rfl (by decide) (Nat.le_of_ble_eq_true rfl) (Nat.le_of_ble_eq_true rfl) dX1_init_23 (fun q3 c3 H hK hP hD hS => ?_)
  have hK : va_K (dC, dI) vwCl [(c1, .boolean), (c2, .int), (c3, .int)] s := hK
  have hP : va_P (dC, dI) vwCl [(h0, .inr (1, [.ref q1, .ref q2, .null, .null, .null, .long 0, .null, .int 0, .null, .int 0, .int 0, .int 0, .int 0])), (q1, .inl (c1, 32, .inl (fun _ => 0))), (q2, .inl (c2, 32, .inl (fun _ => 0))), (q3, .inl (c3, 32, .inl (fun _ => 0)))] H := hP
  have hD : va_D A [(h0, .inr (1, [.ref q1, .ref q2, .null, .null, .null, .long 0, .null, .int 0, .null, .int 0, .int 0, .int 0, .int 0])), (q1, .inl (c1, 32, .inl (fun _ => 0))), (q2, .inl (c2, 32, .inl (fun _ => 0))), (q3, .inl (c3, 32, .inl (fun _ => 0)))] := hD
  refine W.widen (k := 3) (n := 96) (by omega) (by omega) ?_
  refine va_putF (D := (dC, dI)) (ci := 1) (v := .ref q3) (ty := (.array .int)) (C := RX1) (T := TX1) (N := 13) hx hb hts hin0 tyX1 tyX1_ok nmX1 hown hK hP hD hS 0 rfl rfl 2 (by decide) fl_places (fun _ h9 => h9) rfl hin rfl (by decide +kernel) rfl rfl (Nat.le_of_ble_eq_true rfl) dX1_init_25 (fun H locs hP hD hS => ?_)
  have hP : va_P (dC, dI) vwCl [(h0, .inr (1, [.ref q1, .ref q2, .ref q3, .null, .null, .long 0, .null, .int 0, .null, .int 0, .int 0, .int 0, .int 0])), (q1, .inl (c1, 32, .inl (fun _ => 0))), (q2, .inl (c2, 32, .inl (fun _ => 0))), (q3, .inl (c3, 32, .inl (fun _ => 0)))] H := hP
  have hD : va_D A [(h0, .inr (1, [.ref q1, .ref q2, .ref q3, .null, .null, .long 0, .null, .int 0, .null, .int 0, .int 0, .int 0, .int 0])), (q1, .inl (c1, 32, .inl (fun _ => 0))), (q2, .inl (c2, 32, .inl (fun _ => 0))), (q3, .inl (c3, 32, .inl (fun _ => 0)))] := hD
  refine lv_aload_n hx hb dX1_init_28 rfl (lv_at hl 0 rfl) ?_
  refine lv_bipush (v := 32) hx hb dX1_init_29 (by decide) ?_
  refine va_newa (atype := .int) (ty := .int) (N' := 32) (a0 := (32, .inl (fun _ => 0))) hx hb (hts (.arrayClass .int) (by decide +kernel)) rfl hK hP hD hS hA (fun _ => rfl) (by decide) rfl (by decide) (Nat.le_of_ble_eq_true rfl) (Nat.le_of_ble_eq_true rfl) dX1_init_31 (fun q4 c4 H hK hP hD hS => ?_)
  have hK : va_K (dC, dI) vwCl [(c1, .boolean), (c2, .int), (c3, .int), (c4, .int)] s := hK
  have hP : va_P (dC, dI) vwCl [(h0, .inr (1, [.ref q1, .ref q2, .ref q3, .null, .null, .long 0, .null, .int 0, .null, .int 0, .int 0, .int 0, .int 0])), (q1, .inl (c1, 32, .inl (fun _ => 0))), (q2, .inl (c2, 32, .inl (fun _ => 0))), (q3, .inl (c3, 32, .inl (fun _ => 0))), (q4, .inl (c4, 32, .inl (fun _ => 0)))] H := hP
  have hD : va_D A [(h0, .inr (1, [.ref q1, .ref q2, .ref q3, .null, .null, .long 0, .null, .int 0, .null, .int 0, .int 0, .int 0, .int 0])), (q1, .inl (c1, 32, .inl (fun _ => 0))), (q2, .inl (c2, 32, .inl (fun _ => 0))), (q3, .inl (c3, 32, .inl (fun _ => 0))), (q4, .inl (c4, 32, .inl (fun _ => 0)))] := hD
  refine W.widen (k := 4) (n := 128) (by omega) (by omega) ?_
  refine va_putF (D := (dC, dI)) (ci := 1) (v := .ref q4) (ty := (.array .int)) (C := RX1) (T := TX1) (N := 13) hx hb hts hin0 tyX1 tyX1_ok nmX1 hown hK hP hD hS 0 rfl rfl 3 (by decide) fl_rows (fun _ h9 => h9) rfl hin rfl (by decide +kernel) rfl rfl (Nat.le_of_ble_eq_true rfl) dX1_init_33 (fun H locs hP hD hS => ?_)
  have hP : va_P (dC, dI) vwCl [(h0, .inr (1, [.ref q1, .ref q2, .ref q3, .ref q4, .null, .long 0, .null, .int 0, .null, .int 0, .int 0, .int 0, .int 0])), (q1, .inl (c1, 32, .inl (fun _ => 0))), (q2, .inl (c2, 32, .inl (fun _ => 0))), (q3, .inl (c3, 32, .inl (fun _ => 0))), (q4, .inl (c4, 32, .inl (fun _ => 0)))] H := hP
  have hD : va_D A [(h0, .inr (1, [.ref q1, .ref q2, .ref q3, .ref q4, .null, .long 0, .null, .int 0, .null, .int 0, .int 0, .int 0, .int 0])), (q1, .inl (c1, 32, .inl (fun _ => 0))), (q2, .inl (c2, 32, .inl (fun _ => 0))), (q3, .inl (c3, 32, .inl (fun _ => 0))), (q4, .inl (c4, 32, .inl (fun _ => 0)))] := hD
  refine lv_aload_n hx hb dX1_init_36 rfl (lv_at hl 0 rfl) ?_
  refine lv_bipush (v := 32) hx hb dX1_init_37 (by decide) ?_
  refine va_newa (atype := .long) (ty := .long) (N' := 32) (a0 := (32, .inr (.inl (fun _ => 0)))) hx hb (hts (.arrayClass .long) (by decide +kernel)) rfl hK hP hD hS hA (fun _ => rfl) (by decide) rfl (by decide) (Nat.le_of_ble_eq_true rfl) (Nat.le_of_ble_eq_true rfl) dX1_init_39 (fun q5 c5 H hK hP hD hS => ?_)
  have hK : va_K (dC, dI) vwCl [(c1, .boolean), (c2, .int), (c3, .int), (c4, .int), (c5, .long)] s := hK
  have hP : va_P (dC, dI) vwCl [(h0, .inr (1, [.ref q1, .ref q2, .ref q3, .ref q4, .null, .long 0, .null, .int 0, .null, .int 0, .int 0, .int 0, .int 0])), (q1, .inl (c1, 32, .inl (fun _ => 0))), (q2, .inl (c2, 32, .inl (fun _ => 0))), (q3, .inl (c3, 32, .inl (fun _ => 0))), (q4, .inl (c4, 32, .inl (fun _ => 0))), (q5, .inl (c5, 32, .inr (.inl (fun _ => 0))))] H := hP
  have hD : va_D A [(h0, .inr (1, [.ref q1, .ref q2, .ref q3, .ref q4, .null, .long 0, .null, .int 0, .null, .int 0, .int 0, .int 0, .int 0])), (q1, .inl (c1, 32, .inl (fun _ => 0))), (q2, .inl (c2, 32, .inl (fun _ => 0))), (q3, .inl (c3, 32, .inl (fun _ => 0))), (q4, .inl (c4, 32, .inl (fun _ => 0))), (q5, .inl (c5, 32, .inr (.inl (fun _ => 0))))] := hD
  refine W.widen (k := 5) (n := 160) (by omega) (by omega) ?_
  refine va_putF (D := (dC, dI)) (ci := 1) (v := .ref q5) (ty := (.array .long)) (C := RX1) (T := TX1) (N := 13) hx hb hts hin0 tyX1 tyX1_ok nmX1 hown hK hP hD hS 0 rfl rfl 4 (by decide) fl_when (fun _ h9 => h9) rfl hin rfl (by decide +kernel) rfl rfl (Nat.le_of_ble_eq_true rfl) dX1_init_41 (fun H locs hP hD hS => ?_)
  have hP : va_P (dC, dI) vwCl [(h0, .inr (1, [.ref q1, .ref q2, .ref q3, .ref q4, .ref q5, .long 0, .null, .int 0, .null, .int 0, .int 0, .int 0, .int 0])), (q1, .inl (c1, 32, .inl (fun _ => 0))), (q2, .inl (c2, 32, .inl (fun _ => 0))), (q3, .inl (c3, 32, .inl (fun _ => 0))), (q4, .inl (c4, 32, .inl (fun _ => 0))), (q5, .inl (c5, 32, .inr (.inl (fun _ => 0))))] H := hP
  have hD : va_D A [(h0, .inr (1, [.ref q1, .ref q2, .ref q3, .ref q4, .ref q5, .long 0, .null, .int 0, .null, .int 0, .int 0, .int 0, .int 0])), (q1, .inl (c1, 32, .inl (fun _ => 0))), (q2, .inl (c2, 32, .inl (fun _ => 0))), (q3, .inl (c3, 32, .inl (fun _ => 0))), (q4, .inl (c4, 32, .inl (fun _ => 0))), (q5, .inl (c5, 32, .inr (.inl (fun _ => 0))))] := hD
  refine lv_aload_n hx hb dX1_init_44 rfl (lv_at hl 0 rfl) ?_
  refine lv_bipush (v := 16) hx hb dX1_init_45 (by decide) ?_
  refine va_newa (atype := .int) (ty := .int) (N' := 16) (a0 := (16, .inl (fun _ => 0))) hx hb (hts (.arrayClass .int) (by decide +kernel)) rfl hK hP hD hS hA (fun _ => rfl) (by decide) rfl (by decide) (Nat.le_of_ble_eq_true rfl) (Nat.le_of_ble_eq_true rfl) dX1_init_47 (fun q6 c6 H hK hP hD hS => ?_)
  have hK : va_K (dC, dI) vwCl [(c1, .boolean), (c2, .int), (c3, .int), (c4, .int), (c5, .long), (c6, .int)] s := hK
  have hP : va_P (dC, dI) vwCl [(h0, .inr (1, [.ref q1, .ref q2, .ref q3, .ref q4, .ref q5, .long 0, .null, .int 0, .null, .int 0, .int 0, .int 0, .int 0])), (q1, .inl (c1, 32, .inl (fun _ => 0))), (q2, .inl (c2, 32, .inl (fun _ => 0))), (q3, .inl (c3, 32, .inl (fun _ => 0))), (q4, .inl (c4, 32, .inl (fun _ => 0))), (q5, .inl (c5, 32, .inr (.inl (fun _ => 0)))), (q6, .inl (c6, 16, .inl (fun _ => 0)))] H := hP
  have hD : va_D A [(h0, .inr (1, [.ref q1, .ref q2, .ref q3, .ref q4, .ref q5, .long 0, .null, .int 0, .null, .int 0, .int 0, .int 0, .int 0])), (q1, .inl (c1, 32, .inl (fun _ => 0))), (q2, .inl (c2, 32, .inl (fun _ => 0))), (q3, .inl (c3, 32, .inl (fun _ => 0))), (q4, .inl (c4, 32, .inl (fun _ => 0))), (q5, .inl (c5, 32, .inr (.inl (fun _ => 0)))), (q6, .inl (c6, 16, .inl (fun _ => 0)))] := hD
  refine W.widen (k := 6) (n := 176) (by omega) (by omega) ?_
  refine va_putF (D := (dC, dI)) (ci := 1) (v := .ref q6) (ty := (.array .int)) (C := RX1) (T := TX1) (N := 13) hx hb hts hin0 tyX1 tyX1_ok nmX1 hown hK hP hD hS 0 rfl rfl 6 (by decide) fl_extras (fun _ h9 => h9) rfl hin rfl (by decide +kernel) rfl rfl (Nat.le_of_ble_eq_true rfl) dX1_init_49 (fun H locs hP hD hS => ?_)
  have hP : va_P (dC, dI) vwCl [(h0, .inr (1, [.ref q1, .ref q2, .ref q3, .ref q4, .ref q5, .long 0, .ref q6, .int 0, .null, .int 0, .int 0, .int 0, .int 0])), (q1, .inl (c1, 32, .inl (fun _ => 0))), (q2, .inl (c2, 32, .inl (fun _ => 0))), (q3, .inl (c3, 32, .inl (fun _ => 0))), (q4, .inl (c4, 32, .inl (fun _ => 0))), (q5, .inl (c5, 32, .inr (.inl (fun _ => 0)))), (q6, .inl (c6, 16, .inl (fun _ => 0)))] H := hP
  have hD : va_D A [(h0, .inr (1, [.ref q1, .ref q2, .ref q3, .ref q4, .ref q5, .long 0, .ref q6, .int 0, .null, .int 0, .int 0, .int 0, .int 0])), (q1, .inl (c1, 32, .inl (fun _ => 0))), (q2, .inl (c2, 32, .inl (fun _ => 0))), (q3, .inl (c3, 32, .inl (fun _ => 0))), (q4, .inl (c4, 32, .inl (fun _ => 0))), (q5, .inl (c5, 32, .inr (.inl (fun _ => 0)))), (q6, .inl (c6, 16, .inl (fun _ => 0)))] := hD
  refine lv_aload_n hx hb dX1_init_52 rfl (lv_at hl 0 rfl) ?_
  refine lv_bipush (v := 40) hx hb dX1_init_53 (by decide) ?_
  refine va_newa (atype := .int) (ty := .int) (N' := 40) (a0 := (40, .inl (fun _ => 0))) hx hb (hts (.arrayClass .int) (by decide +kernel)) rfl hK hP hD hS hA (fun _ => rfl) (by decide) rfl (by decide) (Nat.le_of_ble_eq_true rfl) (Nat.le_of_ble_eq_true rfl) dX1_init_55 (fun q7 c7 H hK hP hD hS => ?_)
  have hK : va_K (dC, dI) vwCl [(c1, .boolean), (c2, .int), (c3, .int), (c4, .int), (c5, .long), (c6, .int), (c7, .int)] s := hK
  have hP : va_P (dC, dI) vwCl [(h0, .inr (1, [.ref q1, .ref q2, .ref q3, .ref q4, .ref q5, .long 0, .ref q6, .int 0, .null, .int 0, .int 0, .int 0, .int 0])), (q1, .inl (c1, 32, .inl (fun _ => 0))), (q2, .inl (c2, 32, .inl (fun _ => 0))), (q3, .inl (c3, 32, .inl (fun _ => 0))), (q4, .inl (c4, 32, .inl (fun _ => 0))), (q5, .inl (c5, 32, .inr (.inl (fun _ => 0)))), (q6, .inl (c6, 16, .inl (fun _ => 0))), (q7, .inl (c7, 40, .inl (fun _ => 0)))] H := hP
  have hD : va_D A [(h0, .inr (1, [.ref q1, .ref q2, .ref q3, .ref q4, .ref q5, .long 0, .ref q6, .int 0, .null, .int 0, .int 0, .int 0, .int 0])), (q1, .inl (c1, 32, .inl (fun _ => 0))), (q2, .inl (c2, 32, .inl (fun _ => 0))), (q3, .inl (c3, 32, .inl (fun _ => 0))), (q4, .inl (c4, 32, .inl (fun _ => 0))), (q5, .inl (c5, 32, .inr (.inl (fun _ => 0)))), (q6, .inl (c6, 16, .inl (fun _ => 0))), (q7, .inl (c7, 40, .inl (fun _ => 0)))] := hD
  refine W.widen (k := 7) (n := 216) (by omega) (by omega) ?_
  refine va_putF (D := (dC, dI)) (ci := 1) (v := .ref q7) (ty := (.array .int)) (C := RX1) (T := TX1) (N := 13) hx hb hts hin0 tyX1 tyX1_ok nmX1 hown hK hP hD hS 0 rfl rfl 8 (by decide) fl_posted (fun _ h9 => h9) rfl hin rfl (by decide +kernel) rfl rfl (Nat.le_of_ble_eq_true rfl) dX1_init_57 (fun H locs hP hD hS => ?_)
  have hP : va_P (dC, dI) vwCl [(h0, .inr (1, [.ref q1, .ref q2, .ref q3, .ref q4, .ref q5, .long 0, .ref q6, .int 0, .ref q7, .int 0, .int 0, .int 0, .int 0])), (q1, .inl (c1, 32, .inl (fun _ => 0))), (q2, .inl (c2, 32, .inl (fun _ => 0))), (q3, .inl (c3, 32, .inl (fun _ => 0))), (q4, .inl (c4, 32, .inl (fun _ => 0))), (q5, .inl (c5, 32, .inr (.inl (fun _ => 0)))), (q6, .inl (c6, 16, .inl (fun _ => 0))), (q7, .inl (c7, 40, .inl (fun _ => 0)))] H := hP
  have hD : va_D A [(h0, .inr (1, [.ref q1, .ref q2, .ref q3, .ref q4, .ref q5, .long 0, .ref q6, .int 0, .ref q7, .int 0, .int 0, .int 0, .int 0])), (q1, .inl (c1, 32, .inl (fun _ => 0))), (q2, .inl (c2, 32, .inl (fun _ => 0))), (q3, .inl (c3, 32, .inl (fun _ => 0))), (q4, .inl (c4, 32, .inl (fun _ => 0))), (q5, .inl (c5, 32, .inr (.inl (fun _ => 0)))), (q6, .inl (c6, 16, .inl (fun _ => 0))), (q7, .inl (c7, 40, .inl (fun _ => 0)))] := hD
  refine lv_aload_n hx hb dX1_init_60 rfl (lv_at hl 0 rfl) ?_
  refine lv_iconst (v := (-1)) hx hb dX1_init_61 (by decide) ?_
  refine va_put (D := (dC, dI)) (ci := 1) (v := .int (-1)) (ty := .int) (C := RX1) (T := TX1) (N := 13) hx hb hts hin0 tyX1 tyX1_ok nmX1 hown hK hP hD hS 0 rfl rfl 9 (by decide) fl_active (fun _ h9 => h9) rfl (by decide +kernel) rfl rfl (Nat.le_of_ble_eq_true rfl) dX1_init_62 (fun H locs hP hD hS => ?_)
  have hP : va_P (dC, dI) vwCl [(h0, .inr (1, [.ref q1, .ref q2, .ref q3, .ref q4, .ref q5, .long 0, .ref q6, .int 0, .ref q7, .int (-1), .int 0, .int 0, .int 0])), (q1, .inl (c1, 32, .inl (fun _ => 0))), (q2, .inl (c2, 32, .inl (fun _ => 0))), (q3, .inl (c3, 32, .inl (fun _ => 0))), (q4, .inl (c4, 32, .inl (fun _ => 0))), (q5, .inl (c5, 32, .inr (.inl (fun _ => 0)))), (q6, .inl (c6, 16, .inl (fun _ => 0))), (q7, .inl (c7, 40, .inl (fun _ => 0)))] H := hP
  have hD : va_D A [(h0, .inr (1, [.ref q1, .ref q2, .ref q3, .ref q4, .ref q5, .long 0, .ref q6, .int 0, .ref q7, .int (-1), .int 0, .int 0, .int 0])), (q1, .inl (c1, 32, .inl (fun _ => 0))), (q2, .inl (c2, 32, .inl (fun _ => 0))), (q3, .inl (c3, 32, .inl (fun _ => 0))), (q4, .inl (c4, 32, .inl (fun _ => 0))), (q5, .inl (c5, 32, .inr (.inl (fun _ => 0)))), (q6, .inl (c6, 16, .inl (fun _ => 0))), (q7, .inl (c7, 40, .inl (fun _ => 0)))] := hD
  refine lv_aload_n hx hb dX1_init_65 rfl (lv_at hl 0 rfl) ?_
  refine lv_iconst (v := (-1)) hx hb dX1_init_66 (by decide) ?_
  refine va_put (D := (dC, dI)) (ci := 1) (v := .int (-1)) (ty := .int) (C := RX1) (T := TX1) (N := 13) hx hb hts hin0 tyX1 tyX1_ok nmX1 hown hK hP hD hS 0 rfl rfl 12 (by decide) fl_change (fun _ h9 => h9) rfl (by decide +kernel) rfl rfl (Nat.le_of_ble_eq_true rfl) dX1_init_67 (fun H locs hP hD hS => ?_)
  have hP : va_P (dC, dI) vwCl [(h0, .inr (1, [.ref q1, .ref q2, .ref q3, .ref q4, .ref q5, .long 0, .ref q6, .int 0, .ref q7, .int (-1), .int 0, .int 0, .int (-1)])), (q1, .inl (c1, 32, .inl (fun _ => 0))), (q2, .inl (c2, 32, .inl (fun _ => 0))), (q3, .inl (c3, 32, .inl (fun _ => 0))), (q4, .inl (c4, 32, .inl (fun _ => 0))), (q5, .inl (c5, 32, .inr (.inl (fun _ => 0)))), (q6, .inl (c6, 16, .inl (fun _ => 0))), (q7, .inl (c7, 40, .inl (fun _ => 0)))] H := hP
  have hD : va_D A [(h0, .inr (1, [.ref q1, .ref q2, .ref q3, .ref q4, .ref q5, .long 0, .ref q6, .int 0, .ref q7, .int (-1), .int 0, .int 0, .int (-1)])), (q1, .inl (c1, 32, .inl (fun _ => 0))), (q2, .inl (c2, 32, .inl (fun _ => 0))), (q3, .inl (c3, 32, .inl (fun _ => 0))), (q4, .inl (c4, 32, .inl (fun _ => 0))), (q5, .inl (c5, 32, .inr (.inl (fun _ => 0)))), (q6, .inl (c6, 16, .inl (fun _ => 0))), (q7, .inl (c7, 40, .inl (fun _ => 0)))] := hD
  exact W.vret hx hb hr (fun t ht hW => ⟨⟨m0, rfl, rfl, (fun k => match k with | 0 => h0 | 1 => q1 | 2 => q2 | 3 => q3 | 4 => q4 | 5 => q5 | 6 => q6 | 7 => q7 | _ => 0), (fun k => match k with | 1 => c1 | 2 => c2 | 3 => c3 | 4 => c4 | 5 => c5 | 6 => c6 | 7 => c7 | _ => c1), rfl, by rw [ht]; exact hP.sub [0, 1, 2, 3, 4, 5, 6, 7] rfl, va_K.moved hW.alike (hK.sub [0, 1, 2, 3, 4, 5, 6] rfl), hD.sub [0, 1, 2, 3, 4, 5, 6, 7] (by decide) rfl⟩, hS.F ht⟩) hS.2.2 dX1_init_70
