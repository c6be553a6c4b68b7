set_option maxHeartbeats 4000000 in
set_option maxRecDepth 100000 in
theorem rc_make (l : Launch) (dC : Nat → ClassId) (dI : Nat → Nat → Nat) (ad : Nat → Nat) (cA : Nat → ClassId) (sz : Nat) (u : RS) (p1 : Int32) (p2 : Int32) (p3 : Int32) (T : Int32 × RS) (hf : rf_make u p1 p2 p3 = T) : Met l yX0_make wsX0_make ({ frames := 2, cells := 0, slots := 0, locals := 41 } : Room) (va_Pc [.ref (ad 0), .int p1, .int p2, .int p3] (fun U => U.heap.size = sz ∧ va_P (dC, dI) vwCl (rW ad cA u) U.heap ∧ va_K (dC, dI) vwCl (rT cA) U ∧ va_D (fun _ => True) (rW ad cA u))) (va_Qi (fun r u2 => r = T.1 ∧ u2 = T.2) (rAt dC dI (va_A (rW ad cA u) sz) ad cA) (va_A (rW ad cA u) sz)) 0 0 (va_A (rW ad cA u) sz) := by
  refine Met.ofW (cc := cX0_make) (maxL := 4) (ret := (some .boolean)) (by decide) rfl ?_
  intro p e s m args below meth c s₁ B hml hv
  obtain ⟨rfl, hsz, hP, hK, hD0⟩ := hv
  have hx := B.exec
  have hb := B.bytes
  have hr := B.returns
  have hts := atoms_spec (ws := wsX0_make) B.pre
  have hown : s.vm.findClass RX0 = some m.cls := findClass_of_methodNamed B.named
  have hlocks := B.notSynchronized
  have hin0 : ∀ w ∈ wsX00, w ∈ wsX0_make := by decide +kernel
  have fl_priorities := hts (.fieldLink RX0 9 "ProcessRoom" "priorities" "[I") (by decide +kernel)
  have fl_places := hts (.fieldLink RX0 13 "ProcessRoom" "places" "[I") (by decide +kernel)
  subst hsz
  have hD := hD0.self (sz := s.heap.size)
  generalize hAe : va_A (rW ad cA u) s.heap.size = A at hD ⊢
  have hA : ∀ q : Nat, s.heap.size ≤ q → A q := fun q h => by rw [← hAe]; exact Or.inr h
  have hS : va_S A s.heap s.heap [] := va_S.rf
  have hl := lv_entry ([.ref (ad 0), .int p1, .int p2, .int p3]) (n := 4) (Nat.le_of_ble_eq_true rfl)
  rw [lg_entry_eq]
  generalize (lg_sl ([.ref (ad 0), .int p1, .int p2, .int p3]) ++ List.replicate (4 - (lg_sl ([.ref (ad 0), .int p1, .int p2, .int p3])).length) Slot.unset).toArray = ls at hl ⊢
  have hl : lv_has ls 4 [(0, .ref (ad 0)), (1, .int p1), (2, .int p2), (3, .int p3)] := hl
  refine lv_iload_n hx hb dX0_make_0 rfl (lv_at hl 1 rfl) ?_
  refine va_calli (va_runS (As := [.int p1]) (rest := []) ⟨hx, hb, hml, hown, hts⟩ (rc_isProcess l p1 _ rfl) (va_cwS 1 hts gX0_make_X0_isProcess rfl rfl rfl (by decide +kernel) ⟨Nat.le_of_ble_eq_true rfl, Nat.le_of_ble_eq_true rfl⟩) ⟨fun a U g mk q => ⟨q.1, trivial⟩, fun U hU hW => ⟨rfl, trivial⟩⟩ rfl rfl hl.1 rfl (lv_room (Nat.le_of_ble_eq_true rfl)) dX0_make_1 ⟨Nat.le_of_ble_eq_true rfl, Nat.le_of_ble_eq_true rfl⟩) hS (fun _ _ h => h.elim) (fun _ h => h.elim) (fun r_98 u_ t H1 locs ht hvm hr_98 hB hz1 hk1 hS => ?_)
  have hP := hP.kept (fun k x hx => hk1 x.1 ((hP k x hx).lt) (fun h => h))
  generalize H1 = H at hP hS ⊢
  refine lv_if_eq (tgt := 22) hx hb dX0_make_4 (by decide) (fun c_99 => ?_) (fun c_99 => ?_)
  · refine lv_iconst (v := 0) hx hb dX0_make_22 (by decide) ?_
    have eT : (0, u) = T := by subst hr_98; rw [← hf]; simp only [rf_make, if_pos c_99]
    exact W.zret (v := 0) hx hb hr (rfl) (fun t ht hW => ⟨⟨0, u, rfl, ⟨congrArg Prod.fst eT, congrArg Prod.snd eT⟩, by rw [ht]; exact hP, va_K.moved hW.alike hK, hD⟩, hS.F ht⟩) hS.2.2 dX0_make_23
  · refine lv_aload_n hx hb dX0_make_7 rfl (lv_at hl 0 rfl) ?_
    refine lv_iload_n hx hb dX0_make_8 rfl (lv_at hl 1 rfl) ?_
    refine va_calli (va_runV (As := [.int p1]) (rest := []) ⟨hx, hb, hml, hown, hts⟩ (rc_isMade l dC dI ad cA u p1 _ rfl) (cwV 1 hts gX0_make_X0_isMade rfl rfl rfl (by decide +kernel) ⟨Nat.le_of_ble_eq_true rfl, Nat.le_of_ble_eq_true rfl⟩) ⟨fun a U g mk q => by obtain ⟨q0, qP, qK⟩ := q; exact ⟨q0, qP, va_K.moved (u := U) (U := U.calling g mk a) (Vm.Alike.refl U.vm) qK⟩, va_recv hK hP (ci := 0) (q0 := 0) rfl rfl, fun U hU hW => ⟨rfl, by rw [hU]; exact hP, va_K.moved hW.alike hK⟩⟩ rfl rfl hl.1 rfl (lv_room (Nat.le_of_ble_eq_true rfl)) dX0_make_9 ⟨Nat.le_of_ble_eq_true rfl, Nat.le_of_ble_eq_true rfl⟩) hS (fun _ _ h => h.elim) (fun _ h => h.elim) (fun r_100 u_ t H1 locs ht hvm hr_100 hB hz1 hk1 hS => ?_)
    have hP := hP.kept (fun k x hx => hk1 x.1 ((hP k x hx).lt) (fun h => h))
    generalize H1 = H at hP hS ⊢
    refine lv_if_ne (tgt := 22) hx hb dX0_make_12 (by decide) (fun c_101 => ?_) (fun c_101 => ?_)
    · refine lv_iconst (v := 0) hx hb dX0_make_22 (by decide) ?_
      have eT : (0, u) = T := by subst hr_98 hr_100; rw [← hf]; simp only [rf_make, if_neg c_99, if_neg c_101]
      exact W.zret (v := 0) hx hb hr (rfl) (fun t ht hW => ⟨⟨0, u, rfl, ⟨congrArg Prod.fst eT, congrArg Prod.snd eT⟩, by rw [ht]; exact hP, va_K.moved hW.alike hK, hD⟩, hS.F ht⟩) hS.2.2 dX0_make_23
    · refine lv_iload_n hx hb dX0_make_15 rfl (lv_at hl 2 rfl) ?_
      refine va_calli (va_runS (As := [.int p2]) (rest := []) ⟨hx, hb, hml, hown, hts⟩ (rc_isPriority l p2 _ rfl) (va_cwS 1 hts gX0_make_X0_isPriority rfl rfl rfl (by decide +kernel) ⟨Nat.le_of_ble_eq_true rfl, Nat.le_of_ble_eq_true rfl⟩) ⟨fun a U g mk q => ⟨q.1, trivial⟩, fun U hU hW => ⟨rfl, trivial⟩⟩ rfl rfl hl.1 rfl (lv_room (Nat.le_of_ble_eq_true rfl)) dX0_make_16 ⟨Nat.le_of_ble_eq_true rfl, Nat.le_of_ble_eq_true rfl⟩) hS (fun _ _ h => h.elim) (fun _ h => h.elim) (fun r_102 u_ t H1 locs ht hvm hr_102 hB hz1 hk1 hS => ?_)
      have hP := hP.kept (fun k x hx => hk1 x.1 ((hP k x hx).lt) (fun h => h))
      generalize H1 = H at hP hS ⊢
      refine lv_if_ne (tgt := 24) hx hb dX0_make_19 (by decide) (fun c_103 => ?_) (fun c_103 => ?_)
      · refine lv_aload_n hx hb dX0_make_24 rfl (lv_at hl 0 rfl) ?_
        refine va_get (D := (dC, dI)) (ci := 0) (v := .ref (ad 1)) (C := RX0) (T := TX0) (N := 12) (fs := rF ad u) hx hb hts hin0 hown hK hP 0 rfl rfl 0 (by decide) fl_priorities (fun _ h9 => h9) rfl dX0_make_25 ?_
        refine lv_iload_n hx hb dX0_make_28 rfl (lv_at hl 1 rfl) ?_
        refine lv_iload_n hx hb dX0_make_29 rfl (lv_at hl 2 rfl) ?_
        refine va_iast hx hb hK hP hD hS 1 0 rfl rfl (ri_isProcess hr_98 c_99) dX0_make_30 (fun H locs hP hD hS => ?_)
        rw [rw_priorities] at hP hD
        obtain ⟨u_104, hu_104⟩ : ∃ w : RS, w = rs_priorities u (upd (ra_priorities u) p1.toNatClampNeg p2) := ⟨_, rfl⟩
        rw [← hu_104] at hP hD
        refine lv_aload_n hx hb dX0_make_31 rfl (lv_at hl 0 rfl) ?_
        refine va_get (D := (dC, dI)) (ci := 0) (v := .ref (ad 2)) (C := RX0) (T := TX0) (N := 12) (fs := rF ad u_104) hx hb hts hin0 hown hK hP 0 rfl rfl 1 (by decide) fl_places (fun _ h9 => h9) rfl dX0_make_32 ?_
        refine lv_iload_n hx hb dX0_make_35 rfl (lv_at hl 1 rfl) ?_
        refine lv_iload_n hx hb dX0_make_36 rfl (lv_at hl 3 rfl) ?_
        refine va_iast hx hb hK hP hD hS 2 1 (show (rW ad cA u_104)[2]? = some (ad 2, .inl (cA 2, 32, .inl (ra_places u))) from by rw [← (show ra_places u_104 = ra_places u from by rw [hu_104, rq_places_priorities])]; rfl) rfl (ri_isProcess hr_98 c_99) dX0_make_37 (fun H locs hP hD hS => ?_)
        rw [rw_places] at hP hD
        obtain ⟨u_105, hu_105⟩ : ∃ w : RS, w = rs_places u_104 (upd (ra_places u) p1.toNatClampNeg p3) := ⟨_, rfl⟩
        rw [← hu_105] at hP hD
        refine lv_iconst (v := 1) hx hb dX0_make_38 (by decide) ?_
        have eT : (1, u_105) = T := by subst hr_98 hr_100 hr_102 hu_104 hu_105; rw [← hf]; simp only [rf_make, if_neg c_99, if_pos c_101, if_neg c_103]
        exact W.zret (v := 1) hx hb hr (rfl) (fun t ht hW => ⟨⟨1, u_105, rfl, ⟨congrArg Prod.fst eT, congrArg Prod.snd eT⟩, by rw [ht]; exact hP, va_K.moved hW.alike hK, hD⟩, hS.F ht⟩) hS.2.2 dX0_make_39
      · refine lv_iconst (v := 0) hx hb dX0_make_22 (by decide) ?_
        have eT : (0, u) = T := by subst hr_98 hr_100 hr_102; rw [← hf]; simp only [rf_make, if_neg c_99, if_pos c_101, if_pos c_103]
        exact W.zret (v := 0) hx hb hr (rfl) (fun t ht hW => ⟨⟨0, u, rfl, ⟨congrArg Prod.fst eT, congrArg Prod.snd eT⟩, by rw [ht]; exact hP, va_K.moved hW.alike hK, hD⟩, hS.F ht⟩) hS.2.2 dX0_make_23
set_option maxHeartbeats 4000000 in
set_option maxRecDepth 100000 in
theorem rc_resume (l : Launch) (dC : Nat → ClassId) (dI : Nat → Nat → Nat) (ad : Nat → Nat) (cA : Nat → ClassId) (sz : Nat) (u : RS) (p1 : Int32) (hI : rInv u) (T : Int32 × RS) (hf : rf_resume u p1 = T) : Met l yX0_resume wsX0_resume ({ frames := 4, cells := 0, slots := 0, locals := 84 } : Room) (va_Pc [.ref (ad 0), .int p1] (fun U => U.heap.size = sz ∧ va_P (dC, dI) vwCl (rW ad cA u) U.heap ∧ va_K (dC, dI) vwCl (rT cA) U ∧ va_D (fun _ => True) (rW ad cA u))) (va_Qi (fun r u2 => r = T.1 ∧ u2 = T.2) (rAt dC dI (va_A (rW ad cA u) sz) ad cA) (va_A (rW ad cA u) sz)) 0 0 (va_A (rW ad cA u) sz) := by
  refine Met.ofW (cc := cX0_resume) (maxL := 2) (ret := (some .boolean)) (by decide) rfl ?_
  intro p e s m args below meth c s₁ B hml hv
  obtain ⟨rfl, hsz, hP, hK, hD0⟩ := hv
  have hx := B.exec
  have hb := B.bytes
  have hr := B.returns
  have hts := atoms_spec (ws := wsX0_resume) B.pre
  have hown : s.vm.findClass RX0 = some m.cls := findClass_of_methodNamed B.named
  have hlocks := B.notSynchronized
  have hin0 : ∀ w ∈ wsX00, w ∈ wsX0_resume := by decide +kernel
  have fl_rows := hts (.fieldLink RX0 16 "ProcessRoom" "rows" "[I") (by decide +kernel)
  have fl_active := hts (.fieldLink RX0 35 "ProcessRoom" "active" "I") (by decide +kernel)
  subst hsz
  have hD := hD0.self (sz := s.heap.size)
  generalize hAe : va_A (rW ad cA u) s.heap.size = A at hD ⊢
  have hA : ∀ q : Nat, s.heap.size ≤ q → A q := fun q h => by rw [← hAe]; exact Or.inr h
  have hS : va_S A s.heap s.heap [] := va_S.rf
  have hl := lv_entry ([.ref (ad 0), .int p1]) (n := 2) (Nat.le_of_ble_eq_true rfl)
  rw [lg_entry_eq]
  generalize (lg_sl ([.ref (ad 0), .int p1]) ++ List.replicate (2 - (lg_sl ([.ref (ad 0), .int p1])).length) Slot.unset).toArray = ls at hl ⊢
  have hl : lv_has ls 2 [(0, .ref (ad 0)), (1, .int p1)] := hl
  refine lv_aload_n hx hb dX0_resume_0 rfl (lv_at hl 0 rfl) ?_
  refine lv_iload_n hx hb dX0_resume_1 rfl (lv_at hl 1 rfl) ?_
  refine va_calli (va_runV (As := [.int p1]) (rest := []) ⟨hx, hb, hml, hown, hts⟩ (rc_isMade l dC dI ad cA u p1 _ rfl) (cwV 1 hts gX0_resume_X0_isMade rfl rfl rfl (by decide +kernel) ⟨Nat.le_of_ble_eq_true rfl, Nat.le_of_ble_eq_true rfl⟩) ⟨fun a U g mk q => by obtain ⟨q0, qP, qK⟩ := q; exact ⟨q0, qP, va_K.moved (u := U) (U := U.calling g mk a) (Vm.Alike.refl U.vm) qK⟩, va_recv hK hP (ci := 0) (q0 := 0) rfl rfl, fun U hU hW => ⟨rfl, by rw [hU]; exact hP, va_K.moved hW.alike hK⟩⟩ rfl rfl hl.1 rfl (lv_room (Nat.le_of_ble_eq_true rfl)) dX0_resume_2 ⟨Nat.le_of_ble_eq_true rfl, Nat.le_of_ble_eq_true rfl⟩) hS (fun _ _ h => h.elim) (fun _ h => h.elim) (fun r_106 u_ t H1 locs ht hvm hr_106 hB hz1 hk1 hS => ?_)
  have hP := hP.kept (fun k x hx => hk1 x.1 ((hP k x hx).lt) (fun h => h))
  generalize H1 = H at hP hS ⊢
  refine lv_if_eq (tgt := 33) hx hb dX0_resume_5 (by decide) (fun c_107 => ?_) (fun c_107 => ?_)
  · refine lv_iconst (v := 0) hx hb dX0_resume_33 (by decide) ?_
    have eT : (0, u) = T := by subst hr_106; rw [← hf]; simp only [rf_resume, if_pos c_107]
    exact W.zret (v := 0) hx hb hr (rfl) (fun t ht hW => ⟨⟨0, u, rfl, ⟨congrArg Prod.fst eT, congrArg Prod.snd eT⟩, by rw [ht]; exact hP, va_K.moved hW.alike hK, hD⟩, hS.F ht⟩) hS.2.2 dX0_resume_34
  · refine lv_aload_n hx hb dX0_resume_8 rfl (lv_at hl 0 rfl) ?_
    refine va_get (D := (dC, dI)) (ci := 0) (v := .ref (ad 3)) (C := RX0) (T := TX0) (N := 12) (fs := rF ad u) hx hb hts hin0 hown hK hP 0 rfl rfl 2 (by decide) fl_rows (fun _ h9 => h9) rfl dX0_resume_9 ?_
    refine lv_iload_n hx hb dX0_resume_12 rfl (lv_at hl 1 rfl) ?_
    refine va_iald hx hb hK hP 3 2 rfl rfl (ri_isMade hr_106 c_107) dX0_resume_13 ?_
    refine lv_if_ne (tgt := 33) hx hb dX0_resume_14 (by decide) (fun c_108 => ?_) (fun c_108 => ?_)
    · refine lv_iconst (v := 0) hx hb dX0_resume_33 (by decide) ?_
      have eT : (0, u) = T := by subst hr_106; rw [← hf]; simp only [rf_resume, if_neg c_107, if_neg c_108]
      exact W.zret (v := 0) hx hb hr (rfl) (fun t ht hW => ⟨⟨0, u, rfl, ⟨congrArg Prod.fst eT, congrArg Prod.snd eT⟩, by rw [ht]; exact hP, va_K.moved hW.alike hK, hD⟩, hS.F ht⟩) hS.2.2 dX0_resume_34
    · refine lv_iload_n hx hb dX0_resume_17 rfl (lv_at hl 1 rfl) ?_
      refine lv_aload_n hx hb dX0_resume_18 rfl (lv_at hl 0 rfl) ?_
      refine va_calli (va_runV (As := []) (rest := [.int p1]) ⟨hx, hb, hml, hown, hts⟩ (rc_present l dC dI ad cA u _ rfl) (cwV 0 hts gX0_resume_X0_present rfl rfl rfl (by decide +kernel) ⟨Nat.le_of_ble_eq_true rfl, Nat.le_of_ble_eq_true rfl⟩) ⟨fun a U g mk q => by obtain ⟨q0, qP, qK⟩ := q; exact ⟨q0, qP, va_K.moved (u := U) (U := U.calling g mk a) (Vm.Alike.refl U.vm) qK⟩, va_recv hK hP (ci := 0) (q0 := 0) rfl rfl, fun U hU hW => ⟨rfl, by rw [hU]; exact hP, va_K.moved hW.alike hK⟩⟩ rfl rfl hl.1 rfl (lv_room (Nat.le_of_ble_eq_true rfl)) dX0_resume_19 ⟨Nat.le_of_ble_eq_true rfl, Nat.le_of_ble_eq_true rfl⟩) hS (fun _ _ h => h.elim) (fun _ h => h.elim) (fun r_109 u_ t H1 locs ht hvm hr_109 hB hz1 hk1 hS => ?_)
      have hP := hP.kept (fun k x hx => hk1 x.1 ((hP k x hx).lt) (fun h => h))
      generalize H1 = H at hP hS ⊢
      refine lv_icmp_eq (tgt := 33) hx hb dX0_resume_22 (by decide) (fun c_110 => ?_) (fun c_110 => ?_)
      · refine lv_iconst (v := 0) hx hb dX0_resume_33 (by decide) ?_
        have eT : (0, u) = T := by subst hr_106 hr_109; rw [← hf]; simp only [rf_resume, if_neg c_107, if_pos c_108, if_pos c_110]
        exact W.zret (v := 0) hx hb hr (rfl) (fun t ht hW => ⟨⟨0, u, rfl, ⟨congrArg Prod.fst eT, congrArg Prod.snd eT⟩, by rw [ht]; exact hP, va_K.moved hW.alike hK, hD⟩, hS.F ht⟩) hS.2.2 dX0_resume_34
      · refine lv_iload_n hx hb dX0_resume_25 rfl (lv_at hl 1 rfl) ?_
        refine lv_aload_n hx hb dX0_resume_26 rfl (lv_at hl 0 rfl) ?_
        refine va_get (D := (dC, dI)) (ci := 0) (v := .int (ra_active u)) (C := RX0) (T := TX0) (N := 12) (fs := rF ad u) hx hb hts hin0 hown hK hP 0 rfl rfl 8 (by decide) fl_active (fun _ h9 => h9) rfl dX0_resume_27 ?_
        refine lv_icmp_ne (tgt := 35) hx hb dX0_resume_30 (by decide) (fun c_111 => ?_) (fun c_111 => ?_)
        · refine lv_aload_n hx hb dX0_resume_35 rfl (lv_at hl 0 rfl) ?_
          refine lv_iload_n hx hb dX0_resume_36 rfl (lv_at hl 1 rfl) ?_
          have hFc := va_free (wc := (rW ad cA u)) hD hS hA [0, 1, 2, 3, 4, 5, 6] rfl
          refine va_callv (va_runV (As := [.int p1]) (rest := []) ⟨hx, hb, hml, hown, hts⟩ (rc_wake l dC dI ad cA _ u p1 hI _ rfl) (cwV 1 hts gX0_resume_X0_wake rfl rfl rfl (by decide +kernel) ⟨Nat.le_of_ble_eq_true rfl, Nat.le_of_ble_eq_true rfl⟩) ⟨fun a U g mk q => by obtain ⟨q0, q1, qP, qK, qD⟩ := q; exact ⟨q0, q1, qP, va_K.moved (u := U) (U := U.calling g mk a) (Vm.Alike.refl U.vm) qK, qD⟩, va_recv hK hP (ci := 0) (q0 := 0) rfl rfl, fun U hU hW => ⟨rfl, by rw [hU], by rw [hU]; exact hP, va_K.moved hW.alike hK, hD.weaken (fun _ _ _ _ => trivial)⟩⟩ rfl rfl hl.1 rfl (lv_room (Nat.le_of_ble_eq_true rfl)) dX0_resume_37 ⟨Nat.le_of_ble_eq_true rfl, Nat.le_of_ble_eq_true rfl⟩) hS (fun q _ h => hFc q h) hFc (fun u_113 t H1 locs ht hvm hu_113 hB hz1 hk1 hS => ?_)
          obtain ⟨hP, hK1, hD1⟩ := hB
          rw [ht] at hP
          have hD := hD1.weaken (fun _ _ _ h => hFc _ h)
          generalize H1 = H at hP hS ⊢
          have hP : va_P (dC, dI) vwCl (rW ad cA u_113) H := hP
          have hD : va_D A (rW ad cA u_113) := hD
          refine lv_iconst (v := 1) hx hb dX0_resume_40 (by decide) ?_
          have eT : (1, u_113) = T := by subst hr_106 hr_109 hu_113; rw [← hf]; simp only [rf_resume, if_neg c_107, if_pos c_108, if_neg c_110, if_neg c_111]
          exact W.zret (v := 1) hx hb hr (rfl) (fun t ht hW => ⟨⟨1, u_113, rfl, ⟨congrArg Prod.fst eT, congrArg Prod.snd eT⟩, by rw [ht]; exact hP, va_K.moved hW.alike hK, hD⟩, hS.F ht⟩) hS.2.2 dX0_resume_41
        · refine lv_iconst (v := 0) hx hb dX0_resume_33 (by decide) ?_
          have eT : (0, u) = T := by subst hr_106 hr_109; rw [← hf]; simp only [rf_resume, if_neg c_107, if_pos c_108, if_neg c_110, if_pos c_111]
          exact W.zret (v := 0) hx hb hr (rfl) (fun t ht hW => ⟨⟨0, u, rfl, ⟨congrArg Prod.fst eT, congrArg Prod.snd eT⟩, by rw [ht]; exact hP, va_K.moved hW.alike hK, hD⟩, hS.F ht⟩) hS.2.2 dX0_resume_34
set_option maxHeartbeats 4000000 in
set_option maxRecDepth 100000 in
theorem rc_suspend (l : Launch) (dC : Nat → ClassId) (dI : Nat → Nat → Nat) (ad : Nat → Nat) (cA : Nat → ClassId) (sz : Nat) (u : RS)  (T : Int32 × RS) (hf : rf_suspend u = T) : Met l yX0_suspend wsX0_suspend ({ frames := 4, cells := 0, slots := 0, locals := 88 } : Room) (va_Pc [.ref (ad 0)] (fun U => U.heap.size = sz ∧ va_P (dC, dI) vwCl (rW ad cA u) U.heap ∧ va_K (dC, dI) vwCl (rT cA) U ∧ va_D (fun _ => True) (rW ad cA u))) (va_Qi (fun r u2 => r = T.1 ∧ u2 = T.2) (rAt dC dI (va_A (rW ad cA u) sz) ad cA) (va_A (rW ad cA u) sz)) 0 0 (va_A (rW ad cA u) sz) := by
  refine Met.ofW (cc := cX0_suspend) (maxL := 2) (ret := (some .int)) (by decide) rfl ?_
  intro p e s m args below meth c s₁ B hml hv
  obtain ⟨rfl, hsz, hP, hK, hD0⟩ := hv
  have hx := B.exec
  have hb := B.bytes
  have hr := B.returns
  have hts := atoms_spec (ws := wsX0_suspend) B.pre
  have hown : s.vm.findClass RX0 = some m.cls := findClass_of_methodNamed B.named
  have hlocks := B.notSynchronized
  subst hsz
  have hD := hD0.self (sz := s.heap.size)
  generalize hAe : va_A (rW ad cA u) s.heap.size = A at hD ⊢
  have hA : ∀ q : Nat, s.heap.size ≤ q → A q := fun q h => by rw [← hAe]; exact Or.inr h
  have hS : va_S A s.heap s.heap [] := va_S.rf
  have hl := lv_entry ([.ref (ad 0)]) (n := 2) (Nat.le_of_ble_eq_true rfl)
  rw [lg_entry_eq]
  generalize (lg_sl ([.ref (ad 0)]) ++ List.replicate (2 - (lg_sl ([.ref (ad 0)])).length) Slot.unset).toArray = ls at hl ⊢
  have hl : lv_has ls 2 [(0, .ref (ad 0))] := hl
  refine lv_aload_n hx hb dX0_suspend_0 rfl (lv_at hl 0 rfl) ?_
  refine va_calli (va_runV (As := []) (rest := []) ⟨hx, hb, hml, hown, hts⟩ (rc_present l dC dI ad cA u _ rfl) (cwV 0 hts gX0_suspend_X0_present rfl rfl rfl (by decide +kernel) ⟨Nat.le_of_ble_eq_true rfl, Nat.le_of_ble_eq_true rfl⟩) ⟨fun a U g mk q => by obtain ⟨q0, qP, qK⟩ := q; exact ⟨q0, qP, va_K.moved (u := U) (U := U.calling g mk a) (Vm.Alike.refl U.vm) qK⟩, va_recv hK hP (ci := 0) (q0 := 0) rfl rfl, fun U hU hW => ⟨rfl, by rw [hU]; exact hP, va_K.moved hW.alike hK⟩⟩ rfl rfl hl.1 rfl (lv_room (Nat.le_of_ble_eq_true rfl)) dX0_suspend_1 ⟨Nat.le_of_ble_eq_true rfl, Nat.le_of_ble_eq_true rfl⟩) hS (fun _ _ h => h.elim) (fun _ h => h.elim) (fun r_114 u_ t H1 locs ht hvm hr_114 hB hz1 hk1 hS => ?_)
  have hP := hP.kept (fun k x hx => hk1 x.1 ((hP k x hx).lt) (fun h => h))
  generalize H1 = H at hP hS ⊢
  refine lv_istore_n (lv' := [(1, .int r_114), (0, .ref (ad 0))]) hx hb dX0_suspend_4 rfl hl (by decide) rfl (fun ls hl => ?_)
  refine lv_iload_n hx hb dX0_suspend_5 rfl (lv_at hl 0 rfl) ?_
  refine lv_iconst (v := (-1)) hx hb dX0_suspend_6 (by decide) ?_
  refine lv_icmp_eq (tgt := 14) hx hb dX0_suspend_7 (by decide) (fun c_115 => ?_) (fun c_115 => ?_)
  · refine lv_iload_n hx hb dX0_suspend_14 rfl (lv_at hl 0 rfl) ?_
    have eT : (r_114, u) = T := by subst hr_114; rw [← hf]; simp only [rf_suspend, if_pos c_115]
    exact W.iret (v := r_114) hx hb hr (fun t ht hW => ⟨⟨r_114, u, rfl, ⟨congrArg Prod.fst eT, congrArg Prod.snd eT⟩, by rw [ht]; exact hP, va_K.moved hW.alike hK, hD⟩, hS.F ht⟩) hS.2.2 dX0_suspend_15
  · refine lv_aload_n hx hb dX0_suspend_10 rfl (lv_at hl 1 rfl) ?_
    have hFc := va_free (wc := (rW ad cA u)) hD hS hA [0, 1, 2, 3, 4, 5, 6] rfl
    refine va_callv (va_runV (As := []) (rest := []) ⟨hx, hb, hml, hown, hts⟩ (rc_putAside l dC dI ad cA _ u _ rfl) (cwV 0 hts gX0_suspend_X0_putAside rfl rfl rfl (by decide +kernel) ⟨Nat.le_of_ble_eq_true rfl, Nat.le_of_ble_eq_true rfl⟩) ⟨fun a U g mk q => by obtain ⟨q0, q1, qP, qK, qD⟩ := q; exact ⟨q0, q1, qP, va_K.moved (u := U) (U := U.calling g mk a) (Vm.Alike.refl U.vm) qK, qD⟩, va_recv hK hP (ci := 0) (q0 := 0) rfl rfl, fun U hU hW => ⟨rfl, by rw [hU], by rw [hU]; exact hP, va_K.moved hW.alike hK, hD.weaken (fun _ _ _ _ => trivial)⟩⟩ rfl rfl hl.1 rfl (lv_room (Nat.le_of_ble_eq_true rfl)) dX0_suspend_11 ⟨Nat.le_of_ble_eq_true rfl, Nat.le_of_ble_eq_true rfl⟩) hS (fun q _ h => hFc q h) hFc (fun u_117 t H1 locs ht hvm hu_117 hB hz1 hk1 hS => ?_)
    obtain ⟨hP, hK1, hD1⟩ := hB
    rw [ht] at hP
    have hD := hD1.weaken (fun _ _ _ h => hFc _ h)
    generalize H1 = H at hP hS ⊢
    have hP : va_P (dC, dI) vwCl (rW ad cA u_117) H := hP
    have hD : va_D A (rW ad cA u_117) := hD
    refine lv_iload_n hx hb dX0_suspend_14 rfl (lv_at hl 0 rfl) ?_
    have eT : (r_114, u_117) = T := by subst hr_114 hu_117; rw [← hf]; simp only [rf_suspend, if_neg c_115]
    exact W.iret (v := r_114) hx hb hr (fun t ht hW => ⟨⟨r_114, u_117, rfl, ⟨congrArg Prod.fst eT, congrArg Prod.snd eT⟩, by rw [ht]; exact hP, va_K.moved hW.alike hK, hD⟩, hS.F ht⟩) hS.2.2 dX0_suspend_15
set_option maxHeartbeats 4000000 in
set_option maxRecDepth 100000 in
theorem rc_end (l : Launch) (dC : Nat → ClassId) (dI : Nat → Nat → Nat) (ad : Nat → Nat) (cA : Nat → ClassId) (sz : Nat) (u : RS)  (T : Int32 × RS) (hf : rf_end u = T) : Met l yX0_end wsX0_end ({ frames := 4, cells := 0, slots := 0, locals := 88 } : Room) (va_Pc [.ref (ad 0)] (fun U => U.heap.size = sz ∧ va_P (dC, dI) vwCl (rW ad cA u) U.heap ∧ va_K (dC, dI) vwCl (rT cA) U ∧ va_D (fun _ => True) (rW ad cA u))) (va_Qi (fun r u2 => r = T.1 ∧ u2 = T.2) (rAt dC dI (va_A (rW ad cA u) sz) ad cA) (va_A (rW ad cA u) sz)) 0 0 (va_A (rW ad cA u) sz) := by
  refine Met.ofW (cc := cX0_end) (maxL := 2) (ret := (some .int)) (by decide) rfl ?_
  intro p e s m args below meth c s₁ B hml hv
  obtain ⟨rfl, hsz, hP, hK, hD0⟩ := hv
  have hx := B.exec
  have hb := B.bytes
  have hr := B.returns
  have hts := atoms_spec (ws := wsX0_end) B.pre
  have hown : s.vm.findClass RX0 = some m.cls := findClass_of_methodNamed B.named
  have hlocks := B.notSynchronized
  have hin0 : ∀ w ∈ wsX00, w ∈ wsX0_end := by decide +kernel
  have fl_priorities := hts (.fieldLink RX0 9 "ProcessRoom" "priorities" "[I") (by decide +kernel)
  have fl_active := hts (.fieldLink RX0 35 "ProcessRoom" "active" "I") (by decide +kernel)
  subst hsz
  have hD := hD0.self (sz := s.heap.size)
  generalize hAe : va_A (rW ad cA u) s.heap.size = A at hD ⊢
  have hA : ∀ q : Nat, s.heap.size ≤ q → A q := fun q h => by rw [← hAe]; exact Or.inr h
  have hS : va_S A s.heap s.heap [] := va_S.rf
  have hl := lv_entry ([.ref (ad 0)]) (n := 2) (Nat.le_of_ble_eq_true rfl)
  rw [lg_entry_eq]
  generalize (lg_sl ([.ref (ad 0)]) ++ List.replicate (2 - (lg_sl ([.ref (ad 0)])).length) Slot.unset).toArray = ls at hl ⊢
  have hl : lv_has ls 2 [(0, .ref (ad 0))] := hl
  refine lv_aload_n hx hb dX0_end_0 rfl (lv_at hl 0 rfl) ?_
  refine va_calli (va_runV (As := []) (rest := []) ⟨hx, hb, hml, hown, hts⟩ (rc_present l dC dI ad cA u _ rfl) (cwV 0 hts gX0_end_X0_present rfl rfl rfl (by decide +kernel) ⟨Nat.le_of_ble_eq_true rfl, Nat.le_of_ble_eq_true rfl⟩) ⟨fun a U g mk q => by obtain ⟨q0, qP, qK⟩ := q; exact ⟨q0, qP, va_K.moved (u := U) (U := U.calling g mk a) (Vm.Alike.refl U.vm) qK⟩, va_recv hK hP (ci := 0) (q0 := 0) rfl rfl, fun U hU hW => ⟨rfl, by rw [hU]; exact hP, va_K.moved hW.alike hK⟩⟩ rfl rfl hl.1 rfl (lv_room (Nat.le_of_ble_eq_true rfl)) dX0_end_1 ⟨Nat.le_of_ble_eq_true rfl, Nat.le_of_ble_eq_true rfl⟩) hS (fun _ _ h => h.elim) (fun _ h => h.elim) (fun r_118 u_ t H1 locs ht hvm hr_118 hB hz1 hk1 hS => ?_)
  have hP := hP.kept (fun k x hx => hk1 x.1 ((hP k x hx).lt) (fun h => h))
  generalize H1 = H at hP hS ⊢
  refine lv_istore_n (lv' := [(1, .int r_118), (0, .ref (ad 0))]) hx hb dX0_end_4 rfl hl (by decide) rfl (fun ls hl => ?_)
  refine lv_aload_n hx hb dX0_end_5 rfl (lv_at hl 1 rfl) ?_
  refine lv_iload_n hx hb dX0_end_6 rfl (lv_at hl 0 rfl) ?_
  refine va_calli (va_runV (As := [.int r_118]) (rest := []) ⟨hx, hb, hml, hown, hts⟩ (rc_isMade l dC dI ad cA u r_118 _ rfl) (cwV 1 hts gX0_end_X0_isMade rfl rfl rfl (by decide +kernel) ⟨Nat.le_of_ble_eq_true rfl, Nat.le_of_ble_eq_true rfl⟩) ⟨fun a U g mk q => by obtain ⟨q0, qP, qK⟩ := q; exact ⟨q0, qP, va_K.moved (u := U) (U := U.calling g mk a) (Vm.Alike.refl U.vm) qK⟩, va_recv hK hP (ci := 0) (q0 := 0) rfl rfl, fun U hU hW => ⟨rfl, by rw [hU]; exact hP, va_K.moved hW.alike hK⟩⟩ rfl rfl hl.1 rfl (lv_room (Nat.le_of_ble_eq_true rfl)) dX0_end_7 ⟨Nat.le_of_ble_eq_true rfl, Nat.le_of_ble_eq_true rfl⟩) hS (fun _ _ h => h.elim) (fun _ h => h.elim) (fun r_119 u_ t H1 locs ht hvm hr_119 hB hz1 hk1 hS => ?_)
  have hP := hP.kept (fun k x hx => hk1 x.1 ((hP k x hx).lt) (fun h => h))
  generalize H1 = H at hP hS ⊢
  refine lv_if_ne (tgt := 15) hx hb dX0_end_10 (by decide) (fun c_120 => ?_) (fun c_120 => ?_)
  · refine lv_aload_n hx hb dX0_end_15 rfl (lv_at hl 1 rfl) ?_
    refine va_get (D := (dC, dI)) (ci := 0) (v := .ref (ad 1)) (C := RX0) (T := TX0) (N := 12) (fs := rF ad u) hx hb hts hin0 hown hK hP 0 rfl rfl 0 (by decide) fl_priorities (fun _ h9 => h9) rfl dX0_end_16 ?_
    refine lv_iload_n hx hb dX0_end_19 rfl (lv_at hl 0 rfl) ?_
    refine lv_iconst (v := 0) hx hb dX0_end_20 (by decide) ?_
    refine va_iast hx hb hK hP hD hS 1 0 rfl rfl (ri_isMade hr_119 c_120) dX0_end_21 (fun H locs hP hD hS => ?_)
    rw [rw_priorities] at hP hD
    obtain ⟨u_121, hu_121⟩ : ∃ w : RS, w = rs_priorities u (upd (ra_priorities u) r_118.toNatClampNeg 0) := ⟨_, rfl⟩
    rw [← hu_121] at hP hD
    refine lv_iload_n hx hb dX0_end_22 rfl (lv_at hl 0 rfl) ?_
    refine lv_aload_n hx hb dX0_end_23 rfl (lv_at hl 1 rfl) ?_
    refine va_get (D := (dC, dI)) (ci := 0) (v := .int (ra_active u)) (C := RX0) (T := TX0) (N := 12) (fs := rF ad u_121) hx hb hts hin0 hown hK hP 0 rfl rfl 8 (by decide) fl_active (fun _ h9 => h9) (congrArg (fun z => some (Value.int z)) (show ra_active u_121 = ra_active u from by rw [hu_121, rq_active_priorities])) dX0_end_24 ?_
    refine lv_icmp_ne (tgt := 35) hx hb dX0_end_27 (by decide) (fun c_122 => ?_) (fun c_122 => ?_)
    · refine lv_aload_n hx hb dX0_end_35 rfl (lv_at hl 1 rfl) ?_
      have hFc := va_free (wc := (rW ad cA u_121)) hD hS hA [0, 1, 2, 3, 4, 5, 6] rfl
      refine va_callv (va_runV (As := []) (rest := []) ⟨hx, hb, hml, hown, hts⟩ (rc_putAside l dC dI ad cA _ u_121 _ rfl) (cwV 0 hts gX0_end_X0_putAside rfl rfl rfl (by decide +kernel) ⟨Nat.le_of_ble_eq_true rfl, Nat.le_of_ble_eq_true rfl⟩) ⟨fun a U g mk q => by obtain ⟨q0, q1, qP, qK, qD⟩ := q; exact ⟨q0, q1, qP, va_K.moved (u := U) (U := U.calling g mk a) (Vm.Alike.refl U.vm) qK, qD⟩, va_recv hK hP (ci := 0) (q0 := 0) rfl rfl, fun U hU hW => ⟨rfl, by rw [hU], by rw [hU]; exact hP, va_K.moved hW.alike hK, hD.weaken (fun _ _ _ _ => trivial)⟩⟩ rfl rfl hl.1 rfl (lv_room (Nat.le_of_ble_eq_true rfl)) dX0_end_36 ⟨Nat.le_of_ble_eq_true rfl, Nat.le_of_ble_eq_true rfl⟩) hS (fun q _ h => hFc q h) hFc (fun u_124 t H1 locs ht hvm hu_124 hB hz1 hk1 hS => ?_)
      obtain ⟨hP, hK1, hD1⟩ := hB
      rw [ht] at hP
      have hD := hD1.weaken (fun _ _ _ h => hFc _ h)
      generalize H1 = H at hP hS ⊢
      have hP : va_P (dC, dI) vwCl (rW ad cA u_124) H := hP
      have hD : va_D A (rW ad cA u_124) := hD
      refine lv_iload_n hx hb dX0_end_39 rfl (lv_at hl 0 rfl) ?_
      have eT : (r_118, u_124) = T := by subst hr_118 hr_119 hu_121 hu_124; rw [← hf]; simp only [rf_end, if_neg c_120, if_neg c_122]
      exact W.iret (v := r_118) hx hb hr (fun t ht hW => ⟨⟨r_118, u_124, rfl, ⟨congrArg Prod.fst eT, congrArg Prod.snd eT⟩, by rw [ht]; exact hP, va_K.moved hW.alike hK, hD⟩, hS.F ht⟩) hS.2.2 dX0_end_40
    · refine lv_aload_n hx hb dX0_end_30 rfl (lv_at hl 1 rfl) ?_
      refine lv_iconst (v := (-1)) hx hb dX0_end_31 (by decide) ?_
      refine va_put (D := (dC, dI)) (ci := 0) (v := .int (-1)) (ty := .int) (C := RX0) (T := TX0) (N := 12) (fs := rF ad u_121) hx hb hts hin0 tyX0 tyX0_ok nmX0 hown hK hP hD hS 0 rfl rfl 8 (by decide) fl_active (fun _ h9 => h9) rfl (by decide +kernel) rfl rfl (Nat.le_of_ble_eq_true rfl) dX0_end_32 (fun H locs hP hD hS => ?_)
      rw [rw_active] at hP hD
      obtain ⟨u_125, hu_125⟩ : ∃ w : RS, w = rs_active u_121 (-1) := ⟨_, rfl⟩
      rw [← hu_125] at hP hD
      refine lv_aload_n hx hb dX0_end_35 rfl (lv_at hl 1 rfl) ?_
      have hFc := va_free (wc := (rW ad cA u_125)) hD hS hA [0, 1, 2, 3, 4, 5, 6] rfl
      refine va_callv (va_runV (As := []) (rest := []) ⟨hx, hb, hml, hown, hts⟩ (rc_putAside l dC dI ad cA _ u_125 _ rfl) (cwV 0 hts gX0_end_X0_putAside rfl rfl rfl (by decide +kernel) ⟨Nat.le_of_ble_eq_true rfl, Nat.le_of_ble_eq_true rfl⟩) ⟨fun a U g mk q => by obtain ⟨q0, q1, qP, qK, qD⟩ := q; exact ⟨q0, q1, qP, va_K.moved (u := U) (U := U.calling g mk a) (Vm.Alike.refl U.vm) qK, qD⟩, va_recv hK hP (ci := 0) (q0 := 0) rfl rfl, fun U hU hW => ⟨rfl, by rw [hU], by rw [hU]; exact hP, va_K.moved hW.alike hK, hD.weaken (fun _ _ _ _ => trivial)⟩⟩ rfl rfl hl.1 rfl (lv_room (Nat.le_of_ble_eq_true rfl)) dX0_end_36 ⟨Nat.le_of_ble_eq_true rfl, Nat.le_of_ble_eq_true rfl⟩) hS (fun q _ h => hFc q h) hFc (fun u_127 t H1 locs ht hvm hu_127 hB hz1 hk1 hS => ?_)
      obtain ⟨hP, hK1, hD1⟩ := hB
      rw [ht] at hP
      have hD := hD1.weaken (fun _ _ _ h => hFc _ h)
      generalize H1 = H at hP hS ⊢
      have hP : va_P (dC, dI) vwCl (rW ad cA u_127) H := hP
      have hD : va_D A (rW ad cA u_127) := hD
      refine lv_iload_n hx hb dX0_end_39 rfl (lv_at hl 0 rfl) ?_
      have eT : (r_118, u_127) = T := by subst hr_118 hr_119 hu_121 hu_125 hu_127; rw [← hf]; simp only [rf_end, if_neg c_120, if_pos c_122]
      exact W.iret (v := r_118) hx hb hr (fun t ht hW => ⟨⟨r_118, u_127, rfl, ⟨congrArg Prod.fst eT, congrArg Prod.snd eT⟩, by rw [ht]; exact hP, va_K.moved hW.alike hK, hD⟩, hS.F ht⟩) hS.2.2 dX0_end_40
  · refine lv_iconst (v := (-1)) hx hb dX0_end_13 (by decide) ?_
    have eT : ((-1), u) = T := by subst hr_118 hr_119; rw [← hf]; simp only [rf_end, if_pos c_120]
    exact W.iret (v := (-1)) hx hb hr (fun t ht hW => ⟨⟨(-1), u, rfl, ⟨congrArg Prod.fst eT, congrArg Prod.snd eT⟩, by rw [ht]; exact hP, va_K.moved hW.alike hK, hD⟩, hS.F ht⟩) hS.2.2 dX0_end_14
set_option maxHeartbeats 4000000 in
set_option maxRecDepth 100000 in
theorem rc_await (l : Launch) (dC : Nat → ClassId) (dI : Nat → Nat → Nat) (ad : Nat → Nat) (cA : Nat → ClassId) (sz : Nat) (u : RS) (p1 : Int32) (hI : rInv u) (T : Int32 × RS) (hf : rf_await u p1 = T) : Met l yX0_await wsX0_await ({ frames := 4, cells := 0, slots := 0, locals := 88 } : Room) (va_Pc [.ref (ad 0), .int p1] (fun U => U.heap.size = sz ∧ va_P (dC, dI) vwCl (rW ad cA u) U.heap ∧ va_K (dC, dI) vwCl (rT cA) U ∧ va_D (fun _ => True) (rW ad cA u))) (va_Qi (fun r u2 => r = T.1 ∧ u2 = T.2) (rAt dC dI (va_A (rW ad cA u) sz) ad cA) (va_A (rW ad cA u) sz)) 0 0 (va_A (rW ad cA u) sz) := by
  refine Met.ofW (cc := cX0_await) (maxL := 3) (ret := (some .int)) (by decide) rfl ?_
  intro p e s m args below meth c s₁ B hml hv
  obtain ⟨rfl, hsz, hP, hK, hD0⟩ := hv
  have hx := B.exec
  have hb := B.bytes
  have hr := B.returns
  have hts := atoms_spec (ws := wsX0_await) B.pre
  have hown : s.vm.findClass RX0 = some m.cls := findClass_of_methodNamed B.named
  have hlocks := B.notSynchronized
  have hin0 : ∀ w ∈ wsX00, w ∈ wsX0_await := by decide +kernel
  have fl_extras := hts (.fieldLink RX0 26 "ProcessRoom" "extras" "[I") (by decide +kernel)
  subst hsz
  have hD := hD0.self (sz := s.heap.size)
  generalize hAe : va_A (rW ad cA u) s.heap.size = A at hD ⊢
  have hA : ∀ q : Nat, s.heap.size ≤ q → A q := fun q h => by rw [← hAe]; exact Or.inr h
  have hS : va_S A s.heap s.heap [] := va_S.rf
  have hl := lv_entry ([.ref (ad 0), .int p1]) (n := 3) (Nat.le_of_ble_eq_true rfl)
  rw [lg_entry_eq]
  generalize (lg_sl ([.ref (ad 0), .int p1]) ++ List.replicate (3 - (lg_sl ([.ref (ad 0), .int p1])).length) Slot.unset).toArray = ls at hl ⊢
  have hl : lv_has ls 3 [(0, .ref (ad 0)), (1, .int p1)] := hl
  refine lv_aload_n hx hb dX0_await_0 rfl (lv_at hl 0 rfl) ?_
  refine va_calli (va_runV (As := []) (rest := []) ⟨hx, hb, hml, hown, hts⟩ (rc_present l dC dI ad cA u _ rfl) (cwV 0 hts gX0_await_X0_present rfl rfl rfl (by decide +kernel) ⟨Nat.le_of_ble_eq_true rfl, Nat.le_of_ble_eq_true rfl⟩) ⟨fun a U g mk q => by obtain ⟨q0, qP, qK⟩ := q; exact ⟨q0, qP, va_K.moved (u := U) (U := U.calling g mk a) (Vm.Alike.refl U.vm) qK⟩, va_recv hK hP (ci := 0) (q0 := 0) rfl rfl, fun U hU hW => ⟨rfl, by rw [hU]; exact hP, va_K.moved hW.alike hK⟩⟩ rfl rfl hl.1 rfl (lv_room (Nat.le_of_ble_eq_true rfl)) dX0_await_1 ⟨Nat.le_of_ble_eq_true rfl, Nat.le_of_ble_eq_true rfl⟩) hS (fun _ _ h => h.elim) (fun _ h => h.elim) (fun r_128 u_ t H1 locs ht hvm hr_128 hB hz1 hk1 hS => ?_)
  have hP := hP.kept (fun k x hx => hk1 x.1 ((hP k x hx).lt) (fun h => h))
  generalize H1 = H at hP hS ⊢
  refine lv_istore_n (lv' := [(2, .int r_128), (0, .ref (ad 0)), (1, .int p1)]) hx hb dX0_await_4 rfl hl (by decide) rfl (fun ls hl => ?_)
  refine lv_iload_n hx hb dX0_await_5 rfl (lv_at hl 2 rfl) ?_
  refine va_calli (va_runS (As := [.int p1]) (rest := []) ⟨hx, hb, hml, hown, hts⟩ (rc_isSemaphore l p1 _ rfl) (va_cwS 1 hts gX0_await_X0_isSemaphore rfl rfl rfl (by decide +kernel) ⟨Nat.le_of_ble_eq_true rfl, Nat.le_of_ble_eq_true rfl⟩) ⟨fun a U g mk q => ⟨q.1, trivial⟩, fun U hU hW => ⟨rfl, trivial⟩⟩ rfl rfl hl.1 rfl (lv_room (Nat.le_of_ble_eq_true rfl)) dX0_await_6 ⟨Nat.le_of_ble_eq_true rfl, Nat.le_of_ble_eq_true rfl⟩) hS (fun _ _ h => h.elim) (fun _ h => h.elim) (fun r_129 u_ t H1 locs ht hvm hr_129 hB hz1 hk1 hS => ?_)
  have hP := hP.kept (fun k x hx => hk1 x.1 ((hP k x hx).lt) (fun h => h))
  generalize H1 = H at hP hS ⊢
  refine lv_if_eq (tgt := 17) hx hb dX0_await_9 (by decide) (fun c_130 => ?_) (fun c_130 => ?_)
  · refine lv_iconst (v := (-1)) hx hb dX0_await_17 (by decide) ?_
    have eT : ((-1), u) = T := by subst hr_128 hr_129; rw [← hf]; simp only [rf_await, if_pos c_130]
    exact W.iret (v := (-1)) hx hb hr (fun t ht hW => ⟨⟨(-1), u, rfl, ⟨congrArg Prod.fst eT, congrArg Prod.snd eT⟩, by rw [ht]; exact hP, va_K.moved hW.alike hK, hD⟩, hS.F ht⟩) hS.2.2 dX0_await_18
  · refine lv_iload_n hx hb dX0_await_12 rfl (lv_at hl 0 rfl) ?_
    refine lv_iconst (v := (-1)) hx hb dX0_await_13 (by decide) ?_
    refine lv_icmp_ne (tgt := 19) hx hb dX0_await_14 (by decide) (fun c_131 => ?_) (fun c_131 => ?_)
    · refine lv_aload_n hx hb dX0_await_19 rfl (lv_at hl 1 rfl) ?_
      refine va_get (D := (dC, dI)) (ci := 0) (v := .ref (ad 5)) (C := RX0) (T := TX0) (N := 12) (fs := rF ad u) hx hb hts hin0 hown hK hP 0 rfl rfl 5 (by decide) fl_extras (fun _ h9 => h9) rfl dX0_await_20 ?_
      refine lv_iload_n hx hb dX0_await_23 rfl (lv_at hl 2 rfl) ?_
      refine va_iald hx hb hK hP 5 4 rfl rfl (ri_isSemaphore hr_129 c_130) dX0_await_24 ?_
      refine lv_if_le (tgt := 40) hx hb dX0_await_25 (by decide) (fun c_132 => ?_) (fun c_132 => ?_)
      · refine lv_aload_n hx hb dX0_await_40 rfl (lv_at hl 1 rfl) ?_
        refine lv_iload_n hx hb dX0_await_41 rfl (lv_at hl 0 rfl) ?_
        refine lv_bipush (v := 16) hx hb dX0_await_42 (by decide) ?_
        refine lv_iload_n hx hb dX0_await_44 rfl (lv_at hl 2 rfl) ?_
        refine lv_iadd hx hb dX0_await_45 ?_
        have hFc := va_free (wc := (rW ad cA u)) hD hS hA [0, 1, 2, 3, 4, 5, 6] rfl
        refine va_callv (va_runV (As := [.int r_128, .int (16 + p1)]) (rest := []) ⟨hx, hb, hml, hown, hts⟩ (rc_enter l dC dI ad cA _ u r_128 (16 + p1) hI _ rfl) (cwV 2 hts gX0_await_X0_enter rfl rfl rfl (by decide +kernel) ⟨Nat.le_of_ble_eq_true rfl, Nat.le_of_ble_eq_true rfl⟩) ⟨fun a U g mk q => by obtain ⟨q0, q1, qP, qK, qD⟩ := q; exact ⟨q0, q1, qP, va_K.moved (u := U) (U := U.calling g mk a) (Vm.Alike.refl U.vm) qK, qD⟩, va_recv hK hP (ci := 0) (q0 := 0) rfl rfl, fun U hU hW => ⟨rfl, by rw [hU], by rw [hU]; exact hP, va_K.moved hW.alike hK, hD.weaken (fun _ _ _ _ => trivial)⟩⟩ rfl rfl hl.1 rfl (lv_room (Nat.le_of_ble_eq_true rfl)) dX0_await_46 ⟨Nat.le_of_ble_eq_true rfl, Nat.le_of_ble_eq_true rfl⟩) hS (fun q _ h => hFc q h) hFc (fun u_134 t H1 locs ht hvm hu_134 hB hz1 hk1 hS => ?_)
        obtain ⟨hP, hK1, hD1⟩ := hB
        rw [ht] at hP
        have hD := hD1.weaken (fun _ _ _ h => hFc _ h)
        generalize H1 = H at hP hS ⊢
        have hP : va_P (dC, dI) vwCl (rW ad cA u_134) H := hP
        have hD : va_D A (rW ad cA u_134) := hD
        refine lv_aload_n hx hb dX0_await_49 rfl (lv_at hl 1 rfl) ?_
        have hFc := va_free (wc := (rW ad cA u_134)) hD hS hA [0, 1, 2, 3, 4, 5, 6] rfl
        refine va_callv (va_runV (As := []) (rest := []) ⟨hx, hb, hml, hown, hts⟩ (rc_putAside l dC dI ad cA _ u_134 _ rfl) (cwV 0 hts gX0_await_X0_putAside rfl rfl rfl (by decide +kernel) ⟨Nat.le_of_ble_eq_true rfl, Nat.le_of_ble_eq_true rfl⟩) ⟨fun a U g mk q => by obtain ⟨q0, q1, qP, qK, qD⟩ := q; exact ⟨q0, q1, qP, va_K.moved (u := U) (U := U.calling g mk a) (Vm.Alike.refl U.vm) qK, qD⟩, va_recv hK hP (ci := 0) (q0 := 0) rfl rfl, fun U hU hW => ⟨rfl, by rw [hU], by rw [hU]; exact hP, va_K.moved hW.alike hK, hD.weaken (fun _ _ _ _ => trivial)⟩⟩ rfl rfl hl.1 rfl (lv_room (Nat.le_of_ble_eq_true rfl)) dX0_await_50 ⟨Nat.le_of_ble_eq_true rfl, Nat.le_of_ble_eq_true rfl⟩) hS (fun q _ h => hFc q h) hFc (fun u_136 t H1 locs ht hvm hu_136 hB hz1 hk1 hS => ?_)
        obtain ⟨hP, hK1, hD1⟩ := hB
        rw [ht] at hP
        have hD := hD1.weaken (fun _ _ _ h => hFc _ h)
        generalize H1 = H at hP hS ⊢
        have hP : va_P (dC, dI) vwCl (rW ad cA u_136) H := hP
        have hD : va_D A (rW ad cA u_136) := hD
        refine lv_iconst (v := 0) hx hb dX0_await_53 (by decide) ?_
        have eT : (0, u_136) = T := by subst hr_128 hr_129 hu_134 hu_136; rw [← hf]; simp only [rf_await, if_neg c_130, if_neg c_131, if_pos c_132]
        exact W.iret (v := 0) hx hb hr (fun t ht hW => ⟨⟨0, u_136, rfl, ⟨congrArg Prod.fst eT, congrArg Prod.snd eT⟩, by rw [ht]; exact hP, va_K.moved hW.alike hK, hD⟩, hS.F ht⟩) hS.2.2 dX0_await_54
      · refine lv_aload_n hx hb dX0_await_28 rfl (lv_at hl 1 rfl) ?_
        refine va_get (D := (dC, dI)) (ci := 0) (v := .ref (ad 5)) (C := RX0) (T := TX0) (N := 12) (fs := rF ad u) hx hb hts hin0 hown hK hP 0 rfl rfl 5 (by decide) fl_extras (fun _ h9 => h9) rfl dX0_await_29 ?_
        refine lv_iload_n hx hb dX0_await_32 rfl (lv_at hl 2 rfl) ?_
        refine lv_dup2_11 hx hb dX0_await_33 rfl rfl ?_
        refine va_iald hx hb hK hP 5 4 rfl rfl (ri_isSemaphore hr_129 c_130) dX0_await_34 ?_
        refine lv_iconst (v := 1) hx hb dX0_await_35 (by decide) ?_
        refine lv_isub hx hb dX0_await_36 ?_
        refine va_iast hx hb hK hP hD hS 5 4 rfl rfl (ri_isSemaphore hr_129 c_130) dX0_await_37 (fun H locs hP hD hS => ?_)
        rw [rw_extras] at hP hD
        obtain ⟨u_137, hu_137⟩ : ∃ w : RS, w = rs_extras u (upd (ra_extras u) p1.toNatClampNeg ((ra_extras u p1.toNatClampNeg) - 1)) := ⟨_, rfl⟩
        rw [← hu_137] at hP hD
        refine lv_iconst (v := 1) hx hb dX0_await_38 (by decide) ?_
        have eT : (1, u_137) = T := by subst hr_128 hr_129 hu_137; rw [← hf]; simp only [rf_await, if_neg c_130, if_neg c_131, if_neg c_132]
        exact W.iret (v := 1) hx hb hr (fun t ht hW => ⟨⟨1, u_137, rfl, ⟨congrArg Prod.fst eT, congrArg Prod.snd eT⟩, by rw [ht]; exact hP, va_K.moved hW.alike hK, hD⟩, hS.F ht⟩) hS.2.2 dX0_await_39
    · refine lv_iconst (v := (-1)) hx hb dX0_await_17 (by decide) ?_
      have eT : ((-1), u) = T := by subst hr_128 hr_129; rw [← hf]; simp only [rf_await, if_neg c_130, if_pos c_131]
      exact W.iret (v := (-1)) hx hb hr (fun t ht hW => ⟨⟨(-1), u, rfl, ⟨congrArg Prod.fst eT, congrArg Prod.snd eT⟩, by rw [ht]; exact hP, va_K.moved hW.alike hK, hD⟩, hS.F ht⟩) hS.2.2 dX0_await_18
set_option maxHeartbeats 4000000 in
set_option maxRecDepth 100000 in
theorem rc_post (l : Launch) (dC : Nat → ClassId) (dI : Nat → Nat → Nat) (ad : Nat → Nat) (cA : Nat → ClassId) (sz : Nat) (u : RS) (p1 : Int32) (hI : rInv u) (T : Int32 × RS) (hf : rf_post u p1 = T) : Met l yX0_post wsX0_post ({ frames := 1, cells := 0, slots := 0, locals := 20 } : Room) (va_Pc [.ref (ad 0), .int p1] (fun U => U.heap.size = sz ∧ va_P (dC, dI) vwCl (rW ad cA u) U.heap ∧ va_K (dC, dI) vwCl (rT cA) U ∧ va_D (fun _ => True) (rW ad cA u))) (va_Qi (fun r u2 => r = T.1 ∧ u2 = T.2) (rAt dC dI (va_A (rW ad cA u) sz) ad cA) (va_A (rW ad cA u) sz)) 0 0 (va_A (rW ad cA u) sz) := by
  refine Met.ofW (cc := cX0_post) (maxL := 2) (ret := (some .int)) (by decide) rfl ?_
  intro p e s m args below meth c s₁ B hml hv
  obtain ⟨rfl, hsz, hP, hK, hD0⟩ := hv
  have hx := B.exec
  have hb := B.bytes
  have hr := B.returns
  have hts := atoms_spec (ws := wsX0_post) B.pre
  have hown : s.vm.findClass RX0 = some m.cls := findClass_of_methodNamed B.named
  have hlocks := B.notSynchronized
  have hin0 : ∀ w ∈ wsX00, w ∈ wsX0_post := by decide +kernel
  have fl_postCount := hts (.fieldLink RX0 32 "ProcessRoom" "postCount" "I") (by decide +kernel)
  have fl_posts := hts (.fieldLink RX0 29 "ProcessRoom" "posts" "[I") (by decide +kernel)
  subst hsz
  have hD := hD0.self (sz := s.heap.size)
  generalize hAe : va_A (rW ad cA u) s.heap.size = A at hD ⊢
  have hA : ∀ q : Nat, s.heap.size ≤ q → A q := fun q h => by rw [← hAe]; exact Or.inr h
  have hS : va_S A s.heap s.heap [] := va_S.rf
  have hl := lv_entry ([.ref (ad 0), .int p1]) (n := 2) (Nat.le_of_ble_eq_true rfl)
  rw [lg_entry_eq]
  generalize (lg_sl ([.ref (ad 0), .int p1]) ++ List.replicate (2 - (lg_sl ([.ref (ad 0), .int p1])).length) Slot.unset).toArray = ls at hl ⊢
  have hl : lv_has ls 2 [(0, .ref (ad 0)), (1, .int p1)] := hl
  refine lv_iload_n hx hb dX0_post_0 rfl (lv_at hl 1 rfl) ?_
  refine va_calli (va_runS (As := [.int p1]) (rest := []) ⟨hx, hb, hml, hown, hts⟩ (rc_isSemaphore l p1 _ rfl) (va_cwS 1 hts gX0_post_X0_isSemaphore rfl rfl rfl (by decide +kernel) ⟨Nat.le_of_ble_eq_true rfl, Nat.le_of_ble_eq_true rfl⟩) ⟨fun a U g mk q => ⟨q.1, trivial⟩, fun U hU hW => ⟨rfl, trivial⟩⟩ rfl rfl hl.1 rfl (lv_room (Nat.le_of_ble_eq_true rfl)) dX0_post_1 ⟨Nat.le_of_ble_eq_true rfl, Nat.le_of_ble_eq_true rfl⟩) hS (fun _ _ h => h.elim) (fun _ h => h.elim) (fun r_138 u_ t H1 locs ht hvm hr_138 hB hz1 hk1 hS => ?_)
  have hP := hP.kept (fun k x hx => hk1 x.1 ((hP k x hx).lt) (fun h => h))
  generalize H1 = H at hP hS ⊢
  refine lv_if_eq (tgt := 16) hx hb dX0_post_4 (by decide) (fun c_139 => ?_) (fun c_139 => ?_)
  · refine lv_iconst (v := (-1)) hx hb dX0_post_16 (by decide) ?_
    have eT : ((-1), u) = T := by subst hr_138; rw [← hf]; simp only [rf_post, if_pos c_139]
    exact W.iret (v := (-1)) hx hb hr (fun t ht hW => ⟨⟨(-1), u, rfl, ⟨congrArg Prod.fst eT, congrArg Prod.snd eT⟩, by rw [ht]; exact hP, va_K.moved hW.alike hK, hD⟩, hS.F ht⟩) hS.2.2 dX0_post_17
  · refine lv_aload_n hx hb dX0_post_7 rfl (lv_at hl 0 rfl) ?_
    refine va_get (D := (dC, dI)) (ci := 0) (v := .int (ra_postCount u)) (C := RX0) (T := TX0) (N := 12) (fs := rF ad u) hx hb hts hin0 hown hK hP 0 rfl rfl 7 (by decide) fl_postCount (fun _ h9 => h9) rfl dX0_post_8 ?_
    refine lv_bipush (v := 40) hx hb dX0_post_11 (by decide) ?_
    refine lv_icmp_lt (tgt := 18) hx hb dX0_post_13 (by decide) (fun c_140 => ?_) (fun c_140 => ?_)
    · refine lv_aload_n hx hb dX0_post_18 rfl (lv_at hl 0 rfl) ?_
      refine va_get (D := (dC, dI)) (ci := 0) (v := .ref (ad 6)) (C := RX0) (T := TX0) (N := 12) (fs := rF ad u) hx hb hts hin0 hown hK hP 0 rfl rfl 6 (by decide) fl_posts (fun _ h9 => h9) rfl dX0_post_19 ?_
      refine lv_aload_n hx hb dX0_post_22 rfl (lv_at hl 0 rfl) ?_
      refine va_get (D := (dC, dI)) (ci := 0) (v := .int (ra_postCount u)) (C := RX0) (T := TX0) (N := 12) (fs := rF ad u) hx hb hts hin0 hown hK hP 0 rfl rfl 7 (by decide) fl_postCount (fun _ h9 => h9) rfl dX0_post_23 ?_
      refine lv_iload_n hx hb dX0_post_26 rfl (lv_at hl 1 rfl) ?_
      refine va_iast hx hb hK hP hD hS 6 5 rfl rfl (k_in1 hI.2.1 c_140 rfl) dX0_post_27 (fun H locs hP hD hS => ?_)
      rw [rw_posts] at hP hD
      obtain ⟨u_141, hu_141⟩ : ∃ w : RS, w = rs_posts u (upd (ra_posts u) (ra_postCount u).toNatClampNeg p1) := ⟨_, rfl⟩
      rw [← hu_141] at hP hD
      refine lv_aload_n hx hb dX0_post_28 rfl (lv_at hl 0 rfl) ?_
      refine lv_dup hx hb dX0_post_29 rfl ?_
      refine va_get (D := (dC, dI)) (ci := 0) (v := .int (ra_postCount u)) (C := RX0) (T := TX0) (N := 12) (fs := rF ad u_141) hx hb hts hin0 hown hK hP 0 rfl rfl 7 (by decide) fl_postCount (fun _ h9 => h9) (congrArg (fun z => some (Value.int z)) (show ra_postCount u_141 = ra_postCount u from by rw [hu_141, rq_postCount_posts])) dX0_post_30 ?_
      refine lv_iconst (v := 1) hx hb dX0_post_33 (by decide) ?_
      refine lv_iadd hx hb dX0_post_34 ?_
      refine va_put (D := (dC, dI)) (ci := 0) (v := .int ((ra_postCount u) + 1)) (ty := .int) (C := RX0) (T := TX0) (N := 12) (fs := rF ad u_141) hx hb hts hin0 tyX0 tyX0_ok nmX0 hown hK hP hD hS 0 rfl rfl 7 (by decide) fl_postCount (fun _ h9 => h9) rfl (by decide +kernel) rfl rfl (Nat.le_of_ble_eq_true rfl) dX0_post_35 (fun H locs hP hD hS => ?_)
      rw [rw_postCount] at hP hD
      obtain ⟨u_142, hu_142⟩ : ∃ w : RS, w = rs_postCount u_141 ((ra_postCount u) + 1) := ⟨_, rfl⟩
      rw [← hu_142] at hP hD
      refine lv_aload_n hx hb dX0_post_38 rfl (lv_at hl 0 rfl) ?_
      refine va_get (D := (dC, dI)) (ci := 0) (v := .int ((ra_postCount u) + 1)) (C := RX0) (T := TX0) (N := 12) (fs := rF ad u_142) hx hb hts hin0 hown hK hP 0 rfl rfl 7 (by decide) fl_postCount (fun _ h9 => h9) (congrArg (fun z => some (Value.int z)) (show ra_postCount u_142 = (ra_postCount u) + 1 from by rw [hu_142, rq_postCount_postCount])) dX0_post_39 ?_
      have eT : ((ra_postCount u) + 1, u_142) = T := by subst hr_138 hu_141 hu_142; rw [← hf]; simp only [rf_post, if_neg c_139, if_pos c_140]
      exact W.iret (v := (ra_postCount u) + 1) hx hb hr (fun t ht hW => ⟨⟨(ra_postCount u) + 1, u_142, rfl, ⟨congrArg Prod.fst eT, congrArg Prod.snd eT⟩, by rw [ht]; exact hP, va_K.moved hW.alike hK, hD⟩, hS.F ht⟩) hS.2.2 dX0_post_42
    · refine lv_iconst (v := (-1)) hx hb dX0_post_16 (by decide) ?_
      have eT : ((-1), u) = T := by subst hr_138; rw [← hf]; simp only [rf_post, if_neg c_139, if_neg c_140]
      exact W.iret (v := (-1)) hx hb hr (fun t ht hW => ⟨⟨(-1), u, rfl, ⟨congrArg Prod.fst eT, congrArg Prod.snd eT⟩, by rw [ht]; exact hP, va_K.moved hW.alike hK, hD⟩, hS.F ht⟩) hS.2.2 dX0_post_17
set_option maxHeartbeats 4000000 in
set_option maxRecDepth 100000 in
theorem rc_step (l : Launch) (dC : Nat → ClassId) (dI : Nat → Nat → Nat) (ad : Nat → Nat) (cA : Nat → ClassId) (sz : Nat) (u : RS)  (hI : rInv u) (T : Int32 × RS) (hf : rf_step u = T) : Met l yX0_step wsX0_step ({ frames := 6, cells := 0, slots := 0, locals := 127 } : Room) (va_Pc [.ref (ad 0)] (fun U => U.heap.size = sz ∧ va_P (dC, dI) vwCl (rW ad cA u) U.heap ∧ va_K (dC, dI) vwCl (rT cA) U ∧ va_D (fun _ => True) (rW ad cA u))) (va_Qi (fun r u2 => r = T.1 ∧ u2 = T.2) (rAt dC dI (va_A (rW ad cA u) sz) ad cA) (va_A (rW ad cA u) sz)) 0 0 (va_A (rW ad cA u) sz) := by
  refine Met.ofW (cc := cX0_step) (maxL := 1) (ret := (some .int)) (by decide) rfl ?_
  intro p e s m args below meth c s₁ B hml hv
  obtain ⟨rfl, hsz, hP, hK, hD0⟩ := hv
  have hx := B.exec
  have hb := B.bytes
  have hr := B.returns
  have hts := atoms_spec (ws := wsX0_step) B.pre
  have hown : s.vm.findClass RX0 = some m.cls := findClass_of_methodNamed B.named
  have hlocks := B.notSynchronized
  have hin0 : ∀ w ∈ wsX00, w ∈ wsX0_step := by decide +kernel
  have fl_wanted := hts (.fieldLink RX0 41 "ProcessRoom" "wanted" "Z") (by decide +kernel)
  have fl_active := hts (.fieldLink RX0 35 "ProcessRoom" "active" "I") (by decide +kernel)
  subst hsz
  have hD := hD0.self (sz := s.heap.size)
  generalize hAe : va_A (rW ad cA u) s.heap.size = A at hD ⊢
  have hA : ∀ q : Nat, s.heap.size ≤ q → A q := fun q h => by rw [← hAe]; exact Or.inr h
  have hS : va_S A s.heap s.heap [] := va_S.rf
  have hl := lv_entry ([.ref (ad 0)]) (n := 1) (Nat.le_of_ble_eq_true rfl)
  rw [lg_entry_eq]
  generalize (lg_sl ([.ref (ad 0)]) ++ List.replicate (1 - (lg_sl ([.ref (ad 0)])).length) Slot.unset).toArray = ls at hl ⊢
  have hl : lv_has ls 1 [(0, .ref (ad 0))] := hl
  refine lv_aload_n hx hb dX0_step_0 rfl (lv_at hl 0 rfl) ?_
  have hFc := va_free (wc := (rW ad cA u)) hD hS hA [0, 1, 2, 3, 4, 5, 6] rfl
  refine va_callv (va_runV (As := []) (rest := []) ⟨hx, hb, hml, hown, hts⟩ (rc_signalPosted l dC dI ad cA _ u hI _ rfl) (cwV 0 hts gX0_step_X0_signalPosted rfl rfl rfl (by decide +kernel) ⟨Nat.le_of_ble_eq_true rfl, Nat.le_of_ble_eq_true rfl⟩) ⟨fun a U g mk q => by obtain ⟨q0, q1, qP, qK, qD⟩ := q; exact ⟨q0, q1, qP, va_K.moved (u := U) (U := U.calling g mk a) (Vm.Alike.refl U.vm) qK, qD⟩, va_recv hK hP (ci := 0) (q0 := 0) rfl rfl, fun U hU hW => ⟨rfl, by rw [hU], by rw [hU]; exact hP, va_K.moved hW.alike hK, hD.weaken (fun _ _ _ _ => trivial)⟩⟩ rfl rfl hl.1 rfl (lv_room (Nat.le_of_ble_eq_true rfl)) dX0_step_1 ⟨Nat.le_of_ble_eq_true rfl, Nat.le_of_ble_eq_true rfl⟩) hS (fun q _ h => hFc q h) hFc (fun u_144 t H1 locs ht hvm hu_144 hB hz1 hk1 hS => ?_)
  obtain ⟨hP, hK1, hD1⟩ := hB
  rw [ht] at hP
  have hD := hD1.weaken (fun _ _ _ h => hFc _ h)
  generalize H1 = H at hP hS ⊢
  have hP : va_P (dC, dI) vwCl (rW ad cA u_144) H := hP
  have hD : va_D A (rW ad cA u_144) := hD
  refine lv_aload_n hx hb dX0_step_4 rfl (lv_at hl 0 rfl) ?_
  refine va_get (D := (dC, dI)) (ci := 0) (v := .int (ra_wanted u_144)) (C := RX0) (T := TX0) (N := 12) (fs := rF ad u_144) hx hb hts hin0 hown hK hP 0 rfl rfl 10 (by decide) fl_wanted (fun _ h9 => h9) rfl dX0_step_5 ?_
  refine lv_if_eq (tgt := 15) hx hb dX0_step_8 (by decide) (fun c_145 => ?_) (fun c_145 => ?_)
  · refine lv_aload_n hx hb dX0_step_15 rfl (lv_at hl 0 rfl) ?_
    refine va_get (D := (dC, dI)) (ci := 0) (v := .int (ra_active u_144)) (C := RX0) (T := TX0) (N := 12) (fs := rF ad u_144) hx hb hts hin0 hown hK hP 0 rfl rfl 8 (by decide) fl_active (fun _ h9 => h9) rfl dX0_step_16 ?_
    have eT : (ra_active u_144, u_144) = T := by subst hu_144; rw [← hf]; simp only [rf_step, if_pos c_145]
    exact W.iret (v := ra_active u_144) hx hb hr (fun t ht hW => ⟨⟨ra_active u_144, u_144, rfl, ⟨congrArg Prod.fst eT, congrArg Prod.snd eT⟩, by rw [ht]; exact hP, va_K.moved hW.alike hK, hD⟩, hS.F ht⟩) hS.2.2 dX0_step_19
  · refine lv_aload_n hx hb dX0_step_11 rfl (lv_at hl 0 rfl) ?_
    have hFc := va_free (wc := (rW ad cA u_144)) hD hS hA [0, 1, 2, 3, 4, 5, 6] rfl
    refine va_callv (va_runV (As := []) (rest := []) ⟨hx, hb, hml, hown, hts⟩ (rc_change l dC dI ad cA _ u_144 _ rfl) (cwV 0 hts gX0_step_X0_change rfl rfl rfl (by decide +kernel) ⟨Nat.le_of_ble_eq_true rfl, Nat.le_of_ble_eq_true rfl⟩) ⟨fun a U g mk q => by obtain ⟨q0, q1, qP, qK, qD⟩ := q; exact ⟨q0, q1, qP, va_K.moved (u := U) (U := U.calling g mk a) (Vm.Alike.refl U.vm) qK, qD⟩, va_recv hK hP (ci := 0) (q0 := 0) rfl rfl, fun U hU hW => ⟨rfl, by rw [hU], by rw [hU]; exact hP, va_K.moved hW.alike hK, hD.weaken (fun _ _ _ _ => trivial)⟩⟩ rfl rfl hl.1 rfl (lv_room (Nat.le_of_ble_eq_true rfl)) dX0_step_12 ⟨Nat.le_of_ble_eq_true rfl, Nat.le_of_ble_eq_true rfl⟩) hS (fun q _ h => hFc q h) hFc (fun u_147 t H1 locs ht hvm hu_147 hB hz1 hk1 hS => ?_)
    obtain ⟨hP, hK1, hD1⟩ := hB
    rw [ht] at hP
    have hD := hD1.weaken (fun _ _ _ h => hFc _ h)
    generalize H1 = H at hP hS ⊢
    have hP : va_P (dC, dI) vwCl (rW ad cA u_147) H := hP
    have hD : va_D A (rW ad cA u_147) := hD
    refine lv_aload_n hx hb dX0_step_15 rfl (lv_at hl 0 rfl) ?_
    refine va_get (D := (dC, dI)) (ci := 0) (v := .int (ra_active u_147)) (C := RX0) (T := TX0) (N := 12) (fs := rF ad u_147) hx hb hts hin0 hown hK hP 0 rfl rfl 8 (by decide) fl_active (fun _ h9 => h9) rfl dX0_step_16 ?_
    have eT : (ra_active u_147, u_147) = T := by subst hu_144 hu_147; rw [← hf]; simp only [rf_step, if_neg c_145]
    exact W.iret (v := ra_active u_147) hx hb hr (fun t ht hW => ⟨⟨ra_active u_147, u_147, rfl, ⟨congrArg Prod.fst eT, congrArg Prod.snd eT⟩, by rw [ht]; exact hP, va_K.moved hW.alike hK, hD⟩, hS.F ht⟩) hS.2.2 dX0_step_19
set_option maxHeartbeats 4000000 in
set_option maxRecDepth 100000 in
theorem rc_work (l : Launch) (dC : Nat → ClassId) (dI : Nat → Nat → Nat) (ad : Nat → Nat) (cA : Nat → ClassId) (sz : Nat) (u : RS) (p1 : Int32) (T : Int32 × RS) (hf : rf_work u p1 = T) : Met l yX0_work wsX0_work ({ frames := 0, cells := 0, slots := 0, locals := 0 } : Room) (va_Pc [.ref (ad 0), .int p1] (fun U => U.heap.size = sz ∧ va_P (dC, dI) vwCl (rW ad cA u) U.heap ∧ va_K (dC, dI) vwCl (rT cA) U ∧ va_D (fun _ => True) (rW ad cA u))) (va_Qi (fun r u2 => r = T.1 ∧ u2 = T.2) (rAt dC dI (va_A (rW ad cA u) sz) ad cA) (va_A (rW ad cA u) sz)) 0 0 (va_A (rW ad cA u) sz) := by
  refine Met.ofW (cc := cX0_work) (maxL := 2) (ret := (some .boolean)) (by decide) rfl ?_
  intro p e s m args below meth c s₁ B hml hv
  obtain ⟨rfl, hsz, hP, hK, hD0⟩ := hv
  have hx := B.exec
  have hb := B.bytes
  have hr := B.returns
  have hts := atoms_spec (ws := wsX0_work) B.pre
  have hown : s.vm.findClass RX0 = some m.cls := findClass_of_methodNamed B.named
  have hlocks := B.notSynchronized
  have hin0 : ∀ w ∈ wsX00, w ∈ wsX0_work := by decide +kernel
  have fl_active := hts (.fieldLink RX0 35 "ProcessRoom" "active" "I") (by decide +kernel)
  have fl_wanted := hts (.fieldLink RX0 41 "ProcessRoom" "wanted" "Z") (by decide +kernel)
  have fl_here := hts (.fieldLink RX0 38 "ProcessRoom" "here" "I") (by decide +kernel)
  subst hsz
  have hD := hD0.self (sz := s.heap.size)
  generalize hAe : va_A (rW ad cA u) s.heap.size = A at hD ⊢
  have hA : ∀ q : Nat, s.heap.size ≤ q → A q := fun q h => by rw [← hAe]; exact Or.inr h
  have hS : va_S A s.heap s.heap [] := va_S.rf
  have hl := lv_entry ([.ref (ad 0), .int p1]) (n := 2) (Nat.le_of_ble_eq_true rfl)
  rw [lg_entry_eq]
  generalize (lg_sl ([.ref (ad 0), .int p1]) ++ List.replicate (2 - (lg_sl ([.ref (ad 0), .int p1])).length) Slot.unset).toArray = ls at hl ⊢
  have hl : lv_has ls 2 [(0, .ref (ad 0)), (1, .int p1)] := hl
  refine lv_iload_n hx hb dX0_work_0 rfl (lv_at hl 1 rfl) ?_
  refine lv_iconst (v := 1) hx hb dX0_work_1 (by decide) ?_
  refine lv_icmp_lt (tgt := 27) hx hb dX0_work_2 (by decide) (fun c_148 => ?_) (fun c_148 => ?_)
  · refine lv_iconst (v := 0) hx hb dX0_work_27 (by decide) ?_
    have eT : (0, u) = T := by rw [← hf]; simp only [rf_work, if_pos c_148]
    exact W.zret (v := 0) hx hb hr (rfl) (fun t ht hW => ⟨⟨0, u, rfl, ⟨congrArg Prod.fst eT, congrArg Prod.snd eT⟩, by rw [ht]; exact hP, va_K.moved hW.alike hK, hD⟩, hS.F ht⟩) hS.2.2 dX0_work_28
  · refine lv_iload_n hx hb dX0_work_5 rfl (lv_at hl 1 rfl) ?_
    refine lv_sipush (v := 1000) hx hb dX0_work_6 (by decide) ?_
    refine lv_icmp_gt (tgt := 27) hx hb dX0_work_9 (by decide) (fun c_149 => ?_) (fun c_149 => ?_)
    · refine lv_iconst (v := 0) hx hb dX0_work_27 (by decide) ?_
      have eT : (0, u) = T := by rw [← hf]; simp only [rf_work, if_neg c_148, if_pos c_149]
      exact W.zret (v := 0) hx hb hr (rfl) (fun t ht hW => ⟨⟨0, u, rfl, ⟨congrArg Prod.fst eT, congrArg Prod.snd eT⟩, by rw [ht]; exact hP, va_K.moved hW.alike hK, hD⟩, hS.F ht⟩) hS.2.2 dX0_work_28
    · refine lv_aload_n hx hb dX0_work_12 rfl (lv_at hl 0 rfl) ?_
      refine va_get (D := (dC, dI)) (ci := 0) (v := .int (ra_active u)) (C := RX0) (T := TX0) (N := 12) (fs := rF ad u) hx hb hts hin0 hown hK hP 0 rfl rfl 8 (by decide) fl_active (fun _ h9 => h9) rfl dX0_work_13 ?_
      refine lv_iconst (v := (-1)) hx hb dX0_work_16 (by decide) ?_
      refine lv_icmp_eq (tgt := 27) hx hb dX0_work_17 (by decide) (fun c_150 => ?_) (fun c_150 => ?_)
      · refine lv_iconst (v := 0) hx hb dX0_work_27 (by decide) ?_
        have eT : (0, u) = T := by rw [← hf]; simp only [rf_work, if_neg c_148, if_neg c_149, if_pos c_150]
        exact W.zret (v := 0) hx hb hr (rfl) (fun t ht hW => ⟨⟨0, u, rfl, ⟨congrArg Prod.fst eT, congrArg Prod.snd eT⟩, by rw [ht]; exact hP, va_K.moved hW.alike hK, hD⟩, hS.F ht⟩) hS.2.2 dX0_work_28
      · refine lv_aload_n hx hb dX0_work_20 rfl (lv_at hl 0 rfl) ?_
        refine va_get (D := (dC, dI)) (ci := 0) (v := .int (ra_wanted u)) (C := RX0) (T := TX0) (N := 12) (fs := rF ad u) hx hb hts hin0 hown hK hP 0 rfl rfl 10 (by decide) fl_wanted (fun _ h9 => h9) rfl dX0_work_21 ?_
        refine lv_if_eq (tgt := 29) hx hb dX0_work_24 (by decide) (fun c_151 => ?_) (fun c_151 => ?_)
        · refine lv_aload_n hx hb dX0_work_29 rfl (lv_at hl 0 rfl) ?_
          refine lv_dup hx hb dX0_work_30 rfl ?_
          refine va_get (D := (dC, dI)) (ci := 0) (v := .int (ra_here u)) (C := RX0) (T := TX0) (N := 12) (fs := rF ad u) hx hb hts hin0 hown hK hP 0 rfl rfl 9 (by decide) fl_here (fun _ h9 => h9) rfl dX0_work_31 ?_
          refine lv_iload_n hx hb dX0_work_34 rfl (lv_at hl 1 rfl) ?_
          refine lv_iadd hx hb dX0_work_35 ?_
          refine va_put (D := (dC, dI)) (ci := 0) (v := .int ((ra_here u) + p1)) (ty := .int) (C := RX0) (T := TX0) (N := 12) (fs := rF ad u) hx hb hts hin0 tyX0 tyX0_ok nmX0 hown hK hP hD hS 0 rfl rfl 9 (by decide) fl_here (fun _ h9 => h9) rfl (by decide +kernel) rfl rfl (Nat.le_of_ble_eq_true rfl) dX0_work_36 (fun H locs hP hD hS => ?_)
          rw [rw_here] at hP hD
          obtain ⟨u_152, hu_152⟩ : ∃ w : RS, w = rs_here u ((ra_here u) + p1) := ⟨_, rfl⟩
          rw [← hu_152] at hP hD
          refine lv_iconst (v := 1) hx hb dX0_work_39 (by decide) ?_
          have eT : (1, u_152) = T := by subst hu_152; rw [← hf]; simp only [rf_work, if_neg c_148, if_neg c_149, if_neg c_150, if_pos c_151]
          exact W.zret (v := 1) hx hb hr (rfl) (fun t ht hW => ⟨⟨1, u_152, rfl, ⟨congrArg Prod.fst eT, congrArg Prod.snd eT⟩, by rw [ht]; exact hP, va_K.moved hW.alike hK, hD⟩, hS.F ht⟩) hS.2.2 dX0_work_40
        · refine lv_iconst (v := 0) hx hb dX0_work_27 (by decide) ?_
          have eT : (0, u) = T := by rw [← hf]; simp only [rf_work, if_neg c_148, if_neg c_149, if_neg c_150, if_neg c_151]
          exact W.zret (v := 0) hx hb hr (rfl) (fun t ht hW => ⟨⟨0, u, rfl, ⟨congrArg Prod.fst eT, congrArg Prod.snd eT⟩, by rw [ht]; exact hP, va_K.moved hW.alike hK, hD⟩, hS.F ht⟩) hS.2.2 dX0_work_28
set_option maxHeartbeats 4000000 in
set_option maxRecDepth 100000 in
theorem rc_take (l : Launch) (dC : Nat → ClassId) (dI : Nat → Nat → Nat) (ad : Nat → Nat) (cA : Nat → ClassId) (sz : Nat) (u : RS) (p1 : Int32) (T : Int32 × RS) (hf : rf_take u p1 = T) : Met l yX0_take wsX0_take ({ frames := 2, cells := 0, slots := 0, locals := 43 } : Room) (va_Pc [.ref (ad 0), .int p1] (fun U => U.heap.size = sz ∧ va_P (dC, dI) vwCl (rW ad cA u) U.heap ∧ va_K (dC, dI) vwCl (rT cA) U ∧ va_D (fun _ => True) (rW ad cA u))) (va_Qi (fun r u2 => r = T.1 ∧ u2 = T.2) (rAt dC dI (va_A (rW ad cA u) sz) ad cA) (va_A (rW ad cA u) sz)) 0 0 (va_A (rW ad cA u) sz) := by
  refine Met.ofW (cc := cX0_take) (maxL := 2) (ret := (some .boolean)) (by decide) rfl ?_
  intro p e s m args below meth c s₁ B hml hv
  obtain ⟨rfl, hsz, hP, hK, hD0⟩ := hv
  have hx := B.exec
  have hb := B.bytes
  have hr := B.returns
  have hts := atoms_spec (ws := wsX0_take) B.pre
  have hown : s.vm.findClass RX0 = some m.cls := findClass_of_methodNamed B.named
  have hlocks := B.notSynchronized
  have hin0 : ∀ w ∈ wsX00, w ∈ wsX0_take := by decide +kernel
  have fl_rows := hts (.fieldLink RX0 16 "ProcessRoom" "rows" "[I") (by decide +kernel)
  subst hsz
  have hD := hD0.self (sz := s.heap.size)
  generalize hAe : va_A (rW ad cA u) s.heap.size = A at hD ⊢
  have hA : ∀ q : Nat, s.heap.size ≤ q → A q := fun q h => by rw [← hAe]; exact Or.inr h
  have hS : va_S A s.heap s.heap [] := va_S.rf
  have hl := lv_entry ([.ref (ad 0), .int p1]) (n := 2) (Nat.le_of_ble_eq_true rfl)
  rw [lg_entry_eq]
  generalize (lg_sl ([.ref (ad 0), .int p1]) ++ List.replicate (2 - (lg_sl ([.ref (ad 0), .int p1])).length) Slot.unset).toArray = ls at hl ⊢
  have hl : lv_has ls 2 [(0, .ref (ad 0)), (1, .int p1)] := hl
  refine lv_iload_n hx hb dX0_take_0 rfl (lv_at hl 1 rfl) ?_
  refine va_calli (va_runS (As := [.int p1]) (rest := []) ⟨hx, hb, hml, hown, hts⟩ (rc_isProcess l p1 _ rfl) (va_cwS 1 hts gX0_take_X0_isProcess rfl rfl rfl (by decide +kernel) ⟨Nat.le_of_ble_eq_true rfl, Nat.le_of_ble_eq_true rfl⟩) ⟨fun a U g mk q => ⟨q.1, trivial⟩, fun U hU hW => ⟨rfl, trivial⟩⟩ rfl rfl hl.1 rfl (lv_room (Nat.le_of_ble_eq_true rfl)) dX0_take_1 ⟨Nat.le_of_ble_eq_true rfl, Nat.le_of_ble_eq_true rfl⟩) hS (fun _ _ h => h.elim) (fun _ h => h.elim) (fun r_153 u_ t H1 locs ht hvm hr_153 hB hz1 hk1 hS => ?_)
  have hP := hP.kept (fun k x hx => hk1 x.1 ((hP k x hx).lt) (fun h => h))
  generalize H1 = H at hP hS ⊢
  refine lv_if_eq (tgt := 16) hx hb dX0_take_4 (by decide) (fun c_154 => ?_) (fun c_154 => ?_)
  · refine lv_iconst (v := 0) hx hb dX0_take_16 (by decide) ?_
    have eT : (0, u) = T := by subst hr_153; rw [← hf]; simp only [rf_take, if_pos c_154]
    exact W.zret (v := 0) hx hb hr (rfl) (fun t ht hW => ⟨⟨0, u, rfl, ⟨congrArg Prod.fst eT, congrArg Prod.snd eT⟩, by rw [ht]; exact hP, va_K.moved hW.alike hK, hD⟩, hS.F ht⟩) hS.2.2 dX0_take_17
  · refine lv_aload_n hx hb dX0_take_7 rfl (lv_at hl 0 rfl) ?_
    refine va_get (D := (dC, dI)) (ci := 0) (v := .ref (ad 3)) (C := RX0) (T := TX0) (N := 12) (fs := rF ad u) hx hb hts hin0 hown hK hP 0 rfl rfl 2 (by decide) fl_rows (fun _ h9 => h9) rfl dX0_take_8 ?_
    refine lv_iload_n hx hb dX0_take_11 rfl (lv_at hl 1 rfl) ?_
    refine va_iald hx hb hK hP 3 2 rfl rfl (ri_isProcess hr_153 c_154) dX0_take_12 ?_
    refine lv_if_ne (tgt := 18) hx hb dX0_take_13 (by decide) (fun c_155 => ?_) (fun c_155 => ?_)
    · refine lv_aload_n hx hb dX0_take_18 rfl (lv_at hl 0 rfl) ?_
      refine lv_iload_n hx hb dX0_take_19 rfl (lv_at hl 1 rfl) ?_
      have hFc := va_free (wc := (rW ad cA u)) hD hS hA [0, 1, 2, 3, 4, 5, 6] rfl
      refine va_callv (va_runV (As := [.int p1]) (rest := []) ⟨hx, hb, hml, hown, hts⟩ (rc_leave l dC dI ad cA _ u p1 _ rfl) (cwV 1 hts gX0_take_X0_leave rfl rfl rfl (by decide +kernel) ⟨Nat.le_of_ble_eq_true rfl, Nat.le_of_ble_eq_true rfl⟩) ⟨fun a U g mk q => by obtain ⟨q0, q1, qP, qK, qD⟩ := q; exact ⟨q0, q1, qP, va_K.moved (u := U) (U := U.calling g mk a) (Vm.Alike.refl U.vm) qK, qD⟩, va_recv hK hP (ci := 0) (q0 := 0) rfl rfl, fun U hU hW => ⟨rfl, by rw [hU], by rw [hU]; exact hP, va_K.moved hW.alike hK, hD.weaken (fun _ _ _ _ => trivial)⟩⟩ rfl rfl hl.1 rfl (lv_room (Nat.le_of_ble_eq_true rfl)) dX0_take_20 ⟨Nat.le_of_ble_eq_true rfl, Nat.le_of_ble_eq_true rfl⟩) hS (fun q _ h => hFc q h) hFc (fun u_157 t H1 locs ht hvm hu_157 hB hz1 hk1 hS => ?_)
      obtain ⟨hP, hK1, hD1⟩ := hB
      rw [ht] at hP
      have hD := hD1.weaken (fun _ _ _ h => hFc _ h)
      generalize H1 = H at hP hS ⊢
      have hP : va_P (dC, dI) vwCl (rW ad cA u_157) H := hP
      have hD : va_D A (rW ad cA u_157) := hD
      refine lv_iconst (v := 1) hx hb dX0_take_23 (by decide) ?_
      have eT : (1, u_157) = T := by subst hr_153 hu_157; rw [← hf]; simp only [rf_take, if_neg c_154, if_neg c_155]
      exact W.zret (v := 1) hx hb hr (rfl) (fun t ht hW => ⟨⟨1, u_157, rfl, ⟨congrArg Prod.fst eT, congrArg Prod.snd eT⟩, by rw [ht]; exact hP, va_K.moved hW.alike hK, hD⟩, hS.F ht⟩) hS.2.2 dX0_take_24
    · refine lv_iconst (v := 0) hx hb dX0_take_16 (by decide) ?_
      have eT : (0, u) = T := by subst hr_153; rw [← hf]; simp only [rf_take, if_neg c_154, if_pos c_155]
      exact W.zret (v := 0) hx hb hr (rfl) (fun t ht hW => ⟨⟨0, u, rfl, ⟨congrArg Prod.fst eT, congrArg Prod.snd eT⟩, by rw [ht]; exact hP, va_K.moved hW.alike hK, hD⟩, hS.F ht⟩) hS.2.2 dX0_take_17
set_option maxHeartbeats 4000000 in
set_option maxRecDepth 100000 in
theorem rc_rate (l : Launch) (dC : Nat → ClassId) (dI : Nat → Nat → Nat) (ad : Nat → Nat) (cA : Nat → ClassId) (sz : Nat) (u : RS) (p1 : Int32) (p2 : Int32) (T : Int32 × RS) (hf : rf_rate u p1 p2 = T) : Met l yX0_rate wsX0_rate ({ frames := 2, cells := 0, slots := 0, locals := 41 } : Room) (va_Pc [.ref (ad 0), .int p1, .int p2] (fun U => U.heap.size = sz ∧ va_P (dC, dI) vwCl (rW ad cA u) U.heap ∧ va_K (dC, dI) vwCl (rT cA) U ∧ va_D (fun _ => True) (rW ad cA u))) (va_Qi (fun r u2 => r = T.1 ∧ u2 = T.2) (rAt dC dI (va_A (rW ad cA u) sz) ad cA) (va_A (rW ad cA u) sz)) 0 0 (va_A (rW ad cA u) sz) := by
  refine Met.ofW (cc := cX0_rate) (maxL := 4) (ret := (some .int)) (by decide) rfl ?_
  intro p e s m args below meth c s₁ B hml hv
  obtain ⟨rfl, hsz, hP, hK, hD0⟩ := hv
  have hx := B.exec
  have hb := B.bytes
  have hr := B.returns
  have hts := atoms_spec (ws := wsX0_rate) B.pre
  have hown : s.vm.findClass RX0 = some m.cls := findClass_of_methodNamed B.named
  have hlocks := B.notSynchronized
  have hin0 : ∀ w ∈ wsX00, w ∈ wsX0_rate := by decide +kernel
  have fl_priorities := hts (.fieldLink RX0 9 "ProcessRoom" "priorities" "[I") (by decide +kernel)
  subst hsz
  have hD := hD0.self (sz := s.heap.size)
  generalize hAe : va_A (rW ad cA u) s.heap.size = A at hD ⊢
  have hA : ∀ q : Nat, s.heap.size ≤ q → A q := fun q h => by rw [← hAe]; exact Or.inr h
  have hS : va_S A s.heap s.heap [] := va_S.rf
  have hl := lv_entry ([.ref (ad 0), .int p1, .int p2]) (n := 4) (Nat.le_of_ble_eq_true rfl)
  rw [lg_entry_eq]
  generalize (lg_sl ([.ref (ad 0), .int p1, .int p2]) ++ List.replicate (4 - (lg_sl ([.ref (ad 0), .int p1, .int p2])).length) Slot.unset).toArray = ls at hl ⊢
  have hl : lv_has ls 4 [(0, .ref (ad 0)), (1, .int p1), (2, .int p2)] := hl
  refine lv_aload_n hx hb dX0_rate_0 rfl (lv_at hl 0 rfl) ?_
  refine lv_iload_n hx hb dX0_rate_1 rfl (lv_at hl 1 rfl) ?_
  refine va_calli (va_runV (As := [.int p1]) (rest := []) ⟨hx, hb, hml, hown, hts⟩ (rc_isMade l dC dI ad cA u p1 _ rfl) (cwV 1 hts gX0_rate_X0_isMade rfl rfl rfl (by decide +kernel) ⟨Nat.le_of_ble_eq_true rfl, Nat.le_of_ble_eq_true rfl⟩) ⟨fun a U g mk q => by obtain ⟨q0, qP, qK⟩ := q; exact ⟨q0, qP, va_K.moved (u := U) (U := U.calling g mk a) (Vm.Alike.refl U.vm) qK⟩, va_recv hK hP (ci := 0) (q0 := 0) rfl rfl, fun U hU hW => ⟨rfl, by rw [hU]; exact hP, va_K.moved hW.alike hK⟩⟩ rfl rfl hl.1 rfl (lv_room (Nat.le_of_ble_eq_true rfl)) dX0_rate_2 ⟨Nat.le_of_ble_eq_true rfl, Nat.le_of_ble_eq_true rfl⟩) hS (fun _ _ h => h.elim) (fun _ h => h.elim) (fun r_158 u_ t H1 locs ht hvm hr_158 hB hz1 hk1 hS => ?_)
  have hP := hP.kept (fun k x hx => hk1 x.1 ((hP k x hx).lt) (fun h => h))
  generalize H1 = H at hP hS ⊢
  refine lv_if_eq (tgt := 15) hx hb dX0_rate_5 (by decide) (fun c_159 => ?_) (fun c_159 => ?_)
  · refine lv_iconst (v := (-1)) hx hb dX0_rate_15 (by decide) ?_
    have eT : ((-1), u) = T := by subst hr_158; rw [← hf]; simp only [rf_rate, if_pos c_159]
    exact W.iret (v := (-1)) hx hb hr (fun t ht hW => ⟨⟨(-1), u, rfl, ⟨congrArg Prod.fst eT, congrArg Prod.snd eT⟩, by rw [ht]; exact hP, va_K.moved hW.alike hK, hD⟩, hS.F ht⟩) hS.2.2 dX0_rate_16
  · refine lv_iload_n hx hb dX0_rate_8 rfl (lv_at hl 2 rfl) ?_
    refine va_calli (va_runS (As := [.int p2]) (rest := []) ⟨hx, hb, hml, hown, hts⟩ (rc_isPriority l p2 _ rfl) (va_cwS 1 hts gX0_rate_X0_isPriority rfl rfl rfl (by decide +kernel) ⟨Nat.le_of_ble_eq_true rfl, Nat.le_of_ble_eq_true rfl⟩) ⟨fun a U g mk q => ⟨q.1, trivial⟩, fun U hU hW => ⟨rfl, trivial⟩⟩ rfl rfl hl.1 rfl (lv_room (Nat.le_of_ble_eq_true rfl)) dX0_rate_9 ⟨Nat.le_of_ble_eq_true rfl, Nat.le_of_ble_eq_true rfl⟩) hS (fun _ _ h => h.elim) (fun _ h => h.elim) (fun r_160 u_ t H1 locs ht hvm hr_160 hB hz1 hk1 hS => ?_)
    have hP := hP.kept (fun k x hx => hk1 x.1 ((hP k x hx).lt) (fun h => h))
    generalize H1 = H at hP hS ⊢
    refine lv_if_ne (tgt := 17) hx hb dX0_rate_12 (by decide) (fun c_161 => ?_) (fun c_161 => ?_)
    · refine lv_aload_n hx hb dX0_rate_17 rfl (lv_at hl 0 rfl) ?_
      refine va_get (D := (dC, dI)) (ci := 0) (v := .ref (ad 1)) (C := RX0) (T := TX0) (N := 12) (fs := rF ad u) hx hb hts hin0 hown hK hP 0 rfl rfl 0 (by decide) fl_priorities (fun _ h9 => h9) rfl dX0_rate_18 ?_
      refine lv_iload_n hx hb dX0_rate_21 rfl (lv_at hl 1 rfl) ?_
      refine va_iald hx hb hK hP 1 0 rfl rfl (ri_isMade hr_158 c_159) dX0_rate_22 ?_
      refine lv_istore_n (lv' := [(3, .int (ra_priorities u p1.toNatClampNeg)), (0, .ref (ad 0)), (1, .int p1), (2, .int p2)]) hx hb dX0_rate_23 rfl hl (by decide) rfl (fun ls hl => ?_)
      refine lv_aload_n hx hb dX0_rate_24 rfl (lv_at hl 1 rfl) ?_
      refine va_get (D := (dC, dI)) (ci := 0) (v := .ref (ad 1)) (C := RX0) (T := TX0) (N := 12) (fs := rF ad u) hx hb hts hin0 hown hK hP 0 rfl rfl 0 (by decide) fl_priorities (fun _ h9 => h9) rfl dX0_rate_25 ?_
      refine lv_iload_n hx hb dX0_rate_28 rfl (lv_at hl 2 rfl) ?_
      refine lv_iload_n hx hb dX0_rate_29 rfl (lv_at hl 3 rfl) ?_
      refine va_iast hx hb hK hP hD hS 1 0 rfl rfl (ri_isMade hr_158 c_159) dX0_rate_30 (fun H locs hP hD hS => ?_)
      rw [rw_priorities] at hP hD
      obtain ⟨u_162, hu_162⟩ : ∃ w : RS, w = rs_priorities u (upd (ra_priorities u) p1.toNatClampNeg p2) := ⟨_, rfl⟩
      rw [← hu_162] at hP hD
      refine lv_iload_n hx hb dX0_rate_31 rfl (lv_at hl 0 rfl) ?_
      have eT : (ra_priorities u p1.toNatClampNeg, u_162) = T := by subst hr_158 hr_160 hu_162; rw [← hf]; simp only [rf_rate, if_neg c_159, if_neg c_161]
      exact W.iret (v := ra_priorities u p1.toNatClampNeg) hx hb hr (fun t ht hW => ⟨⟨ra_priorities u p1.toNatClampNeg, u_162, rfl, ⟨congrArg Prod.fst eT, congrArg Prod.snd eT⟩, by rw [ht]; exact hP, va_K.moved hW.alike hK, hD⟩, hS.F ht⟩) hS.2.2 dX0_rate_32
    · refine lv_iconst (v := (-1)) hx hb dX0_rate_15 (by decide) ?_
      have eT : ((-1), u) = T := by subst hr_158 hr_160; rw [← hf]; simp only [rf_rate, if_neg c_159, if_pos c_161]
      exact W.iret (v := (-1)) hx hb hr (fun t ht hW => ⟨⟨(-1), u, rfl, ⟨congrArg Prod.fst eT, congrArg Prod.snd eT⟩, by rw [ht]; exact hP, va_K.moved hW.alike hK, hD⟩, hS.F ht⟩) hS.2.2 dX0_rate_16
set_option maxHeartbeats 4000000 in
set_option maxRecDepth 100000 in
theorem rc_yield (l : Launch) (dC : Nat → ClassId) (dI : Nat → Nat → Nat) (ad : Nat → Nat) (cA : Nat → ClassId) (sz : Nat) (u : RS)  (hI : rInv u) (T : Int32 × RS) (hf : rf_yield u = T) : Met l yX0_yield wsX0_yield ({ frames := 4, cells := 0, slots := 0, locals := 88 } : Room) (va_Pc [.ref (ad 0)] (fun U => U.heap.size = sz ∧ va_P (dC, dI) vwCl (rW ad cA u) U.heap ∧ va_K (dC, dI) vwCl (rT cA) U ∧ va_D (fun _ => True) (rW ad cA u))) (va_Qi (fun r u2 => r = T.1 ∧ u2 = T.2) (rAt dC dI (va_A (rW ad cA u) sz) ad cA) (va_A (rW ad cA u) sz)) 0 0 (va_A (rW ad cA u) sz) := by
  refine Met.ofW (cc := cX0_yield) (maxL := 2) (ret := (some .boolean)) (by decide) rfl ?_
  intro p e s m args below meth c s₁ B hml hv
  obtain ⟨rfl, hsz, hP, hK, hD0⟩ := hv
  have hx := B.exec
  have hb := B.bytes
  have hr := B.returns
  have hts := atoms_spec (ws := wsX0_yield) B.pre
  have hown : s.vm.findClass RX0 = some m.cls := findClass_of_methodNamed B.named
  have hlocks := B.notSynchronized
  have hin0 : ∀ w ∈ wsX00, w ∈ wsX0_yield := by decide +kernel
  have fl_priorities := hts (.fieldLink RX0 9 "ProcessRoom" "priorities" "[I") (by decide +kernel)
  subst hsz
  have hD := hD0.self (sz := s.heap.size)
  generalize hAe : va_A (rW ad cA u) s.heap.size = A at hD ⊢
  have hA : ∀ q : Nat, s.heap.size ≤ q → A q := fun q h => by rw [← hAe]; exact Or.inr h
  have hS : va_S A s.heap s.heap [] := va_S.rf
  have hl := lv_entry ([.ref (ad 0)]) (n := 2) (Nat.le_of_ble_eq_true rfl)
  rw [lg_entry_eq]
  generalize (lg_sl ([.ref (ad 0)]) ++ List.replicate (2 - (lg_sl ([.ref (ad 0)])).length) Slot.unset).toArray = ls at hl ⊢
  have hl : lv_has ls 2 [(0, .ref (ad 0))] := hl
  refine lv_aload_n hx hb dX0_yield_0 rfl (lv_at hl 0 rfl) ?_
  refine va_calli (va_runV (As := []) (rest := []) ⟨hx, hb, hml, hown, hts⟩ (rc_present l dC dI ad cA u _ rfl) (cwV 0 hts gX0_yield_X0_present rfl rfl rfl (by decide +kernel) ⟨Nat.le_of_ble_eq_true rfl, Nat.le_of_ble_eq_true rfl⟩) ⟨fun a U g mk q => by obtain ⟨q0, qP, qK⟩ := q; exact ⟨q0, qP, va_K.moved (u := U) (U := U.calling g mk a) (Vm.Alike.refl U.vm) qK⟩, va_recv hK hP (ci := 0) (q0 := 0) rfl rfl, fun U hU hW => ⟨rfl, by rw [hU]; exact hP, va_K.moved hW.alike hK⟩⟩ rfl rfl hl.1 rfl (lv_room (Nat.le_of_ble_eq_true rfl)) dX0_yield_1 ⟨Nat.le_of_ble_eq_true rfl, Nat.le_of_ble_eq_true rfl⟩) hS (fun _ _ h => h.elim) (fun _ h => h.elim) (fun r_163 u_ t H1 locs ht hvm hr_163 hB hz1 hk1 hS => ?_)
  have hP := hP.kept (fun k x hx => hk1 x.1 ((hP k x hx).lt) (fun h => h))
  generalize H1 = H at hP hS ⊢
  refine lv_istore_n (lv' := [(1, .int r_163), (0, .ref (ad 0))]) hx hb dX0_yield_4 rfl hl (by decide) rfl (fun ls hl => ?_)
  refine lv_aload_n hx hb dX0_yield_5 rfl (lv_at hl 1 rfl) ?_
  refine lv_iload_n hx hb dX0_yield_6 rfl (lv_at hl 0 rfl) ?_
  refine va_calli (va_runV (As := [.int r_163]) (rest := []) ⟨hx, hb, hml, hown, hts⟩ (rc_isMade l dC dI ad cA u r_163 _ rfl) (cwV 1 hts gX0_yield_X0_isMade rfl rfl rfl (by decide +kernel) ⟨Nat.le_of_ble_eq_true rfl, Nat.le_of_ble_eq_true rfl⟩) ⟨fun a U g mk q => by obtain ⟨q0, qP, qK⟩ := q; exact ⟨q0, qP, va_K.moved (u := U) (U := U.calling g mk a) (Vm.Alike.refl U.vm) qK⟩, va_recv hK hP (ci := 0) (q0 := 0) rfl rfl, fun U hU hW => ⟨rfl, by rw [hU]; exact hP, va_K.moved hW.alike hK⟩⟩ rfl rfl hl.1 rfl (lv_room (Nat.le_of_ble_eq_true rfl)) dX0_yield_7 ⟨Nat.le_of_ble_eq_true rfl, Nat.le_of_ble_eq_true rfl⟩) hS (fun _ _ h => h.elim) (fun _ h => h.elim) (fun r_164 u_ t H1 locs ht hvm hr_164 hB hz1 hk1 hS => ?_)
  have hP := hP.kept (fun k x hx => hk1 x.1 ((hP k x hx).lt) (fun h => h))
  generalize H1 = H at hP hS ⊢
  refine lv_if_eq (tgt := 28) hx hb dX0_yield_10 (by decide) (fun c_165 => ?_) (fun c_165 => ?_)
  · refine lv_iconst (v := 0) hx hb dX0_yield_28 (by decide) ?_
    have eT : (0, u) = T := by subst hr_163 hr_164; rw [← hf]; simp only [rf_yield, if_pos c_165]
    exact W.zret (v := 0) hx hb hr (rfl) (fun t ht hW => ⟨⟨0, u, rfl, ⟨congrArg Prod.fst eT, congrArg Prod.snd eT⟩, by rw [ht]; exact hP, va_K.moved hW.alike hK, hD⟩, hS.F ht⟩) hS.2.2 dX0_yield_29
  · refine lv_aload_n hx hb dX0_yield_13 rfl (lv_at hl 1 rfl) ?_
    refine lv_aload_n hx hb dX0_yield_14 rfl (lv_at hl 1 rfl) ?_
    refine va_get (D := (dC, dI)) (ci := 0) (v := .ref (ad 1)) (C := RX0) (T := TX0) (N := 12) (fs := rF ad u) hx hb hts hin0 hown hK hP 0 rfl rfl 0 (by decide) fl_priorities (fun _ h9 => h9) rfl dX0_yield_15 ?_
    refine lv_iload_n hx hb dX0_yield_18 rfl (lv_at hl 0 rfl) ?_
    refine va_iald hx hb hK hP 1 0 rfl rfl (ri_isMade hr_164 c_165) dX0_yield_19 ?_
    refine lv_iconst (v := 0) hx hb dX0_yield_20 (by decide) ?_
    refine va_calli (va_runV (As := [.int (ra_priorities u r_163.toNatClampNeg), .int 0]) (rest := []) ⟨hx, hb, hml, hown, hts⟩ (rc_at l dC dI ad cA u (ra_priorities u r_163.toNatClampNeg) 0 _ rfl) (cwV 2 hts gX0_yield_X0_at rfl rfl rfl (by decide +kernel) ⟨Nat.le_of_ble_eq_true rfl, Nat.le_of_ble_eq_true rfl⟩) ⟨fun a U g mk q => by obtain ⟨q0, qP, qK⟩ := q; exact ⟨q0, qP, va_K.moved (u := U) (U := U.calling g mk a) (Vm.Alike.refl U.vm) qK⟩, va_recv hK hP (ci := 0) (q0 := 0) rfl rfl, fun U hU hW => ⟨rfl, by rw [hU]; exact hP, va_K.moved hW.alike hK⟩⟩ rfl rfl hl.1 rfl (lv_room (Nat.le_of_ble_eq_true rfl)) dX0_yield_21 ⟨Nat.le_of_ble_eq_true rfl, Nat.le_of_ble_eq_true rfl⟩) hS (fun _ _ h => h.elim) (fun _ h => h.elim) (fun r_166 u_ t H1 locs ht hvm hr_166 hB hz1 hk1 hS => ?_)
    have hP := hP.kept (fun k x hx => hk1 x.1 ((hP k x hx).lt) (fun h => h))
    generalize H1 = H at hP hS ⊢
    refine lv_iconst (v := (-1)) hx hb dX0_yield_24 (by decide) ?_
    refine lv_icmp_ne (tgt := 30) hx hb dX0_yield_25 (by decide) (fun c_167 => ?_) (fun c_167 => ?_)
    · refine lv_aload_n hx hb dX0_yield_30 rfl (lv_at hl 1 rfl) ?_
      refine lv_iload_n hx hb dX0_yield_31 rfl (lv_at hl 0 rfl) ?_
      refine lv_aload_n hx hb dX0_yield_32 rfl (lv_at hl 1 rfl) ?_
      refine va_get (D := (dC, dI)) (ci := 0) (v := .ref (ad 1)) (C := RX0) (T := TX0) (N := 12) (fs := rF ad u) hx hb hts hin0 hown hK hP 0 rfl rfl 0 (by decide) fl_priorities (fun _ h9 => h9) rfl dX0_yield_33 ?_
      refine lv_iload_n hx hb dX0_yield_36 rfl (lv_at hl 0 rfl) ?_
      refine va_iald hx hb hK hP 1 0 rfl rfl (ri_isMade hr_164 c_165) dX0_yield_37 ?_
      have hFc := va_free (wc := (rW ad cA u)) hD hS hA [0, 1, 2, 3, 4, 5, 6] rfl
      refine va_callv (va_runV (As := [.int r_163, .int (ra_priorities u r_163.toNatClampNeg)]) (rest := []) ⟨hx, hb, hml, hown, hts⟩ (rc_enter l dC dI ad cA _ u r_163 (ra_priorities u r_163.toNatClampNeg) hI _ rfl) (cwV 2 hts gX0_yield_X0_enter rfl rfl rfl (by decide +kernel) ⟨Nat.le_of_ble_eq_true rfl, Nat.le_of_ble_eq_true rfl⟩) ⟨fun a U g mk q => by obtain ⟨q0, q1, qP, qK, qD⟩ := q; exact ⟨q0, q1, qP, va_K.moved (u := U) (U := U.calling g mk a) (Vm.Alike.refl U.vm) qK, qD⟩, va_recv hK hP (ci := 0) (q0 := 0) rfl rfl, fun U hU hW => ⟨rfl, by rw [hU], by rw [hU]; exact hP, va_K.moved hW.alike hK, hD.weaken (fun _ _ _ _ => trivial)⟩⟩ rfl rfl hl.1 rfl (lv_room (Nat.le_of_ble_eq_true rfl)) dX0_yield_38 ⟨Nat.le_of_ble_eq_true rfl, Nat.le_of_ble_eq_true rfl⟩) hS (fun q _ h => hFc q h) hFc (fun u_169 t H1 locs ht hvm hu_169 hB hz1 hk1 hS => ?_)
      obtain ⟨hP, hK1, hD1⟩ := hB
      rw [ht] at hP
      have hD := hD1.weaken (fun _ _ _ h => hFc _ h)
      generalize H1 = H at hP hS ⊢
      have hP : va_P (dC, dI) vwCl (rW ad cA u_169) H := hP
      have hD : va_D A (rW ad cA u_169) := hD
      refine lv_aload_n hx hb dX0_yield_41 rfl (lv_at hl 1 rfl) ?_
      have hFc := va_free (wc := (rW ad cA u_169)) hD hS hA [0, 1, 2, 3, 4, 5, 6] rfl
      refine va_callv (va_runV (As := []) (rest := []) ⟨hx, hb, hml, hown, hts⟩ (rc_putAside l dC dI ad cA _ u_169 _ rfl) (cwV 0 hts gX0_yield_X0_putAside rfl rfl rfl (by decide +kernel) ⟨Nat.le_of_ble_eq_true rfl, Nat.le_of_ble_eq_true rfl⟩) ⟨fun a U g mk q => by obtain ⟨q0, q1, qP, qK, qD⟩ := q; exact ⟨q0, q1, qP, va_K.moved (u := U) (U := U.calling g mk a) (Vm.Alike.refl U.vm) qK, qD⟩, va_recv hK hP (ci := 0) (q0 := 0) rfl rfl, fun U hU hW => ⟨rfl, by rw [hU], by rw [hU]; exact hP, va_K.moved hW.alike hK, hD.weaken (fun _ _ _ _ => trivial)⟩⟩ rfl rfl hl.1 rfl (lv_room (Nat.le_of_ble_eq_true rfl)) dX0_yield_42 ⟨Nat.le_of_ble_eq_true rfl, Nat.le_of_ble_eq_true rfl⟩) hS (fun q _ h => hFc q h) hFc (fun u_171 t H1 locs ht hvm hu_171 hB hz1 hk1 hS => ?_)
      obtain ⟨hP, hK1, hD1⟩ := hB
      rw [ht] at hP
      have hD := hD1.weaken (fun _ _ _ h => hFc _ h)
      generalize H1 = H at hP hS ⊢
      have hP : va_P (dC, dI) vwCl (rW ad cA u_171) H := hP
      have hD : va_D A (rW ad cA u_171) := hD
      refine lv_iconst (v := 1) hx hb dX0_yield_45 (by decide) ?_
      have eT : (1, u_171) = T := by subst hr_163 hr_164 hr_166 hu_169 hu_171; rw [← hf]; simp only [rf_yield, if_neg c_165, if_neg c_167]
      exact W.zret (v := 1) hx hb hr (rfl) (fun t ht hW => ⟨⟨1, u_171, rfl, ⟨congrArg Prod.fst eT, congrArg Prod.snd eT⟩, by rw [ht]; exact hP, va_K.moved hW.alike hK, hD⟩, hS.F ht⟩) hS.2.2 dX0_yield_46
    · refine lv_iconst (v := 0) hx hb dX0_yield_28 (by decide) ?_
      have eT : (0, u) = T := by subst hr_163 hr_164 hr_166; rw [← hf]; simp only [rf_yield, if_neg c_165, if_pos c_167]
      exact W.zret (v := 0) hx hb hr (rfl) (fun t ht hW => ⟨⟨0, u, rfl, ⟨congrArg Prod.fst eT, congrArg Prod.snd eT⟩, by rw [ht]; exact hP, va_K.moved hW.alike hK, hD⟩, hS.F ht⟩) hS.2.2 dX0_yield_29
def r0 : RS := ((fun _ => 0), (fun _ => 0), (fun _ => 0), (fun _ => 0), 0, (fun _ => 0), (fun _ => 0), 0, (-1), 0, 0, (-1))
def rNew (dC : Nat → ClassId) (dI : Nat → Nat → Nat) (A : Nat → Prop) (h0 : Nat) (u : RS) (t : State) : Prop := ∃ (ad : Nat → Nat) (cA : Nat → ClassId), ad 0 = h0 ∧ rAt dC dI A ad cA u t
set_option maxHeartbeats 4000000 in
set_option maxRecDepth 100000 in
theorem rc_init (l : Launch) (dC : Nat → ClassId) (dI : Nat → Nat → Nat) (h0 sz : Nat) : Met l yX0_init wsX0_init ({ frames := 1, cells := 6, slots := 184, locals := 12 } : Room) (va_Pc [.ref h0] (fun U => U.heap.size = sz ∧ va_P (dC, dI) vwCl [(h0, .inr (0, [.null, .null, .null, .null, .int 0, .null, .null, .int 0, .int 0, .int 0, .int 0, .int 0]))] U.heap ∧ va_K (dC, dI) vwCl [] U ∧ va_D (fun _ => True) [(h0, .inr (0, [.null, .null, .null, .null, .int 0, .null, .null, .int 0, .int 0, .int 0, .int 0, .int 0]))])) (va_Qv (fun u => u = r0) (rNew dC dI (va_A [(h0, .inr (0, [.null, .null, .null, .null, .int 0, .null, .null, .int 0, .int 0, .int 0, .int 0, .int 0]))] sz) h0) (va_A [(h0, .inr (0, [.null, .null, .null, .null, .int 0, .null, .null, .int 0, .int 0, .int 0, .int 0, .int 0]))] sz)) 6 184 (va_A [(h0, .inr (0, [.null, .null, .null, .null, .int 0, .null, .null, .int 0, .int 0, .int 0, .int 0, .int 0]))] sz) := by
  refine Met.ofW (cc := cX0_init) (maxL := 1) (ret := none) (by decide) rfl ?_
  intro p e s m args below meth c s₁ B hml hv
  obtain ⟨rfl, hsz, hP, hK, hD0⟩ := hv
  have hx := B.exec
  have hb := B.bytes
  have hr := B.returns
  have hts := atoms_spec (ws := wsX0_init) B.pre
  have hown : s.vm.findClass RX0 = some m.cls := findClass_of_methodNamed B.named
  have hlocks := B.notSynchronized
  have hin : meth.name = "<init>" := (name_of_methodNamed B.named B.method).1
  have hin0 : ∀ w ∈ wsX00, w ∈ wsX0_init := by decide +kernel
  have fl_priorities := hts (.fieldLink RX0 9 "ProcessRoom" "priorities" "[I") (by decide +kernel)
  have fl_places := hts (.fieldLink RX0 13 "ProcessRoom" "places" "[I") (by decide +kernel)
  have fl_rows := hts (.fieldLink RX0 16 "ProcessRoom" "rows" "[I") (by decide +kernel)
  have fl_line := hts (.fieldLink RX0 19 "ProcessRoom" "line" "[I") (by decide +kernel)
  have fl_lineLength := hts (.fieldLink RX0 22 "ProcessRoom" "lineLength" "I") (by decide +kernel)
  have fl_extras := hts (.fieldLink RX0 26 "ProcessRoom" "extras" "[I") (by decide +kernel)
  have fl_posts := hts (.fieldLink RX0 29 "ProcessRoom" "posts" "[I") (by decide +kernel)
  have fl_postCount := hts (.fieldLink RX0 32 "ProcessRoom" "postCount" "I") (by decide +kernel)
  have fl_active := hts (.fieldLink RX0 35 "ProcessRoom" "active" "I") (by decide +kernel)
  have fl_here := hts (.fieldLink RX0 38 "ProcessRoom" "here" "I") (by decide +kernel)
  have fl_wanted := hts (.fieldLink RX0 41 "ProcessRoom" "wanted" "Z") (by decide +kernel)
  have fl_wantedOne := hts (.fieldLink RX0 45 "ProcessRoom" "wantedOne" "I") (by decide +kernel)
  subst hsz
  have hD := hD0.self (sz := s.heap.size)
  generalize hAe : va_A [(h0, .inr (0, [.null, .null, .null, .null, .int 0, .null, .null, .int 0, .int 0, .int 0, .int 0, .int 0]))] s.heap.size = A at hD ⊢
  have hA : ∀ q : Nat, s.heap.size ≤ q → A q := fun q h => by rw [← hAe]; exact Or.inr h
  have hS : va_S A s.heap s.heap [] := va_S.rf
  have hl := lv_entry ([.ref h0]) (n := 1) (Nat.le_of_ble_eq_true rfl)
  rw [lg_entry_eq]
  generalize (lg_sl ([.ref h0]) ++ List.replicate (1 - (lg_sl ([.ref h0])).length) Slot.unset).toArray = ls at hl ⊢
  have hl : lv_has ls 1 [(0, .ref h0)] := hl
  refine lv_aload_n hx hb dX0_init_0 rfl (lv_at hl 0 rfl) ?_
  refine W.objInit hx hb hown (hts (.methodLink RX0 1 objectInit) (by decide +kernel)) (hts (.instanceMethod objectInit) (by decide +kernel)) (hts (.code objectInit ⟨#[0xb1]⟩ 1 none) (by decide +kernel)) rfl (by rw [hml]; exact hl.1) rfl dX0_init_1 (Nat.le_of_ble_eq_true rfl) (Nat.le_of_ble_eq_true rfl) ?_
  refine W.eq (g2 := F0 m 4 ls []) rfl ?_
  refine lv_aload_n hx hb dX0_init_4 rfl (lv_at hl 0 rfl) ?_
  refine lv_bipush (v := 32) hx hb dX0_init_5 (by decide) ?_
  refine va_newa (atype := .int) (ty := .int) (N' := 32) (a0 := (32, .inl (fun _ => 0))) hx hb (hts (.arrayClass .int) (by decide +kernel)) rfl hK hP hD hS hA (fun _ => rfl) (by decide) rfl (by decide) (Nat.le_of_ble_eq_true rfl) (Nat.le_of_ble_eq_true rfl) dX0_init_7 (fun q1 c1 H hK hP hD hS => ?_)
  have hK : va_K (dC, dI) vwCl [(c1, .int)] s := hK
  have hP : va_P (dC, dI) vwCl [(h0, .inr (0, [.null, .null, .null, .null, .int 0, .null, .null, .int 0, .int 0, .int 0, .int 0, .int 0])), (q1, .inl (c1, 32, .inl (fun _ => 0)))] H := hP
  have hD : va_D A [(h0, .inr (0, [.null, .null, .null, .null, .int 0, .null, .null, .int 0, .int 0, .int 0, .int 0, .int 0])), (q1, .inl (c1, 32, .inl (fun _ => 0)))] := hD
  refine W.widen (k := 1) (n := 32) (by omega) (by omega) ?_
  refine va_putF (D := (dC, dI)) (ci := 0) (v := .ref q1) (ty := (.array .int)) (C := RX0) (T := TX0) (N := 12) hx hb hts hin0 tyX0 tyX0_ok nmX0 hown hK hP hD hS 0 rfl rfl 0 (by decide) fl_priorities (fun _ h9 => h9) rfl hin rfl (by decide +kernel) rfl rfl (Nat.le_of_ble_eq_true rfl) dX0_init_9 (fun H locs hP hD hS => ?_)
  have hP : va_P (dC, dI) vwCl [(h0, .inr (0, [.ref q1, .null, .null, .null, .int 0, .null, .null, .int 0, .int 0, .int 0, .int 0, .int 0])), (q1, .inl (c1, 32, .inl (fun _ => 0)))] H := hP
  have hD : va_D A [(h0, .inr (0, [.ref q1, .null, .null, .null, .int 0, .null, .null, .int 0, .int 0, .int 0, .int 0, .int 0])), (q1, .inl (c1, 32, .inl (fun _ => 0)))] := hD
  refine lv_aload_n hx hb dX0_init_12 rfl (lv_at hl 0 rfl) ?_
  refine lv_bipush (v := 32) hx hb dX0_init_13 (by decide) ?_
  refine va_newa (atype := .int) (ty := .int) (N' := 32) (a0 := (32, .inl (fun _ => 0))) hx hb (hts (.arrayClass .int) (by decide +kernel)) rfl hK hP hD hS hA (fun _ => rfl) (by decide) rfl (by decide) (Nat.le_of_ble_eq_true rfl) (Nat.le_of_ble_eq_true rfl) dX0_init_15 (fun q2 c2 H hK hP hD hS => ?_)
  have hK : va_K (dC, dI) vwCl [(c1, .int), (c2, .int)] s := hK
  have hP : va_P (dC, dI) vwCl [(h0, .inr (0, [.ref q1, .null, .null, .null, .int 0, .null, .null, .int 0, .int 0, .int 0, .int 0, .int 0])), (q1, .inl (c1, 32, .inl (fun _ => 0))), (q2, .inl (c2, 32, .inl (fun _ => 0)))] H := hP
  have hD : va_D A [(h0, .inr (0, [.ref q1, .null, .null, .null, .int 0, .null, .null, .int 0, .int 0, .int 0, .int 0, .int 0])), (q1, .inl (c1, 32, .inl (fun _ => 0))), (q2, .inl (c2, 32, .inl (fun _ => 0)))] := hD
  refine W.widen (k := 2) (n := 64) (by omega) (by omega) ?_
  refine va_putF (D := (dC, dI)) (ci := 0) (v := .ref q2) (ty := (.array .int)) (C := RX0) (T := TX0) (N := 12) hx hb hts hin0 tyX0 tyX0_ok nmX0 hown hK hP hD hS 0 rfl rfl 1 (by decide) fl_places (fun _ h9 => h9) rfl hin rfl (by decide +kernel) rfl rfl (Nat.le_of_ble_eq_true rfl) dX0_init_17 (fun H locs hP hD hS => ?_)
  have hP : va_P (dC, dI) vwCl [(h0, .inr (0, [.ref q1, .ref q2, .null, .null, .int 0, .null, .null, .int 0, .int 0, .int 0, .int 0, .int 0])), (q1, .inl (c1, 32, .inl (fun _ => 0))), (q2, .inl (c2, 32, .inl (fun _ => 0)))] H := hP
  have hD : va_D A [(h0, .inr (0, [.ref q1, .ref q2, .null, .null, .int 0, .null, .null, .int 0, .int 0, .int 0, .int 0, .int 0])), (q1, .inl (c1, 32, .inl (fun _ => 0))), (q2, .inl (c2, 32, .inl (fun _ => 0)))] := hD
  refine lv_aload_n hx hb dX0_init_20 rfl (lv_at hl 0 rfl) ?_
  refine lv_bipush (v := 32) hx hb dX0_init_21 (by decide) ?_
  refine va_newa (atype := .int) (ty := .int) (N' := 32) (a0 := (32, .inl (fun _ => 0))) hx hb (hts (.arrayClass .int) (by decide +kernel)) rfl hK hP hD hS hA (fun _ => rfl) (by decide) rfl (by decide) (Nat.le_of_ble_eq_true rfl) (Nat.le_of_ble_eq_true rfl) dX0_init_23 (fun q3 c3 H hK hP hD hS => ?_)
  have hK : va_K (dC, dI) vwCl [(c1, .int), (c2, .int), (c3, .int)] s := hK
  have hP : va_P (dC, dI) vwCl [(h0, .inr (0, [.ref q1, .ref q2, .null, .null, .int 0, .null, .null, .int 0, .int 0, .int 0, .int 0, .int 0])), (q1, .inl (c1, 32, .inl (fun _ => 0))), (q2, .inl (c2, 32, .inl (fun _ => 0))), (q3, .inl (c3, 32, .inl (fun _ => 0)))] H := hP
  have hD : va_D A [(h0, .inr (0, [.ref q1, .ref q2, .null, .null, .int 0, .null, .null, .int 0, .int 0, .int 0, .int 0, .int 0])), (q1, .inl (c1, 32, .inl (fun _ => 0))), (q2, .inl (c2, 32, .inl (fun _ => 0))), (q3, .inl (c3, 32, .inl (fun _ => 0)))] := hD
  refine W.widen (k := 3) (n := 96) (by omega) (by omega) ?_
  refine va_putF (D := (dC, dI)) (ci := 0) (v := .ref q3) (ty := (.array .int)) (C := RX0) (T := TX0) (N := 12) hx hb hts hin0 tyX0 tyX0_ok nmX0 hown hK hP hD hS 0 rfl rfl 2 (by decide) fl_rows (fun _ h9 => h9) rfl hin rfl (by decide +kernel) rfl rfl (Nat.le_of_ble_eq_true rfl) dX0_init_25 (fun H locs hP hD hS => ?_)
  have hP : va_P (dC, dI) vwCl [(h0, .inr (0, [.ref q1, .ref q2, .ref q3, .null, .int 0, .null, .null, .int 0, .int 0, .int 0, .int 0, .int 0])), (q1, .inl (c1, 32, .inl (fun _ => 0))), (q2, .inl (c2, 32, .inl (fun _ => 0))), (q3, .inl (c3, 32, .inl (fun _ => 0)))] H := hP
  have hD : va_D A [(h0, .inr (0, [.ref q1, .ref q2, .ref q3, .null, .int 0, .null, .null, .int 0, .int 0, .int 0, .int 0, .int 0])), (q1, .inl (c1, 32, .inl (fun _ => 0))), (q2, .inl (c2, 32, .inl (fun _ => 0))), (q3, .inl (c3, 32, .inl (fun _ => 0)))] := hD
  refine lv_aload_n hx hb dX0_init_28 rfl (lv_at hl 0 rfl) ?_
  refine lv_bipush (v := 32) hx hb dX0_init_29 (by decide) ?_
  refine va_newa (atype := .int) (ty := .int) (N' := 32) (a0 := (32, .inl (fun _ => 0))) hx hb (hts (.arrayClass .int) (by decide +kernel)) rfl hK hP hD hS hA (fun _ => rfl) (by decide) rfl (by decide) (Nat.le_of_ble_eq_true rfl) (Nat.le_of_ble_eq_true rfl) dX0_init_31 (fun q4 c4 H hK hP hD hS => ?_)
  have hK : va_K (dC, dI) vwCl [(c1, .int), (c2, .int), (c3, .int), (c4, .int)] s := hK
  have hP : va_P (dC, dI) vwCl [(h0, .inr (0, [.ref q1, .ref q2, .ref q3, .null, .int 0, .null, .null, .int 0, .int 0, .int 0, .int 0, .int 0])), (q1, .inl (c1, 32, .inl (fun _ => 0))), (q2, .inl (c2, 32, .inl (fun _ => 0))), (q3, .inl (c3, 32, .inl (fun _ => 0))), (q4, .inl (c4, 32, .inl (fun _ => 0)))] H := hP
  have hD : va_D A [(h0, .inr (0, [.ref q1, .ref q2, .ref q3, .null, .int 0, .null, .null, .int 0, .int 0, .int 0, .int 0, .int 0])), (q1, .inl (c1, 32, .inl (fun _ => 0))), (q2, .inl (c2, 32, .inl (fun _ => 0))), (q3, .inl (c3, 32, .inl (fun _ => 0))), (q4, .inl (c4, 32, .inl (fun _ => 0)))] := hD
  refine W.widen (k := 4) (n := 128) (by omega) (by omega) ?_
  refine va_putF (D := (dC, dI)) (ci := 0) (v := .ref q4) (ty := (.array .int)) (C := RX0) (T := TX0) (N := 12) hx hb hts hin0 tyX0 tyX0_ok nmX0 hown hK hP hD hS 0 rfl rfl 3 (by decide) fl_line (fun _ h9 => h9) rfl hin rfl (by decide +kernel) rfl rfl (Nat.le_of_ble_eq_true rfl) dX0_init_33 (fun H locs hP hD hS => ?_)
  have hP : va_P (dC, dI) vwCl [(h0, .inr (0, [.ref q1, .ref q2, .ref q3, .ref q4, .int 0, .null, .null, .int 0, .int 0, .int 0, .int 0, .int 0])), (q1, .inl (c1, 32, .inl (fun _ => 0))), (q2, .inl (c2, 32, .inl (fun _ => 0))), (q3, .inl (c3, 32, .inl (fun _ => 0))), (q4, .inl (c4, 32, .inl (fun _ => 0)))] H := hP
  have hD : va_D A [(h0, .inr (0, [.ref q1, .ref q2, .ref q3, .ref q4, .int 0, .null, .null, .int 0, .int 0, .int 0, .int 0, .int 0])), (q1, .inl (c1, 32, .inl (fun _ => 0))), (q2, .inl (c2, 32, .inl (fun _ => 0))), (q3, .inl (c3, 32, .inl (fun _ => 0))), (q4, .inl (c4, 32, .inl (fun _ => 0)))] := hD
  refine lv_aload_n hx hb dX0_init_36 rfl (lv_at hl 0 rfl) ?_
  refine lv_iconst (v := 0) hx hb dX0_init_37 (by decide) ?_
  refine va_put (D := (dC, dI)) (ci := 0) (v := .int 0) (ty := .int) (C := RX0) (T := TX0) (N := 12) hx hb hts hin0 tyX0 tyX0_ok nmX0 hown hK hP hD hS 0 rfl rfl 4 (by decide) fl_lineLength (fun _ h9 => h9) rfl (by decide +kernel) rfl rfl (Nat.le_of_ble_eq_true rfl) dX0_init_38 (fun H locs hP hD hS => ?_)
  have hP : va_P (dC, dI) vwCl [(h0, .inr (0, [.ref q1, .ref q2, .ref q3, .ref q4, .int 0, .null, .null, .int 0, .int 0, .int 0, .int 0, .int 0])), (q1, .inl (c1, 32, .inl (fun _ => 0))), (q2, .inl (c2, 32, .inl (fun _ => 0))), (q3, .inl (c3, 32, .inl (fun _ => 0))), (q4, .inl (c4, 32, .inl (fun _ => 0)))] H := hP
  have hD : va_D A [(h0, .inr (0, [.ref q1, .ref q2, .ref q3, .ref q4, .int 0, .null, .null, .int 0, .int 0, .int 0, .int 0, .int 0])), (q1, .inl (c1, 32, .inl (fun _ => 0))), (q2, .inl (c2, 32, .inl (fun _ => 0))), (q3, .inl (c3, 32, .inl (fun _ => 0))), (q4, .inl (c4, 32, .inl (fun _ => 0)))] := hD
  refine lv_aload_n hx hb dX0_init_41 rfl (lv_at hl 0 rfl) ?_
  refine lv_bipush (v := 16) hx hb dX0_init_42 (by decide) ?_
  refine va_newa (atype := .int) (ty := .int) (N' := 16) (a0 := (16, .inl (fun _ => 0))) hx hb (hts (.arrayClass .int) (by decide +kernel)) rfl hK hP hD hS hA (fun _ => rfl) (by decide) rfl (by decide) (Nat.le_of_ble_eq_true rfl) (Nat.le_of_ble_eq_true rfl) dX0_init_44 (fun q5 c5 H hK hP hD hS => ?_)
  have hK : va_K (dC, dI) vwCl [(c1, .int), (c2, .int), (c3, .int), (c4, .int), (c5, .int)] s := hK
  have hP : va_P (dC, dI) vwCl [(h0, .inr (0, [.ref q1, .ref q2, .ref q3, .ref q4, .int 0, .null, .null, .int 0, .int 0, .int 0, .int 0, .int 0])), (q1, .inl (c1, 32, .inl (fun _ => 0))), (q2, .inl (c2, 32, .inl (fun _ => 0))), (q3, .inl (c3, 32, .inl (fun _ => 0))), (q4, .inl (c4, 32, .inl (fun _ => 0))), (q5, .inl (c5, 16, .inl (fun _ => 0)))] H := hP
  have hD : va_D A [(h0, .inr (0, [.ref q1, .ref q2, .ref q3, .ref q4, .int 0, .null, .null, .int 0, .int 0, .int 0, .int 0, .int 0])), (q1, .inl (c1, 32, .inl (fun _ => 0))), (q2, .inl (c2, 32, .inl (fun _ => 0))), (q3, .inl (c3, 32, .inl (fun _ => 0))), (q4, .inl (c4, 32, .inl (fun _ => 0))), (q5, .inl (c5, 16, .inl (fun _ => 0)))] := hD
  refine W.widen (k := 5) (n := 144) (by omega) (by omega) ?_
  refine va_putF (D := (dC, dI)) (ci := 0) (v := .ref q5) (ty := (.array .int)) (C := RX0) (T := TX0) (N := 12) hx hb hts hin0 tyX0 tyX0_ok nmX0 hown hK hP hD hS 0 rfl rfl 5 (by decide) fl_extras (fun _ h9 => h9) rfl hin rfl (by decide +kernel) rfl rfl (Nat.le_of_ble_eq_true rfl) dX0_init_46 (fun H locs hP hD hS => ?_)
  have hP : va_P (dC, dI) vwCl [(h0, .inr (0, [.ref q1, .ref q2, .ref q3, .ref q4, .int 0, .ref q5, .null, .int 0, .int 0, .int 0, .int 0, .int 0])), (q1, .inl (c1, 32, .inl (fun _ => 0))), (q2, .inl (c2, 32, .inl (fun _ => 0))), (q3, .inl (c3, 32, .inl (fun _ => 0))), (q4, .inl (c4, 32, .inl (fun _ => 0))), (q5, .inl (c5, 16, .inl (fun _ => 0)))] H := hP
  have hD : va_D A [(h0, .inr (0, [.ref q1, .ref q2, .ref q3, .ref q4, .int 0, .ref q5, .null, .int 0, .int 0, .int 0, .int 0, .int 0])), (q1, .inl (c1, 32, .inl (fun _ => 0))), (q2, .inl (c2, 32, .inl (fun _ => 0))), (q3, .inl (c3, 32, .inl (fun _ => 0))), (q4, .inl (c4, 32, .inl (fun _ => 0))), (q5, .inl (c5, 16, .inl (fun _ => 0)))] := hD
  refine lv_aload_n hx hb dX0_init_49 rfl (lv_at hl 0 rfl) ?_
  refine lv_bipush (v := 40) hx hb dX0_init_50 (by decide) ?_
  refine va_newa (atype := .int) (ty := .int) (N' := 40) (a0 := (40, .inl (fun _ => 0))) hx hb (hts (.arrayClass .int) (by decide +kernel)) rfl hK hP hD hS hA (fun _ => rfl) (by decide) rfl (by decide) (Nat.le_of_ble_eq_true rfl) (Nat.le_of_ble_eq_true rfl) dX0_init_52 (fun q6 c6 H hK hP hD hS => ?_)
  have hK : va_K (dC, dI) vwCl [(c1, .int), (c2, .int), (c3, .int), (c4, .int), (c5, .int), (c6, .int)] s := hK
  have hP : va_P (dC, dI) vwCl [(h0, .inr (0, [.ref q1, .ref q2, .ref q3, .ref q4, .int 0, .ref q5, .null, .int 0, .int 0, .int 0, .int 0, .int 0])), (q1, .inl (c1, 32, .inl (fun _ => 0))), (q2, .inl (c2, 32, .inl (fun _ => 0))), (q3, .inl (c3, 32, .inl (fun _ => 0))), (q4, .inl (c4, 32, .inl (fun _ => 0))), (q5, .inl (c5, 16, .inl (fun _ => 0))), (q6, .inl (c6, 40, .inl (fun _ => 0)))] H := hP
  have hD : va_D A [(h0, .inr (0, [.ref q1, .ref q2, .ref q3, .ref q4, .int 0, .ref q5, .null, .int 0, .int 0, .int 0, .int 0, .int 0])), (q1, .inl (c1, 32, .inl (fun _ => 0))), (q2, .inl (c2, 32, .inl (fun _ => 0))), (q3, .inl (c3, 32, .inl (fun _ => 0))), (q4, .inl (c4, 32, .inl (fun _ => 0))), (q5, .inl (c5, 16, .inl (fun _ => 0))), (q6, .inl (c6, 40, .inl (fun _ => 0)))] := hD
  refine W.widen (k := 6) (n := 184) (by omega) (by omega) ?_
  refine va_putF (D := (dC, dI)) (ci := 0) (v := .ref q6) (ty := (.array .int)) (C := RX0) (T := TX0) (N := 12) hx hb hts hin0 tyX0 tyX0_ok nmX0 hown hK hP hD hS 0 rfl rfl 6 (by decide) fl_posts (fun _ h9 => h9) rfl hin rfl (by decide +kernel) rfl rfl (Nat.le_of_ble_eq_true rfl) dX0_init_54 (fun H locs hP hD hS => ?_)
  have hP : va_P (dC, dI) vwCl [(h0, .inr (0, [.ref q1, .ref q2, .ref q3, .ref q4, .int 0, .ref q5, .ref q6, .int 0, .int 0, .int 0, .int 0, .int 0])), (q1, .inl (c1, 32, .inl (fun _ => 0))), (q2, .inl (c2, 32, .inl (fun _ => 0))), (q3, .inl (c3, 32, .inl (fun _ => 0))), (q4, .inl (c4, 32, .inl (fun _ => 0))), (q5, .inl (c5, 16, .inl (fun _ => 0))), (q6, .inl (c6, 40, .inl (fun _ => 0)))] H := hP
  have hD : va_D A [(h0, .inr (0, [.ref q1, .ref q2, .ref q3, .ref q4, .int 0, .ref q5, .ref q6, .int 0, .int 0, .int 0, .int 0, .int 0])), (q1, .inl (c1, 32, .inl (fun _ => 0))), (q2, .inl (c2, 32, .inl (fun _ => 0))), (q3, .inl (c3, 32, .inl (fun _ => 0))), (q4, .inl (c4, 32, .inl (fun _ => 0))), (q5, .inl (c5, 16, .inl (fun _ => 0))), (q6, .inl (c6, 40, .inl (fun _ => 0)))] := hD
  refine lv_aload_n hx hb dX0_init_57 rfl (lv_at hl 0 rfl) ?_
  refine lv_iconst (v := 0) hx hb dX0_init_58 (by decide) ?_
  refine va_put (D := (dC, dI)) (ci := 0) (v := .int 0) (ty := .int) (C := RX0) (T := TX0) (N := 12) hx hb hts hin0 tyX0 tyX0_ok nmX0 hown hK hP hD hS 0 rfl rfl 7 (by decide) fl_postCount (fun _ h9 => h9) rfl (by decide +kernel) rfl rfl (Nat.le_of_ble_eq_true rfl) dX0_init_59 (fun H locs hP hD hS => ?_)
  have hP : va_P (dC, dI) vwCl [(h0, .inr (0, [.ref q1, .ref q2, .ref q3, .ref q4, .int 0, .ref q5, .ref q6, .int 0, .int 0, .int 0, .int 0, .int 0])), (q1, .inl (c1, 32, .inl (fun _ => 0))), (q2, .inl (c2, 32, .inl (fun _ => 0))), (q3, .inl (c3, 32, .inl (fun _ => 0))), (q4, .inl (c4, 32, .inl (fun _ => 0))), (q5, .inl (c5, 16, .inl (fun _ => 0))), (q6, .inl (c6, 40, .inl (fun _ => 0)))] H := hP
  have hD : va_D A [(h0, .inr (0, [.ref q1, .ref q2, .ref q3, .ref q4, .int 0, .ref q5, .ref q6, .int 0, .int 0, .int 0, .int 0, .int 0])), (q1, .inl (c1, 32, .inl (fun _ => 0))), (q2, .inl (c2, 32, .inl (fun _ => 0))), (q3, .inl (c3, 32, .inl (fun _ => 0))), (q4, .inl (c4, 32, .inl (fun _ => 0))), (q5, .inl (c5, 16, .inl (fun _ => 0))), (q6, .inl (c6, 40, .inl (fun _ => 0)))] := hD
  refine lv_aload_n hx hb dX0_init_62 rfl (lv_at hl 0 rfl) ?_
  refine lv_iconst (v := (-1)) hx hb dX0_init_63 (by decide) ?_
  refine va_put (D := (dC, dI)) (ci := 0) (v := .int (-1)) (ty := .int) (C := RX0) (T := TX0) (N := 12) hx hb hts hin0 tyX0 tyX0_ok nmX0 hown hK hP hD hS 0 rfl rfl 8 (by decide) fl_active (fun _ h9 => h9) rfl (by decide +kernel) rfl rfl (Nat.le_of_ble_eq_true rfl) dX0_init_64 (fun H locs hP hD hS => ?_)
  have hP : va_P (dC, dI) vwCl [(h0, .inr (0, [.ref q1, .ref q2, .ref q3, .ref q4, .int 0, .ref q5, .ref q6, .int 0, .int (-1), .int 0, .int 0, .int 0])), (q1, .inl (c1, 32, .inl (fun _ => 0))), (q2, .inl (c2, 32, .inl (fun _ => 0))), (q3, .inl (c3, 32, .inl (fun _ => 0))), (q4, .inl (c4, 32, .inl (fun _ => 0))), (q5, .inl (c5, 16, .inl (fun _ => 0))), (q6, .inl (c6, 40, .inl (fun _ => 0)))] H := hP
  have hD : va_D A [(h0, .inr (0, [.ref q1, .ref q2, .ref q3, .ref q4, .int 0, .ref q5, .ref q6, .int 0, .int (-1), .int 0, .int 0, .int 0])), (q1, .inl (c1, 32, .inl (fun _ => 0))), (q2, .inl (c2, 32, .inl (fun _ => 0))), (q3, .inl (c3, 32, .inl (fun _ => 0))), (q4, .inl (c4, 32, .inl (fun _ => 0))), (q5, .inl (c5, 16, .inl (fun _ => 0))), (q6, .inl (c6, 40, .inl (fun _ => 0)))] := hD
  refine lv_aload_n hx hb dX0_init_67 rfl (lv_at hl 0 rfl) ?_
  refine lv_iconst (v := 0) hx hb dX0_init_68 (by decide) ?_
  refine va_put (D := (dC, dI)) (ci := 0) (v := .int 0) (ty := .int) (C := RX0) (T := TX0) (N := 12) hx hb hts hin0 tyX0 tyX0_ok nmX0 hown hK hP hD hS 0 rfl rfl 9 (by decide) fl_here (fun _ h9 => h9) rfl (by decide +kernel) rfl rfl (Nat.le_of_ble_eq_true rfl) dX0_init_69 (fun H locs hP hD hS => ?_)
  have hP : va_P (dC, dI) vwCl [(h0, .inr (0, [.ref q1, .ref q2, .ref q3, .ref q4, .int 0, .ref q5, .ref q6, .int 0, .int (-1), .int 0, .int 0, .int 0])), (q1, .inl (c1, 32, .inl (fun _ => 0))), (q2, .inl (c2, 32, .inl (fun _ => 0))), (q3, .inl (c3, 32, .inl (fun _ => 0))), (q4, .inl (c4, 32, .inl (fun _ => 0))), (q5, .inl (c5, 16, .inl (fun _ => 0))), (q6, .inl (c6, 40, .inl (fun _ => 0)))] H := hP
  have hD : va_D A [(h0, .inr (0, [.ref q1, .ref q2, .ref q3, .ref q4, .int 0, .ref q5, .ref q6, .int 0, .int (-1), .int 0, .int 0, .int 0])), (q1, .inl (c1, 32, .inl (fun _ => 0))), (q2, .inl (c2, 32, .inl (fun _ => 0))), (q3, .inl (c3, 32, .inl (fun _ => 0))), (q4, .inl (c4, 32, .inl (fun _ => 0))), (q5, .inl (c5, 16, .inl (fun _ => 0))), (q6, .inl (c6, 40, .inl (fun _ => 0)))] := hD
  refine lv_aload_n hx hb dX0_init_72 rfl (lv_at hl 0 rfl) ?_
  refine lv_iconst (v := 0) hx hb dX0_init_73 (by decide) ?_
  refine va_put (D := (dC, dI)) (ci := 0) (v := .int 0) (ty := .boolean) (C := RX0) (T := TX0) (N := 12) hx hb hts hin0 tyX0 tyX0_ok nmX0 hown hK hP hD hS 0 rfl rfl 10 (by decide) fl_wanted (fun _ h9 => h9) rfl (by decide +kernel) rfl rfl (Nat.le_of_ble_eq_true rfl) dX0_init_74 (fun H locs hP hD hS => ?_)
  have hP : va_P (dC, dI) vwCl [(h0, .inr (0, [.ref q1, .ref q2, .ref q3, .ref q4, .int 0, .ref q5, .ref q6, .int 0, .int (-1), .int 0, .int 0, .int 0])), (q1, .inl (c1, 32, .inl (fun _ => 0))), (q2, .inl (c2, 32, .inl (fun _ => 0))), (q3, .inl (c3, 32, .inl (fun _ => 0))), (q4, .inl (c4, 32, .inl (fun _ => 0))), (q5, .inl (c5, 16, .inl (fun _ => 0))), (q6, .inl (c6, 40, .inl (fun _ => 0)))] H := hP
  have hD : va_D A [(h0, .inr (0, [.ref q1, .ref q2, .ref q3, .ref q4, .int 0, .ref q5, .ref q6, .int 0, .int (-1), .int 0, .int 0, .int 0])), (q1, .inl (c1, 32, .inl (fun _ => 0))), (q2, .inl (c2, 32, .inl (fun _ => 0))), (q3, .inl (c3, 32, .inl (fun _ => 0))), (q4, .inl (c4, 32, .inl (fun _ => 0))), (q5, .inl (c5, 16, .inl (fun _ => 0))), (q6, .inl (c6, 40, .inl (fun _ => 0)))] := hD
  refine lv_aload_n hx hb dX0_init_77 rfl (lv_at hl 0 rfl) ?_
  refine lv_iconst (v := (-1)) hx hb dX0_init_78 (by decide) ?_
  refine va_put (D := (dC, dI)) (ci := 0) (v := .int (-1)) (ty := .int) (C := RX0) (T := TX0) (N := 12) hx hb hts hin0 tyX0 tyX0_ok nmX0 hown hK hP hD hS 0 rfl rfl 11 (by decide) fl_wantedOne (fun _ h9 => h9) rfl (by decide +kernel) rfl rfl (Nat.le_of_ble_eq_true rfl) dX0_init_79 (fun H locs hP hD hS => ?_)
  have hP : va_P (dC, dI) vwCl [(h0, .inr (0, [.ref q1, .ref q2, .ref q3, .ref q4, .int 0, .ref q5, .ref q6, .int 0, .int (-1), .int 0, .int 0, .int (-1)])), (q1, .inl (c1, 32, .inl (fun _ => 0))), (q2, .inl (c2, 32, .inl (fun _ => 0))), (q3, .inl (c3, 32, .inl (fun _ => 0))), (q4, .inl (c4, 32, .inl (fun _ => 0))), (q5, .inl (c5, 16, .inl (fun _ => 0))), (q6, .inl (c6, 40, .inl (fun _ => 0)))] H := hP
  have hD : va_D A [(h0, .inr (0, [.ref q1, .ref q2, .ref q3, .ref q4, .int 0, .ref q5, .ref q6, .int 0, .int (-1), .int 0, .int 0, .int (-1)])), (q1, .inl (c1, 32, .inl (fun _ => 0))), (q2, .inl (c2, 32, .inl (fun _ => 0))), (q3, .inl (c3, 32, .inl (fun _ => 0))), (q4, .inl (c4, 32, .inl (fun _ => 0))), (q5, .inl (c5, 16, .inl (fun _ => 0))), (q6, .inl (c6, 40, .inl (fun _ => 0)))] := hD
  exact W.vret hx hb hr (fun t ht hW => ⟨⟨r0, rfl, rfl, (fun k => match k with | 0 => h0 | 1 => q1 | 2 => q2 | 3 => q3 | 4 => q4 | 5 => q5 | 6 => q6 | _ => 0), (fun k => match k with | 1 => c1 | 2 => c2 | 3 => c3 | 4 => c4 | 5 => c5 | 6 => c6 | _ => c1), rfl, by rw [ht]; exact hP.sub [0, 1, 2, 3, 4, 5, 6] rfl, va_K.moved hW.alike (hK.sub [0, 1, 2, 3, 4, 5] rfl), hD.sub [0, 1, 2, 3, 4, 5, 6] (by decide) rfl⟩, hS.F ht⟩) hS.2.2 dX0_init_82
