set_option maxHeartbeats 4000000 in
set_option maxRecDepth 100000 in
theorem rc_enter (l : Launch) (dC : Nat → ClassId) (dI : Nat → Nat → Nat) (ad : Nat → Nat) (cA : Nat → ClassId) (sz : Nat) (u : RS) (p1 : Int32) (p2 : Int32) (hI : rInv u) (T : RS) (hf : rf_enter u p1 p2 = T) : Met l yX0_enter wsX0_enter ({ frames := 1, cells := 0, slots := 0, locals := 20 } : Room) (va_Pc [.ref (ad 0), .int p1, .int p2] (fun U => U.heap.size = sz ∧ va_P (dC, dI) vwCl (rW ad cA u) U.heap ∧ va_K (dC, dI) vwCl (rT cA) U ∧ va_D (fun _ => True) (rW ad cA u))) (va_Qv (fun u2 => u2 = T) (rAt dC dI (va_A (rW ad cA u) sz) ad cA) (va_A (rW ad cA u) sz)) 0 0 (va_A (rW ad cA u) sz) := by
  refine Met.ofW (cc := cX0_enter) (maxL := 3) (ret := none) (by decide) rfl ?_
  intro p e s m args below meth c s₁ B hml hv
  obtain ⟨rfl, hsz, hP, hK, hD0⟩ := hv
  have hx := B.exec
  have hb := B.bytes
  have hr := B.returns
  have hts := atoms_spec (ws := wsX0_enter) B.pre
  have hown : s.vm.findClass RX0 = some m.cls := findClass_of_methodNamed B.named
  have hlocks := B.notSynchronized
  have hin0 : ∀ w ∈ wsX00, w ∈ wsX0_enter := by decide +kernel
  have fl_lineLength := hts (.fieldLink RX0 22 "ProcessRoom" "lineLength" "I") (by decide +kernel)
  have fl_rows := hts (.fieldLink RX0 16 "ProcessRoom" "rows" "[I") (by decide +kernel)
  have fl_line := hts (.fieldLink RX0 19 "ProcessRoom" "line" "[I") (by decide +kernel)
  subst hsz
  have hD := hD0.self (sz := s.heap.size)
  generalize hAe : va_A (rW ad cA u) s.heap.size = A at hD ⊢
  have hA : ∀ q : Nat, s.heap.size ≤ q → A q := fun q h => by rw [← hAe]; exact Or.inr h
  have hS : va_S A s.heap s.heap [] := va_S.rf
  have hl := lv_entry ([.ref (ad 0), .int p1, .int p2]) (n := 3) (Nat.le_of_ble_eq_true rfl)
  rw [lg_entry_eq]
  generalize (lg_sl ([.ref (ad 0), .int p1, .int p2]) ++ List.replicate (3 - (lg_sl ([.ref (ad 0), .int p1, .int p2])).length) Slot.unset).toArray = ls at hl ⊢
  have hl : lv_has ls 3 [(0, .ref (ad 0)), (1, .int p1), (2, .int p2)] := hl
  refine lv_iload_n hx hb dX0_enter_0 rfl (lv_at hl 1 rfl) ?_
  refine va_calli (va_runS (As := [.int p1]) (rest := []) ⟨hx, hb, hml, hown, hts⟩ (rc_isProcess l p1 _ rfl) (va_cwS 1 hts gX0_enter_X0_isProcess rfl rfl rfl (by decide +kernel) ⟨Nat.le_of_ble_eq_true rfl, Nat.le_of_ble_eq_true rfl⟩) ⟨fun a U g mk q => ⟨q.1, trivial⟩, fun U hU hW => ⟨rfl, trivial⟩⟩ rfl rfl hl.1 rfl (lv_room (Nat.le_of_ble_eq_true rfl)) dX0_enter_1 ⟨Nat.le_of_ble_eq_true rfl, Nat.le_of_ble_eq_true rfl⟩) hS (fun _ _ h => h.elim) (fun _ h => h.elim) (fun r_31 u_ t H1 locs ht hvm hr_31 hB hz1 hk1 hS => ?_)
  have hP := hP.kept (fun k x hx => hk1 x.1 ((hP k x hx).lt) (fun h => h))
  generalize H1 = H at hP hS ⊢
  refine lv_if_eq (tgt := 43) hx hb dX0_enter_4 (by decide) (fun c_32 => ?_) (fun c_32 => ?_)
  · have eT : u = T := by subst hr_31; rw [← hf]; simp only [rf_enter, if_pos c_32]
    exact W.vret hx hb hr (fun t ht hW => ⟨⟨u, rfl, eT, by rw [ht]; exact hP, va_K.moved hW.alike hK, hD⟩, hS.F ht⟩) hS.2.2 dX0_enter_43
  · refine lv_aload_n hx hb dX0_enter_7 rfl (lv_at hl 0 rfl) ?_
    refine va_get (D := (dC, dI)) (ci := 0) (v := .int (ra_lineLength u)) (C := RX0) (T := TX0) (N := 12) hx hb hts hin0 hown hK hP 0 rfl rfl 4 (by decide) fl_lineLength (fun _ h9 => h9) rfl dX0_enter_8 ?_
    refine lv_bipush (v := 32) hx hb dX0_enter_11 (by decide) ?_
    refine lv_icmp_ge (tgt := 43) hx hb dX0_enter_13 (by decide) (fun c_33 => ?_) (fun c_33 => ?_)
    · have eT : u = T := by subst hr_31; rw [← hf]; simp only [rf_enter, if_neg c_32, if_pos c_33]
      exact W.vret hx hb hr (fun t ht hW => ⟨⟨u, rfl, eT, by rw [ht]; exact hP, va_K.moved hW.alike hK, hD⟩, hS.F ht⟩) hS.2.2 dX0_enter_43
    · refine lv_aload_n hx hb dX0_enter_16 rfl (lv_at hl 0 rfl) ?_
      refine va_get (D := (dC, dI)) (ci := 0) (v := .ref (ad 3)) (C := RX0) (T := TX0) (N := 12) hx hb hts hin0 hown hK hP 0 rfl rfl 2 (by decide) fl_rows (fun _ h9 => h9) rfl dX0_enter_17 ?_
      refine lv_iload_n hx hb dX0_enter_20 rfl (lv_at hl 1 rfl) ?_
      refine lv_iload_n hx hb dX0_enter_21 rfl (lv_at hl 2 rfl) ?_
      refine va_iast hx hb hK hP hD hS 3 2 rfl rfl (ri_isProcess hr_31 c_32) dX0_enter_22 (fun H locs hP hD hS => ?_)
      have hP : va_P (dC, dI) vwCl (rW ad cA (rs_rows u (upd (ra_rows u) p1.toNatClampNeg p2))) H := hP
      have hD : va_D A (rW ad cA (rs_rows u (upd (ra_rows u) p1.toNatClampNeg p2))) := hD
      refine lv_aload_n hx hb dX0_enter_23 rfl (lv_at hl 0 rfl) ?_
      refine va_get (D := (dC, dI)) (ci := 0) (v := .ref (ad 4)) (C := RX0) (T := TX0) (N := 12) hx hb hts hin0 hown hK hP 0 rfl rfl 3 (by decide) fl_line (fun _ h9 => h9) rfl dX0_enter_24 ?_
      refine lv_aload_n hx hb dX0_enter_27 rfl (lv_at hl 0 rfl) ?_
      refine va_get (D := (dC, dI)) (ci := 0) (v := .int (ra_lineLength u)) (C := RX0) (T := TX0) (N := 12) hx hb hts hin0 hown hK hP 0 rfl rfl 4 (by decide) fl_lineLength (fun _ h9 => h9) rfl dX0_enter_28 ?_
      refine lv_iload_n hx hb dX0_enter_31 rfl (lv_at hl 1 rfl) ?_
      refine va_iast hx hb hK hP hD hS 4 3 rfl rfl (k_in0 hI.1 c_33 rfl) dX0_enter_32 (fun H locs hP hD hS => ?_)
      have hP : va_P (dC, dI) vwCl (rW ad cA (rs_line (rs_rows u (upd (ra_rows u) p1.toNatClampNeg p2)) (upd (ra_line u) (ra_lineLength u).toNatClampNeg p1))) H := hP
      have hD : va_D A (rW ad cA (rs_line (rs_rows u (upd (ra_rows u) p1.toNatClampNeg p2)) (upd (ra_line u) (ra_lineLength u).toNatClampNeg p1))) := hD
      refine lv_aload_n hx hb dX0_enter_33 rfl (lv_at hl 0 rfl) ?_
      refine lv_dup hx hb dX0_enter_34 rfl ?_
      refine va_get (D := (dC, dI)) (ci := 0) (v := .int (ra_lineLength u)) (C := RX0) (T := TX0) (N := 12) hx hb hts hin0 hown hK hP 0 rfl rfl 4 (by decide) fl_lineLength (fun _ h9 => h9) rfl dX0_enter_35 ?_
      refine lv_iconst (v := 1) hx hb dX0_enter_38 (by decide) ?_
      refine lv_iadd hx hb dX0_enter_39 ?_
      refine va_put (D := (dC, dI)) (ci := 0) (v := .int ((ra_lineLength u) + 1)) (ty := .int) (C := RX0) (T := TX0) (N := 12) hx hb hts hin0 tyX0 tyX0_ok nmX0 hown hK hP hD hS 0 rfl rfl 4 (by decide) fl_lineLength (fun _ h9 => h9) rfl (by decide +kernel) rfl rfl (Nat.le_of_ble_eq_true rfl) dX0_enter_40 (fun H locs hP hD hS => ?_)
      have hP : va_P (dC, dI) vwCl (rW ad cA (rs_lineLength (rs_line (rs_rows u (upd (ra_rows u) p1.toNatClampNeg p2)) (upd (ra_line u) (ra_lineLength u).toNatClampNeg p1)) ((ra_lineLength u) + 1))) H := hP
      have hD : va_D A (rW ad cA (rs_lineLength (rs_line (rs_rows u (upd (ra_rows u) p1.toNatClampNeg p2)) (upd (ra_line u) (ra_lineLength u).toNatClampNeg p1)) ((ra_lineLength u) + 1))) := hD
      have eT : rs_lineLength (rs_line (rs_rows u (upd (ra_rows u) p1.toNatClampNeg p2)) (upd (ra_line u) (ra_lineLength u).toNatClampNeg p1)) ((ra_lineLength u) + 1) = T := by subst hr_31; rw [← hf]; simp only [rf_enter, if_neg c_32, if_neg c_33]
      exact W.vret hx hb hr (fun t ht hW => ⟨⟨rs_lineLength (rs_line (rs_rows u (upd (ra_rows u) p1.toNatClampNeg p2)) (upd (ra_line u) (ra_lineLength u).toNatClampNeg p1)) ((ra_lineLength u) + 1), rfl, eT, by rw [ht]; exact hP, va_K.moved hW.alike hK, hD⟩, hS.F ht⟩) hS.2.2 dX0_enter_43
set_option maxHeartbeats 4000000 in
set_option maxRecDepth 100000 in
theorem rc_leave (l : Launch) (dC : Nat → ClassId) (dI : Nat → Nat → Nat) (ad : Nat → Nat) (cA : Nat → ClassId) (sz : Nat) (u : RS) (p1 : Int32) (T : RS) (hf : rf_leave u p1 = T) : Met l yX0_leave wsX0_leave ({ frames := 1, cells := 0, slots := 0, locals := 20 } : Room) (va_Pc [.ref (ad 0), .int p1] (fun U => U.heap.size = sz ∧ va_P (dC, dI) vwCl (rW ad cA u) U.heap ∧ va_K (dC, dI) vwCl (rT cA) U ∧ va_D (fun _ => True) (rW ad cA u))) (va_Qv (fun u2 => u2 = T) (rAt dC dI (va_A (rW ad cA u) sz) ad cA) (va_A (rW ad cA u) sz)) 0 0 (va_A (rW ad cA u) sz) := by
  refine Met.ofW (cc := cX0_leave) (maxL := 4) (ret := none) (by decide) rfl ?_
  intro p e s m args below meth c s₁ B hml hv
  obtain ⟨rfl, hsz, hP, hK, hD0⟩ := hv
  have hx := B.exec
  have hb := B.bytes
  have hr := B.returns
  have hts := atoms_spec (ws := wsX0_leave) B.pre
  have hown : s.vm.findClass RX0 = some m.cls := findClass_of_methodNamed B.named
  have hlocks := B.notSynchronized
  have hin0 : ∀ w ∈ wsX00, w ∈ wsX0_leave := by decide +kernel
  have fl_rows := hts (.fieldLink RX0 16 "ProcessRoom" "rows" "[I") (by decide +kernel)
  have fl_lineLength := hts (.fieldLink RX0 22 "ProcessRoom" "lineLength" "I") (by decide +kernel)
  have fl_line := hts (.fieldLink RX0 19 "ProcessRoom" "line" "[I") (by decide +kernel)
  subst hsz
  have hD := hD0.self (sz := s.heap.size)
  generalize hAe : va_A (rW ad cA u) s.heap.size = A at hD ⊢
  have hA : ∀ q : Nat, s.heap.size ≤ q → A q := fun q h => by rw [← hAe]; exact Or.inr h
  have hS : va_S A s.heap s.heap [] := va_S.rf
  have hl := lv_entry ([.ref (ad 0), .int p1]) (n := 4) (Nat.le_of_ble_eq_true rfl)
  rw [lg_entry_eq]
  generalize (lg_sl ([.ref (ad 0), .int p1]) ++ List.replicate (4 - (lg_sl ([.ref (ad 0), .int p1])).length) Slot.unset).toArray = ls at hl ⊢
  have hl : lv_has ls 4 [(0, .ref (ad 0)), (1, .int p1)] := hl
  refine lv_iload_n hx hb dX0_leave_0 rfl (lv_at hl 1 rfl) ?_
  refine va_calli (va_runS (As := [.int p1]) (rest := []) ⟨hx, hb, hml, hown, hts⟩ (rc_isProcess l p1 _ rfl) (va_cwS 1 hts gX0_leave_X0_isProcess rfl rfl rfl (by decide +kernel) ⟨Nat.le_of_ble_eq_true rfl, Nat.le_of_ble_eq_true rfl⟩) ⟨fun a U g mk q => ⟨q.1, trivial⟩, fun U hU hW => ⟨rfl, trivial⟩⟩ rfl rfl hl.1 rfl (lv_room (Nat.le_of_ble_eq_true rfl)) dX0_leave_1 ⟨Nat.le_of_ble_eq_true rfl, Nat.le_of_ble_eq_true rfl⟩) hS (fun _ _ h => h.elim) (fun _ h => h.elim) (fun r_34 u_ t H1 locs ht hvm hr_34 hB hz1 hk1 hS => ?_)
  have hP := hP.kept (fun k x hx => hk1 x.1 ((hP k x hx).lt) (fun h => h))
  generalize H1 = H at hP hS ⊢
  refine lv_if_ne (tgt := 8) hx hb dX0_leave_4 (by decide) (fun c_35 => ?_) (fun c_35 => ?_)
  · refine lv_aload_n hx hb dX0_leave_8 rfl (lv_at hl 0 rfl) ?_
    refine va_get (D := (dC, dI)) (ci := 0) (v := .ref (ad 3)) (C := RX0) (T := TX0) (N := 12) hx hb hts hin0 hown hK hP 0 rfl rfl 2 (by decide) fl_rows (fun _ h9 => h9) rfl dX0_leave_9 ?_
    refine lv_iload_n hx hb dX0_leave_12 rfl (lv_at hl 1 rfl) ?_
    refine lv_iconst (v := 0) hx hb dX0_leave_13 (by decide) ?_
    refine va_iast hx hb hK hP hD hS 3 2 rfl rfl (ri_isProcess hr_34 c_35) dX0_leave_14 (fun H locs hP hD hS => ?_)
    have hP : va_P (dC, dI) vwCl (rW ad cA (rs_rows u (upd (ra_rows u) p1.toNatClampNeg 0))) H := hP
    have hD : va_D A (rW ad cA (rs_rows u (upd (ra_rows u) p1.toNatClampNeg 0))) := hD
    refine lv_iconst (v := 0) hx hb dX0_leave_15 (by decide) ?_
    refine lv_istore_n (lv' := [(2, .int 0), (0, .ref (ad 0)), (1, .int p1)]) hx hb dX0_leave_16 rfl hl (by decide) rfl (fun ls hl => ?_)
    refine lv_iconst (v := 0) hx hb dX0_leave_17 (by decide) ?_
    refine lv_istore_n (lv' := [(3, .int 0), (2, .int 0), (0, .ref (ad 0)), (1, .int p1)]) hx hb dX0_leave_18 rfl hl (by decide) rfl (fun ls hl => ?_)
    refine k_nameQ (fun Q hQ => ?_)
    have key : ∀ (n : Nat) (u2 : RS) (x2 : Int32) (x3 : Int32) (H : Heap) (locs : List Loc) (ls : Array Slot), (∃ i j : Nat, x2 = nI i ∧ x3 = nI j ∧ i ≤ j ∧ j + n = 33 ∧ j ≤ 32) → rl_leave p1 n u2 x2 x3 = T → va_P (dC, dI) vwCl (rW ad cA u2) H → va_D A (rW ad cA u2) → va_S A s.heap H locs → lv_has ls 4 [(0, .ref (ad 0)), (1, .int p1), (2, .int x2), (3, .int x3)] → W p l e (headSpec wsX0_leave ({ frames := 1, cells := 0, slots := 0, locals := 20 } : Room)).room s m ([.ref (ad 0), .int p1] : List Value).toArray below meth c H locs 0 0 Q (F0 m 19 ls []) := by
      intro n
      induction n with
      | zero =>
        intro u2 x2 x3 H locs ls hinv
        exact absurd hinv (by rintro ⟨i, j, -, -, h0, h1, h2⟩; omega)
      | succ n ih =>
        intro u2 x2 x3 H locs ls hinv hf2 hP hD hS hl
        obtain ⟨i, j, hi, hj, hij, hjn, hjl⟩ := hinv
        refine lv_iload_n hx hb dX0_leave_19 rfl (lv_at hl 3 rfl) ?_
        refine lv_aload_n hx hb dX0_leave_20 rfl (lv_at hl 0 rfl) ?_
        refine va_get (D := (dC, dI)) (ci := 0) (v := .int (ra_lineLength u2)) (C := RX0) (T := TX0) (N := 12) hx hb hts hin0 hown hK hP 0 rfl rfl 4 (by decide) fl_lineLength (fun _ h9 => h9) rfl dX0_leave_21 ?_
        refine lv_icmp_ge (tgt := 64) hx hb dX0_leave_24 (by decide) (fun c_36 => ?_) (fun c_36 => ?_)
        · refine lv_aload_n hx hb dX0_leave_64 rfl (lv_at hl 0 rfl) ?_
          refine lv_iload_n hx hb dX0_leave_65 rfl (lv_at hl 2 rfl) ?_
          refine va_put (D := (dC, dI)) (ci := 0) (v := .int x2) (ty := .int) (C := RX0) (T := TX0) (N := 12) hx hb hts hin0 tyX0 tyX0_ok nmX0 hown hK hP hD hS 0 rfl rfl 4 (by decide) fl_lineLength (fun _ h9 => h9) rfl (by decide +kernel) rfl rfl (Nat.le_of_ble_eq_true rfl) dX0_leave_66 (fun H locs hP hD hS => ?_)
          have hP : va_P (dC, dI) vwCl (rW ad cA (rs_lineLength u2 x2)) H := hP
          have hD : va_D A (rW ad cA (rs_lineLength u2 x2)) := hD
          subst hQ
          have eT : rs_lineLength u2 x2 = T := by subst hr_34; rw [← hf2]; simp only [rl_leave, if_pos c_36]
          exact W.vret hx hb hr (fun t ht hW => ⟨⟨rs_lineLength u2 x2, rfl, eT, by rw [ht]; exact hP, va_K.moved hW.alike hK, hD⟩, hS.F ht⟩) hS.2.2 dX0_leave_69
        · refine lv_iload_n hx hb dX0_leave_27 rfl (lv_at hl 3 rfl) ?_
          refine lv_bipush (v := 32) hx hb dX0_leave_28 (by decide) ?_
          refine lv_icmp_ge (tgt := 64) hx hb dX0_leave_30 (by decide) (fun c_37 => ?_) (fun c_37 => ?_)
          · refine lv_aload_n hx hb dX0_leave_64 rfl (lv_at hl 0 rfl) ?_
            refine lv_iload_n hx hb dX0_leave_65 rfl (lv_at hl 2 rfl) ?_
            refine va_put (D := (dC, dI)) (ci := 0) (v := .int x2) (ty := .int) (C := RX0) (T := TX0) (N := 12) hx hb hts hin0 tyX0 tyX0_ok nmX0 hown hK hP hD hS 0 rfl rfl 4 (by decide) fl_lineLength (fun _ h9 => h9) rfl (by decide +kernel) rfl rfl (Nat.le_of_ble_eq_true rfl) dX0_leave_66 (fun H locs hP hD hS => ?_)
            have hP : va_P (dC, dI) vwCl (rW ad cA (rs_lineLength u2 x2)) H := hP
            have hD : va_D A (rW ad cA (rs_lineLength u2 x2)) := hD
            subst hQ
            have eT : rs_lineLength u2 x2 = T := by subst hr_34; rw [← hf2]; simp only [rl_leave, if_neg c_36, if_pos c_37]
            exact W.vret hx hb hr (fun t ht hW => ⟨⟨rs_lineLength u2 x2, rfl, eT, by rw [ht]; exact hP, va_K.moved hW.alike hK, hD⟩, hS.F ht⟩) hS.2.2 dX0_leave_69
          · refine lv_aload_n hx hb dX0_leave_33 rfl (lv_at hl 0 rfl) ?_
            refine va_get (D := (dC, dI)) (ci := 0) (v := .ref (ad 4)) (C := RX0) (T := TX0) (N := 12) hx hb hts hin0 hown hK hP 0 rfl rfl 3 (by decide) fl_line (fun _ h9 => h9) rfl dX0_leave_34 ?_
            refine lv_iload_n hx hb dX0_leave_37 rfl (lv_at hl 3 rfl) ?_
            refine va_iald hx hb hK hP 4 3 rfl rfl (k_in hj (k_lt 32 hj (by omega) rfl c_37) (by omega)) dX0_leave_38 ?_
            refine lv_iload_n hx hb dX0_leave_39 rfl (lv_at hl 1 rfl) ?_
            refine lv_icmp_eq (tgt := 58) hx hb dX0_leave_40 (by decide) (fun c_38 => ?_) (fun c_38 => ?_)
            · refine lv_iinc (v := x3 + 1) (lv' := [(3, .int (x3 + 1)), (0, .ref (ad 0)), (1, .int p1), (2, .int x2)]) hx hb dX0_leave_58 hl (k := 3) rfl rfl (by decide) rfl (fun ls hl => ?_)
              refine lv_goto (tgt := 19) hx hb dX0_leave_61 (by decide) ?_
              have hj2 := (k_lt 32 hj (by omega) rfl c_37)
              exact ih u2 x2 (x3 + 1) _ _ _ (⟨i, j + 1, hi, by rw [hj, nI_1], by omega, by omega, by omega⟩) (by subst hr_34; rw [← hf2]; simp only [rl_leave, if_neg c_36, if_neg c_37, if_pos c_38]) hP hD hS (lv_sub hl [1, 2, 3, 0] rfl)
            · refine lv_aload_n hx hb dX0_leave_43 rfl (lv_at hl 0 rfl) ?_
              refine va_get (D := (dC, dI)) (ci := 0) (v := .ref (ad 4)) (C := RX0) (T := TX0) (N := 12) hx hb hts hin0 hown hK hP 0 rfl rfl 3 (by decide) fl_line (fun _ h9 => h9) rfl dX0_leave_44 ?_
              refine lv_iload_n hx hb dX0_leave_47 rfl (lv_at hl 2 rfl) ?_
              refine lv_aload_n hx hb dX0_leave_48 rfl (lv_at hl 0 rfl) ?_
              refine va_get (D := (dC, dI)) (ci := 0) (v := .ref (ad 4)) (C := RX0) (T := TX0) (N := 12) hx hb hts hin0 hown hK hP 0 rfl rfl 3 (by decide) fl_line (fun _ h9 => h9) rfl dX0_leave_49 ?_
              refine lv_iload_n hx hb dX0_leave_52 rfl (lv_at hl 3 rfl) ?_
              refine va_iald hx hb hK hP 4 3 rfl rfl (k_in hj (k_lt 32 hj (by omega) rfl c_37) (by omega)) dX0_leave_53 ?_
              refine va_iast hx hb hK hP hD hS 4 3 rfl rfl (k_in hi (Nat.lt_of_le_of_lt hij (k_lt 32 hj (by omega) rfl c_37)) (by omega)) dX0_leave_54 (fun H locs hP hD hS => ?_)
              have hP : va_P (dC, dI) vwCl (rW ad cA (rs_line u2 (upd (ra_line u2) x2.toNatClampNeg (ra_line u2 x3.toNatClampNeg)))) H := hP
              have hD : va_D A (rW ad cA (rs_line u2 (upd (ra_line u2) x2.toNatClampNeg (ra_line u2 x3.toNatClampNeg)))) := hD
              refine lv_iinc (v := x2 + 1) (lv' := [(2, .int (x2 + 1)), (0, .ref (ad 0)), (1, .int p1), (3, .int x3)]) hx hb dX0_leave_55 hl (k := 2) rfl rfl (by decide) rfl (fun ls hl => ?_)
              refine lv_iinc (v := x3 + 1) (lv' := [(3, .int (x3 + 1)), (2, .int (x2 + 1)), (0, .ref (ad 0)), (1, .int p1)]) hx hb dX0_leave_58 hl (k := 3) rfl rfl (by decide) rfl (fun ls hl => ?_)
              refine lv_goto (tgt := 19) hx hb dX0_leave_61 (by decide) ?_
              have hj2 := (k_lt 32 hj (by omega) rfl c_37)
              exact ih (rs_line u2 (upd (ra_line u2) x2.toNatClampNeg (ra_line u2 x3.toNatClampNeg))) (x2 + 1) (x3 + 1) _ _ _ (⟨i + 1, j + 1, by rw [hi, nI_1], by rw [hj, nI_1], by omega, by omega, by omega⟩) (by subst hr_34; rw [← hf2]; simp only [rl_leave, if_neg c_36, if_neg c_37, if_neg c_38]) hP hD hS (lv_sub hl [2, 3, 1, 0] rfl)
    exact key 33 (rs_rows u (upd (ra_rows u) p1.toNatClampNeg 0)) 0 0 _ _ _ (⟨0, 0, nI_0.symm, nI_0.symm, by omega, rfl, by omega⟩) (by subst hr_34; rw [← hf]; simp only [rf_leave, if_neg c_35]) hP hD hS (lv_sub hl [2, 3, 1, 0] rfl)
  · have eT : u = T := by subst hr_34; rw [← hf]; simp only [rf_leave, if_pos c_35]
    exact W.vret hx hb hr (fun t ht hW => ⟨⟨u, rfl, eT, by rw [ht]; exact hP, va_K.moved hW.alike hK, hD⟩, hS.F ht⟩) hS.2.2 dX0_leave_7
set_option maxHeartbeats 4000000 in
set_option maxRecDepth 100000 in
theorem rc_wake (l : Launch) (dC : Nat → ClassId) (dI : Nat → Nat → Nat) (ad : Nat → Nat) (cA : Nat → ClassId) (sz : Nat) (u : RS) (p1 : Int32) (hI : rInv u) (T : RS) (hf : rf_wake u p1 = T) : Met l yX0_wake wsX0_wake ({ frames := 3, cells := 0, slots := 0, locals := 62 } : Room) (va_Pc [.ref (ad 0), .int p1] (fun U => U.heap.size = sz ∧ va_P (dC, dI) vwCl (rW ad cA u) U.heap ∧ va_K (dC, dI) vwCl (rT cA) U ∧ va_D (fun _ => True) (rW ad cA u))) (va_Qv (fun u2 => u2 = T) (rAt dC dI (va_A (rW ad cA u) sz) ad cA) (va_A (rW ad cA u) sz)) 0 0 (va_A (rW ad cA u) sz) := by
  refine Met.ofW (cc := cX0_wake) (maxL := 3) (ret := none) (by decide) rfl ?_
  intro p e s m args below meth c s₁ B hml hv
  obtain ⟨rfl, hsz, hP, hK, hD0⟩ := hv
  have hx := B.exec
  have hb := B.bytes
  have hr := B.returns
  have hts := atoms_spec (ws := wsX0_wake) B.pre
  have hown : s.vm.findClass RX0 = some m.cls := findClass_of_methodNamed B.named
  have hlocks := B.notSynchronized
  subst hsz
  have hD := hD0.self (sz := s.heap.size)
  generalize hAe : va_A (rW ad cA u) s.heap.size = A at hD ⊢
  have hA : ∀ q : Nat, s.heap.size ≤ q → A q := fun q h => by rw [← hAe]; exact Or.inr h
  have hS : va_S A s.heap s.heap [] := va_S.rf
  have hl := lv_entry ([.ref (ad 0), .int p1]) (n := 3) (Nat.le_of_ble_eq_true rfl)
  rw [lg_entry_eq]
  generalize (lg_sl ([.ref (ad 0), .int p1]) ++ List.replicate (3 - (lg_sl ([.ref (ad 0), .int p1])).length) Slot.unset).toArray = ls at hl ⊢
  have hl : lv_has ls 3 [(0, .ref (ad 0)), (1, .int p1)] := hl
  refine lv_aload_n hx hb dX0_wake_0 rfl (lv_at hl 0 rfl) ?_
  refine va_calli (va_runV (As := []) (rest := []) ⟨hx, hb, hml, hown, hts⟩ (rc_present l dC dI ad cA u _ rfl) (cwV 0 hts gX0_wake_X0_present rfl rfl rfl (by decide +kernel) ⟨Nat.le_of_ble_eq_true rfl, Nat.le_of_ble_eq_true rfl⟩) ⟨fun a U g mk q => by obtain ⟨q0, qP, qK⟩ := q; exact ⟨q0, qP, va_K.moved (u := U) (U := U.calling g mk a) (Vm.Alike.refl U.vm) qK⟩, va_recv hK hP (ci := 0) (q0 := 0) rfl rfl, fun U hU hW => ⟨rfl, by rw [hU]; exact hP, va_K.moved hW.alike hK⟩⟩ rfl rfl hl.1 rfl (lv_room (Nat.le_of_ble_eq_true rfl)) dX0_wake_1 ⟨Nat.le_of_ble_eq_true rfl, Nat.le_of_ble_eq_true rfl⟩) hS (fun _ _ h => h.elim) (fun _ h => h.elim) (fun r_39 u_ t H1 locs ht hvm hr_39 hB hz1 hk1 hS => ?_)
  have hP := hP.kept (fun k x hx => hk1 x.1 ((hP k x hx).lt) (fun h => h))
  generalize H1 = H at hP hS ⊢
  refine lv_istore_n (lv' := [(2, .int r_39), (0, .ref (ad 0)), (1, .int p1)]) hx hb dX0_wake_4 rfl hl (by decide) rfl (fun ls hl => ?_)
  refine lv_iload_n hx hb dX0_wake_5 rfl (lv_at hl 0 rfl) ?_
  refine lv_iconst (v := (-1)) hx hb dX0_wake_6 (by decide) ?_
  refine lv_icmp_eq (tgt := 34) hx hb dX0_wake_7 (by decide) (fun c_40 => ?_) (fun c_40 => ?_)
  · refine lv_iload_n hx hb dX0_wake_34 rfl (lv_at hl 0 rfl) ?_
    refine lv_iconst (v := (-1)) hx hb dX0_wake_35 (by decide) ?_
    refine lv_icmp_eq (tgt := 49) hx hb dX0_wake_36 (by decide) (fun c_41 => ?_) (fun c_41 => ?_)
    · refine lv_aload_n hx hb dX0_wake_49 rfl (lv_at hl 1 rfl) ?_
      refine lv_iload_n hx hb dX0_wake_50 rfl (lv_at hl 2 rfl) ?_
      have hFc := va_free (wc := (rW ad cA u)) hD hS hA [0, 1, 2, 3, 4, 5, 6] rfl
      refine va_callv (va_runV (As := [.int p1]) (rest := []) ⟨hx, hb, hml, hown, hts⟩ (rc_want l dC dI ad cA _ u p1 _ rfl) (cwV 1 hts gX0_wake_X0_want rfl rfl rfl (by decide +kernel) ⟨Nat.le_of_ble_eq_true rfl, Nat.le_of_ble_eq_true rfl⟩) ⟨fun a U g mk q => by obtain ⟨q0, q1, qP, qK, qD⟩ := q; exact ⟨q0, q1, qP, va_K.moved (u := U) (U := U.calling g mk a) (Vm.Alike.refl U.vm) qK, qD⟩, va_recv hK hP (ci := 0) (q0 := 0) rfl rfl, fun U hU hW => ⟨rfl, by rw [hU], by rw [hU]; exact hP, va_K.moved hW.alike hK, hD.weaken (fun _ _ _ _ => trivial)⟩⟩ rfl rfl hl.1 rfl (lv_room (Nat.le_of_ble_eq_true rfl)) dX0_wake_51 ⟨Nat.le_of_ble_eq_true rfl, Nat.le_of_ble_eq_true rfl⟩) hS (fun q _ h => hFc q h) hFc (fun u_43 t H1 locs ht hvm hu_43 hB hz1 hk1 hS => ?_)
      obtain ⟨hP, hK1, hD1⟩ := hB
      rw [ht] at hP
      have hD := hD1.weaken (fun _ _ _ h => hFc _ h)
      generalize H1 = H at hP hS ⊢
      have hP : va_P (dC, dI) vwCl (rW ad cA u_43) H := hP
      have hD : va_D A (rW ad cA u_43) := hD
      have eT : u_43 = T := by subst hr_39 hu_43; rw [← hf]; simp only [rf_wake, if_pos c_40]
      exact W.vret hx hb hr (fun t ht hW => ⟨⟨u_43, rfl, eT, by rw [ht]; exact hP, va_K.moved hW.alike hK, hD⟩, hS.F ht⟩) hS.2.2 dX0_wake_54
    · exact absurd c_40 c_41
  · refine lv_aload_n hx hb dX0_wake_10 rfl (lv_at hl 1 rfl) ?_
    refine lv_iload_n hx hb dX0_wake_11 rfl (lv_at hl 0 rfl) ?_
    refine va_calli (va_runV (As := [.int r_39]) (rest := []) ⟨hx, hb, hml, hown, hts⟩ (rc_priority l dC dI ad cA u r_39 _ rfl) (cwV 1 hts gX0_wake_X0_priority rfl rfl rfl (by decide +kernel) ⟨Nat.le_of_ble_eq_true rfl, Nat.le_of_ble_eq_true rfl⟩) ⟨fun a U g mk q => by obtain ⟨q0, qP, qK⟩ := q; exact ⟨q0, qP, va_K.moved (u := U) (U := U.calling g mk a) (Vm.Alike.refl U.vm) qK⟩, va_recv hK hP (ci := 0) (q0 := 0) rfl rfl, fun U hU hW => ⟨rfl, by rw [hU]; exact hP, va_K.moved hW.alike hK⟩⟩ rfl rfl hl.1 rfl (lv_room (Nat.le_of_ble_eq_true rfl)) dX0_wake_12 ⟨Nat.le_of_ble_eq_true rfl, Nat.le_of_ble_eq_true rfl⟩) hS (fun _ _ h => h.elim) (fun _ h => h.elim) (fun r_44 u_ t H1 locs ht hvm hr_44 hB hz1 hk1 hS => ?_)
    have hP := hP.kept (fun k x hx => hk1 x.1 ((hP k x hx).lt) (fun h => h))
    generalize H1 = H at hP hS ⊢
    refine lv_aload_n hx hb dX0_wake_15 rfl (lv_at hl 1 rfl) ?_
    refine lv_iload_n hx hb dX0_wake_16 rfl (lv_at hl 2 rfl) ?_
    refine va_calli (va_runV (As := [.int p1]) (rest := [.int r_44]) ⟨hx, hb, hml, hown, hts⟩ (rc_priority l dC dI ad cA u p1 _ rfl) (cwV 1 hts gX0_wake_X0_priority rfl rfl rfl (by decide +kernel) ⟨Nat.le_of_ble_eq_true rfl, Nat.le_of_ble_eq_true rfl⟩) ⟨fun a U g mk q => by obtain ⟨q0, qP, qK⟩ := q; exact ⟨q0, qP, va_K.moved (u := U) (U := U.calling g mk a) (Vm.Alike.refl U.vm) qK⟩, va_recv hK hP (ci := 0) (q0 := 0) rfl rfl, fun U hU hW => ⟨rfl, by rw [hU]; exact hP, va_K.moved hW.alike hK⟩⟩ rfl rfl hl.1 rfl (lv_room (Nat.le_of_ble_eq_true rfl)) dX0_wake_17 ⟨Nat.le_of_ble_eq_true rfl, Nat.le_of_ble_eq_true rfl⟩) hS (fun _ _ h => h.elim) (fun _ h => h.elim) (fun r_45 u_ t H1 locs ht hvm hr_45 hB hz1 hk1 hS => ?_)
    have hP := hP.kept (fun k x hx => hk1 x.1 ((hP k x hx).lt) (fun h => h))
    generalize H1 = H at hP hS ⊢
    refine lv_icmp_lt (tgt := 34) hx hb dX0_wake_20 (by decide) (fun c_46 => ?_) (fun c_46 => ?_)
    · refine lv_iload_n hx hb dX0_wake_34 rfl (lv_at hl 0 rfl) ?_
      refine lv_iconst (v := (-1)) hx hb dX0_wake_35 (by decide) ?_
      refine lv_icmp_eq (tgt := 49) hx hb dX0_wake_36 (by decide) (fun c_47 => ?_) (fun c_47 => ?_)
      · exact absurd c_47 c_40
      · refine lv_aload_n hx hb dX0_wake_39 rfl (lv_at hl 1 rfl) ?_
        refine lv_iload_n hx hb dX0_wake_40 rfl (lv_at hl 0 rfl) ?_
        refine lv_aload_n hx hb dX0_wake_41 rfl (lv_at hl 1 rfl) ?_
        refine lv_iload_n hx hb dX0_wake_42 rfl (lv_at hl 0 rfl) ?_
        refine va_calli (va_runV (As := [.int r_39]) (rest := [.int r_39, .ref (ad 0)]) ⟨hx, hb, hml, hown, hts⟩ (rc_priority l dC dI ad cA u r_39 _ rfl) (cwV 1 hts gX0_wake_X0_priority rfl rfl rfl (by decide +kernel) ⟨Nat.le_of_ble_eq_true rfl, Nat.le_of_ble_eq_true rfl⟩) ⟨fun a U g mk q => by obtain ⟨q0, qP, qK⟩ := q; exact ⟨q0, qP, va_K.moved (u := U) (U := U.calling g mk a) (Vm.Alike.refl U.vm) qK⟩, va_recv hK hP (ci := 0) (q0 := 0) rfl rfl, fun U hU hW => ⟨rfl, by rw [hU]; exact hP, va_K.moved hW.alike hK⟩⟩ rfl rfl hl.1 rfl (lv_room (Nat.le_of_ble_eq_true rfl)) dX0_wake_43 ⟨Nat.le_of_ble_eq_true rfl, Nat.le_of_ble_eq_true rfl⟩) hS (fun _ _ h => h.elim) (fun _ h => h.elim) (fun r_48 u_ t H1 locs ht hvm hr_48 hB hz1 hk1 hS => ?_)
        have hP := hP.kept (fun k x hx => hk1 x.1 ((hP k x hx).lt) (fun h => h))
        generalize H1 = H at hP hS ⊢
        have hFc := va_free (wc := (rW ad cA u)) hD hS hA [0, 1, 2, 3, 4, 5, 6] rfl
        refine va_callv (va_runV (As := [.int r_39, .int r_48]) (rest := []) ⟨hx, hb, hml, hown, hts⟩ (rc_enter l dC dI ad cA _ u r_39 r_48 hI _ rfl) (cwV 2 hts gX0_wake_X0_enter rfl rfl rfl (by decide +kernel) ⟨Nat.le_of_ble_eq_true rfl, Nat.le_of_ble_eq_true rfl⟩) ⟨fun a U g mk q => by obtain ⟨q0, q1, qP, qK, qD⟩ := q; exact ⟨q0, q1, qP, va_K.moved (u := U) (U := U.calling g mk a) (Vm.Alike.refl U.vm) qK, qD⟩, va_recv hK hP (ci := 0) (q0 := 0) rfl rfl, fun U hU hW => ⟨rfl, by rw [hU], by rw [hU]; exact hP, va_K.moved hW.alike hK, hD.weaken (fun _ _ _ _ => trivial)⟩⟩ rfl rfl hl.1 rfl (lv_room (Nat.le_of_ble_eq_true rfl)) dX0_wake_46 ⟨Nat.le_of_ble_eq_true rfl, Nat.le_of_ble_eq_true rfl⟩) hS (fun q _ h => hFc q h) hFc (fun u_50 t H1 locs ht hvm hu_50 hB hz1 hk1 hS => ?_)
        obtain ⟨hP, hK1, hD1⟩ := hB
        rw [ht] at hP
        have hD := hD1.weaken (fun _ _ _ h => hFc _ h)
        generalize H1 = H at hP hS ⊢
        have hP : va_P (dC, dI) vwCl (rW ad cA u_50) H := hP
        have hD : va_D A (rW ad cA u_50) := hD
        refine lv_aload_n hx hb dX0_wake_49 rfl (lv_at hl 1 rfl) ?_
        refine lv_iload_n hx hb dX0_wake_50 rfl (lv_at hl 2 rfl) ?_
        have hFc := va_free (wc := (rW ad cA u_50)) hD hS hA [0, 1, 2, 3, 4, 5, 6] rfl
        refine va_callv (va_runV (As := [.int p1]) (rest := []) ⟨hx, hb, hml, hown, hts⟩ (rc_want l dC dI ad cA _ u_50 p1 _ rfl) (cwV 1 hts gX0_wake_X0_want rfl rfl rfl (by decide +kernel) ⟨Nat.le_of_ble_eq_true rfl, Nat.le_of_ble_eq_true rfl⟩) ⟨fun a U g mk q => by obtain ⟨q0, q1, qP, qK, qD⟩ := q; exact ⟨q0, q1, qP, va_K.moved (u := U) (U := U.calling g mk a) (Vm.Alike.refl U.vm) qK, qD⟩, va_recv hK hP (ci := 0) (q0 := 0) rfl rfl, fun U hU hW => ⟨rfl, by rw [hU], by rw [hU]; exact hP, va_K.moved hW.alike hK, hD.weaken (fun _ _ _ _ => trivial)⟩⟩ rfl rfl hl.1 rfl (lv_room (Nat.le_of_ble_eq_true rfl)) dX0_wake_51 ⟨Nat.le_of_ble_eq_true rfl, Nat.le_of_ble_eq_true rfl⟩) hS (fun q _ h => hFc q h) hFc (fun u_52 t H1 locs ht hvm hu_52 hB hz1 hk1 hS => ?_)
        obtain ⟨hP, hK1, hD1⟩ := hB
        rw [ht] at hP
        have hD := hD1.weaken (fun _ _ _ h => hFc _ h)
        generalize H1 = H at hP hS ⊢
        have hP : va_P (dC, dI) vwCl (rW ad cA u_52) H := hP
        have hD : va_D A (rW ad cA u_52) := hD
        have eT : u_52 = T := by subst hr_39 hr_44 hr_45 hr_48 hu_50 hu_52; rw [← hf]; simp only [rf_wake, if_neg c_40, if_pos c_46]
        exact W.vret hx hb hr (fun t ht hW => ⟨⟨u_52, rfl, eT, by rw [ht]; exact hP, va_K.moved hW.alike hK, hD⟩, hS.F ht⟩) hS.2.2 dX0_wake_54
    · refine lv_aload_n hx hb dX0_wake_23 rfl (lv_at hl 1 rfl) ?_
      refine lv_iload_n hx hb dX0_wake_24 rfl (lv_at hl 2 rfl) ?_
      refine lv_aload_n hx hb dX0_wake_25 rfl (lv_at hl 1 rfl) ?_
      refine lv_iload_n hx hb dX0_wake_26 rfl (lv_at hl 2 rfl) ?_
      refine va_calli (va_runV (As := [.int p1]) (rest := [.int p1, .ref (ad 0)]) ⟨hx, hb, hml, hown, hts⟩ (rc_priority l dC dI ad cA u p1 _ rfl) (cwV 1 hts gX0_wake_X0_priority rfl rfl rfl (by decide +kernel) ⟨Nat.le_of_ble_eq_true rfl, Nat.le_of_ble_eq_true rfl⟩) ⟨fun a U g mk q => by obtain ⟨q0, qP, qK⟩ := q; exact ⟨q0, qP, va_K.moved (u := U) (U := U.calling g mk a) (Vm.Alike.refl U.vm) qK⟩, va_recv hK hP (ci := 0) (q0 := 0) rfl rfl, fun U hU hW => ⟨rfl, by rw [hU]; exact hP, va_K.moved hW.alike hK⟩⟩ rfl rfl hl.1 rfl (lv_room (Nat.le_of_ble_eq_true rfl)) dX0_wake_27 ⟨Nat.le_of_ble_eq_true rfl, Nat.le_of_ble_eq_true rfl⟩) hS (fun _ _ h => h.elim) (fun _ h => h.elim) (fun r_53 u_ t H1 locs ht hvm hr_53 hB hz1 hk1 hS => ?_)
      have hP := hP.kept (fun k x hx => hk1 x.1 ((hP k x hx).lt) (fun h => h))
      generalize H1 = H at hP hS ⊢
      have hFc := va_free (wc := (rW ad cA u)) hD hS hA [0, 1, 2, 3, 4, 5, 6] rfl
      refine va_callv (va_runV (As := [.int p1, .int r_53]) (rest := []) ⟨hx, hb, hml, hown, hts⟩ (rc_enter l dC dI ad cA _ u p1 r_53 hI _ rfl) (cwV 2 hts gX0_wake_X0_enter rfl rfl rfl (by decide +kernel) ⟨Nat.le_of_ble_eq_true rfl, Nat.le_of_ble_eq_true rfl⟩) ⟨fun a U g mk q => by obtain ⟨q0, q1, qP, qK, qD⟩ := q; exact ⟨q0, q1, qP, va_K.moved (u := U) (U := U.calling g mk a) (Vm.Alike.refl U.vm) qK, qD⟩, va_recv hK hP (ci := 0) (q0 := 0) rfl rfl, fun U hU hW => ⟨rfl, by rw [hU], by rw [hU]; exact hP, va_K.moved hW.alike hK, hD.weaken (fun _ _ _ _ => trivial)⟩⟩ rfl rfl hl.1 rfl (lv_room (Nat.le_of_ble_eq_true rfl)) dX0_wake_30 ⟨Nat.le_of_ble_eq_true rfl, Nat.le_of_ble_eq_true rfl⟩) hS (fun q _ h => hFc q h) hFc (fun u_55 t H1 locs ht hvm hu_55 hB hz1 hk1 hS => ?_)
      obtain ⟨hP, hK1, hD1⟩ := hB
      rw [ht] at hP
      have hD := hD1.weaken (fun _ _ _ h => hFc _ h)
      generalize H1 = H at hP hS ⊢
      have hP : va_P (dC, dI) vwCl (rW ad cA u_55) H := hP
      have hD : va_D A (rW ad cA u_55) := hD
      have eT : u_55 = T := by subst hr_39 hr_44 hr_45 hr_53 hu_55; rw [← hf]; simp only [rf_wake, if_neg c_40, if_neg c_46]
      exact W.vret hx hb hr (fun t ht hW => ⟨⟨u_55, rfl, eT, by rw [ht]; exact hP, va_K.moved hW.alike hK, hD⟩, hS.F ht⟩) hS.2.2 dX0_wake_33
set_option maxHeartbeats 4000000 in
set_option maxRecDepth 100000 in
theorem rc_putAside (l : Launch) (dC : Nat → ClassId) (dI : Nat → Nat → Nat) (ad : Nat → Nat) (cA : Nat → ClassId) (sz : Nat) (u : RS)  (T : RS) (hf : rf_putAside u = T) : Met l yX0_putAside wsX0_putAside ({ frames := 3, cells := 0, slots := 0, locals := 67 } : Room) (va_Pc [.ref (ad 0)] (fun U => U.heap.size = sz ∧ va_P (dC, dI) vwCl (rW ad cA u) U.heap ∧ va_K (dC, dI) vwCl (rT cA) U ∧ va_D (fun _ => True) (rW ad cA u))) (va_Qv (fun u2 => u2 = T) (rAt dC dI (va_A (rW ad cA u) sz) ad cA) (va_A (rW ad cA u) sz)) 0 0 (va_A (rW ad cA u) sz) := by
  refine Met.ofW (cc := cX0_putAside) (maxL := 2) (ret := none) (by decide) rfl ?_
  intro p e s m args below meth c s₁ B hml hv
  obtain ⟨rfl, hsz, hP, hK, hD0⟩ := hv
  have hx := B.exec
  have hb := B.bytes
  have hr := B.returns
  have hts := atoms_spec (ws := wsX0_putAside) B.pre
  have hown : s.vm.findClass RX0 = some m.cls := findClass_of_methodNamed B.named
  have hlocks := B.notSynchronized
  subst hsz
  have hD := hD0.self (sz := s.heap.size)
  generalize hAe : va_A (rW ad cA u) s.heap.size = A at hD ⊢
  have hA : ∀ q : Nat, s.heap.size ≤ q → A q := fun q h => by rw [← hAe]; exact Or.inr h
  have hS : va_S A s.heap s.heap [] := va_S.rf
  have hl := lv_entry ([.ref (ad 0)]) (n := 2) (Nat.le_of_ble_eq_true rfl)
  rw [lg_entry_eq]
  generalize (lg_sl ([.ref (ad 0)]) ++ List.replicate (2 - (lg_sl ([.ref (ad 0)])).length) Slot.unset).toArray = ls at hl ⊢
  have hl : lv_has ls 2 [(0, .ref (ad 0))] := hl
  refine lv_aload_n hx hb dX0_putAside_0 rfl (lv_at hl 0 rfl) ?_
  refine va_calli (va_runV (As := []) (rest := []) ⟨hx, hb, hml, hown, hts⟩ (rc_firstReady l dC dI ad cA u _ rfl) (cwV 0 hts gX0_putAside_X0_firstReady rfl rfl rfl (by decide +kernel) ⟨Nat.le_of_ble_eq_true rfl, Nat.le_of_ble_eq_true rfl⟩) ⟨fun a U g mk q => by obtain ⟨q0, qP, qK⟩ := q; exact ⟨q0, qP, va_K.moved (u := U) (U := U.calling g mk a) (Vm.Alike.refl U.vm) qK⟩, va_recv hK hP (ci := 0) (q0 := 0) rfl rfl, fun U hU hW => ⟨rfl, by rw [hU]; exact hP, va_K.moved hW.alike hK⟩⟩ rfl rfl hl.1 rfl (lv_room (Nat.le_of_ble_eq_true rfl)) dX0_putAside_1 ⟨Nat.le_of_ble_eq_true rfl, Nat.le_of_ble_eq_true rfl⟩) hS (fun _ _ h => h.elim) (fun _ h => h.elim) (fun r_56 u_ t H1 locs ht hvm hr_56 hB hz1 hk1 hS => ?_)
  have hP := hP.kept (fun k x hx => hk1 x.1 ((hP k x hx).lt) (fun h => h))
  generalize H1 = H at hP hS ⊢
  refine lv_istore_n (lv' := [(1, .int r_56), (0, .ref (ad 0))]) hx hb dX0_putAside_4 rfl hl (by decide) rfl (fun ls hl => ?_)
  refine lv_aload_n hx hb dX0_putAside_5 rfl (lv_at hl 1 rfl) ?_
  refine lv_iload_n hx hb dX0_putAside_6 rfl (lv_at hl 0 rfl) ?_
  have hFc := va_free (wc := (rW ad cA u)) hD hS hA [0, 1, 2, 3, 4, 5, 6] rfl
  refine va_callv (va_runV (As := [.int r_56]) (rest := []) ⟨hx, hb, hml, hown, hts⟩ (rc_leave l dC dI ad cA _ u r_56 _ rfl) (cwV 1 hts gX0_putAside_X0_leave rfl rfl rfl (by decide +kernel) ⟨Nat.le_of_ble_eq_true rfl, Nat.le_of_ble_eq_true rfl⟩) ⟨fun a U g mk q => by obtain ⟨q0, q1, qP, qK, qD⟩ := q; exact ⟨q0, q1, qP, va_K.moved (u := U) (U := U.calling g mk a) (Vm.Alike.refl U.vm) qK, qD⟩, va_recv hK hP (ci := 0) (q0 := 0) rfl rfl, fun U hU hW => ⟨rfl, by rw [hU], by rw [hU]; exact hP, va_K.moved hW.alike hK, hD.weaken (fun _ _ _ _ => trivial)⟩⟩ rfl rfl hl.1 rfl (lv_room (Nat.le_of_ble_eq_true rfl)) dX0_putAside_7 ⟨Nat.le_of_ble_eq_true rfl, Nat.le_of_ble_eq_true rfl⟩) hS (fun q _ h => hFc q h) hFc (fun u_58 t H1 locs ht hvm hu_58 hB hz1 hk1 hS => ?_)
  obtain ⟨hP, hK1, hD1⟩ := hB
  rw [ht] at hP
  have hD := hD1.weaken (fun _ _ _ h => hFc _ h)
  generalize H1 = H at hP hS ⊢
  have hP : va_P (dC, dI) vwCl (rW ad cA u_58) H := hP
  have hD : va_D A (rW ad cA u_58) := hD
  refine lv_aload_n hx hb dX0_putAside_10 rfl (lv_at hl 1 rfl) ?_
  refine lv_iload_n hx hb dX0_putAside_11 rfl (lv_at hl 0 rfl) ?_
  have hFc := va_free (wc := (rW ad cA u_58)) hD hS hA [0, 1, 2, 3, 4, 5, 6] rfl
  refine va_callv (va_runV (As := [.int r_56]) (rest := []) ⟨hx, hb, hml, hown, hts⟩ (rc_want l dC dI ad cA _ u_58 r_56 _ rfl) (cwV 1 hts gX0_putAside_X0_want rfl rfl rfl (by decide +kernel) ⟨Nat.le_of_ble_eq_true rfl, Nat.le_of_ble_eq_true rfl⟩) ⟨fun a U g mk q => by obtain ⟨q0, q1, qP, qK, qD⟩ := q; exact ⟨q0, q1, qP, va_K.moved (u := U) (U := U.calling g mk a) (Vm.Alike.refl U.vm) qK, qD⟩, va_recv hK hP (ci := 0) (q0 := 0) rfl rfl, fun U hU hW => ⟨rfl, by rw [hU], by rw [hU]; exact hP, va_K.moved hW.alike hK, hD.weaken (fun _ _ _ _ => trivial)⟩⟩ rfl rfl hl.1 rfl (lv_room (Nat.le_of_ble_eq_true rfl)) dX0_putAside_12 ⟨Nat.le_of_ble_eq_true rfl, Nat.le_of_ble_eq_true rfl⟩) hS (fun q _ h => hFc q h) hFc (fun u_60 t H1 locs ht hvm hu_60 hB hz1 hk1 hS => ?_)
  obtain ⟨hP, hK1, hD1⟩ := hB
  rw [ht] at hP
  have hD := hD1.weaken (fun _ _ _ h => hFc _ h)
  generalize H1 = H at hP hS ⊢
  have hP : va_P (dC, dI) vwCl (rW ad cA u_60) H := hP
  have hD : va_D A (rW ad cA u_60) := hD
  have eT : u_60 = T := by subst hr_56 hu_58 hu_60; rw [← hf]; simp only [rf_putAside]
  exact W.vret hx hb hr (fun t ht hW => ⟨⟨u_60, rfl, eT, by rw [ht]; exact hP, va_K.moved hW.alike hK, hD⟩, hS.F ht⟩) hS.2.2 dX0_putAside_15
set_option maxHeartbeats 4000000 in
set_option maxRecDepth 100000 in
theorem rc_signal (l : Launch) (dC : Nat → ClassId) (dI : Nat → Nat → Nat) (ad : Nat → Nat) (cA : Nat → ClassId) (sz : Nat) (u : RS) (p1 : Int32) (hI : rInv u) (T : Int32 × RS) (hf : rf_signal u p1 = T) : Met l yX0_signal wsX0_signal ({ frames := 4, cells := 0, slots := 0, locals := 84 } : Room) (va_Pc [.ref (ad 0), .int p1] (fun U => U.heap.size = sz ∧ va_P (dC, dI) vwCl (rW ad cA u) U.heap ∧ va_K (dC, dI) vwCl (rT cA) U ∧ va_D (fun _ => True) (rW ad cA u))) (va_Qi (fun r u2 => r = T.1 ∧ u2 = T.2) (rAt dC dI (va_A (rW ad cA u) sz) ad cA) (va_A (rW ad cA u) sz)) 0 0 (va_A (rW ad cA u) sz) := by
  refine Met.ofW (cc := cX0_signal) (maxL := 3) (ret := (some .boolean)) (by decide) rfl ?_
  intro p e s m args below meth c s₁ B hml hv
  obtain ⟨rfl, hsz, hP, hK, hD0⟩ := hv
  have hx := B.exec
  have hb := B.bytes
  have hr := B.returns
  have hts := atoms_spec (ws := wsX0_signal) B.pre
  have hown : s.vm.findClass RX0 = some m.cls := findClass_of_methodNamed B.named
  have hlocks := B.notSynchronized
  have hin0 : ∀ w ∈ wsX00, w ∈ wsX0_signal := by decide +kernel
  have fl_extras := hts (.fieldLink RX0 26 "ProcessRoom" "extras" "[I") (by decide +kernel)
  subst hsz
  have hD := hD0.self (sz := s.heap.size)
  generalize hAe : va_A (rW ad cA u) s.heap.size = A at hD ⊢
  have hA : ∀ q : Nat, s.heap.size ≤ q → A q := fun q h => by rw [← hAe]; exact Or.inr h
  have hS : va_S A s.heap s.heap [] := va_S.rf
  have hl := lv_entry ([.ref (ad 0), .int p1]) (n := 3) (Nat.le_of_ble_eq_true rfl)
  rw [lg_entry_eq]
  generalize (lg_sl ([.ref (ad 0), .int p1]) ++ List.replicate (3 - (lg_sl ([.ref (ad 0), .int p1])).length) Slot.unset).toArray = ls at hl ⊢
  have hl : lv_has ls 3 [(0, .ref (ad 0)), (1, .int p1)] := hl
  refine lv_iload_n hx hb dX0_signal_0 rfl (lv_at hl 1 rfl) ?_
  refine va_calli (va_runS (As := [.int p1]) (rest := []) ⟨hx, hb, hml, hown, hts⟩ (rc_isSemaphore l p1 _ rfl) (va_cwS 1 hts gX0_signal_X0_isSemaphore rfl rfl rfl (by decide +kernel) ⟨Nat.le_of_ble_eq_true rfl, Nat.le_of_ble_eq_true rfl⟩) ⟨fun a U g mk q => ⟨q.1, trivial⟩, fun U hU hW => ⟨rfl, trivial⟩⟩ rfl rfl hl.1 rfl (lv_room (Nat.le_of_ble_eq_true rfl)) dX0_signal_1 ⟨Nat.le_of_ble_eq_true rfl, Nat.le_of_ble_eq_true rfl⟩) hS (fun _ _ h => h.elim) (fun _ h => h.elim) (fun r_61 u_ t H1 locs ht hvm hr_61 hB hz1 hk1 hS => ?_)
  have hP := hP.kept (fun k x hx => hk1 x.1 ((hP k x hx).lt) (fun h => h))
  generalize H1 = H at hP hS ⊢
  refine lv_if_ne (tgt := 9) hx hb dX0_signal_4 (by decide) (fun c_62 => ?_) (fun c_62 => ?_)
  · refine lv_aload_n hx hb dX0_signal_9 rfl (lv_at hl 0 rfl) ?_
    refine lv_bipush (v := 16) hx hb dX0_signal_10 (by decide) ?_
    refine lv_iload_n hx hb dX0_signal_12 rfl (lv_at hl 1 rfl) ?_
    refine lv_iadd hx hb dX0_signal_13 ?_
    refine lv_iconst (v := 0) hx hb dX0_signal_14 (by decide) ?_
    refine va_calli (va_runV (As := [.int (16 + p1), .int 0]) (rest := []) ⟨hx, hb, hml, hown, hts⟩ (rc_at l dC dI ad cA u (16 + p1) 0 _ rfl) (cwV 2 hts gX0_signal_X0_at rfl rfl rfl (by decide +kernel) ⟨Nat.le_of_ble_eq_true rfl, Nat.le_of_ble_eq_true rfl⟩) ⟨fun a U g mk q => by obtain ⟨q0, qP, qK⟩ := q; exact ⟨q0, qP, va_K.moved (u := U) (U := U.calling g mk a) (Vm.Alike.refl U.vm) qK⟩, va_recv hK hP (ci := 0) (q0 := 0) rfl rfl, fun U hU hW => ⟨rfl, by rw [hU]; exact hP, va_K.moved hW.alike hK⟩⟩ rfl rfl hl.1 rfl (lv_room (Nat.le_of_ble_eq_true rfl)) dX0_signal_15 ⟨Nat.le_of_ble_eq_true rfl, Nat.le_of_ble_eq_true rfl⟩) hS (fun _ _ h => h.elim) (fun _ h => h.elim) (fun r_63 u_ t H1 locs ht hvm hr_63 hB hz1 hk1 hS => ?_)
    have hP := hP.kept (fun k x hx => hk1 x.1 ((hP k x hx).lt) (fun h => h))
    generalize H1 = H at hP hS ⊢
    refine lv_istore_n (lv' := [(2, .int r_63), (0, .ref (ad 0)), (1, .int p1)]) hx hb dX0_signal_18 rfl hl (by decide) rfl (fun ls hl => ?_)
    refine lv_iload_n hx hb dX0_signal_19 rfl (lv_at hl 0 rfl) ?_
    refine lv_iconst (v := (-1)) hx hb dX0_signal_20 (by decide) ?_
    refine lv_icmp_ne (tgt := 37) hx hb dX0_signal_21 (by decide) (fun c_64 => ?_) (fun c_64 => ?_)
    · refine lv_aload_n hx hb dX0_signal_37 rfl (lv_at hl 1 rfl) ?_
      refine lv_iload_n hx hb dX0_signal_38 rfl (lv_at hl 0 rfl) ?_
      have hFc := va_free (wc := (rW ad cA u)) hD hS hA [0, 1, 2, 3, 4, 5, 6] rfl
      refine va_callv (va_runV (As := [.int r_63]) (rest := []) ⟨hx, hb, hml, hown, hts⟩ (rc_leave l dC dI ad cA _ u r_63 _ rfl) (cwV 1 hts gX0_signal_X0_leave rfl rfl rfl (by decide +kernel) ⟨Nat.le_of_ble_eq_true rfl, Nat.le_of_ble_eq_true rfl⟩) ⟨fun a U g mk q => by obtain ⟨q0, q1, qP, qK, qD⟩ := q; exact ⟨q0, q1, qP, va_K.moved (u := U) (U := U.calling g mk a) (Vm.Alike.refl U.vm) qK, qD⟩, va_recv hK hP (ci := 0) (q0 := 0) rfl rfl, fun U hU hW => ⟨rfl, by rw [hU], by rw [hU]; exact hP, va_K.moved hW.alike hK, hD.weaken (fun _ _ _ _ => trivial)⟩⟩ rfl rfl hl.1 rfl (lv_room (Nat.le_of_ble_eq_true rfl)) dX0_signal_39 ⟨Nat.le_of_ble_eq_true rfl, Nat.le_of_ble_eq_true rfl⟩) hS (fun q _ h => hFc q h) hFc (fun u_66 t H1 locs ht hvm hu_66 hB hz1 hk1 hS => ?_)
      obtain ⟨hP, hK1, hD1⟩ := hB
      rw [ht] at hP
      have hD := hD1.weaken (fun _ _ _ h => hFc _ h)
      generalize H1 = H at hP hS ⊢
      have hP : va_P (dC, dI) vwCl (rW ad cA u_66) H := hP
      have hD : va_D A (rW ad cA u_66) := hD
      refine lv_aload_n hx hb dX0_signal_42 rfl (lv_at hl 1 rfl) ?_
      refine lv_iload_n hx hb dX0_signal_43 rfl (lv_at hl 0 rfl) ?_
      have hFc := va_free (wc := (rW ad cA u_66)) hD hS hA [0, 1, 2, 3, 4, 5, 6] rfl
      refine va_callv (va_runV (As := [.int r_63]) (rest := []) ⟨hx, hb, hml, hown, hts⟩ (rc_wake l dC dI ad cA _ u_66 r_63 (ri_leave hu_66 hI) _ rfl) (cwV 1 hts gX0_signal_X0_wake rfl rfl rfl (by decide +kernel) ⟨Nat.le_of_ble_eq_true rfl, Nat.le_of_ble_eq_true rfl⟩) ⟨fun a U g mk q => by obtain ⟨q0, q1, qP, qK, qD⟩ := q; exact ⟨q0, q1, qP, va_K.moved (u := U) (U := U.calling g mk a) (Vm.Alike.refl U.vm) qK, qD⟩, va_recv hK hP (ci := 0) (q0 := 0) rfl rfl, fun U hU hW => ⟨rfl, by rw [hU], by rw [hU]; exact hP, va_K.moved hW.alike hK, hD.weaken (fun _ _ _ _ => trivial)⟩⟩ rfl rfl hl.1 rfl (lv_room (Nat.le_of_ble_eq_true rfl)) dX0_signal_44 ⟨Nat.le_of_ble_eq_true rfl, Nat.le_of_ble_eq_true rfl⟩) hS (fun q _ h => hFc q h) hFc (fun u_68 t H1 locs ht hvm hu_68 hB hz1 hk1 hS => ?_)
      obtain ⟨hP, hK1, hD1⟩ := hB
      rw [ht] at hP
      have hD := hD1.weaken (fun _ _ _ h => hFc _ h)
      generalize H1 = H at hP hS ⊢
      have hP : va_P (dC, dI) vwCl (rW ad cA u_68) H := hP
      have hD : va_D A (rW ad cA u_68) := hD
      refine lv_iconst (v := 1) hx hb dX0_signal_47 (by decide) ?_
      have eT : (1, u_68) = T := by subst hr_61 hr_63 hu_66 hu_68; rw [← hf]; simp only [rf_signal, if_neg c_62, if_neg c_64]
      exact W.zret (v := 1) hx hb hr (rfl) (fun t ht hW => ⟨⟨1, u_68, rfl, ⟨congrArg Prod.fst eT, congrArg Prod.snd eT⟩, by rw [ht]; exact hP, va_K.moved hW.alike hK, hD⟩, hS.F ht⟩) hS.2.2 dX0_signal_48
    · refine lv_aload_n hx hb dX0_signal_24 rfl (lv_at hl 1 rfl) ?_
      refine va_get (D := (dC, dI)) (ci := 0) (v := .ref (ad 5)) (C := RX0) (T := TX0) (N := 12) hx hb hts hin0 hown hK hP 0 rfl rfl 5 (by decide) fl_extras (fun _ h9 => h9) rfl dX0_signal_25 ?_
      refine lv_iload_n hx hb dX0_signal_28 rfl (lv_at hl 2 rfl) ?_
      refine lv_dup2_11 hx hb dX0_signal_29 rfl rfl ?_
      refine va_iald hx hb hK hP 5 4 rfl rfl (ri_isSemaphore hr_61 c_62) dX0_signal_30 ?_
      refine lv_iconst (v := 1) hx hb dX0_signal_31 (by decide) ?_
      refine lv_iadd hx hb dX0_signal_32 ?_
      refine va_iast hx hb hK hP hD hS 5 4 rfl rfl (ri_isSemaphore hr_61 c_62) dX0_signal_33 (fun H locs hP hD hS => ?_)
      have hP : va_P (dC, dI) vwCl (rW ad cA (rs_extras u (upd (ra_extras u) p1.toNatClampNeg ((ra_extras u p1.toNatClampNeg) + 1)))) H := hP
      have hD : va_D A (rW ad cA (rs_extras u (upd (ra_extras u) p1.toNatClampNeg ((ra_extras u p1.toNatClampNeg) + 1)))) := hD
      refine lv_goto (tgt := 47) hx hb dX0_signal_34 (by decide) ?_
      refine lv_iconst (v := 1) hx hb dX0_signal_47 (by decide) ?_
      have eT : (1, rs_extras u (upd (ra_extras u) p1.toNatClampNeg ((ra_extras u p1.toNatClampNeg) + 1))) = T := by subst hr_61 hr_63; rw [← hf]; simp only [rf_signal, if_neg c_62, if_pos c_64]
      exact W.zret (v := 1) hx hb hr (rfl) (fun t ht hW => ⟨⟨1, rs_extras u (upd (ra_extras u) p1.toNatClampNeg ((ra_extras u p1.toNatClampNeg) + 1)), rfl, ⟨congrArg Prod.fst eT, congrArg Prod.snd eT⟩, by rw [ht]; exact hP, va_K.moved hW.alike hK, hD⟩, hS.F ht⟩) hS.2.2 dX0_signal_48
  · refine lv_iconst (v := 0) hx hb dX0_signal_7 (by decide) ?_
    have eT : (0, u) = T := by subst hr_61; rw [← hf]; simp only [rf_signal, if_pos c_62]
    exact W.zret (v := 0) hx hb hr (rfl) (fun t ht hW => ⟨⟨0, u, rfl, ⟨congrArg Prod.fst eT, congrArg Prod.snd eT⟩, by rw [ht]; exact hP, va_K.moved hW.alike hK, hD⟩, hS.F ht⟩) hS.2.2 dX0_signal_8
set_option maxHeartbeats 4000000 in
set_option maxRecDepth 100000 in
theorem rc_signalPosted (l : Launch) (dC : Nat → ClassId) (dI : Nat → Nat → Nat) (ad : Nat → Nat) (cA : Nat → ClassId) (sz : Nat) (u : RS)  (hI : rInv u) (T : RS) (hf : rf_signalPosted u = T) : Met l yX0_signalPosted wsX0_signalPosted ({ frames := 5, cells := 0, slots := 0, locals := 106 } : Room) (va_Pc [.ref (ad 0)] (fun U => U.heap.size = sz ∧ va_P (dC, dI) vwCl (rW ad cA u) U.heap ∧ va_K (dC, dI) vwCl (rT cA) U ∧ va_D (fun _ => True) (rW ad cA u))) (va_Qv (fun u2 => u2 = T) (rAt dC dI (va_A (rW ad cA u) sz) ad cA) (va_A (rW ad cA u) sz)) 0 0 (va_A (rW ad cA u) sz) := by
  refine Met.ofW (cc := cX0_signalPosted) (maxL := 2) (ret := none) (by decide) rfl ?_
  intro p e s m args below meth c s₁ B hml hv
  obtain ⟨rfl, hsz, hP, hK, hD0⟩ := hv
  have hx := B.exec
  have hb := B.bytes
  have hr := B.returns
  have hts := atoms_spec (ws := wsX0_signalPosted) B.pre
  have hown : s.vm.findClass RX0 = some m.cls := findClass_of_methodNamed B.named
  have hlocks := B.notSynchronized
  have hin0 : ∀ w ∈ wsX00, w ∈ wsX0_signalPosted := by decide +kernel
  have fl_postCount := hts (.fieldLink RX0 32 "ProcessRoom" "postCount" "I") (by decide +kernel)
  have fl_posts := hts (.fieldLink RX0 29 "ProcessRoom" "posts" "[I") (by decide +kernel)
  subst hsz
  have hD := hD0.self (sz := s.heap.size)
  generalize hAe : va_A (rW ad cA u) s.heap.size = A at hD ⊢
  have hA : ∀ q : Nat, s.heap.size ≤ q → A q := fun q h => by rw [← hAe]; exact Or.inr h
  have hS : va_S A s.heap s.heap [] := va_S.rf
  have hl := lv_entry ([.ref (ad 0)]) (n := 2) (Nat.le_of_ble_eq_true rfl)
  rw [lg_entry_eq]
  generalize (lg_sl ([.ref (ad 0)]) ++ List.replicate (2 - (lg_sl ([.ref (ad 0)])).length) Slot.unset).toArray = ls at hl ⊢
  have hl : lv_has ls 2 [(0, .ref (ad 0))] := hl
  refine lv_iconst (v := 0) hx hb dX0_signalPosted_0 (by decide) ?_
  refine lv_istore_n (lv' := [(1, .int 0), (0, .ref (ad 0))]) hx hb dX0_signalPosted_1 rfl hl (by decide) rfl (fun ls hl => ?_)
  refine k_nameQ (fun Q hQ => ?_)
  have key : ∀ (n : Nat) (u2 : RS) (x1 : Int32) (H : Heap) (locs : List Loc) (ls : Array Slot), (rInv u2 ∧ ∃ j : Nat, x1 = nI j ∧ j + n = 41 ∧ j ≤ 40) → rl_signalPosted  n u2 x1 = T → va_P (dC, dI) vwCl (rW ad cA u2) H → va_D A (rW ad cA u2) → va_S A s.heap H locs → lv_has ls 2 [(0, .ref (ad 0)), (1, .int x1)] → W p l e (headSpec wsX0_signalPosted ({ frames := 5, cells := 0, slots := 0, locals := 106 } : Room)).room s m ([.ref (ad 0)] : List Value).toArray below meth c H locs 0 0 Q (F0 m 2 ls []) := by
    intro n
    induction n with
    | zero =>
      intro u2 x1 H locs ls hinv
      exact absurd hinv (by rintro ⟨-, j, -, h1, h2⟩; omega)
    | succ n ih =>
      intro u2 x1 H locs ls hinv hf2 hP hD hS hl
      obtain ⟨hI2, j, hj, hjn, hjl⟩ := hinv
      refine lv_iload_n hx hb dX0_signalPosted_2 rfl (lv_at hl 1 rfl) ?_
      refine lv_aload_n hx hb dX0_signalPosted_3 rfl (lv_at hl 0 rfl) ?_
      refine va_get (D := (dC, dI)) (ci := 0) (v := .int (ra_postCount u2)) (C := RX0) (T := TX0) (N := 12) hx hb hts hin0 hown hK hP 0 rfl rfl 7 (by decide) fl_postCount (fun _ h9 => h9) rfl dX0_signalPosted_4 ?_
      refine lv_icmp_ge (tgt := 33) hx hb dX0_signalPosted_7 (by decide) (fun c_69 => ?_) (fun c_69 => ?_)
      · refine lv_aload_n hx hb dX0_signalPosted_33 rfl (lv_at hl 0 rfl) ?_
        refine lv_iconst (v := 0) hx hb dX0_signalPosted_34 (by decide) ?_
        refine va_put (D := (dC, dI)) (ci := 0) (v := .int 0) (ty := .int) (C := RX0) (T := TX0) (N := 12) hx hb hts hin0 tyX0 tyX0_ok nmX0 hown hK hP hD hS 0 rfl rfl 7 (by decide) fl_postCount (fun _ h9 => h9) rfl (by decide +kernel) rfl rfl (Nat.le_of_ble_eq_true rfl) dX0_signalPosted_35 (fun H locs hP hD hS => ?_)
        have hP : va_P (dC, dI) vwCl (rW ad cA (rs_postCount u2 0)) H := hP
        have hD : va_D A (rW ad cA (rs_postCount u2 0)) := hD
        subst hQ
        have eT : rs_postCount u2 0 = T := by rw [← hf2]; simp only [rl_signalPosted, if_pos c_69]
        exact W.vret hx hb hr (fun t ht hW => ⟨⟨rs_postCount u2 0, rfl, eT, by rw [ht]; exact hP, va_K.moved hW.alike hK, hD⟩, hS.F ht⟩) hS.2.2 dX0_signalPosted_38
      · refine lv_iload_n hx hb dX0_signalPosted_10 rfl (lv_at hl 1 rfl) ?_
        refine lv_bipush (v := 40) hx hb dX0_signalPosted_11 (by decide) ?_
        refine lv_icmp_ge (tgt := 33) hx hb dX0_signalPosted_13 (by decide) (fun c_70 => ?_) (fun c_70 => ?_)
        · refine lv_aload_n hx hb dX0_signalPosted_33 rfl (lv_at hl 0 rfl) ?_
          refine lv_iconst (v := 0) hx hb dX0_signalPosted_34 (by decide) ?_
          refine va_put (D := (dC, dI)) (ci := 0) (v := .int 0) (ty := .int) (C := RX0) (T := TX0) (N := 12) hx hb hts hin0 tyX0 tyX0_ok nmX0 hown hK hP hD hS 0 rfl rfl 7 (by decide) fl_postCount (fun _ h9 => h9) rfl (by decide +kernel) rfl rfl (Nat.le_of_ble_eq_true rfl) dX0_signalPosted_35 (fun H locs hP hD hS => ?_)
          have hP : va_P (dC, dI) vwCl (rW ad cA (rs_postCount u2 0)) H := hP
          have hD : va_D A (rW ad cA (rs_postCount u2 0)) := hD
          subst hQ
          have eT : rs_postCount u2 0 = T := by rw [← hf2]; simp only [rl_signalPosted, if_neg c_69, if_pos c_70]
          exact W.vret hx hb hr (fun t ht hW => ⟨⟨rs_postCount u2 0, rfl, eT, by rw [ht]; exact hP, va_K.moved hW.alike hK, hD⟩, hS.F ht⟩) hS.2.2 dX0_signalPosted_38
        · refine lv_aload_n hx hb dX0_signalPosted_16 rfl (lv_at hl 0 rfl) ?_
          refine lv_aload_n hx hb dX0_signalPosted_17 rfl (lv_at hl 0 rfl) ?_
          refine va_get (D := (dC, dI)) (ci := 0) (v := .ref (ad 6)) (C := RX0) (T := TX0) (N := 12) hx hb hts hin0 hown hK hP 0 rfl rfl 6 (by decide) fl_posts (fun _ h9 => h9) rfl dX0_signalPosted_18 ?_
          refine lv_iload_n hx hb dX0_signalPosted_21 rfl (lv_at hl 1 rfl) ?_
          refine va_iald hx hb hK hP 6 5 rfl rfl (k_in hj (k_lt 40 hj (by omega) rfl c_70) (by omega)) dX0_signalPosted_22 ?_
          have hFc := va_free (wc := (rW ad cA u2)) hD hS hA [0, 1, 2, 3, 4, 5, 6] rfl
          refine va_calli (va_runV (As := [.int (ra_posts u2 x1.toNatClampNeg)]) (rest := []) ⟨hx, hb, hml, hown, hts⟩ (rc_signal l dC dI ad cA _ u2 (ra_posts u2 x1.toNatClampNeg) hI2 _ rfl) (cwV 1 hts gX0_signalPosted_X0_signal rfl rfl rfl (by decide +kernel) ⟨Nat.le_of_ble_eq_true rfl, Nat.le_of_ble_eq_true rfl⟩) ⟨fun a U g mk q => by obtain ⟨q0, q1, qP, qK, qD⟩ := q; exact ⟨q0, q1, qP, va_K.moved (u := U) (U := U.calling g mk a) (Vm.Alike.refl U.vm) qK, qD⟩, va_recv hK hP (ci := 0) (q0 := 0) rfl rfl, fun U hU hW => ⟨rfl, by rw [hU], by rw [hU]; exact hP, va_K.moved hW.alike hK, hD.weaken (fun _ _ _ _ => trivial)⟩⟩ rfl rfl hl.1 rfl (lv_room (Nat.le_of_ble_eq_true rfl)) dX0_signalPosted_23 ⟨Nat.le_of_ble_eq_true rfl, Nat.le_of_ble_eq_true rfl⟩) hS (fun q _ h => hFc q h) hFc (fun r_71 u_72 t H1 locs ht hvm hwu_72 hB hz1 hk1 hS => ?_)
          obtain ⟨hr_71, hu_72⟩ := hwu_72
          obtain ⟨hP, hK1, hD1⟩ := hB
          rw [ht] at hP
          have hD := hD1.weaken (fun _ _ _ h => hFc _ h)
          generalize H1 = H at hP hS ⊢
          have hP : va_P (dC, dI) vwCl (rW ad cA u_72) H := hP
          have hD : va_D A (rW ad cA u_72) := hD
          refine lv_pop hx hb dX0_signalPosted_26 rfl ?_
          refine lv_iinc (v := x1 + 1) (lv' := [(1, .int (x1 + 1)), (0, .ref (ad 0))]) hx hb dX0_signalPosted_27 hl (k := 1) rfl rfl (by decide) rfl (fun ls hl => ?_)
          refine lv_goto (tgt := 2) hx hb dX0_signalPosted_30 (by decide) ?_
          have hj2 := (k_lt 40 hj (by omega) rfl c_70)
          exact ih u_72 (x1 + 1) _ _ _ (⟨(ri_signal hu_72 hI2), j + 1, by rw [hj, nI_1], by omega, by omega⟩) (by subst hr_71 hu_72; rw [← hf2]; simp only [rl_signalPosted, if_neg c_69, if_neg c_70]) hP hD hS (lv_sub hl [1, 0] rfl)
  exact key 41 u 0 _ _ _ (⟨hI, 0, nI_0.symm, rfl, by omega⟩) (by rw [← hf]; simp only [rf_signalPosted]) hP hD hS (lv_sub hl [1, 0] rfl)
set_option maxHeartbeats 4000000 in
set_option maxRecDepth 100000 in
theorem rc_change (l : Launch) (dC : Nat → ClassId) (dI : Nat → Nat → Nat) (ad : Nat → Nat) (cA : Nat → ClassId) (sz : Nat) (u : RS)  (T : RS) (hf : rf_change u = T) : Met l yX0_change wsX0_change ({ frames := 3, cells := 0, slots := 0, locals := 62 } : Room) (va_Pc [.ref (ad 0)] (fun U => U.heap.size = sz ∧ va_P (dC, dI) vwCl (rW ad cA u) U.heap ∧ va_K (dC, dI) vwCl (rT cA) U ∧ va_D (fun _ => True) (rW ad cA u))) (va_Qv (fun u2 => u2 = T) (rAt dC dI (va_A (rW ad cA u) sz) ad cA) (va_A (rW ad cA u) sz)) 0 0 (va_A (rW ad cA u) sz) := by
  refine Met.ofW (cc := cX0_change) (maxL := 1) (ret := none) (by decide) rfl ?_
  intro p e s m args below meth c s₁ B hml hv
  obtain ⟨rfl, hsz, hP, hK, hD0⟩ := hv
  have hx := B.exec
  have hb := B.bytes
  have hr := B.returns
  have hts := atoms_spec (ws := wsX0_change) B.pre
  have hown : s.vm.findClass RX0 = some m.cls := findClass_of_methodNamed B.named
  have hlocks := B.notSynchronized
  have hin0 : ∀ w ∈ wsX00, w ∈ wsX0_change := by decide +kernel
  have fl_active := hts (.fieldLink RX0 35 "ProcessRoom" "active" "I") (by decide +kernel)
  have fl_places := hts (.fieldLink RX0 13 "ProcessRoom" "places" "[I") (by decide +kernel)
  have fl_here := hts (.fieldLink RX0 38 "ProcessRoom" "here" "I") (by decide +kernel)
  have fl_wantedOne := hts (.fieldLink RX0 45 "ProcessRoom" "wantedOne" "I") (by decide +kernel)
  have fl_wanted := hts (.fieldLink RX0 41 "ProcessRoom" "wanted" "Z") (by decide +kernel)
  subst hsz
  have hD := hD0.self (sz := s.heap.size)
  generalize hAe : va_A (rW ad cA u) s.heap.size = A at hD ⊢
  have hA : ∀ q : Nat, s.heap.size ≤ q → A q := fun q h => by rw [← hAe]; exact Or.inr h
  have hS : va_S A s.heap s.heap [] := va_S.rf
  have hl := lv_entry ([.ref (ad 0)]) (n := 1) (Nat.le_of_ble_eq_true rfl)
  rw [lg_entry_eq]
  generalize (lg_sl ([.ref (ad 0)]) ++ List.replicate (1 - (lg_sl ([.ref (ad 0)])).length) Slot.unset).toArray = ls at hl ⊢
  have hl : lv_has ls 1 [(0, .ref (ad 0))] := hl
  refine lv_aload_n hx hb dX0_change_0 rfl (lv_at hl 0 rfl) ?_
  refine va_get (D := (dC, dI)) (ci := 0) (v := .int (ra_active u)) (C := RX0) (T := TX0) (N := 12) hx hb hts hin0 hown hK hP 0 rfl rfl 8 (by decide) fl_active (fun _ h9 => h9) rfl dX0_change_1 ?_
  refine va_calli (va_runS (As := [.int (ra_active u)]) (rest := []) ⟨hx, hb, hml, hown, hts⟩ (rc_isProcess l (ra_active u) _ rfl) (va_cwS 1 hts gX0_change_X0_isProcess rfl rfl rfl (by decide +kernel) ⟨Nat.le_of_ble_eq_true rfl, Nat.le_of_ble_eq_true rfl⟩) ⟨fun a U g mk q => ⟨q.1, trivial⟩, fun U hU hW => ⟨rfl, trivial⟩⟩ rfl rfl hl.1 rfl (lv_room (Nat.le_of_ble_eq_true rfl)) dX0_change_4 ⟨Nat.le_of_ble_eq_true rfl, Nat.le_of_ble_eq_true rfl⟩) hS (fun _ _ h => h.elim) (fun _ h => h.elim) (fun r_73 u_ t H1 locs ht hvm hr_73 hB hz1 hk1 hS => ?_)
  have hP := hP.kept (fun k x hx => hk1 x.1 ((hP k x hx).lt) (fun h => h))
  generalize H1 = H at hP hS ⊢
  refine lv_if_eq (tgt := 23) hx hb dX0_change_7 (by decide) (fun c_74 => ?_) (fun c_74 => ?_)
  · refine lv_aload_n hx hb dX0_change_23 rfl (lv_at hl 0 rfl) ?_
    refine lv_aload_n hx hb dX0_change_24 rfl (lv_at hl 0 rfl) ?_
    refine va_get (D := (dC, dI)) (ci := 0) (v := .int (ra_wantedOne u)) (C := RX0) (T := TX0) (N := 12) hx hb hts hin0 hown hK hP 0 rfl rfl 11 (by decide) fl_wantedOne (fun _ h9 => h9) rfl dX0_change_25 ?_
    refine va_put (D := (dC, dI)) (ci := 0) (v := .int (ra_wantedOne u)) (ty := .int) (C := RX0) (T := TX0) (N := 12) hx hb hts hin0 tyX0 tyX0_ok nmX0 hown hK hP hD hS 0 rfl rfl 8 (by decide) fl_active (fun _ h9 => h9) rfl (by decide +kernel) rfl rfl (Nat.le_of_ble_eq_true rfl) dX0_change_28 (fun H locs hP hD hS => ?_)
    have hP : va_P (dC, dI) vwCl (rW ad cA (rs_active u (ra_wantedOne u))) H := hP
    have hD : va_D A (rW ad cA (rs_active u (ra_wantedOne u))) := hD
    refine lv_aload_n hx hb dX0_change_31 rfl (lv_at hl 0 rfl) ?_
    refine lv_aload_n hx hb dX0_change_32 rfl (lv_at hl 0 rfl) ?_
    refine lv_aload_n hx hb dX0_change_33 rfl (lv_at hl 0 rfl) ?_
    refine va_get (D := (dC, dI)) (ci := 0) (v := .int (ra_wantedOne u)) (C := RX0) (T := TX0) (N := 12) hx hb hts hin0 hown hK hP 0 rfl rfl 8 (by decide) fl_active (fun _ h9 => h9) rfl dX0_change_34 ?_
    refine va_calli (va_runV (As := [.int (ra_wantedOne u)]) (rest := [.ref (ad 0)]) ⟨hx, hb, hml, hown, hts⟩ (rc_place l dC dI ad cA (rs_active u (ra_wantedOne u)) (ra_wantedOne u) _ rfl) (cwV 1 hts gX0_change_X0_place rfl rfl rfl (by decide +kernel) ⟨Nat.le_of_ble_eq_true rfl, Nat.le_of_ble_eq_true rfl⟩) ⟨fun a U g mk q => by obtain ⟨q0, qP, qK⟩ := q; exact ⟨q0, qP, va_K.moved (u := U) (U := U.calling g mk a) (Vm.Alike.refl U.vm) qK⟩, va_recv hK hP (ci := 0) (q0 := 0) rfl rfl, fun U hU hW => ⟨rfl, by rw [hU]; exact hP, va_K.moved hW.alike hK⟩⟩ rfl rfl hl.1 rfl (lv_room (Nat.le_of_ble_eq_true rfl)) dX0_change_37 ⟨Nat.le_of_ble_eq_true rfl, Nat.le_of_ble_eq_true rfl⟩) hS (fun _ _ h => h.elim) (fun _ h => h.elim) (fun r_75 u_ t H1 locs ht hvm hr_75 hB hz1 hk1 hS => ?_)
    have hP := hP.kept (fun k x hx => hk1 x.1 ((hP k x hx).lt) (fun h => h))
    generalize H1 = H at hP hS ⊢
    refine va_put (D := (dC, dI)) (ci := 0) (v := .int r_75) (ty := .int) (C := RX0) (T := TX0) (N := 12) hx hb hts hin0 tyX0 tyX0_ok nmX0 hown hK hP hD hS 0 rfl rfl 9 (by decide) fl_here (fun _ h9 => h9) rfl (by decide +kernel) rfl rfl (Nat.le_of_ble_eq_true rfl) dX0_change_40 (fun H locs hP hD hS => ?_)
    have hP : va_P (dC, dI) vwCl (rW ad cA (rs_here (rs_active u (ra_wantedOne u)) r_75)) H := hP
    have hD : va_D A (rW ad cA (rs_here (rs_active u (ra_wantedOne u)) r_75)) := hD
    refine lv_aload_n hx hb dX0_change_43 rfl (lv_at hl 0 rfl) ?_
    refine lv_iconst (v := 0) hx hb dX0_change_44 (by decide) ?_
    refine va_put (D := (dC, dI)) (ci := 0) (v := .int 0) (ty := .boolean) (C := RX0) (T := TX0) (N := 12) hx hb hts hin0 tyX0 tyX0_ok nmX0 hown hK hP hD hS 0 rfl rfl 10 (by decide) fl_wanted (fun _ h9 => h9) rfl (by decide +kernel) rfl rfl (Nat.le_of_ble_eq_true rfl) dX0_change_45 (fun H locs hP hD hS => ?_)
    have hP : va_P (dC, dI) vwCl (rW ad cA (rs_wanted (rs_here (rs_active u (ra_wantedOne u)) r_75) 0)) H := hP
    have hD : va_D A (rW ad cA (rs_wanted (rs_here (rs_active u (ra_wantedOne u)) r_75) 0)) := hD
    refine lv_aload_n hx hb dX0_change_48 rfl (lv_at hl 0 rfl) ?_
    refine lv_iconst (v := (-1)) hx hb dX0_change_49 (by decide) ?_
    refine va_put (D := (dC, dI)) (ci := 0) (v := .int (-1)) (ty := .int) (C := RX0) (T := TX0) (N := 12) hx hb hts hin0 tyX0 tyX0_ok nmX0 hown hK hP hD hS 0 rfl rfl 11 (by decide) fl_wantedOne (fun _ h9 => h9) rfl (by decide +kernel) rfl rfl (Nat.le_of_ble_eq_true rfl) dX0_change_50 (fun H locs hP hD hS => ?_)
    have hP : va_P (dC, dI) vwCl (rW ad cA (rs_wantedOne (rs_wanted (rs_here (rs_active u (ra_wantedOne u)) r_75) 0) (-1))) H := hP
    have hD : va_D A (rW ad cA (rs_wantedOne (rs_wanted (rs_here (rs_active u (ra_wantedOne u)) r_75) 0) (-1))) := hD
    have eT : rs_wantedOne (rs_wanted (rs_here (rs_active u (ra_wantedOne u)) r_75) 0) (-1) = T := by subst hr_73 hr_75; rw [← hf]; simp only [rf_change, if_pos c_74]
    exact W.vret hx hb hr (fun t ht hW => ⟨⟨rs_wantedOne (rs_wanted (rs_here (rs_active u (ra_wantedOne u)) r_75) 0) (-1), rfl, eT, by rw [ht]; exact hP, va_K.moved hW.alike hK, hD⟩, hS.F ht⟩) hS.2.2 dX0_change_53
  · refine lv_aload_n hx hb dX0_change_10 rfl (lv_at hl 0 rfl) ?_
    refine va_get (D := (dC, dI)) (ci := 0) (v := .ref (ad 2)) (C := RX0) (T := TX0) (N := 12) hx hb hts hin0 hown hK hP 0 rfl rfl 1 (by decide) fl_places (fun _ h9 => h9) rfl dX0_change_11 ?_
    refine lv_aload_n hx hb dX0_change_14 rfl (lv_at hl 0 rfl) ?_
    refine va_get (D := (dC, dI)) (ci := 0) (v := .int (ra_active u)) (C := RX0) (T := TX0) (N := 12) hx hb hts hin0 hown hK hP 0 rfl rfl 8 (by decide) fl_active (fun _ h9 => h9) rfl dX0_change_15 ?_
    refine lv_aload_n hx hb dX0_change_18 rfl (lv_at hl 0 rfl) ?_
    refine va_get (D := (dC, dI)) (ci := 0) (v := .int (ra_here u)) (C := RX0) (T := TX0) (N := 12) hx hb hts hin0 hown hK hP 0 rfl rfl 9 (by decide) fl_here (fun _ h9 => h9) rfl dX0_change_19 ?_
    refine va_iast hx hb hK hP hD hS 2 1 rfl rfl (ri_isProcess hr_73 c_74) dX0_change_22 (fun H locs hP hD hS => ?_)
    have hP : va_P (dC, dI) vwCl (rW ad cA (rs_places u (upd (ra_places u) (ra_active u).toNatClampNeg (ra_here u)))) H := hP
    have hD : va_D A (rW ad cA (rs_places u (upd (ra_places u) (ra_active u).toNatClampNeg (ra_here u)))) := hD
    refine lv_aload_n hx hb dX0_change_23 rfl (lv_at hl 0 rfl) ?_
    refine lv_aload_n hx hb dX0_change_24 rfl (lv_at hl 0 rfl) ?_
    refine va_get (D := (dC, dI)) (ci := 0) (v := .int (ra_wantedOne u)) (C := RX0) (T := TX0) (N := 12) hx hb hts hin0 hown hK hP 0 rfl rfl 11 (by decide) fl_wantedOne (fun _ h9 => h9) rfl dX0_change_25 ?_
    refine va_put (D := (dC, dI)) (ci := 0) (v := .int (ra_wantedOne u)) (ty := .int) (C := RX0) (T := TX0) (N := 12) hx hb hts hin0 tyX0 tyX0_ok nmX0 hown hK hP hD hS 0 rfl rfl 8 (by decide) fl_active (fun _ h9 => h9) rfl (by decide +kernel) rfl rfl (Nat.le_of_ble_eq_true rfl) dX0_change_28 (fun H locs hP hD hS => ?_)
    have hP : va_P (dC, dI) vwCl (rW ad cA (rs_active (rs_places u (upd (ra_places u) (ra_active u).toNatClampNeg (ra_here u))) (ra_wantedOne u))) H := hP
    have hD : va_D A (rW ad cA (rs_active (rs_places u (upd (ra_places u) (ra_active u).toNatClampNeg (ra_here u))) (ra_wantedOne u))) := hD
    refine lv_aload_n hx hb dX0_change_31 rfl (lv_at hl 0 rfl) ?_
    refine lv_aload_n hx hb dX0_change_32 rfl (lv_at hl 0 rfl) ?_
    refine lv_aload_n hx hb dX0_change_33 rfl (lv_at hl 0 rfl) ?_
    refine va_get (D := (dC, dI)) (ci := 0) (v := .int (ra_wantedOne u)) (C := RX0) (T := TX0) (N := 12) hx hb hts hin0 hown hK hP 0 rfl rfl 8 (by decide) fl_active (fun _ h9 => h9) rfl dX0_change_34 ?_
    refine va_calli (va_runV (As := [.int (ra_wantedOne u)]) (rest := [.ref (ad 0)]) ⟨hx, hb, hml, hown, hts⟩ (rc_place l dC dI ad cA (rs_active (rs_places u (upd (ra_places u) (ra_active u).toNatClampNeg (ra_here u))) (ra_wantedOne u)) (ra_wantedOne u) _ rfl) (cwV 1 hts gX0_change_X0_place rfl rfl rfl (by decide +kernel) ⟨Nat.le_of_ble_eq_true rfl, Nat.le_of_ble_eq_true rfl⟩) ⟨fun a U g mk q => by obtain ⟨q0, qP, qK⟩ := q; exact ⟨q0, qP, va_K.moved (u := U) (U := U.calling g mk a) (Vm.Alike.refl U.vm) qK⟩, va_recv hK hP (ci := 0) (q0 := 0) rfl rfl, fun U hU hW => ⟨rfl, by rw [hU]; exact hP, va_K.moved hW.alike hK⟩⟩ rfl rfl hl.1 rfl (lv_room (Nat.le_of_ble_eq_true rfl)) dX0_change_37 ⟨Nat.le_of_ble_eq_true rfl, Nat.le_of_ble_eq_true rfl⟩) hS (fun _ _ h => h.elim) (fun _ h => h.elim) (fun r_76 u_ t H1 locs ht hvm hr_76 hB hz1 hk1 hS => ?_)
    have hP := hP.kept (fun k x hx => hk1 x.1 ((hP k x hx).lt) (fun h => h))
    generalize H1 = H at hP hS ⊢
    refine va_put (D := (dC, dI)) (ci := 0) (v := .int r_76) (ty := .int) (C := RX0) (T := TX0) (N := 12) hx hb hts hin0 tyX0 tyX0_ok nmX0 hown hK hP hD hS 0 rfl rfl 9 (by decide) fl_here (fun _ h9 => h9) rfl (by decide +kernel) rfl rfl (Nat.le_of_ble_eq_true rfl) dX0_change_40 (fun H locs hP hD hS => ?_)
    have hP : va_P (dC, dI) vwCl (rW ad cA (rs_here (rs_active (rs_places u (upd (ra_places u) (ra_active u).toNatClampNeg (ra_here u))) (ra_wantedOne u)) r_76)) H := hP
    have hD : va_D A (rW ad cA (rs_here (rs_active (rs_places u (upd (ra_places u) (ra_active u).toNatClampNeg (ra_here u))) (ra_wantedOne u)) r_76)) := hD
    refine lv_aload_n hx hb dX0_change_43 rfl (lv_at hl 0 rfl) ?_
    refine lv_iconst (v := 0) hx hb dX0_change_44 (by decide) ?_
    refine va_put (D := (dC, dI)) (ci := 0) (v := .int 0) (ty := .boolean) (C := RX0) (T := TX0) (N := 12) hx hb hts hin0 tyX0 tyX0_ok nmX0 hown hK hP hD hS 0 rfl rfl 10 (by decide) fl_wanted (fun _ h9 => h9) rfl (by decide +kernel) rfl rfl (Nat.le_of_ble_eq_true rfl) dX0_change_45 (fun H locs hP hD hS => ?_)
    have hP : va_P (dC, dI) vwCl (rW ad cA (rs_wanted (rs_here (rs_active (rs_places u (upd (ra_places u) (ra_active u).toNatClampNeg (ra_here u))) (ra_wantedOne u)) r_76) 0)) H := hP
    have hD : va_D A (rW ad cA (rs_wanted (rs_here (rs_active (rs_places u (upd (ra_places u) (ra_active u).toNatClampNeg (ra_here u))) (ra_wantedOne u)) r_76) 0)) := hD
    refine lv_aload_n hx hb dX0_change_48 rfl (lv_at hl 0 rfl) ?_
    refine lv_iconst (v := (-1)) hx hb dX0_change_49 (by decide) ?_
    refine va_put (D := (dC, dI)) (ci := 0) (v := .int (-1)) (ty := .int) (C := RX0) (T := TX0) (N := 12) hx hb hts hin0 tyX0 tyX0_ok nmX0 hown hK hP hD hS 0 rfl rfl 11 (by decide) fl_wantedOne (fun _ h9 => h9) rfl (by decide +kernel) rfl rfl (Nat.le_of_ble_eq_true rfl) dX0_change_50 (fun H locs hP hD hS => ?_)
    have hP : va_P (dC, dI) vwCl (rW ad cA (rs_wantedOne (rs_wanted (rs_here (rs_active (rs_places u (upd (ra_places u) (ra_active u).toNatClampNeg (ra_here u))) (ra_wantedOne u)) r_76) 0) (-1))) H := hP
    have hD : va_D A (rW ad cA (rs_wantedOne (rs_wanted (rs_here (rs_active (rs_places u (upd (ra_places u) (ra_active u).toNatClampNeg (ra_here u))) (ra_wantedOne u)) r_76) 0) (-1))) := hD
    have eT : rs_wantedOne (rs_wanted (rs_here (rs_active (rs_places u (upd (ra_places u) (ra_active u).toNatClampNeg (ra_here u))) (ra_wantedOne u)) r_76) 0) (-1) = T := by subst hr_73 hr_76; rw [← hf]; simp only [rf_change, if_neg c_74]
    exact W.vret hx hb hr (fun t ht hW => ⟨⟨rs_wantedOne (rs_wanted (rs_here (rs_active (rs_places u (upd (ra_places u) (ra_active u).toNatClampNeg (ra_here u))) (ra_wantedOne u)) r_76) 0) (-1), rfl, eT, by rw [ht]; exact hP, va_K.moved hW.alike hK, hD⟩, hS.F ht⟩) hS.2.2 dX0_change_53
