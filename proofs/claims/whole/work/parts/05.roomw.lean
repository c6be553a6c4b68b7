set_option maxHeartbeats 4000000 in
set_option maxRecDepth 100000 in
theorem rc_enter (l : Launch) (dC : Nat → ClassId) (dI : Nat → Nat → Nat) (ad : Nat → Nat) (cA : Nat → ClassId) (sz : Nat) (u : RS) (p1 : Int32) (p2 : Int32) (hI : rInv u) (T : RS) (hf : rf_enter u p1 p2 = T) : Met l yX0_enter wsX0_enter ({ frames := 1, cells := 0, slots := 0, locals := 20 } : Room) (va_Pc [.ref (ad 0), .int p1, .int p2] (fun U => U.heap.size = sz ∧ va_P (dC, dI) vwCl (rW ad cA u) U.heap ∧ va_K (dC, dI) vwCl (rT cA) U ∧ va_D (fun _ => True) (rW ad cA u))) (va_Qv (fun u2 => u2 = T) (rAt dC dI (va_A (rW ad cA u) sz) ad cA) (va_A (rW ad cA u) sz)) 0 0 (va_A (rW ad cA u) sz) := by
  refine Met.ofW (cc := cX0_enter) (maxL := 3) (ret := none) (by decide) rfl ?_
  intro p e s m args below meth c s₁ B hml hv
  obtain ⟨rfl, hsz, hP, hK, hD0⟩ := hv
  have hx := B.exec
  have hb := B.bytes
  have hr := B.returns
  have hts := atoms_spec (ws := wsX0_enter) B.pre
  have hown : s.vm.findClass RX0 = some m.cls := findClass_of_methodNamed B.named
  have hlocks := B.notSynchronized
  have hin0 : ∀ w ∈ wsX00, w ∈ wsX0_enter := by decide +kernel
  have fl_lineLength := hts (.fieldLink RX0 22 "ProcessRoom" "lineLength" "I") (by decide +kernel)
  have fl_rows := hts (.fieldLink RX0 16 "ProcessRoom" "rows" "[I") (by decide +kernel)
  have fl_line := hts (.fieldLink RX0 19 "ProcessRoom" "line" "[I") (by decide +kernel)
  subst hsz
  have hD := hD0.self (sz := s.heap.size)
  generalize hAe : va_A (rW ad cA u) s.heap.size = A at hD ⊢
  have hA : ∀ q : Nat, s.heap.size ≤ q → A q := fun q h => by rw [← hAe]; exact Or.inr h
  have hS : va_S A s.heap s.heap [] := va_S.rf
  have hl := lv_entry ([.ref (ad 0), .int p1, .int p2]) (n := 3) (Nat.le_of_ble_eq_true rfl)
  rw [lg_entry_eq]
  generalize (lg_sl ([.ref (ad 0), .int p1, .int p2]) ++ List.replicate (3 - (lg_sl ([.ref (ad 0), .int p1, .int p2])).length) Slot.unset).toArray = ls at hl ⊢
  have hl : lv_has ls 3 [(0, .ref (ad 0)), (1, .int p1), (2, .int p2)] := hl
  refine lv_iload_n hx hb dX0_enter_0 rfl (lv_at hl 1 rfl) ?_
  refine va_calli (va_runS (As := [.int p1]) (rest := []) ⟨hx, hb, hml, hown, hts⟩ (rc_isProcess l p1 _ rfl) (va_cwS 1 hts gX0_enter_X0_isProcess rfl rfl rfl (by decide +kernel) ⟨Nat.le_of_ble_eq_true rfl, Nat.le_of_ble_eq_true rfl⟩) ⟨fun a U g mk q => ⟨q.1, trivial⟩, fun U hU hW => ⟨rfl, trivial⟩⟩ rfl rfl hl.1 rfl (lv_room (Nat.le_of_ble_eq_true rfl)) dX0_enter_1 ⟨Nat.le_of_ble_eq_true rfl, Nat.le_of_ble_eq_true rfl⟩) hS (fun _ _ h => h.elim) (fun _ h => h.elim) (fun r_33 u_ t H1 locs ht hvm hr_33 hB hz1 hk1 hS => ?_)
  have hP := hP.kept (fun k x hx => hk1 x.1 ((hP k x hx).lt) (fun h => h))
  generalize H1 = H at hP hS ⊢
  refine lv_if_eq (tgt := 43) hx hb dX0_enter_4 (by decide) (fun c_34 => ?_) (fun c_34 => ?_)
  · have eT : u = T := by subst hr_33; rw [← hf]; simp only [rf_enter, if_pos c_34]
    exact W.vret hx hb hr (fun t ht hW => ⟨⟨u, rfl, eT, by rw [ht]; exact hP, va_K.moved hW.alike hK, hD⟩, hS.F ht⟩) hS.2.2 dX0_enter_43
  · refine lv_aload_n hx hb dX0_enter_7 rfl (lv_at hl 0 rfl) ?_
    refine va_get (D := (dC, dI)) (ci := 0) (v := .int (ra_lineLength u)) (C := RX0) (T := TX0) (N := 12) (fs := rF ad u) hx hb hts hin0 hown hK hP 0 rfl rfl 4 (by decide) fl_lineLength (fun _ h9 => h9) rfl dX0_enter_8 ?_
    refine lv_bipush (v := 32) hx hb dX0_enter_11 (by decide) ?_
    refine lv_icmp_ge (tgt := 43) hx hb dX0_enter_13 (by decide) (fun c_35 => ?_) (fun c_35 => ?_)
    · have eT : u = T := by subst hr_33; rw [← hf]; simp only [rf_enter, if_neg c_34, if_pos c_35]
      exact W.vret hx hb hr (fun t ht hW => ⟨⟨u, rfl, eT, by rw [ht]; exact hP, va_K.moved hW.alike hK, hD⟩, hS.F ht⟩) hS.2.2 dX0_enter_43
    · refine lv_aload_n hx hb dX0_enter_16 rfl (lv_at hl 0 rfl) ?_
      refine va_get (D := (dC, dI)) (ci := 0) (v := .ref (ad 3)) (C := RX0) (T := TX0) (N := 12) (fs := rF ad u) hx hb hts hin0 hown hK hP 0 rfl rfl 2 (by decide) fl_rows (fun _ h9 => h9) rfl dX0_enter_17 ?_
      refine lv_iload_n hx hb dX0_enter_20 rfl (lv_at hl 1 rfl) ?_
      refine lv_iload_n hx hb dX0_enter_21 rfl (lv_at hl 2 rfl) ?_
      refine va_iast hx hb hK hP hD hS 3 2 rfl rfl (ri_isProcess hr_33 c_34) dX0_enter_22 (fun H locs hP hD hS => ?_)
      rw [rw_rows] at hP hD
      obtain ⟨u_36, hu_36⟩ : ∃ w : RS, w = rs_rows u (upd (ra_rows u) p1.toNatClampNeg p2) := ⟨_, rfl⟩
      rw [← hu_36] at hP hD
      refine lv_aload_n hx hb dX0_enter_23 rfl (lv_at hl 0 rfl) ?_
      refine va_get (D := (dC, dI)) (ci := 0) (v := .ref (ad 4)) (C := RX0) (T := TX0) (N := 12) (fs := rF ad u_36) hx hb hts hin0 hown hK hP 0 rfl rfl 3 (by decide) fl_line (fun _ h9 => h9) rfl dX0_enter_24 ?_
      refine lv_aload_n hx hb dX0_enter_27 rfl (lv_at hl 0 rfl) ?_
      refine va_get (D := (dC, dI)) (ci := 0) (v := .int (ra_lineLength u)) (C := RX0) (T := TX0) (N := 12) (fs := rF ad u_36) hx hb hts hin0 hown hK hP 0 rfl rfl 4 (by decide) fl_lineLength (fun _ h9 => h9) (congrArg (fun z => some (Value.int z)) (show ra_lineLength u_36 = ra_lineLength u from by rw [hu_36, rq_lineLength_rows])) dX0_enter_28 ?_
      refine lv_iload_n hx hb dX0_enter_31 rfl (lv_at hl 1 rfl) ?_
      refine va_iast hx hb hK hP hD hS 4 3 (show (rW ad cA u_36)[4]? = some (ad 4, .inl (cA 4, 32, .inl (ra_line u))) from by rw [← (show ra_line u_36 = ra_line u from by rw [hu_36, rq_line_rows])]; rfl) rfl (k_in0 hI.1 c_35 rfl) dX0_enter_32 (fun H locs hP hD hS => ?_)
      rw [rw_line] at hP hD
      obtain ⟨u_37, hu_37⟩ : ∃ w : RS, w = rs_line u_36 (upd (ra_line u) (ra_lineLength u).toNatClampNeg p1) := ⟨_, rfl⟩
      rw [← hu_37] at hP hD
      refine lv_aload_n hx hb dX0_enter_33 rfl (lv_at hl 0 rfl) ?_
      refine lv_dup hx hb dX0_enter_34 rfl ?_
      refine va_get (D := (dC, dI)) (ci := 0) (v := .int (ra_lineLength u)) (C := RX0) (T := TX0) (N := 12) (fs := rF ad u_37) hx hb hts hin0 hown hK hP 0 rfl rfl 4 (by decide) fl_lineLength (fun _ h9 => h9) (congrArg (fun z => some (Value.int z)) (show ra_lineLength u_37 = ra_lineLength u from by rw [hu_37, rq_lineLength_line, hu_36, rq_lineLength_rows])) dX0_enter_35 ?_
      refine lv_iconst (v := 1) hx hb dX0_enter_38 (by decide) ?_
      refine lv_iadd hx hb dX0_enter_39 ?_
      refine va_put (D := (dC, dI)) (ci := 0) (v := .int ((ra_lineLength u) + 1)) (ty := .int) (C := RX0) (T := TX0) (N := 12) (fs := rF ad u_37) hx hb hts hin0 tyX0 tyX0_ok nmX0 hown hK hP hD hS 0 rfl rfl 4 (by decide) fl_lineLength (fun _ h9 => h9) rfl (by decide +kernel) rfl rfl (Nat.le_of_ble_eq_true rfl) dX0_enter_40 (fun H locs hP hD hS => ?_)
      rw [rw_lineLength] at hP hD
      obtain ⟨u_38, hu_38⟩ : ∃ w : RS, w = rs_lineLength u_37 ((ra_lineLength u) + 1) := ⟨_, rfl⟩
      rw [← hu_38] at hP hD
      have eT : u_38 = T := by subst hr_33 hu_36 hu_37 hu_38; rw [← hf]; simp only [rf_enter, if_neg c_34, if_neg c_35]
      exact W.vret hx hb hr (fun t ht hW => ⟨⟨u_38, rfl, eT, by rw [ht]; exact hP, va_K.moved hW.alike hK, hD⟩, hS.F ht⟩) hS.2.2 dX0_enter_43
set_option maxHeartbeats 4000000 in
set_option maxRecDepth 100000 in
theorem rc_leave (l : Launch) (dC : Nat → ClassId) (dI : Nat → Nat → Nat) (ad : Nat → Nat) (cA : Nat → ClassId) (sz : Nat) (u : RS) (p1 : Int32) (T : RS) (hf : rf_leave u p1 = T) : Met l yX0_leave wsX0_leave ({ frames := 1, cells := 0, slots := 0, locals := 20 } : Room) (va_Pc [.ref (ad 0), .int p1] (fun U => U.heap.size = sz ∧ va_P (dC, dI) vwCl (rW ad cA u) U.heap ∧ va_K (dC, dI) vwCl (rT cA) U ∧ va_D (fun _ => True) (rW ad cA u))) (va_Qv (fun u2 => u2 = T) (rAt dC dI (va_A (rW ad cA u) sz) ad cA) (va_A (rW ad cA u) sz)) 0 0 (va_A (rW ad cA u) sz) := by
  refine Met.ofW (cc := cX0_leave) (maxL := 4) (ret := none) (by decide) rfl ?_
  intro p e s m args below meth c s₁ B hml hv
  obtain ⟨rfl, hsz, hP, hK, hD0⟩ := hv
  have hx := B.exec
  have hb := B.bytes
  have hr := B.returns
  have hts := atoms_spec (ws := wsX0_leave) B.pre
  have hown : s.vm.findClass RX0 = some m.cls := findClass_of_methodNamed B.named
  have hlocks := B.notSynchronized
  have hin0 : ∀ w ∈ wsX00, w ∈ wsX0_leave := by decide +kernel
  have fl_rows := hts (.fieldLink RX0 16 "ProcessRoom" "rows" "[I") (by decide +kernel)
  have fl_lineLength := hts (.fieldLink RX0 22 "ProcessRoom" "lineLength" "I") (by decide +kernel)
  have fl_line := hts (.fieldLink RX0 19 "ProcessRoom" "line" "[I") (by decide +kernel)
  subst hsz
  have hD := hD0.self (sz := s.heap.size)
  generalize hAe : va_A (rW ad cA u) s.heap.size = A at hD ⊢
  have hA : ∀ q : Nat, s.heap.size ≤ q → A q := fun q h => by rw [← hAe]; exact Or.inr h
  have hS : va_S A s.heap s.heap [] := va_S.rf
  have hl := lv_entry ([.ref (ad 0), .int p1]) (n := 4) (Nat.le_of_ble_eq_true rfl)
  rw [lg_entry_eq]
  generalize (lg_sl ([.ref (ad 0), .int p1]) ++ List.replicate (4 - (lg_sl ([.ref (ad 0), .int p1])).length) Slot.unset).toArray = ls at hl ⊢
  have hl : lv_has ls 4 [(0, .ref (ad 0)), (1, .int p1)] := hl
  refine lv_iload_n hx hb dX0_leave_0 rfl (lv_at hl 1 rfl) ?_
  refine va_calli (va_runS (As := [.int p1]) (rest := []) ⟨hx, hb, hml, hown, hts⟩ (rc_isProcess l p1 _ rfl) (va_cwS 1 hts gX0_leave_X0_isProcess rfl rfl rfl (by decide +kernel) ⟨Nat.le_of_ble_eq_true rfl, Nat.le_of_ble_eq_true rfl⟩) ⟨fun a U g mk q => ⟨q.1, trivial⟩, fun U hU hW => ⟨rfl, trivial⟩⟩ rfl rfl hl.1 rfl (lv_room (Nat.le_of_ble_eq_true rfl)) dX0_leave_1 ⟨Nat.le_of_ble_eq_true rfl, Nat.le_of_ble_eq_true rfl⟩) hS (fun _ _ h => h.elim) (fun _ h => h.elim) (fun r_39 u_ t H1 locs ht hvm hr_39 hB hz1 hk1 hS => ?_)
  have hP := hP.kept (fun k x hx => hk1 x.1 ((hP k x hx).lt) (fun h => h))
  generalize H1 = H at hP hS ⊢
  refine lv_if_ne (tgt := 8) hx hb dX0_leave_4 (by decide) (fun c_40 => ?_) (fun c_40 => ?_)
  · refine lv_aload_n hx hb dX0_leave_8 rfl (lv_at hl 0 rfl) ?_
    refine va_get (D := (dC, dI)) (ci := 0) (v := .ref (ad 3)) (C := RX0) (T := TX0) (N := 12) (fs := rF ad u) hx hb hts hin0 hown hK hP 0 rfl rfl 2 (by decide) fl_rows (fun _ h9 => h9) rfl dX0_leave_9 ?_
    refine lv_iload_n hx hb dX0_leave_12 rfl (lv_at hl 1 rfl) ?_
    refine lv_iconst (v := 0) hx hb dX0_leave_13 (by decide) ?_
    refine va_iast hx hb hK hP hD hS 3 2 rfl rfl (ri_isProcess hr_39 c_40) dX0_leave_14 (fun H locs hP hD hS => ?_)
    rw [rw_rows] at hP hD
    obtain ⟨u_41, hu_41⟩ : ∃ w : RS, w = rs_rows u (upd (ra_rows u) p1.toNatClampNeg 0) := ⟨_, rfl⟩
    rw [← hu_41] at hP hD
    refine lv_iconst (v := 0) hx hb dX0_leave_15 (by decide) ?_
    refine lv_istore_n (lv' := [(2, .int 0), (0, .ref (ad 0)), (1, .int p1)]) hx hb dX0_leave_16 rfl hl (by decide) rfl (fun ls hl => ?_)
    refine lv_iconst (v := 0) hx hb dX0_leave_17 (by decide) ?_
    refine lv_istore_n (lv' := [(3, .int 0), (2, .int 0), (0, .ref (ad 0)), (1, .int p1)]) hx hb dX0_leave_18 rfl hl (by decide) rfl (fun ls hl => ?_)
    refine k_nameQ (fun Q hQ => ?_)
    have key : ∀ (n : Nat) (u2 : RS) (x2 : Int32) (x3 : Int32) (H : Heap) (locs : List Loc) (ls : Array Slot), (∃ i j : Nat, x2 = nI i ∧ x3 = nI j ∧ i ≤ j ∧ j + n = 33 ∧ j ≤ 32) → rl_leave p1 n u2 x2 x3 = T → va_P (dC, dI) vwCl (rW ad cA u2) H → va_D A (rW ad cA u2) → va_S A s.heap H locs → lv_has ls 4 [(0, .ref (ad 0)), (1, .int p1), (2, .int x2), (3, .int x3)] → W p l e (headSpec wsX0_leave ({ frames := 1, cells := 0, slots := 0, locals := 20 } : Room)).room s m ([.ref (ad 0), .int p1] : List Value).toArray below meth c H locs 0 0 Q (F0 m 19 ls []) := by
      intro n
      induction n with
      | zero =>
        intro u2 x2 x3 H locs ls hinv
        exact absurd hinv (by rintro ⟨i, j, -, -, h0, h1, h2⟩; omega)
      | succ n ih =>
        intro u2 x2 x3 H locs ls hinv hf2 hP hD hS hl
        obtain ⟨i, j, hi, hj, hij, hjn, hjl⟩ := hinv
        refine lv_iload_n hx hb dX0_leave_19 rfl (lv_at hl 3 rfl) ?_
        refine lv_aload_n hx hb dX0_leave_20 rfl (lv_at hl 0 rfl) ?_
        refine va_get (D := (dC, dI)) (ci := 0) (v := .int (ra_lineLength u2)) (C := RX0) (T := TX0) (N := 12) (fs := rF ad u2) hx hb hts hin0 hown hK hP 0 rfl rfl 4 (by decide) fl_lineLength (fun _ h9 => h9) rfl dX0_leave_21 ?_
        refine lv_icmp_ge (tgt := 64) hx hb dX0_leave_24 (by decide) (fun c_42 => ?_) (fun c_42 => ?_)
        · refine lv_aload_n hx hb dX0_leave_64 rfl (lv_at hl 0 rfl) ?_
          refine lv_iload_n hx hb dX0_leave_65 rfl (lv_at hl 2 rfl) ?_
          refine va_put (D := (dC, dI)) (ci := 0) (v := .int x2) (ty := .int) (C := RX0) (T := TX0) (N := 12) (fs := rF ad u2) hx hb hts hin0 tyX0 tyX0_ok nmX0 hown hK hP hD hS 0 rfl rfl 4 (by decide) fl_lineLength (fun _ h9 => h9) rfl (by decide +kernel) rfl rfl (Nat.le_of_ble_eq_true rfl) dX0_leave_66 (fun H locs hP hD hS => ?_)
          rw [rw_lineLength] at hP hD
          obtain ⟨u_43, hu_43⟩ : ∃ w : RS, w = rs_lineLength u2 x2 := ⟨_, rfl⟩
          rw [← hu_43] at hP hD
          subst hQ
          have eT : u_43 = T := by subst hr_39 hu_41 hu_43; rw [← hf2]; simp only [rl_leave, if_pos c_42]
          exact W.vret hx hb hr (fun t ht hW => ⟨⟨u_43, rfl, eT, by rw [ht]; exact hP, va_K.moved hW.alike hK, hD⟩, hS.F ht⟩) hS.2.2 dX0_leave_69
        · refine lv_iload_n hx hb dX0_leave_27 rfl (lv_at hl 3 rfl) ?_
          refine lv_bipush (v := 32) hx hb dX0_leave_28 (by decide) ?_
          refine lv_icmp_ge (tgt := 64) hx hb dX0_leave_30 (by decide) (fun c_44 => ?_) (fun c_44 => ?_)
          · refine lv_aload_n hx hb dX0_leave_64 rfl (lv_at hl 0 rfl) ?_
            refine lv_iload_n hx hb dX0_leave_65 rfl (lv_at hl 2 rfl) ?_
            refine va_put (D := (dC, dI)) (ci := 0) (v := .int x2) (ty := .int) (C := RX0) (T := TX0) (N := 12) (fs := rF ad u2) hx hb hts hin0 tyX0 tyX0_ok nmX0 hown hK hP hD hS 0 rfl rfl 4 (by decide) fl_lineLength (fun _ h9 => h9) rfl (by decide +kernel) rfl rfl (Nat.le_of_ble_eq_true rfl) dX0_leave_66 (fun H locs hP hD hS => ?_)
            rw [rw_lineLength] at hP hD
            obtain ⟨u_45, hu_45⟩ : ∃ w : RS, w = rs_lineLength u2 x2 := ⟨_, rfl⟩
            rw [← hu_45] at hP hD
            subst hQ
            have eT : u_45 = T := by subst hr_39 hu_41 hu_45; rw [← hf2]; simp only [rl_leave, if_neg c_42, if_pos c_44]
            exact W.vret hx hb hr (fun t ht hW => ⟨⟨u_45, rfl, eT, by rw [ht]; exact hP, va_K.moved hW.alike hK, hD⟩, hS.F ht⟩) hS.2.2 dX0_leave_69
          · refine lv_aload_n hx hb dX0_leave_33 rfl (lv_at hl 0 rfl) ?_
            refine va_get (D := (dC, dI)) (ci := 0) (v := .ref (ad 4)) (C := RX0) (T := TX0) (N := 12) (fs := rF ad u2) hx hb hts hin0 hown hK hP 0 rfl rfl 3 (by decide) fl_line (fun _ h9 => h9) rfl dX0_leave_34 ?_
            refine lv_iload_n hx hb dX0_leave_37 rfl (lv_at hl 3 rfl) ?_
            refine va_iald hx hb hK hP 4 3 rfl rfl (k_in hj (k_lt 32 hj (by omega) rfl c_44) (by omega)) dX0_leave_38 ?_
            refine lv_iload_n hx hb dX0_leave_39 rfl (lv_at hl 1 rfl) ?_
            refine lv_icmp_eq (tgt := 58) hx hb dX0_leave_40 (by decide) (fun c_46 => ?_) (fun c_46 => ?_)
            · refine lv_iinc (v := x3 + 1) (lv' := [(3, .int (x3 + 1)), (0, .ref (ad 0)), (1, .int p1), (2, .int x2)]) hx hb dX0_leave_58 hl (k := 3) rfl rfl (by decide) rfl (fun ls hl => ?_)
              refine lv_goto (tgt := 19) hx hb dX0_leave_61 (by decide) ?_
              have hj2 := (k_lt 32 hj (by omega) rfl c_44)
              exact ih u2 x2 (x3 + 1) _ _ _ (⟨i, j + 1, hi, by rw [hj, nI_1], by omega, by omega, by omega⟩) (by subst hr_39 hu_41; rw [← hf2]; simp only [rl_leave, if_neg c_42, if_neg c_44, if_pos c_46]) hP hD hS (lv_sub hl [1, 2, 3, 0] rfl)
            · refine lv_aload_n hx hb dX0_leave_43 rfl (lv_at hl 0 rfl) ?_
              refine va_get (D := (dC, dI)) (ci := 0) (v := .ref (ad 4)) (C := RX0) (T := TX0) (N := 12) (fs := rF ad u2) hx hb hts hin0 hown hK hP 0 rfl rfl 3 (by decide) fl_line (fun _ h9 => h9) rfl dX0_leave_44 ?_
              refine lv_iload_n hx hb dX0_leave_47 rfl (lv_at hl 2 rfl) ?_
              refine lv_aload_n hx hb dX0_leave_48 rfl (lv_at hl 0 rfl) ?_
              refine va_get (D := (dC, dI)) (ci := 0) (v := .ref (ad 4)) (C := RX0) (T := TX0) (N := 12) (fs := rF ad u2) hx hb hts hin0 hown hK hP 0 rfl rfl 3 (by decide) fl_line (fun _ h9 => h9) rfl dX0_leave_49 ?_
              refine lv_iload_n hx hb dX0_leave_52 rfl (lv_at hl 3 rfl) ?_
              refine va_iald hx hb hK hP 4 3 rfl rfl (k_in hj (k_lt 32 hj (by omega) rfl c_44) (by omega)) dX0_leave_53 ?_
              refine va_iast hx hb hK hP hD hS 4 3 rfl rfl (k_in hi (Nat.lt_of_le_of_lt hij (k_lt 32 hj (by omega) rfl c_44)) (by omega)) dX0_leave_54 (fun H locs hP hD hS => ?_)
              rw [rw_line] at hP hD
              obtain ⟨u_47, hu_47⟩ : ∃ w : RS, w = rs_line u2 (upd (ra_line u2) x2.toNatClampNeg (ra_line u2 x3.toNatClampNeg)) := ⟨_, rfl⟩
              rw [← hu_47] at hP hD
              refine lv_iinc (v := x2 + 1) (lv' := [(2, .int (x2 + 1)), (0, .ref (ad 0)), (1, .int p1), (3, .int x3)]) hx hb dX0_leave_55 hl (k := 2) rfl rfl (by decide) rfl (fun ls hl => ?_)
              refine lv_iinc (v := x3 + 1) (lv' := [(3, .int (x3 + 1)), (2, .int (x2 + 1)), (0, .ref (ad 0)), (1, .int p1)]) hx hb dX0_leave_58 hl (k := 3) rfl rfl (by decide) rfl (fun ls hl => ?_)
              refine lv_goto (tgt := 19) hx hb dX0_leave_61 (by decide) ?_
              have hj2 := (k_lt 32 hj (by omega) rfl c_44)
              exact ih u_47 (x2 + 1) (x3 + 1) _ _ _ (⟨i + 1, j + 1, by rw [hi, nI_1], by rw [hj, nI_1], by omega, by omega, by omega⟩) (by subst hr_39 hu_41 hu_47; rw [← hf2]; simp only [rl_leave, if_neg c_42, if_neg c_44, if_neg c_46]) hP hD hS (lv_sub hl [2, 3, 1, 0] rfl)
    exact key 33 u_41 0 0 _ _ _ (⟨0, 0, nI_0.symm, nI_0.symm, by omega, rfl, by omega⟩) (by subst hr_39 hu_41; rw [← hf]; simp only [rf_leave, if_neg c_40]) hP hD hS (lv_sub hl [2, 3, 1, 0] rfl)
  · have eT : u = T := by subst hr_39; rw [← hf]; simp only [rf_leave, if_pos c_40]
    exact W.vret hx hb hr (fun t ht hW => ⟨⟨u, rfl, eT, by rw [ht]; exact hP, va_K.moved hW.alike hK, hD⟩, hS.F ht⟩) hS.2.2 dX0_leave_7
set_option maxHeartbeats 4000000 in
set_option maxRecDepth 100000 in
theorem rc_wake (l : Launch) (dC : Nat → ClassId) (dI : Nat → Nat → Nat) (ad : Nat → Nat) (cA : Nat → ClassId) (sz : Nat) (u : RS) (p1 : Int32) (hI : rInv u) (T : RS) (hf : rf_wake u p1 = T) : Met l yX0_wake wsX0_wake ({ frames := 3, cells := 0, slots := 0, locals := 62 } : Room) (va_Pc [.ref (ad 0), .int p1] (fun U => U.heap.size = sz ∧ va_P (dC, dI) vwCl (rW ad cA u) U.heap ∧ va_K (dC, dI) vwCl (rT cA) U ∧ va_D (fun _ => True) (rW ad cA u))) (va_Qv (fun u2 => u2 = T) (rAt dC dI (va_A (rW ad cA u) sz) ad cA) (va_A (rW ad cA u) sz)) 0 0 (va_A (rW ad cA u) sz) := by
  refine Met.ofW (cc := cX0_wake) (maxL := 3) (ret := none) (by decide) rfl ?_
  intro p e s m args below meth c s₁ B hml hv
  obtain ⟨rfl, hsz, hP, hK, hD0⟩ := hv
  have hx := B.exec
  have hb := B.bytes
  have hr := B.returns
  have hts := atoms_spec (ws := wsX0_wake) B.pre
  have hown : s.vm.findClass RX0 = some m.cls := findClass_of_methodNamed B.named
  have hlocks := B.notSynchronized
  subst hsz
  have hD := hD0.self (sz := s.heap.size)
  generalize hAe : va_A (rW ad cA u) s.heap.size = A at hD ⊢
  have hA : ∀ q : Nat, s.heap.size ≤ q → A q := fun q h => by rw [← hAe]; exact Or.inr h
  have hS : va_S A s.heap s.heap [] := va_S.rf
  have hl := lv_entry ([.ref (ad 0), .int p1]) (n := 3) (Nat.le_of_ble_eq_true rfl)
  rw [lg_entry_eq]
  generalize (lg_sl ([.ref (ad 0), .int p1]) ++ List.replicate (3 - (lg_sl ([.ref (ad 0), .int p1])).length) Slot.unset).toArray = ls at hl ⊢
  have hl : lv_has ls 3 [(0, .ref (ad 0)), (1, .int p1)] := hl
  refine lv_aload_n hx hb dX0_wake_0 rfl (lv_at hl 0 rfl) ?_
  refine va_calli (va_runV (As := []) (rest := []) ⟨hx, hb, hml, hown, hts⟩ (rc_present l dC dI ad cA u _ rfl) (cwV 0 hts gX0_wake_X0_present rfl rfl rfl (by decide +kernel) ⟨Nat.le_of_ble_eq_true rfl, Nat.le_of_ble_eq_true rfl⟩) ⟨fun a U g mk q => by obtain ⟨q0, qP, qK⟩ := q; exact ⟨q0, qP, va_K.moved (u := U) (U := U.calling g mk a) (Vm.Alike.refl U.vm) qK⟩, va_recv hK hP (ci := 0) (q0 := 0) rfl rfl, fun U hU hW => ⟨rfl, by rw [hU]; exact hP, va_K.moved hW.alike hK⟩⟩ rfl rfl hl.1 rfl (lv_room (Nat.le_of_ble_eq_true rfl)) dX0_wake_1 ⟨Nat.le_of_ble_eq_true rfl, Nat.le_of_ble_eq_true rfl⟩) hS (fun _ _ h => h.elim) (fun _ h => h.elim) (fun r_48 u_ t H1 locs ht hvm hr_48 hB hz1 hk1 hS => ?_)
  have hP := hP.kept (fun k x hx => hk1 x.1 ((hP k x hx).lt) (fun h => h))
  generalize H1 = H at hP hS ⊢
  refine lv_istore_n (lv' := [(2, .int r_48), (0, .ref (ad 0)), (1, .int p1)]) hx hb dX0_wake_4 rfl hl (by decide) rfl (fun ls hl => ?_)
  refine lv_iload_n hx hb dX0_wake_5 rfl (lv_at hl 0 rfl) ?_
  refine lv_iconst (v := (-1)) hx hb dX0_wake_6 (by decide) ?_
  refine lv_icmp_eq (tgt := 34) hx hb dX0_wake_7 (by decide) (fun c_49 => ?_) (fun c_49 => ?_)
  · refine lv_iload_n hx hb dX0_wake_34 rfl (lv_at hl 0 rfl) ?_
    refine lv_iconst (v := (-1)) hx hb dX0_wake_35 (by decide) ?_
    refine lv_icmp_eq (tgt := 49) hx hb dX0_wake_36 (by decide) (fun c_50 => ?_) (fun c_50 => ?_)
    · refine lv_aload_n hx hb dX0_wake_49 rfl (lv_at hl 1 rfl) ?_
      refine lv_iload_n hx hb dX0_wake_50 rfl (lv_at hl 2 rfl) ?_
      have hFc := va_free (wc := (rW ad cA u)) hD hS hA [0, 1, 2, 3, 4, 5, 6] rfl
      refine va_callv (va_runV (As := [.int p1]) (rest := []) ⟨hx, hb, hml, hown, hts⟩ (rc_want l dC dI ad cA _ u p1 _ rfl) (cwV 1 hts gX0_wake_X0_want rfl rfl rfl (by decide +kernel) ⟨Nat.le_of_ble_eq_true rfl, Nat.le_of_ble_eq_true rfl⟩) ⟨fun a U g mk q => by obtain ⟨q0, q1, qP, qK, qD⟩ := q; exact ⟨q0, q1, qP, va_K.moved (u := U) (U := U.calling g mk a) (Vm.Alike.refl U.vm) qK, qD⟩, va_recv hK hP (ci := 0) (q0 := 0) rfl rfl, fun U hU hW => ⟨rfl, by rw [hU], by rw [hU]; exact hP, va_K.moved hW.alike hK, hD.weaken (fun _ _ _ _ => trivial)⟩⟩ rfl rfl hl.1 rfl (lv_room (Nat.le_of_ble_eq_true rfl)) dX0_wake_51 ⟨Nat.le_of_ble_eq_true rfl, Nat.le_of_ble_eq_true rfl⟩) hS (fun q _ h => hFc q h) hFc (fun u_52 t H1 locs ht hvm hu_52 hB hz1 hk1 hS => ?_)
      obtain ⟨hP, hK1, hD1⟩ := hB
      rw [ht] at hP
      have hD := hD1.weaken (fun _ _ _ h => hFc _ h)
      generalize H1 = H at hP hS ⊢
      have hP : va_P (dC, dI) vwCl (rW ad cA u_52) H := hP
      have hD : va_D A (rW ad cA u_52) := hD
      have eT : u_52 = T := by subst hr_48 hu_52; rw [← hf]; simp only [rf_wake, if_pos c_49]
      exact W.vret hx hb hr (fun t ht hW => ⟨⟨u_52, rfl, eT, by rw [ht]; exact hP, va_K.moved hW.alike hK, hD⟩, hS.F ht⟩) hS.2.2 dX0_wake_54
    · exact absurd c_49 c_50
  · refine lv_aload_n hx hb dX0_wake_10 rfl (lv_at hl 1 rfl) ?_
    refine lv_iload_n hx hb dX0_wake_11 rfl (lv_at hl 0 rfl) ?_
    refine va_calli (va_runV (As := [.int r_48]) (rest := []) ⟨hx, hb, hml, hown, hts⟩ (rc_priority l dC dI ad cA u r_48 _ rfl) (cwV 1 hts gX0_wake_X0_priority rfl rfl rfl (by decide +kernel) ⟨Nat.le_of_ble_eq_true rfl, Nat.le_of_ble_eq_true rfl⟩) ⟨fun a U g mk q => by obtain ⟨q0, qP, qK⟩ := q; exact ⟨q0, qP, va_K.moved (u := U) (U := U.calling g mk a) (Vm.Alike.refl U.vm) qK⟩, va_recv hK hP (ci := 0) (q0 := 0) rfl rfl, fun U hU hW => ⟨rfl, by rw [hU]; exact hP, va_K.moved hW.alike hK⟩⟩ rfl rfl hl.1 rfl (lv_room (Nat.le_of_ble_eq_true rfl)) dX0_wake_12 ⟨Nat.le_of_ble_eq_true rfl, Nat.le_of_ble_eq_true rfl⟩) hS (fun _ _ h => h.elim) (fun _ h => h.elim) (fun r_53 u_ t H1 locs ht hvm hr_53 hB hz1 hk1 hS => ?_)
    have hP := hP.kept (fun k x hx => hk1 x.1 ((hP k x hx).lt) (fun h => h))
    generalize H1 = H at hP hS ⊢
    refine lv_aload_n hx hb dX0_wake_15 rfl (lv_at hl 1 rfl) ?_
    refine lv_iload_n hx hb dX0_wake_16 rfl (lv_at hl 2 rfl) ?_
    refine va_calli (va_runV (As := [.int p1]) (rest := [.int r_53]) ⟨hx, hb, hml, hown, hts⟩ (rc_priority l dC dI ad cA u p1 _ rfl) (cwV 1 hts gX0_wake_X0_priority rfl rfl rfl (by decide +kernel) ⟨Nat.le_of_ble_eq_true rfl, Nat.le_of_ble_eq_true rfl⟩) ⟨fun a U g mk q => by obtain ⟨q0, qP, qK⟩ := q; exact ⟨q0, qP, va_K.moved (u := U) (U := U.calling g mk a) (Vm.Alike.refl U.vm) qK⟩, va_recv hK hP (ci := 0) (q0 := 0) rfl rfl, fun U hU hW => ⟨rfl, by rw [hU]; exact hP, va_K.moved hW.alike hK⟩⟩ rfl rfl hl.1 rfl (lv_room (Nat.le_of_ble_eq_true rfl)) dX0_wake_17 ⟨Nat.le_of_ble_eq_true rfl, Nat.le_of_ble_eq_true rfl⟩) hS (fun _ _ h => h.elim) (fun _ h => h.elim) (fun r_54 u_ t H1 locs ht hvm hr_54 hB hz1 hk1 hS => ?_)
    have hP := hP.kept (fun k x hx => hk1 x.1 ((hP k x hx).lt) (fun h => h))
    generalize H1 = H at hP hS ⊢
    refine lv_icmp_lt (tgt := 34) hx hb dX0_wake_20 (by decide) (fun c_55 => ?_) (fun c_55 => ?_)
    · refine lv_iload_n hx hb dX0_wake_34 rfl (lv_at hl 0 rfl) ?_
      refine lv_iconst (v := (-1)) hx hb dX0_wake_35 (by decide) ?_
      refine lv_icmp_eq (tgt := 49) hx hb dX0_wake_36 (by decide) (fun c_56 => ?_) (fun c_56 => ?_)
      · exact absurd c_56 c_49
      · refine lv_aload_n hx hb dX0_wake_39 rfl (lv_at hl 1 rfl) ?_
        refine lv_iload_n hx hb dX0_wake_40 rfl (lv_at hl 0 rfl) ?_
        refine lv_aload_n hx hb dX0_wake_41 rfl (lv_at hl 1 rfl) ?_
        refine lv_iload_n hx hb dX0_wake_42 rfl (lv_at hl 0 rfl) ?_
        refine va_calli (va_runV (As := [.int r_48]) (rest := [.int r_48, .ref (ad 0)]) ⟨hx, hb, hml, hown, hts⟩ (rc_priority l dC dI ad cA u r_48 _ rfl) (cwV 1 hts gX0_wake_X0_priority rfl rfl rfl (by decide +kernel) ⟨Nat.le_of_ble_eq_true rfl, Nat.le_of_ble_eq_true rfl⟩) ⟨fun a U g mk q => by obtain ⟨q0, qP, qK⟩ := q; exact ⟨q0, qP, va_K.moved (u := U) (U := U.calling g mk a) (Vm.Alike.refl U.vm) qK⟩, va_recv hK hP (ci := 0) (q0 := 0) rfl rfl, fun U hU hW => ⟨rfl, by rw [hU]; exact hP, va_K.moved hW.alike hK⟩⟩ rfl rfl hl.1 rfl (lv_room (Nat.le_of_ble_eq_true rfl)) dX0_wake_43 ⟨Nat.le_of_ble_eq_true rfl, Nat.le_of_ble_eq_true rfl⟩) hS (fun _ _ h => h.elim) (fun _ h => h.elim) (fun r_57 u_ t H1 locs ht hvm hr_57 hB hz1 hk1 hS => ?_)
        have hP := hP.kept (fun k x hx => hk1 x.1 ((hP k x hx).lt) (fun h => h))
        generalize H1 = H at hP hS ⊢
        have hFc := va_free (wc := (rW ad cA u)) hD hS hA [0, 1, 2, 3, 4, 5, 6] rfl
        refine va_callv (va_runV (As := [.int r_48, .int r_57]) (rest := []) ⟨hx, hb, hml, hown, hts⟩ (rc_enter l dC dI ad cA _ u r_48 r_57 hI _ rfl) (cwV 2 hts gX0_wake_X0_enter rfl rfl rfl (by decide +kernel) ⟨Nat.le_of_ble_eq_true rfl, Nat.le_of_ble_eq_true rfl⟩) ⟨fun a U g mk q => by obtain ⟨q0, q1, qP, qK, qD⟩ := q; exact ⟨q0, q1, qP, va_K.moved (u := U) (U := U.calling g mk a) (Vm.Alike.refl U.vm) qK, qD⟩, va_recv hK hP (ci := 0) (q0 := 0) rfl rfl, fun U hU hW => ⟨rfl, by rw [hU], by rw [hU]; exact hP, va_K.moved hW.alike hK, hD.weaken (fun _ _ _ _ => trivial)⟩⟩ rfl rfl hl.1 rfl (lv_room (Nat.le_of_ble_eq_true rfl)) dX0_wake_46 ⟨Nat.le_of_ble_eq_true rfl, Nat.le_of_ble_eq_true rfl⟩) hS (fun q _ h => hFc q h) hFc (fun u_59 t H1 locs ht hvm hu_59 hB hz1 hk1 hS => ?_)
        obtain ⟨hP, hK1, hD1⟩ := hB
        rw [ht] at hP
        have hD := hD1.weaken (fun _ _ _ h => hFc _ h)
        generalize H1 = H at hP hS ⊢
        have hP : va_P (dC, dI) vwCl (rW ad cA u_59) H := hP
        have hD : va_D A (rW ad cA u_59) := hD
        refine lv_aload_n hx hb dX0_wake_49 rfl (lv_at hl 1 rfl) ?_
        refine lv_iload_n hx hb dX0_wake_50 rfl (lv_at hl 2 rfl) ?_
        have hFc := va_free (wc := (rW ad cA u_59)) hD hS hA [0, 1, 2, 3, 4, 5, 6] rfl
        refine va_callv (va_runV (As := [.int p1]) (rest := []) ⟨hx, hb, hml, hown, hts⟩ (rc_want l dC dI ad cA _ u_59 p1 _ rfl) (cwV 1 hts gX0_wake_X0_want rfl rfl rfl (by decide +kernel) ⟨Nat.le_of_ble_eq_true rfl, Nat.le_of_ble_eq_true rfl⟩) ⟨fun a U g mk q => by obtain ⟨q0, q1, qP, qK, qD⟩ := q; exact ⟨q0, q1, qP, va_K.moved (u := U) (U := U.calling g mk a) (Vm.Alike.refl U.vm) qK, qD⟩, va_recv hK hP (ci := 0) (q0 := 0) rfl rfl, fun U hU hW => ⟨rfl, by rw [hU], by rw [hU]; exact hP, va_K.moved hW.alike hK, hD.weaken (fun _ _ _ _ => trivial)⟩⟩ rfl rfl hl.1 rfl (lv_room (Nat.le_of_ble_eq_true rfl)) dX0_wake_51 ⟨Nat.le_of_ble_eq_true rfl, Nat.le_of_ble_eq_true rfl⟩) hS (fun q _ h => hFc q h) hFc (fun u_61 t H1 locs ht hvm hu_61 hB hz1 hk1 hS => ?_)
        obtain ⟨hP, hK1, hD1⟩ := hB
        rw [ht] at hP
        have hD := hD1.weaken (fun _ _ _ h => hFc _ h)
        generalize H1 = H at hP hS ⊢
        have hP : va_P (dC, dI) vwCl (rW ad cA u_61) H := hP
        have hD : va_D A (rW ad cA u_61) := hD
        have eT : u_61 = T := by subst hr_48 hr_53 hr_54 hr_57 hu_59 hu_61; rw [← hf]; simp only [rf_wake, if_neg c_49, if_pos c_55]
        exact W.vret hx hb hr (fun t ht hW => ⟨⟨u_61, rfl, eT, by rw [ht]; exact hP, va_K.moved hW.alike hK, hD⟩, hS.F ht⟩) hS.2.2 dX0_wake_54
    · refine lv_aload_n hx hb dX0_wake_23 rfl (lv_at hl 1 rfl) ?_
      refine lv_iload_n hx hb dX0_wake_24 rfl (lv_at hl 2 rfl) ?_
      refine lv_aload_n hx hb dX0_wake_25 rfl (lv_at hl 1 rfl) ?_
      refine lv_iload_n hx hb dX0_wake_26 rfl (lv_at hl 2 rfl) ?_
      refine va_calli (va_runV (As := [.int p1]) (rest := [.int p1, .ref (ad 0)]) ⟨hx, hb, hml, hown, hts⟩ (rc_priority l dC dI ad cA u p1 _ rfl) (cwV 1 hts gX0_wake_X0_priority rfl rfl rfl (by decide +kernel) ⟨Nat.le_of_ble_eq_true rfl, Nat.le_of_ble_eq_true rfl⟩) ⟨fun a U g mk q => by obtain ⟨q0, qP, qK⟩ := q; exact ⟨q0, qP, va_K.moved (u := U) (U := U.calling g mk a) (Vm.Alike.refl U.vm) qK⟩, va_recv hK hP (ci := 0) (q0 := 0) rfl rfl, fun U hU hW => ⟨rfl, by rw [hU]; exact hP, va_K.moved hW.alike hK⟩⟩ rfl rfl hl.1 rfl (lv_room (Nat.le_of_ble_eq_true rfl)) dX0_wake_27 ⟨Nat.le_of_ble_eq_true rfl, Nat.le_of_ble_eq_true rfl⟩) hS (fun _ _ h => h.elim) (fun _ h => h.elim) (fun r_62 u_ t H1 locs ht hvm hr_62 hB hz1 hk1 hS => ?_)
      have hP := hP.kept (fun k x hx => hk1 x.1 ((hP k x hx).lt) (fun h => h))
      generalize H1 = H at hP hS ⊢
      have hFc := va_free (wc := (rW ad cA u)) hD hS hA [0, 1, 2, 3, 4, 5, 6] rfl
      refine va_callv (va_runV (As := [.int p1, .int r_62]) (rest := []) ⟨hx, hb, hml, hown, hts⟩ (rc_enter l dC dI ad cA _ u p1 r_62 hI _ rfl) (cwV 2 hts gX0_wake_X0_enter rfl rfl rfl (by decide +kernel) ⟨Nat.le_of_ble_eq_true rfl, Nat.le_of_ble_eq_true rfl⟩) ⟨fun a U g mk q => by obtain ⟨q0, q1, qP, qK, qD⟩ := q; exact ⟨q0, q1, qP, va_K.moved (u := U) (U := U.calling g mk a) (Vm.Alike.refl U.vm) qK, qD⟩, va_recv hK hP (ci := 0) (q0 := 0) rfl rfl, fun U hU hW => ⟨rfl, by rw [hU], by rw [hU]; exact hP, va_K.moved hW.alike hK, hD.weaken (fun _ _ _ _ => trivial)⟩⟩ rfl rfl hl.1 rfl (lv_room (Nat.le_of_ble_eq_true rfl)) dX0_wake_30 ⟨Nat.le_of_ble_eq_true rfl, Nat.le_of_ble_eq_true rfl⟩) hS (fun q _ h => hFc q h) hFc (fun u_64 t H1 locs ht hvm hu_64 hB hz1 hk1 hS => ?_)
      obtain ⟨hP, hK1, hD1⟩ := hB
      rw [ht] at hP
      have hD := hD1.weaken (fun _ _ _ h => hFc _ h)
      generalize H1 = H at hP hS ⊢
      have hP : va_P (dC, dI) vwCl (rW ad cA u_64) H := hP
      have hD : va_D A (rW ad cA u_64) := hD
      have eT : u_64 = T := by subst hr_48 hr_53 hr_54 hr_62 hu_64; rw [← hf]; simp only [rf_wake, if_neg c_49, if_neg c_55]
      exact W.vret hx hb hr (fun t ht hW => ⟨⟨u_64, rfl, eT, by rw [ht]; exact hP, va_K.moved hW.alike hK, hD⟩, hS.F ht⟩) hS.2.2 dX0_wake_33
set_option maxHeartbeats 4000000 in
set_option maxRecDepth 100000 in
theorem rc_putAside (l : Launch) (dC : Nat → ClassId) (dI : Nat → Nat → Nat) (ad : Nat → Nat) (cA : Nat → ClassId) (sz : Nat) (u : RS)  (T : RS) (hf : rf_putAside u = T) : Met l yX0_putAside wsX0_putAside ({ frames := 3, cells := 0, slots := 0, locals := 67 } : Room) (va_Pc [.ref (ad 0)] (fun U => U.heap.size = sz ∧ va_P (dC, dI) vwCl (rW ad cA u) U.heap ∧ va_K (dC, dI) vwCl (rT cA) U ∧ va_D (fun _ => True) (rW ad cA u))) (va_Qv (fun u2 => u2 = T) (rAt dC dI (va_A (rW ad cA u) sz) ad cA) (va_A (rW ad cA u) sz)) 0 0 (va_A (rW ad cA u) sz) := by
  refine Met.ofW (cc := cX0_putAside) (maxL := 2) (ret := none) (by decide) rfl ?_
  intro p e s m args below meth c s₁ B hml hv
  obtain ⟨rfl, hsz, hP, hK, hD0⟩ := hv
  have hx := B.exec
  have hb := B.bytes
  have hr := B.returns
  have hts := atoms_spec (ws := wsX0_putAside) B.pre
  have hown : s.vm.findClass RX0 = some m.cls := findClass_of_methodNamed B.named
  have hlocks := B.notSynchronized
  subst hsz
  have hD := hD0.self (sz := s.heap.size)
  generalize hAe : va_A (rW ad cA u) s.heap.size = A at hD ⊢
  have hA : ∀ q : Nat, s.heap.size ≤ q → A q := fun q h => by rw [← hAe]; exact Or.inr h
  have hS : va_S A s.heap s.heap [] := va_S.rf
  have hl := lv_entry ([.ref (ad 0)]) (n := 2) (Nat.le_of_ble_eq_true rfl)
  rw [lg_entry_eq]
  generalize (lg_sl ([.ref (ad 0)]) ++ List.replicate (2 - (lg_sl ([.ref (ad 0)])).length) Slot.unset).toArray = ls at hl ⊢
  have hl : lv_has ls 2 [(0, .ref (ad 0))] := hl
  refine lv_aload_n hx hb dX0_putAside_0 rfl (lv_at hl 0 rfl) ?_
  refine va_calli (va_runV (As := []) (rest := []) ⟨hx, hb, hml, hown, hts⟩ (rc_firstReady l dC dI ad cA u _ rfl) (cwV 0 hts gX0_putAside_X0_firstReady rfl rfl rfl (by decide +kernel) ⟨Nat.le_of_ble_eq_true rfl, Nat.le_of_ble_eq_true rfl⟩) ⟨fun a U g mk q => by obtain ⟨q0, qP, qK⟩ := q; exact ⟨q0, qP, va_K.moved (u := U) (U := U.calling g mk a) (Vm.Alike.refl U.vm) qK⟩, va_recv hK hP (ci := 0) (q0 := 0) rfl rfl, fun U hU hW => ⟨rfl, by rw [hU]; exact hP, va_K.moved hW.alike hK⟩⟩ rfl rfl hl.1 rfl (lv_room (Nat.le_of_ble_eq_true rfl)) dX0_putAside_1 ⟨Nat.le_of_ble_eq_true rfl, Nat.le_of_ble_eq_true rfl⟩) hS (fun _ _ h => h.elim) (fun _ h => h.elim) (fun r_65 u_ t H1 locs ht hvm hr_65 hB hz1 hk1 hS => ?_)
  have hP := hP.kept (fun k x hx => hk1 x.1 ((hP k x hx).lt) (fun h => h))
  generalize H1 = H at hP hS ⊢
  refine lv_istore_n (lv' := [(1, .int r_65), (0, .ref (ad 0))]) hx hb dX0_putAside_4 rfl hl (by decide) rfl (fun ls hl => ?_)
  refine lv_aload_n hx hb dX0_putAside_5 rfl (lv_at hl 1 rfl) ?_
  refine lv_iload_n hx hb dX0_putAside_6 rfl (lv_at hl 0 rfl) ?_
  have hFc := va_free (wc := (rW ad cA u)) hD hS hA [0, 1, 2, 3, 4, 5, 6] rfl
  refine va_callv (va_runV (As := [.int r_65]) (rest := []) ⟨hx, hb, hml, hown, hts⟩ (rc_leave l dC dI ad cA _ u r_65 _ rfl) (cwV 1 hts gX0_putAside_X0_leave rfl rfl rfl (by decide +kernel) ⟨Nat.le_of_ble_eq_true rfl, Nat.le_of_ble_eq_true rfl⟩) ⟨fun a U g mk q => by obtain ⟨q0, q1, qP, qK, qD⟩ := q; exact ⟨q0, q1, qP, va_K.moved (u := U) (U := U.calling g mk a) (Vm.Alike.refl U.vm) qK, qD⟩, va_recv hK hP (ci := 0) (q0 := 0) rfl rfl, fun U hU hW => ⟨rfl, by rw [hU], by rw [hU]; exact hP, va_K.moved hW.alike hK, hD.weaken (fun _ _ _ _ => trivial)⟩⟩ rfl rfl hl.1 rfl (lv_room (Nat.le_of_ble_eq_true rfl)) dX0_putAside_7 ⟨Nat.le_of_ble_eq_true rfl, Nat.le_of_ble_eq_true rfl⟩) hS (fun q _ h => hFc q h) hFc (fun u_67 t H1 locs ht hvm hu_67 hB hz1 hk1 hS => ?_)
  obtain ⟨hP, hK1, hD1⟩ := hB
  rw [ht] at hP
  have hD := hD1.weaken (fun _ _ _ h => hFc _ h)
  generalize H1 = H at hP hS ⊢
  have hP : va_P (dC, dI) vwCl (rW ad cA u_67) H := hP
  have hD : va_D A (rW ad cA u_67) := hD
  refine lv_aload_n hx hb dX0_putAside_10 rfl (lv_at hl 1 rfl) ?_
  refine lv_iload_n hx hb dX0_putAside_11 rfl (lv_at hl 0 rfl) ?_
  have hFc := va_free (wc := (rW ad cA u_67)) hD hS hA [0, 1, 2, 3, 4, 5, 6] rfl
  refine va_callv (va_runV (As := [.int r_65]) (rest := []) ⟨hx, hb, hml, hown, hts⟩ (rc_want l dC dI ad cA _ u_67 r_65 _ rfl) (cwV 1 hts gX0_putAside_X0_want rfl rfl rfl (by decide +kernel) ⟨Nat.le_of_ble_eq_true rfl, Nat.le_of_ble_eq_true rfl⟩) ⟨fun a U g mk q => by obtain ⟨q0, q1, qP, qK, qD⟩ := q; exact ⟨q0, q1, qP, va_K.moved (u := U) (U := U.calling g mk a) (Vm.Alike.refl U.vm) qK, qD⟩, va_recv hK hP (ci := 0) (q0 := 0) rfl rfl, fun U hU hW => ⟨rfl, by rw [hU], by rw [hU]; exact hP, va_K.moved hW.alike hK, hD.weaken (fun _ _ _ _ => trivial)⟩⟩ rfl rfl hl.1 rfl (lv_room (Nat.le_of_ble_eq_true rfl)) dX0_putAside_12 ⟨Nat.le_of_ble_eq_true rfl, Nat.le_of_ble_eq_true rfl⟩) hS (fun q _ h => hFc q h) hFc (fun u_69 t H1 locs ht hvm hu_69 hB hz1 hk1 hS => ?_)
  obtain ⟨hP, hK1, hD1⟩ := hB
  rw [ht] at hP
  have hD := hD1.weaken (fun _ _ _ h => hFc _ h)
  generalize H1 = H at hP hS ⊢
  have hP : va_P (dC, dI) vwCl (rW ad cA u_69) H := hP
  have hD : va_D A (rW ad cA u_69) := hD
  have eT : u_69 = T := by subst hr_65 hu_67 hu_69; rw [← hf]; simp only [rf_putAside]
  exact W.vret hx hb hr (fun t ht hW => ⟨⟨u_69, rfl, eT, by rw [ht]; exact hP, va_K.moved hW.alike hK, hD⟩, hS.F ht⟩) hS.2.2 dX0_putAside_15
set_option maxHeartbeats 4000000 in
set_option maxRecDepth 100000 in
theorem rc_signal (l : Launch) (dC : Nat → ClassId) (dI : Nat → Nat → Nat) (ad : Nat → Nat) (cA : Nat → ClassId) (sz : Nat) (u : RS) (p1 : Int32) (hI : rInv u) (T : Int32 × RS) (hf : rf_signal u p1 = T) : Met l yX0_signal wsX0_signal ({ frames := 4, cells := 0, slots := 0, locals := 84 } : Room) (va_Pc [.ref (ad 0), .int p1] (fun U => U.heap.size = sz ∧ va_P (dC, dI) vwCl (rW ad cA u) U.heap ∧ va_K (dC, dI) vwCl (rT cA) U ∧ va_D (fun _ => True) (rW ad cA u))) (va_Qi (fun r u2 => r = T.1 ∧ u2 = T.2) (rAt dC dI (va_A (rW ad cA u) sz) ad cA) (va_A (rW ad cA u) sz)) 0 0 (va_A (rW ad cA u) sz) := by
  refine Met.ofW (cc := cX0_signal) (maxL := 3) (ret := (some .boolean)) (by decide) rfl ?_
  intro p e s m args below meth c s₁ B hml hv
  obtain ⟨rfl, hsz, hP, hK, hD0⟩ := hv
  have hx := B.exec
  have hb := B.bytes
  have hr := B.returns
  have hts := atoms_spec (ws := wsX0_signal) B.pre
  have hown : s.vm.findClass RX0 = some m.cls := findClass_of_methodNamed B.named
  have hlocks := B.notSynchronized
  have hin0 : ∀ w ∈ wsX00, w ∈ wsX0_signal := by decide +kernel
  have fl_extras := hts (.fieldLink RX0 26 "ProcessRoom" "extras" "[I") (by decide +kernel)
  subst hsz
  have hD := hD0.self (sz := s.heap.size)
  generalize hAe : va_A (rW ad cA u) s.heap.size = A at hD ⊢
  have hA : ∀ q : Nat, s.heap.size ≤ q → A q := fun q h => by rw [← hAe]; exact Or.inr h
  have hS : va_S A s.heap s.heap [] := va_S.rf
  have hl := lv_entry ([.ref (ad 0), .int p1]) (n := 3) (Nat.le_of_ble_eq_true rfl)
  rw [lg_entry_eq]
  generalize (lg_sl ([.ref (ad 0), .int p1]) ++ List.replicate (3 - (lg_sl ([.ref (ad 0), .int p1])).length) Slot.unset).toArray = ls at hl ⊢
  have hl : lv_has ls 3 [(0, .ref (ad 0)), (1, .int p1)] := hl
  refine lv_iload_n hx hb dX0_signal_0 rfl (lv_at hl 1 rfl) ?_
  refine va_calli (va_runS (As := [.int p1]) (rest := []) ⟨hx, hb, hml, hown, hts⟩ (rc_isSemaphore l p1 _ rfl) (va_cwS 1 hts gX0_signal_X0_isSemaphore rfl rfl rfl (by decide +kernel) ⟨Nat.le_of_ble_eq_true rfl, Nat.le_of_ble_eq_true rfl⟩) ⟨fun a U g mk q => ⟨q.1, trivial⟩, fun U hU hW => ⟨rfl, trivial⟩⟩ rfl rfl hl.1 rfl (lv_room (Nat.le_of_ble_eq_true rfl)) dX0_signal_1 ⟨Nat.le_of_ble_eq_true rfl, Nat.le_of_ble_eq_true rfl⟩) hS (fun _ _ h => h.elim) (fun _ h => h.elim) (fun r_70 u_ t H1 locs ht hvm hr_70 hB hz1 hk1 hS => ?_)
  have hP := hP.kept (fun k x hx => hk1 x.1 ((hP k x hx).lt) (fun h => h))
  generalize H1 = H at hP hS ⊢
  refine lv_if_ne (tgt := 9) hx hb dX0_signal_4 (by decide) (fun c_71 => ?_) (fun c_71 => ?_)
  · refine lv_aload_n hx hb dX0_signal_9 rfl (lv_at hl 0 rfl) ?_
    refine lv_bipush (v := 16) hx hb dX0_signal_10 (by decide) ?_
    refine lv_iload_n hx hb dX0_signal_12 rfl (lv_at hl 1 rfl) ?_
    refine lv_iadd hx hb dX0_signal_13 ?_
    refine lv_iconst (v := 0) hx hb dX0_signal_14 (by decide) ?_
    refine va_calli (va_runV (As := [.int (16 + p1), .int 0]) (rest := []) ⟨hx, hb, hml, hown, hts⟩ (rc_at l dC dI ad cA u (16 + p1) 0 _ rfl) (cwV 2 hts gX0_signal_X0_at rfl rfl rfl (by decide +kernel) ⟨Nat.le_of_ble_eq_true rfl, Nat.le_of_ble_eq_true rfl⟩) ⟨fun a U g mk q => by obtain ⟨q0, qP, qK⟩ := q; exact ⟨q0, qP, va_K.moved (u := U) (U := U.calling g mk a) (Vm.Alike.refl U.vm) qK⟩, va_recv hK hP (ci := 0) (q0 := 0) rfl rfl, fun U hU hW => ⟨rfl, by rw [hU]; exact hP, va_K.moved hW.alike hK⟩⟩ rfl rfl hl.1 rfl (lv_room (Nat.le_of_ble_eq_true rfl)) dX0_signal_15 ⟨Nat.le_of_ble_eq_true rfl, Nat.le_of_ble_eq_true rfl⟩) hS (fun _ _ h => h.elim) (fun _ h => h.elim) (fun r_72 u_ t H1 locs ht hvm hr_72 hB hz1 hk1 hS => ?_)
    have hP := hP.kept (fun k x hx => hk1 x.1 ((hP k x hx).lt) (fun h => h))
    generalize H1 = H at hP hS ⊢
    refine lv_istore_n (lv' := [(2, .int r_72), (0, .ref (ad 0)), (1, .int p1)]) hx hb dX0_signal_18 rfl hl (by decide) rfl (fun ls hl => ?_)
    refine lv_iload_n hx hb dX0_signal_19 rfl (lv_at hl 0 rfl) ?_
    refine lv_iconst (v := (-1)) hx hb dX0_signal_20 (by decide) ?_
    refine lv_icmp_ne (tgt := 37) hx hb dX0_signal_21 (by decide) (fun c_73 => ?_) (fun c_73 => ?_)
    · refine lv_aload_n hx hb dX0_signal_37 rfl (lv_at hl 1 rfl) ?_
      refine lv_iload_n hx hb dX0_signal_38 rfl (lv_at hl 0 rfl) ?_
      have hFc := va_free (wc := (rW ad cA u)) hD hS hA [0, 1, 2, 3, 4, 5, 6] rfl
      refine va_callv (va_runV (As := [.int r_72]) (rest := []) ⟨hx, hb, hml, hown, hts⟩ (rc_leave l dC dI ad cA _ u r_72 _ rfl) (cwV 1 hts gX0_signal_X0_leave rfl rfl rfl (by decide +kernel) ⟨Nat.le_of_ble_eq_true rfl, Nat.le_of_ble_eq_true rfl⟩) ⟨fun a U g mk q => by obtain ⟨q0, q1, qP, qK, qD⟩ := q; exact ⟨q0, q1, qP, va_K.moved (u := U) (U := U.calling g mk a) (Vm.Alike.refl U.vm) qK, qD⟩, va_recv hK hP (ci := 0) (q0 := 0) rfl rfl, fun U hU hW => ⟨rfl, by rw [hU], by rw [hU]; exact hP, va_K.moved hW.alike hK, hD.weaken (fun _ _ _ _ => trivial)⟩⟩ rfl rfl hl.1 rfl (lv_room (Nat.le_of_ble_eq_true rfl)) dX0_signal_39 ⟨Nat.le_of_ble_eq_true rfl, Nat.le_of_ble_eq_true rfl⟩) hS (fun q _ h => hFc q h) hFc (fun u_75 t H1 locs ht hvm hu_75 hB hz1 hk1 hS => ?_)
      obtain ⟨hP, hK1, hD1⟩ := hB
      rw [ht] at hP
      have hD := hD1.weaken (fun _ _ _ h => hFc _ h)
      generalize H1 = H at hP hS ⊢
      have hP : va_P (dC, dI) vwCl (rW ad cA u_75) H := hP
      have hD : va_D A (rW ad cA u_75) := hD
      refine lv_aload_n hx hb dX0_signal_42 rfl (lv_at hl 1 rfl) ?_
      refine lv_iload_n hx hb dX0_signal_43 rfl (lv_at hl 0 rfl) ?_
      have hFc := va_free (wc := (rW ad cA u_75)) hD hS hA [0, 1, 2, 3, 4, 5, 6] rfl
      refine va_callv (va_runV (As := [.int r_72]) (rest := []) ⟨hx, hb, hml, hown, hts⟩ (rc_wake l dC dI ad cA _ u_75 r_72 (ri_leave hu_75 hI) _ rfl) (cwV 1 hts gX0_signal_X0_wake rfl rfl rfl (by decide +kernel) ⟨Nat.le_of_ble_eq_true rfl, Nat.le_of_ble_eq_true rfl⟩) ⟨fun a U g mk q => by obtain ⟨q0, q1, qP, qK, qD⟩ := q; exact ⟨q0, q1, qP, va_K.moved (u := U) (U := U.calling g mk a) (Vm.Alike.refl U.vm) qK, qD⟩, va_recv hK hP (ci := 0) (q0 := 0) rfl rfl, fun U hU hW => ⟨rfl, by rw [hU], by rw [hU]; exact hP, va_K.moved hW.alike hK, hD.weaken (fun _ _ _ _ => trivial)⟩⟩ rfl rfl hl.1 rfl (lv_room (Nat.le_of_ble_eq_true rfl)) dX0_signal_44 ⟨Nat.le_of_ble_eq_true rfl, Nat.le_of_ble_eq_true rfl⟩) hS (fun q _ h => hFc q h) hFc (fun u_77 t H1 locs ht hvm hu_77 hB hz1 hk1 hS => ?_)
      obtain ⟨hP, hK1, hD1⟩ := hB
      rw [ht] at hP
      have hD := hD1.weaken (fun _ _ _ h => hFc _ h)
      generalize H1 = H at hP hS ⊢
      have hP : va_P (dC, dI) vwCl (rW ad cA u_77) H := hP
      have hD : va_D A (rW ad cA u_77) := hD
      refine lv_iconst (v := 1) hx hb dX0_signal_47 (by decide) ?_
      have eT : (1, u_77) = T := by subst hr_70 hr_72 hu_75 hu_77; rw [← hf]; simp only [rf_signal, if_neg c_71, if_neg c_73]
      exact W.zret (v := 1) hx hb hr (rfl) (fun t ht hW => ⟨⟨1, u_77, rfl, ⟨congrArg Prod.fst eT, congrArg Prod.snd eT⟩, by rw [ht]; exact hP, va_K.moved hW.alike hK, hD⟩, hS.F ht⟩) hS.2.2 dX0_signal_48
    · refine lv_aload_n hx hb dX0_signal_24 rfl (lv_at hl 1 rfl) ?_
      refine va_get (D := (dC, dI)) (ci := 0) (v := .ref (ad 5)) (C := RX0) (T := TX0) (N := 12) (fs := rF ad u) hx hb hts hin0 hown hK hP 0 rfl rfl 5 (by decide) fl_extras (fun _ h9 => h9) rfl dX0_signal_25 ?_
      refine lv_iload_n hx hb dX0_signal_28 rfl (lv_at hl 2 rfl) ?_
      refine lv_dup2_11 hx hb dX0_signal_29 rfl rfl ?_
      refine va_iald hx hb hK hP 5 4 rfl rfl (ri_isSemaphore hr_70 c_71) dX0_signal_30 ?_
      refine lv_iconst (v := 1) hx hb dX0_signal_31 (by decide) ?_
      refine lv_iadd hx hb dX0_signal_32 ?_
      refine va_iast hx hb hK hP hD hS 5 4 rfl rfl (ri_isSemaphore hr_70 c_71) dX0_signal_33 (fun H locs hP hD hS => ?_)
      rw [rw_extras] at hP hD
      obtain ⟨u_78, hu_78⟩ : ∃ w : RS, w = rs_extras u (upd (ra_extras u) p1.toNatClampNeg ((ra_extras u p1.toNatClampNeg) + 1)) := ⟨_, rfl⟩
      rw [← hu_78] at hP hD
      refine lv_goto (tgt := 47) hx hb dX0_signal_34 (by decide) ?_
      refine lv_iconst (v := 1) hx hb dX0_signal_47 (by decide) ?_
      have eT : (1, u_78) = T := by subst hr_70 hr_72 hu_78; rw [← hf]; simp only [rf_signal, if_neg c_71, if_pos c_73]
      exact W.zret (v := 1) hx hb hr (rfl) (fun t ht hW => ⟨⟨1, u_78, rfl, ⟨congrArg Prod.fst eT, congrArg Prod.snd eT⟩, by rw [ht]; exact hP, va_K.moved hW.alike hK, hD⟩, hS.F ht⟩) hS.2.2 dX0_signal_48
  · refine lv_iconst (v := 0) hx hb dX0_signal_7 (by decide) ?_
    have eT : (0, u) = T := by subst hr_70; rw [← hf]; simp only [rf_signal, if_pos c_71]
    exact W.zret (v := 0) hx hb hr (rfl) (fun t ht hW => ⟨⟨0, u, rfl, ⟨congrArg Prod.fst eT, congrArg Prod.snd eT⟩, by rw [ht]; exact hP, va_K.moved hW.alike hK, hD⟩, hS.F ht⟩) hS.2.2 dX0_signal_8
set_option maxHeartbeats 4000000 in
set_option maxRecDepth 100000 in
theorem rc_signalPosted (l : Launch) (dC : Nat → ClassId) (dI : Nat → Nat → Nat) (ad : Nat → Nat) (cA : Nat → ClassId) (sz : Nat) (u : RS)  (hI : rInv u) (T : RS) (hf : rf_signalPosted u = T) : Met l yX0_signalPosted wsX0_signalPosted ({ frames := 5, cells := 0, slots := 0, locals := 106 } : Room) (va_Pc [.ref (ad 0)] (fun U => U.heap.size = sz ∧ va_P (dC, dI) vwCl (rW ad cA u) U.heap ∧ va_K (dC, dI) vwCl (rT cA) U ∧ va_D (fun _ => True) (rW ad cA u))) (va_Qv (fun u2 => u2 = T) (rAt dC dI (va_A (rW ad cA u) sz) ad cA) (va_A (rW ad cA u) sz)) 0 0 (va_A (rW ad cA u) sz) := by
  refine Met.ofW (cc := cX0_signalPosted) (maxL := 2) (ret := none) (by decide) rfl ?_
  intro p e s m args below meth c s₁ B hml hv
  obtain ⟨rfl, hsz, hP, hK, hD0⟩ := hv
  have hx := B.exec
  have hb := B.bytes
  have hr := B.returns
  have hts := atoms_spec (ws := wsX0_signalPosted) B.pre
  have hown : s.vm.findClass RX0 = some m.cls := findClass_of_methodNamed B.named
  have hlocks := B.notSynchronized
  have hin0 : ∀ w ∈ wsX00, w ∈ wsX0_signalPosted := by decide +kernel
  have fl_postCount := hts (.fieldLink RX0 32 "ProcessRoom" "postCount" "I") (by decide +kernel)
  have fl_posts := hts (.fieldLink RX0 29 "ProcessRoom" "posts" "[I") (by decide +kernel)
  subst hsz
  have hD := hD0.self (sz := s.heap.size)
  generalize hAe : va_A (rW ad cA u) s.heap.size = A at hD ⊢
  have hA : ∀ q : Nat, s.heap.size ≤ q → A q := fun q h => by rw [← hAe]; exact Or.inr h
  have hS : va_S A s.heap s.heap [] := va_S.rf
  have hl := lv_entry ([.ref (ad 0)]) (n := 2) (Nat.le_of_ble_eq_true rfl)
  rw [lg_entry_eq]
  generalize (lg_sl ([.ref (ad 0)]) ++ List.replicate (2 - (lg_sl ([.ref (ad 0)])).length) Slot.unset).toArray = ls at hl ⊢
  have hl : lv_has ls 2 [(0, .ref (ad 0))] := hl
  refine lv_iconst (v := 0) hx hb dX0_signalPosted_0 (by decide) ?_
  refine lv_istore_n (lv' := [(1, .int 0), (0, .ref (ad 0))]) hx hb dX0_signalPosted_1 rfl hl (by decide) rfl (fun ls hl => ?_)
  refine k_nameQ (fun Q hQ => ?_)
  have key : ∀ (n : Nat) (u2 : RS) (x1 : Int32) (H : Heap) (locs : List Loc) (ls : Array Slot), (rInv u2 ∧ ∃ j : Nat, x1 = nI j ∧ j + n = 41 ∧ j ≤ 40) → rl_signalPosted  n u2 x1 = T → va_P (dC, dI) vwCl (rW ad cA u2) H → va_D A (rW ad cA u2) → va_S A s.heap H locs → lv_has ls 2 [(0, .ref (ad 0)), (1, .int x1)] → W p l e (headSpec wsX0_signalPosted ({ frames := 5, cells := 0, slots := 0, locals := 106 } : Room)).room s m ([.ref (ad 0)] : List Value).toArray below meth c H locs 0 0 Q (F0 m 2 ls []) := by
    intro n
    induction n with
    | zero =>
      intro u2 x1 H locs ls hinv
      exact absurd hinv (by rintro ⟨-, j, -, h1, h2⟩; omega)
    | succ n ih =>
      intro u2 x1 H locs ls hinv hf2 hP hD hS hl
      obtain ⟨hI2, j, hj, hjn, hjl⟩ := hinv
      refine lv_iload_n hx hb dX0_signalPosted_2 rfl (lv_at hl 1 rfl) ?_
      refine lv_aload_n hx hb dX0_signalPosted_3 rfl (lv_at hl 0 rfl) ?_
      refine va_get (D := (dC, dI)) (ci := 0) (v := .int (ra_postCount u2)) (C := RX0) (T := TX0) (N := 12) (fs := rF ad u2) hx hb hts hin0 hown hK hP 0 rfl rfl 7 (by decide) fl_postCount (fun _ h9 => h9) rfl dX0_signalPosted_4 ?_
      refine lv_icmp_ge (tgt := 33) hx hb dX0_signalPosted_7 (by decide) (fun c_79 => ?_) (fun c_79 => ?_)
      · refine lv_aload_n hx hb dX0_signalPosted_33 rfl (lv_at hl 0 rfl) ?_
        refine lv_iconst (v := 0) hx hb dX0_signalPosted_34 (by decide) ?_
        refine va_put (D := (dC, dI)) (ci := 0) (v := .int 0) (ty := .int) (C := RX0) (T := TX0) (N := 12) (fs := rF ad u2) hx hb hts hin0 tyX0 tyX0_ok nmX0 hown hK hP hD hS 0 rfl rfl 7 (by decide) fl_postCount (fun _ h9 => h9) rfl (by decide +kernel) rfl rfl (Nat.le_of_ble_eq_true rfl) dX0_signalPosted_35 (fun H locs hP hD hS => ?_)
        rw [rw_postCount] at hP hD
        obtain ⟨u_80, hu_80⟩ : ∃ w : RS, w = rs_postCount u2 0 := ⟨_, rfl⟩
        rw [← hu_80] at hP hD
        subst hQ
        have eT : u_80 = T := by subst hu_80; rw [← hf2]; simp only [rl_signalPosted, if_pos c_79]
        exact W.vret hx hb hr (fun t ht hW => ⟨⟨u_80, rfl, eT, by rw [ht]; exact hP, va_K.moved hW.alike hK, hD⟩, hS.F ht⟩) hS.2.2 dX0_signalPosted_38
      · refine lv_iload_n hx hb dX0_signalPosted_10 rfl (lv_at hl 1 rfl) ?_
        refine lv_bipush (v := 40) hx hb dX0_signalPosted_11 (by decide) ?_
        refine lv_icmp_ge (tgt := 33) hx hb dX0_signalPosted_13 (by decide) (fun c_81 => ?_) (fun c_81 => ?_)
        · refine lv_aload_n hx hb dX0_signalPosted_33 rfl (lv_at hl 0 rfl) ?_
          refine lv_iconst (v := 0) hx hb dX0_signalPosted_34 (by decide) ?_
          refine va_put (D := (dC, dI)) (ci := 0) (v := .int 0) (ty := .int) (C := RX0) (T := TX0) (N := 12) (fs := rF ad u2) hx hb hts hin0 tyX0 tyX0_ok nmX0 hown hK hP hD hS 0 rfl rfl 7 (by decide) fl_postCount (fun _ h9 => h9) rfl (by decide +kernel) rfl rfl (Nat.le_of_ble_eq_true rfl) dX0_signalPosted_35 (fun H locs hP hD hS => ?_)
          rw [rw_postCount] at hP hD
          obtain ⟨u_82, hu_82⟩ : ∃ w : RS, w = rs_postCount u2 0 := ⟨_, rfl⟩
          rw [← hu_82] at hP hD
          subst hQ
          have eT : u_82 = T := by subst hu_82; rw [← hf2]; simp only [rl_signalPosted, if_neg c_79, if_pos c_81]
          exact W.vret hx hb hr (fun t ht hW => ⟨⟨u_82, rfl, eT, by rw [ht]; exact hP, va_K.moved hW.alike hK, hD⟩, hS.F ht⟩) hS.2.2 dX0_signalPosted_38
        · refine lv_aload_n hx hb dX0_signalPosted_16 rfl (lv_at hl 0 rfl) ?_
          refine lv_aload_n hx hb dX0_signalPosted_17 rfl (lv_at hl 0 rfl) ?_
          refine va_get (D := (dC, dI)) (ci := 0) (v := .ref (ad 6)) (C := RX0) (T := TX0) (N := 12) (fs := rF ad u2) hx hb hts hin0 hown hK hP 0 rfl rfl 6 (by decide) fl_posts (fun _ h9 => h9) rfl dX0_signalPosted_18 ?_
          refine lv_iload_n hx hb dX0_signalPosted_21 rfl (lv_at hl 1 rfl) ?_
          refine va_iald hx hb hK hP 6 5 rfl rfl (k_in hj (k_lt 40 hj (by omega) rfl c_81) (by omega)) dX0_signalPosted_22 ?_
          have hFc := va_free (wc := (rW ad cA u2)) hD hS hA [0, 1, 2, 3, 4, 5, 6] rfl
          refine va_calli (va_runV (As := [.int (ra_posts u2 x1.toNatClampNeg)]) (rest := []) ⟨hx, hb, hml, hown, hts⟩ (rc_signal l dC dI ad cA _ u2 (ra_posts u2 x1.toNatClampNeg) hI2 _ rfl) (cwV 1 hts gX0_signalPosted_X0_signal rfl rfl rfl (by decide +kernel) ⟨Nat.le_of_ble_eq_true rfl, Nat.le_of_ble_eq_true rfl⟩) ⟨fun a U g mk q => by obtain ⟨q0, q1, qP, qK, qD⟩ := q; exact ⟨q0, q1, qP, va_K.moved (u := U) (U := U.calling g mk a) (Vm.Alike.refl U.vm) qK, qD⟩, va_recv hK hP (ci := 0) (q0 := 0) rfl rfl, fun U hU hW => ⟨rfl, by rw [hU], by rw [hU]; exact hP, va_K.moved hW.alike hK, hD.weaken (fun _ _ _ _ => trivial)⟩⟩ rfl rfl hl.1 rfl (lv_room (Nat.le_of_ble_eq_true rfl)) dX0_signalPosted_23 ⟨Nat.le_of_ble_eq_true rfl, Nat.le_of_ble_eq_true rfl⟩) hS (fun q _ h => hFc q h) hFc (fun r_83 u_84 t H1 locs ht hvm hwu_84 hB hz1 hk1 hS => ?_)
          obtain ⟨hr_83, hu_84⟩ := hwu_84
          obtain ⟨hP, hK1, hD1⟩ := hB
          rw [ht] at hP
          have hD := hD1.weaken (fun _ _ _ h => hFc _ h)
          generalize H1 = H at hP hS ⊢
          have hP : va_P (dC, dI) vwCl (rW ad cA u_84) H := hP
          have hD : va_D A (rW ad cA u_84) := hD
          refine lv_pop hx hb dX0_signalPosted_26 rfl ?_
          refine lv_iinc (v := x1 + 1) (lv' := [(1, .int (x1 + 1)), (0, .ref (ad 0))]) hx hb dX0_signalPosted_27 hl (k := 1) rfl rfl (by decide) rfl (fun ls hl => ?_)
          refine lv_goto (tgt := 2) hx hb dX0_signalPosted_30 (by decide) ?_
          have hj2 := (k_lt 40 hj (by omega) rfl c_81)
          exact ih u_84 (x1 + 1) _ _ _ (⟨(ri_signal hu_84 hI2), j + 1, by rw [hj, nI_1], by omega, by omega⟩) (by subst hr_83 hu_84; rw [← hf2]; simp only [rl_signalPosted, if_neg c_79, if_neg c_81]) hP hD hS (lv_sub hl [1, 0] rfl)
  exact key 41 u 0 _ _ _ (⟨hI, 0, nI_0.symm, rfl, by omega⟩) (by rw [← hf]; simp only [rf_signalPosted]) hP hD hS (lv_sub hl [1, 0] rfl)
set_option maxHeartbeats 4000000 in
set_option maxRecDepth 100000 in
theorem rc_change (l : Launch) (dC : Nat → ClassId) (dI : Nat → Nat → Nat) (ad : Nat → Nat) (cA : Nat → ClassId) (sz : Nat) (u : RS)  (T : RS) (hf : rf_change u = T) : Met l yX0_change wsX0_change ({ frames := 3, cells := 0, slots := 0, locals := 62 } : Room) (va_Pc [.ref (ad 0)] (fun U => U.heap.size = sz ∧ va_P (dC, dI) vwCl (rW ad cA u) U.heap ∧ va_K (dC, dI) vwCl (rT cA) U ∧ va_D (fun _ => True) (rW ad cA u))) (va_Qv (fun u2 => u2 = T) (rAt dC dI (va_A (rW ad cA u) sz) ad cA) (va_A (rW ad cA u) sz)) 0 0 (va_A (rW ad cA u) sz) := by
  refine Met.ofW (cc := cX0_change) (maxL := 1) (ret := none) (by decide) rfl ?_
  intro p e s m args below meth c s₁ B hml hv
  obtain ⟨rfl, hsz, hP, hK, hD0⟩ := hv
  have hx := B.exec
  have hb := B.bytes
  have hr := B.returns
  have hts := atoms_spec (ws := wsX0_change) B.pre
  have hown : s.vm.findClass RX0 = some m.cls := findClass_of_methodNamed B.named
  have hlocks := B.notSynchronized
  have hin0 : ∀ w ∈ wsX00, w ∈ wsX0_change := by decide +kernel
  have fl_active := hts (.fieldLink RX0 35 "ProcessRoom" "active" "I") (by decide +kernel)
  have fl_places := hts (.fieldLink RX0 13 "ProcessRoom" "places" "[I") (by decide +kernel)
  have fl_here := hts (.fieldLink RX0 38 "ProcessRoom" "here" "I") (by decide +kernel)
  have fl_wantedOne := hts (.fieldLink RX0 45 "ProcessRoom" "wantedOne" "I") (by decide +kernel)
  have fl_wanted := hts (.fieldLink RX0 41 "ProcessRoom" "wanted" "Z") (by decide +kernel)
  subst hsz
  have hD := hD0.self (sz := s.heap.size)
  generalize hAe : va_A (rW ad cA u) s.heap.size = A at hD ⊢
  have hA : ∀ q : Nat, s.heap.size ≤ q → A q := fun q h => by rw [← hAe]; exact Or.inr h
  have hS : va_S A s.heap s.heap [] := va_S.rf
  have hl := lv_entry ([.ref (ad 0)]) (n := 1) (Nat.le_of_ble_eq_true rfl)
  rw [lg_entry_eq]
  generalize (lg_sl ([.ref (ad 0)]) ++ List.replicate (1 - (lg_sl ([.ref (ad 0)])).length) Slot.unset).toArray = ls at hl ⊢
  have hl : lv_has ls 1 [(0, .ref (ad 0))] := hl
  refine lv_aload_n hx hb dX0_change_0 rfl (lv_at hl 0 rfl) ?_
  refine va_get (D := (dC, dI)) (ci := 0) (v := .int (ra_active u)) (C := RX0) (T := TX0) (N := 12) (fs := rF ad u) hx hb hts hin0 hown hK hP 0 rfl rfl 8 (by decide) fl_active (fun _ h9 => h9) rfl dX0_change_1 ?_
  refine va_calli (va_runS (As := [.int (ra_active u)]) (rest := []) ⟨hx, hb, hml, hown, hts⟩ (rc_isProcess l (ra_active u) _ rfl) (va_cwS 1 hts gX0_change_X0_isProcess rfl rfl rfl (by decide +kernel) ⟨Nat.le_of_ble_eq_true rfl, Nat.le_of_ble_eq_true rfl⟩) ⟨fun a U g mk q => ⟨q.1, trivial⟩, fun U hU hW => ⟨rfl, trivial⟩⟩ rfl rfl hl.1 rfl (lv_room (Nat.le_of_ble_eq_true rfl)) dX0_change_4 ⟨Nat.le_of_ble_eq_true rfl, Nat.le_of_ble_eq_true rfl⟩) hS (fun _ _ h => h.elim) (fun _ h => h.elim) (fun r_85 u_ t H1 locs ht hvm hr_85 hB hz1 hk1 hS => ?_)
  have hP := hP.kept (fun k x hx => hk1 x.1 ((hP k x hx).lt) (fun h => h))
  generalize H1 = H at hP hS ⊢
  refine lv_if_eq (tgt := 23) hx hb dX0_change_7 (by decide) (fun c_86 => ?_) (fun c_86 => ?_)
  · refine lv_aload_n hx hb dX0_change_23 rfl (lv_at hl 0 rfl) ?_
    refine lv_aload_n hx hb dX0_change_24 rfl (lv_at hl 0 rfl) ?_
    refine va_get (D := (dC, dI)) (ci := 0) (v := .int (ra_wantedOne u)) (C := RX0) (T := TX0) (N := 12) (fs := rF ad u) hx hb hts hin0 hown hK hP 0 rfl rfl 11 (by decide) fl_wantedOne (fun _ h9 => h9) rfl dX0_change_25 ?_
    refine va_put (D := (dC, dI)) (ci := 0) (v := .int (ra_wantedOne u)) (ty := .int) (C := RX0) (T := TX0) (N := 12) (fs := rF ad u) hx hb hts hin0 tyX0 tyX0_ok nmX0 hown hK hP hD hS 0 rfl rfl 8 (by decide) fl_active (fun _ h9 => h9) rfl (by decide +kernel) rfl rfl (Nat.le_of_ble_eq_true rfl) dX0_change_28 (fun H locs hP hD hS => ?_)
    rw [rw_active] at hP hD
    obtain ⟨u_87, hu_87⟩ : ∃ w : RS, w = rs_active u (ra_wantedOne u) := ⟨_, rfl⟩
    rw [← hu_87] at hP hD
    refine lv_aload_n hx hb dX0_change_31 rfl (lv_at hl 0 rfl) ?_
    refine lv_aload_n hx hb dX0_change_32 rfl (lv_at hl 0 rfl) ?_
    refine lv_aload_n hx hb dX0_change_33 rfl (lv_at hl 0 rfl) ?_
    refine va_get (D := (dC, dI)) (ci := 0) (v := .int (ra_wantedOne u)) (C := RX0) (T := TX0) (N := 12) (fs := rF ad u_87) hx hb hts hin0 hown hK hP 0 rfl rfl 8 (by decide) fl_active (fun _ h9 => h9) (congrArg (fun z => some (Value.int z)) (show ra_active u_87 = ra_wantedOne u from by rw [hu_87, rq_active_active])) dX0_change_34 ?_
    refine va_calli (va_runV (As := [.int (ra_wantedOne u)]) (rest := [.ref (ad 0)]) ⟨hx, hb, hml, hown, hts⟩ (rc_place l dC dI ad cA u_87 (ra_wantedOne u) _ rfl) (cwV 1 hts gX0_change_X0_place rfl rfl rfl (by decide +kernel) ⟨Nat.le_of_ble_eq_true rfl, Nat.le_of_ble_eq_true rfl⟩) ⟨fun a U g mk q => by obtain ⟨q0, qP, qK⟩ := q; exact ⟨q0, qP, va_K.moved (u := U) (U := U.calling g mk a) (Vm.Alike.refl U.vm) qK⟩, va_recv hK hP (ci := 0) (q0 := 0) rfl rfl, fun U hU hW => ⟨rfl, by rw [hU]; exact hP, va_K.moved hW.alike hK⟩⟩ rfl rfl hl.1 rfl (lv_room (Nat.le_of_ble_eq_true rfl)) dX0_change_37 ⟨Nat.le_of_ble_eq_true rfl, Nat.le_of_ble_eq_true rfl⟩) hS (fun _ _ h => h.elim) (fun _ h => h.elim) (fun r_88 u_ t H1 locs ht hvm hr_88 hB hz1 hk1 hS => ?_)
    have hP := hP.kept (fun k x hx => hk1 x.1 ((hP k x hx).lt) (fun h => h))
    generalize H1 = H at hP hS ⊢
    refine va_put (D := (dC, dI)) (ci := 0) (v := .int r_88) (ty := .int) (C := RX0) (T := TX0) (N := 12) (fs := rF ad u_87) hx hb hts hin0 tyX0 tyX0_ok nmX0 hown hK hP hD hS 0 rfl rfl 9 (by decide) fl_here (fun _ h9 => h9) rfl (by decide +kernel) rfl rfl (Nat.le_of_ble_eq_true rfl) dX0_change_40 (fun H locs hP hD hS => ?_)
    rw [rw_here] at hP hD
    obtain ⟨u_89, hu_89⟩ : ∃ w : RS, w = rs_here u_87 r_88 := ⟨_, rfl⟩
    rw [← hu_89] at hP hD
    refine lv_aload_n hx hb dX0_change_43 rfl (lv_at hl 0 rfl) ?_
    refine lv_iconst (v := 0) hx hb dX0_change_44 (by decide) ?_
    refine va_put (D := (dC, dI)) (ci := 0) (v := .int 0) (ty := .boolean) (C := RX0) (T := TX0) (N := 12) (fs := rF ad u_89) hx hb hts hin0 tyX0 tyX0_ok nmX0 hown hK hP hD hS 0 rfl rfl 10 (by decide) fl_wanted (fun _ h9 => h9) rfl (by decide +kernel) rfl rfl (Nat.le_of_ble_eq_true rfl) dX0_change_45 (fun H locs hP hD hS => ?_)
    rw [rw_wanted] at hP hD
    obtain ⟨u_90, hu_90⟩ : ∃ w : RS, w = rs_wanted u_89 0 := ⟨_, rfl⟩
    rw [← hu_90] at hP hD
    refine lv_aload_n hx hb dX0_change_48 rfl (lv_at hl 0 rfl) ?_
    refine lv_iconst (v := (-1)) hx hb dX0_change_49 (by decide) ?_
    refine va_put (D := (dC, dI)) (ci := 0) (v := .int (-1)) (ty := .int) (C := RX0) (T := TX0) (N := 12) (fs := rF ad u_90) hx hb hts hin0 tyX0 tyX0_ok nmX0 hown hK hP hD hS 0 rfl rfl 11 (by decide) fl_wantedOne (fun _ h9 => h9) rfl (by decide +kernel) rfl rfl (Nat.le_of_ble_eq_true rfl) dX0_change_50 (fun H locs hP hD hS => ?_)
    rw [rw_wantedOne] at hP hD
    obtain ⟨u_91, hu_91⟩ : ∃ w : RS, w = rs_wantedOne u_90 (-1) := ⟨_, rfl⟩
    rw [← hu_91] at hP hD
    have eT : u_91 = T := by subst hr_85 hu_87 hr_88 hu_89 hu_90 hu_91; rw [← hf]; simp only [rf_change, if_pos c_86]
    exact W.vret hx hb hr (fun t ht hW => ⟨⟨u_91, rfl, eT, by rw [ht]; exact hP, va_K.moved hW.alike hK, hD⟩, hS.F ht⟩) hS.2.2 dX0_change_53
  · refine lv_aload_n hx hb dX0_change_10 rfl (lv_at hl 0 rfl) ?_
    refine va_get (D := (dC, dI)) (ci := 0) (v := .ref (ad 2)) (C := RX0) (T := TX0) (N := 12) (fs := rF ad u) hx hb hts hin0 hown hK hP 0 rfl rfl 1 (by decide) fl_places (fun _ h9 => h9) rfl dX0_change_11 ?_
    refine lv_aload_n hx hb dX0_change_14 rfl (lv_at hl 0 rfl) ?_
    refine va_get (D := (dC, dI)) (ci := 0) (v := .int (ra_active u)) (C := RX0) (T := TX0) (N := 12) (fs := rF ad u) hx hb hts hin0 hown hK hP 0 rfl rfl 8 (by decide) fl_active (fun _ h9 => h9) rfl dX0_change_15 ?_
    refine lv_aload_n hx hb dX0_change_18 rfl (lv_at hl 0 rfl) ?_
    refine va_get (D := (dC, dI)) (ci := 0) (v := .int (ra_here u)) (C := RX0) (T := TX0) (N := 12) (fs := rF ad u) hx hb hts hin0 hown hK hP 0 rfl rfl 9 (by decide) fl_here (fun _ h9 => h9) rfl dX0_change_19 ?_
    refine va_iast hx hb hK hP hD hS 2 1 rfl rfl (ri_isProcess hr_85 c_86) dX0_change_22 (fun H locs hP hD hS => ?_)
    rw [rw_places] at hP hD
    obtain ⟨u_92, hu_92⟩ : ∃ w : RS, w = rs_places u (upd (ra_places u) (ra_active u).toNatClampNeg (ra_here u)) := ⟨_, rfl⟩
    rw [← hu_92] at hP hD
    refine lv_aload_n hx hb dX0_change_23 rfl (lv_at hl 0 rfl) ?_
    refine lv_aload_n hx hb dX0_change_24 rfl (lv_at hl 0 rfl) ?_
    refine va_get (D := (dC, dI)) (ci := 0) (v := .int (ra_wantedOne u)) (C := RX0) (T := TX0) (N := 12) (fs := rF ad u_92) hx hb hts hin0 hown hK hP 0 rfl rfl 11 (by decide) fl_wantedOne (fun _ h9 => h9) (congrArg (fun z => some (Value.int z)) (show ra_wantedOne u_92 = ra_wantedOne u from by rw [hu_92, rq_wantedOne_places])) dX0_change_25 ?_
    refine va_put (D := (dC, dI)) (ci := 0) (v := .int (ra_wantedOne u)) (ty := .int) (C := RX0) (T := TX0) (N := 12) (fs := rF ad u_92) hx hb hts hin0 tyX0 tyX0_ok nmX0 hown hK hP hD hS 0 rfl rfl 8 (by decide) fl_active (fun _ h9 => h9) rfl (by decide +kernel) rfl rfl (Nat.le_of_ble_eq_true rfl) dX0_change_28 (fun H locs hP hD hS => ?_)
    rw [rw_active] at hP hD
    obtain ⟨u_93, hu_93⟩ : ∃ w : RS, w = rs_active u_92 (ra_wantedOne u) := ⟨_, rfl⟩
    rw [← hu_93] at hP hD
    refine lv_aload_n hx hb dX0_change_31 rfl (lv_at hl 0 rfl) ?_
    refine lv_aload_n hx hb dX0_change_32 rfl (lv_at hl 0 rfl) ?_
    refine lv_aload_n hx hb dX0_change_33 rfl (lv_at hl 0 rfl) ?_
    refine va_get (D := (dC, dI)) (ci := 0) (v := .int (ra_wantedOne u)) (C := RX0) (T := TX0) (N := 12) (fs := rF ad u_93) hx hb hts hin0 hown hK hP 0 rfl rfl 8 (by decide) fl_active (fun _ h9 => h9) (congrArg (fun z => some (Value.int z)) (show ra_active u_93 = ra_wantedOne u from by rw [hu_93, rq_active_active])) dX0_change_34 ?_
    refine va_calli (va_runV (As := [.int (ra_wantedOne u)]) (rest := [.ref (ad 0)]) ⟨hx, hb, hml, hown, hts⟩ (rc_place l dC dI ad cA u_93 (ra_wantedOne u) _ rfl) (cwV 1 hts gX0_change_X0_place rfl rfl rfl (by decide +kernel) ⟨Nat.le_of_ble_eq_true rfl, Nat.le_of_ble_eq_true rfl⟩) ⟨fun a U g mk q => by obtain ⟨q0, qP, qK⟩ := q; exact ⟨q0, qP, va_K.moved (u := U) (U := U.calling g mk a) (Vm.Alike.refl U.vm) qK⟩, va_recv hK hP (ci := 0) (q0 := 0) rfl rfl, fun U hU hW => ⟨rfl, by rw [hU]; exact hP, va_K.moved hW.alike hK⟩⟩ rfl rfl hl.1 rfl (lv_room (Nat.le_of_ble_eq_true rfl)) dX0_change_37 ⟨Nat.le_of_ble_eq_true rfl, Nat.le_of_ble_eq_true rfl⟩) hS (fun _ _ h => h.elim) (fun _ h => h.elim) (fun r_94 u_ t H1 locs ht hvm hr_94 hB hz1 hk1 hS => ?_)
    have hP := hP.kept (fun k x hx => hk1 x.1 ((hP k x hx).lt) (fun h => h))
    generalize H1 = H at hP hS ⊢
    refine va_put (D := (dC, dI)) (ci := 0) (v := .int r_94) (ty := .int) (C := RX0) (T := TX0) (N := 12) (fs := rF ad u_93) hx hb hts hin0 tyX0 tyX0_ok nmX0 hown hK hP hD hS 0 rfl rfl 9 (by decide) fl_here (fun _ h9 => h9) rfl (by decide +kernel) rfl rfl (Nat.le_of_ble_eq_true rfl) dX0_change_40 (fun H locs hP hD hS => ?_)
    rw [rw_here] at hP hD
    obtain ⟨u_95, hu_95⟩ : ∃ w : RS, w = rs_here u_93 r_94 := ⟨_, rfl⟩
    rw [← hu_95] at hP hD
    refine lv_aload_n hx hb dX0_change_43 rfl (lv_at hl 0 rfl) ?_
    refine lv_iconst (v := 0) hx hb dX0_change_44 (by decide) ?_
    refine va_put (D := (dC, dI)) (ci := 0) (v := .int 0) (ty := .boolean) (C := RX0) (T := TX0) (N := 12) (fs := rF ad u_95) hx hb hts hin0 tyX0 tyX0_ok nmX0 hown hK hP hD hS 0 rfl rfl 10 (by decide) fl_wanted (fun _ h9 => h9) rfl (by decide +kernel) rfl rfl (Nat.le_of_ble_eq_true rfl) dX0_change_45 (fun H locs hP hD hS => ?_)
    rw [rw_wanted] at hP hD
    obtain ⟨u_96, hu_96⟩ : ∃ w : RS, w = rs_wanted u_95 0 := ⟨_, rfl⟩
    rw [← hu_96] at hP hD
    refine lv_aload_n hx hb dX0_change_48 rfl (lv_at hl 0 rfl) ?_
    refine lv_iconst (v := (-1)) hx hb dX0_change_49 (by decide) ?_
    refine va_put (D := (dC, dI)) (ci := 0) (v := .int (-1)) (ty := .int) (C := RX0) (T := TX0) (N := 12) (fs := rF ad u_96) hx hb hts hin0 tyX0 tyX0_ok nmX0 hown hK hP hD hS 0 rfl rfl 11 (by decide) fl_wantedOne (fun _ h9 => h9) rfl (by decide +kernel) rfl rfl (Nat.le_of_ble_eq_true rfl) dX0_change_50 (fun H locs hP hD hS => ?_)
    rw [rw_wantedOne] at hP hD
    obtain ⟨u_97, hu_97⟩ : ∃ w : RS, w = rs_wantedOne u_96 (-1) := ⟨_, rfl⟩
    rw [← hu_97] at hP hD
    have eT : u_97 = T := by subst hr_85 hu_92 hu_93 hr_94 hu_95 hu_96 hu_97; rw [← hf]; simp only [rf_change, if_neg c_86]
    exact W.vret hx hb hr (fun t ht hW => ⟨⟨u_97, rfl, eT, by rw [ht]; exact hP, va_K.moved hW.alike hK, hD⟩, hS.F ht⟩) hS.2.2 dX0_change_53
