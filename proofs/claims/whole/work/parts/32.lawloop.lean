theorem lw_room4 {L k : Nat} {x : Int32} (hL : L ≤ 2048) (hk : k ≤ L + 3) (e : x = nI k) (c : ¬ Int32.ofNat L - 4 < x) : k + 4 ≤ L := by
  have h1 : (nI L - nI 4).toInt = (L : Int) - 4 := pk_sub_toInt (by omega) (by omega)
  rw [Int32.lt_iff_toInt_lt, e, nI_toInt (by omega)] at c
  have h2 : (Int32.ofNat L - 4).toInt = (L : Int) - 4 := h1
  rw [h2] at c
  omega
theorem lw_in {L k i : Nat} {x d : Int32} (hL : L ≤ 2048) (e : x = nI k) (hd : d = nI i) (h : k + i < L) : vp_in (x + d) L := by
  rw [e, hd, nI_add]
  exact vp_in_nI h (by omega)
set_option maxHeartbeats 4000000 in
set_option maxRecDepth 100000 in
/-- THE LAW'S LOOP: at its head class and reference hold the same room -/
theorem law_loop {p : Program} {l : Launch} {e : Env} {s : State} {m : MethodId} {below : List Frame} {meth : Method} {c : Code} {dC : Nat → ClassId} {dI : Nat → Nat → Nat} {b L : Nat} {xs : Nat → Int32} (hL : L ≤ 2048) (C0 : lw_At p s m meth c b L xs) {ad bd : Nat → Nat} {cA cB : Nat → ClassId} (hK : va_K (dC, dI) vwCl (rT cA ++ mT cB) s) :
    ∀ (n k t : Nat) (x3 : Int32), x3 = nI k → k ≤ L + 3 → L + 4 ≤ k + 4 * n → t + 64 * n ≤ 100000 → ∀ (u : RS) (v : MS), sSim t u v → ∀ (H : Heap) (locs : List Loc), va_P (dC, dI) vwCl (rW ad cA u ++ mW bd cB v) H → va_D (fun q : Nat => s.heap.size ≤ q) (rW ad cA u ++ mW bd cB v) → va_S (fun q : Nat => s.heap.size ≤ q) s.heap H locs → ∀ (ls : Array Slot), lv_has ls 4 [(0, .ref b), (1, .ref (ad 0)), (2, .ref (bd 0)), (3, .int x3)] → W p l e room_1 s m #[Value.ref b] below meth c H locs 15 425 (lw_Z below #[Value.ref b] s) (F0 m 18 ls []) := by
  intro n
  induction n with
  | zero =>
    intro k t x3 e h1 h2
    exact absurd h2 (by omega)
  | succ n ih =>
    intro k t x3 ex3 hk hkn htn u v hR H locs hP hD hS ls hl
    obtain ⟨hx, hb, hr, hml, hown, hts, hX, hbl, hlocks, hgv⟩ := id C0
    have hbA : ¬ (fun q : Nat => s.heap.size ≤ q) b := Nat.not_le.mpr hbl
    have kk : ∀ (u : RS) (v : MS) (H : Heap) (locs : List Loc), sSim (t + 64) u v → k + 4 ≤ L → va_P (dC, dI) vwCl (rW ad cA u ++ mW bd cB v) H → va_D (fun q : Nat => s.heap.size ≤ q) (rW ad cA u ++ mW bd cB v) → va_S (fun q : Nat => s.heap.size ≤ q) s.heap H locs → W p l e room_1 s m #[Value.ref b] below meth c H locs 15 425 (lw_Z below #[Value.ref b] s) (F0 m 602 ls []) := by
      intro u v H locs hR h4 hP hD hS
      refine lv_iinc (v := x3 + 4) (lv' := [(3, .int (x3 + 4)), (0, .ref b), (1, .ref (ad 0)), (2, .ref (bd 0))]) hx hb dL_law_602 hl (k := 3) rfl rfl (by decide) rfl (fun ls hl => ?_)
      refine lv_goto (tgt := 18) hx hb dL_law_605 (by decide) ?_
      exact ih (k + 4) (t + 64) (x3 + 4) (by rw [ex3, show (4 : Int32) = nI 4 from rfl, nI_add]) (by omega) (by omega) (by omega) u v hR H locs hP hD hS ls (lv_sub hl [1, 2, 3, 0] rfl)
    refine lv_iload_n hx hb dL_law_18 rfl (lv_at hl 3 rfl) ?_
    refine lv_aload_n hx hb dL_law_19 rfl (lv_at hl 0 rfl) ?_
    refine va_slen hx hb hX hbl hbA hS dL_law_20 ?_
    refine lv_iconst (v := 4) hx hb dL_law_21 (by decide) ?_
    refine lv_isub hx hb dL_law_22 ?_
    refine lv_icmp_gt (tgt := 608) hx hb dL_law_23 (by decide) (fun c_1 => ?_) (fun c_1 => ?_)
    · refine lv_iconst (v := 1) hx hb dL_law_608 (by decide) ?_
      refine va_forget (fun q hq => hS.2.2 q hq) ?_
      exact lw_ret hx hb hr hlocks dL_law_609
    · have h4 := lw_room4 hL hk ex3 c_1
      have hj0 : vp_in x3 L := by rw [ex3]; exact vp_in_nI (by omega) (by omega)
      have hj1 : vp_in (x3 + 1) L := lw_in hL ex3 (show (1 : Int32) = nI 1 from rfl) (by omega)
      have hj2 : vp_in (x3 + 2) L := lw_in hL ex3 (show (2 : Int32) = nI 2 from rfl) (by omega)
      have hj3 : vp_in (x3 + 3) L := lw_in hL ex3 (show (3 : Int32) = nI 3 from rfl) (by omega)
      have ht : t < 100000 := by omega
      have kk2 := fun (u : RS) (v : MS) (H : Heap) (locs : List Loc) (hR : sSim (t + 64) u v) => kk u v H locs hR h4
      refine lv_aload_n hx hb dL_law_26 rfl (lv_at hl 0 rfl) ?_
      refine lv_iload_n hx hb dL_law_27 rfl (lv_at hl 3 rfl) ?_
      refine va_sld hx hb hX hbl hbA hS hj0 dL_law_28 ?_
      refine lv_bipush (v := 31) hx hb dL_law_29 (by decide) ?_
      refine lv_iand hx hb dL_law_31 ?_
      obtain ⟨j, hj, ej⟩ := pk_andE (xs x3.toNatClampNeg) (m := 31) 5 (by decide)
      rw [ej]
      rcases Nat.lt_or_ge j 22 with h22 | h22
      · match j, h22 with
        | 0, _ =>
          refine lv_tableIn (tgt := 136) (off := 104) hx hb dL_law_32 (by decide) (by decide) (by decide) (by decide) ?_
          exact lc_make C0 hR ht hK hP hD hS hl hj1 hj2 hj3 kk2
        | 1, _ =>
          refine lv_tableIn (tgt := 179) (off := 147) hx hb dL_law_32 (by decide) (by decide) (by decide) (by decide) ?_
          exact lc_resume C0 hR ht hK hP hD hS hl hj1 hj2 hj3 kk2
        | 2, _ =>
          refine lv_tableIn (tgt := 202) (off := 170) hx hb dL_law_32 (by decide) (by decide) (by decide) (by decide) ?_
          exact lc_suspend C0 hR ht hK hP hD hS hl hj1 hj2 hj3 kk2
        | 3, _ =>
          refine lv_tableIn (tgt := 215) (off := 183) hx hb dL_law_32 (by decide) (by decide) (by decide) (by decide) ?_
          exact lc_end C0 hR ht hK hP hD hS hl hj1 hj2 hj3 kk2
        | 4, _ =>
          refine lv_tableIn (tgt := 228) (off := 196) hx hb dL_law_32 (by decide) (by decide) (by decide) (by decide) ?_
          exact lc_await C0 hR ht hK hP hD hS hl hj1 hj2 hj3 kk2
        | 5, _ =>
          refine lv_tableIn (tgt := 251) (off := 219) hx hb dL_law_32 (by decide) (by decide) (by decide) (by decide) ?_
          exact lc_signal C0 hR ht hK hP hD hS hl hj1 hj2 hj3 kk2
        | 6, _ =>
          refine lv_tableIn (tgt := 274) (off := 242) hx hb dL_law_32 (by decide) (by decide) (by decide) (by decide) ?_
          exact lc_post C0 hR ht hK hP hD hS hl hj1 hj2 hj3 kk2
        | 7, _ =>
          refine lv_tableIn (tgt := 297) (off := 265) hx hb dL_law_32 (by decide) (by decide) (by decide) (by decide) ?_
          exact lc_step C0 hR ht hK hP hD hS hl hj1 hj2 hj3 kk2
        | 8, _ =>
          refine lv_tableIn (tgt := 310) (off := 278) hx hb dL_law_32 (by decide) (by decide) (by decide) (by decide) ?_
          exact lc_work C0 hR ht hK hP hD hS hl hj1 hj2 hj3 kk2
        | 9, _ =>
          refine lv_tableIn (tgt := 333) (off := 301) hx hb dL_law_32 (by decide) (by decide) (by decide) (by decide) ?_
          exact lc_take C0 hR ht hK hP hD hS hl hj1 hj2 hj3 kk2
        | 10, _ =>
          refine lv_tableIn (tgt := 356) (off := 324) hx hb dL_law_32 (by decide) (by decide) (by decide) (by decide) ?_
          exact lc_rate C0 hR ht hK hP hD hS hl hj1 hj2 hj3 kk2
        | 11, _ =>
          refine lv_tableIn (tgt := 389) (off := 357) hx hb dL_law_32 (by decide) (by decide) (by decide) (by decide) ?_
          exact lc_yield C0 hR ht hK hP hD hS hl hj1 hj2 hj3 kk2
        | 12, _ =>
          refine lv_tableIn (tgt := 402) (off := 370) hx hb dL_law_32 (by decide) (by decide) (by decide) (by decide) ?_
          exact lc_active C0 hR ht hK hP hD hS hl hj1 hj2 hj3 kk2
        | 13, _ =>
          refine lv_tableIn (tgt := 415) (off := 383) hx hb dL_law_32 (by decide) (by decide) (by decide) (by decide) ?_
          exact lc_present C0 hR ht hK hP hD hS hl hj1 hj2 hj3 kk2
        | 14, _ =>
          refine lv_tableIn (tgt := 428) (off := 396) hx hb dL_law_32 (by decide) (by decide) (by decide) (by decide) ?_
          exact lc_wanted C0 hR ht hK hP hD hS hl hj1 hj2 hj3 kk2
        | 15, _ =>
          refine lv_tableIn (tgt := 441) (off := 409) hx hb dL_law_32 (by decide) (by decide) (by decide) (by decide) ?_
          exact lc_here C0 hR ht hK hP hD hS hl hj1 hj2 hj3 kk2
        | 16, _ =>
          refine lv_tableIn (tgt := 454) (off := 422) hx hb dL_law_32 (by decide) (by decide) (by decide) (by decide) ?_
          exact lc_place C0 hR ht hK hP hD hS hl hj1 hj2 hj3 kk2
        | 17, _ =>
          refine lv_tableIn (tgt := 477) (off := 445) hx hb dL_law_32 (by decide) (by decide) (by decide) (by decide) ?_
          exact lc_priority C0 hR ht hK hP hD hS hl hj1 hj2 hj3 kk2
        | 18, _ =>
          refine lv_tableIn (tgt := 500) (off := 468) hx hb dL_law_32 (by decide) (by decide) (by decide) (by decide) ?_
          exact lc_row C0 hR ht hK hP hD hS hl hj1 hj2 hj3 kk2
        | 19, _ =>
          refine lv_tableIn (tgt := 523) (off := 491) hx hb dL_law_32 (by decide) (by decide) (by decide) (by decide) ?_
          exact lc_at C0 hR ht hK hP hD hS hl hj1 hj2 hj3 kk2
        | 20, _ =>
          refine lv_tableIn (tgt := 556) (off := 524) hx hb dL_law_32 (by decide) (by decide) (by decide) (by decide) ?_
          exact lc_extra C0 hR ht hK hP hD hS hl hj1 hj2 hj3 kk2
        | 21, _ =>
          refine lv_tableIn (tgt := 579) (off := 547) hx hb dL_law_32 (by decide) (by decide) (by decide) (by decide) ?_
          exact lc_posted C0 hR ht hK hP hD hS hl hj1 hj2 hj3 kk2
        | j + 22, h => exact absurd h (by omega)
      · refine lv_tableOut (tgt := 602) hx hb dL_law_32 (Or.inr (by rw [nI_toInt (by omega)]; omega)) (by decide) ?_
        exact kk2 u v H locs (ss_mono hR (by omega)) hP hD hS
set_option maxHeartbeats 4000000 in
set_option maxRecDepth 100000 in
/-- THE LAW, from its entry -/
theorem whole_start {p : Program} {e : Env} {s : State} {m : MethodId} {below : List Frame} {meth : Method} {c : Code} (l : Launch) {b L : Nat} {xs : Nat → Int32} (hL : L ≤ 2048) (C0 : lw_At p s m meth c b L xs) : W p l e room_1 s m #[Value.ref b] below meth c s.heap [] 0 0 (lw_Z below #[Value.ref b] s) (entryFrame m ([Value.ref b] : List Value).toArray 4) := by
  obtain ⟨hx, hb, hr, hml, hown, hts, hX, hbl, hlocks, hgv⟩ := id C0
  have hA : ∀ q : Nat, s.heap.size ≤ q → (fun q : Nat => s.heap.size ≤ q) q := fun _ h => h
  have htL : ∀ w ∈ wsL_law, w.before #[Value.ref b] s = true := fun w h => hts w (wsL_law_in w h)
  obtain ⟨c0, iS0, hKn0⟩ := u_known (C := RX0) (T := TX0) (N := 12) (n := 12) hts inX0 (htL (.instantiable RX0 12) (by decide +kernel))
  obtain ⟨c1, iS1, hKn1⟩ := u_known (C := RX1) (T := TX1) (N := 13) (n := 13) hts inX1 (htL (.instantiable RX1 13) (by decide +kernel))
  obtain ⟨dC, dI, hKc⟩ : ∃ (dC : Nat → ClassId) (dI : Nat → Nat → Nat), ∀ (k : Nat) (q : vw_C), vwCl[k]? = some q → u_Kn s q.1 q.2.1 q.2.2 (dC k) (dI k) := by
    refine ⟨fun k => if k = 0 then c0 else c1, fun k => if k = 0 then iS0 else iS1, ?_⟩
    intro k q hq
    match k, hq with
    | 0, hq => cases hq; exact hKn0
    | 1, hq => cases hq; exact hKn1
    | k + 2, hq => simp [vwCl] at hq
  have hS : va_S (fun q : Nat => s.heap.size ≤ q) s.heap s.heap [] := va_S.rf
  have hK : va_K (dC, dI) vwCl [] s := ⟨hKc, fun k q h => by simp at h⟩
  have hP : va_P (dC, dI) vwCl [] s.heap := fun k q h => by simp at h
  have hD : va_D (fun q : Nat => s.heap.size ≤ q) [] := ⟨fun i j p q h => by simp at h, fun k q h => by simp at h⟩
  have hl := lv_entry ([.ref b]) (n := 4) (Nat.le_of_ble_eq_true rfl)
  rw [lg_entry_eq]
  generalize (lg_sl ([.ref b]) ++ List.replicate (4 - (lg_sl ([.ref b])).length) Slot.unset).toArray = ls at hl ⊢
  have hl : lv_has ls 4 [(0, .ref b)] := hl
  refine va_new (ci := 0) (fs := [.null, .null, .null, .null, .int 0, .null, .null, .int 0, .int 0, .int 0, .int 0, .int 0]) (C := RX0) (T := TX0) (N := 12) hx hb hts inX0 tyX0 tyX0_ok hown (htL (.classLink RL 7 RX0) (by decide +kernel)) (htL (.instantiable RX0 12) (by decide +kernel)) (htL (.initialized RX0) (by decide +kernel)) hK hP hD hS hA rfl (by decide +kernel) (Nat.le_of_ble_eq_true rfl) (Nat.le_of_ble_eq_true rfl) dL_law_0 (fun q0 H hP hD hS => ?_)
  have hP : va_P (dC, dI) vwCl [(q0, .inr (0, [.null, .null, .null, .null, .int 0, .null, .null, .int 0, .int 0, .int 0, .int 0, .int 0]))] H := hP
  have hD : va_D (fun q : Nat => s.heap.size ≤ q) [(q0, .inr (0, [.null, .null, .null, .null, .int 0, .null, .null, .int 0, .int 0, .int 0, .int 0, .int 0]))] := hD
  refine W.widen (k := 1) (n := 12) (by omega) (by omega) ?_
  refine lv_dup hx hb dL_law_3 rfl ?_
  have hKc := hK.sub (tys' := []) [] rfl
  have hFc := va_free (wc := [(q0, .inr (0, [.null, .null, .null, .null, .int 0, .null, .null, .int 0, .int 0, .int 0, .int 0, .int 0]))]) hD hS hA [0] rfl
  refine va_callv (va_runI (As := []) (rest := [.ref q0]) ⟨hx, hb, hml, hown, htL⟩ (rc_init l dC dI q0 H.size) (cwI 0 htL gL_law_X0_init rfl rfl rfl (htL (.initialized RX0) (by decide +kernel)) (htL (.methodLink RL 9 yX0_init) (by decide +kernel)) (htL (.instanceMethod yX0_init) (by decide +kernel)) rfl (by decide +kernel) ⟨Nat.le_of_ble_eq_true rfl, Nat.le_of_ble_eq_true rfl⟩) ⟨fun a U g mk q => by obtain ⟨q0, q1, qP, qK, qD⟩ := q; exact ⟨q0, q1, qP, va_K.moved (u := U) (U := U.calling g mk a) (Vm.Alike.refl U.vm) qK, qD⟩, fun U hU hW => ⟨rfl, by rw [hU], by rw [hU]; exact hP, va_K.moved hW.alike hKc, hD.weaken (fun _ _ _ _ => trivial)⟩⟩ rfl rfl hl.1 rfl (lv_room (Nat.le_of_ble_eq_true rfl)) dL_law_4 ⟨Nat.le_of_ble_eq_true rfl, Nat.le_of_ble_eq_true rfl⟩) hS (fun q _ h => hFc q h) hFc (fun u t H1 locs ht hvm hw hB hz1 hk1 hS => ?_)
  obtain ⟨ad, cA, had, hP1, hK1, hD1⟩ := hB
  rw [ht] at hP1
  have hK1 := va_K.moved hvm.symm hK1
  have hP := hP1
  have hD := hD1.weaken (fun _ _ _ h => hFc _ h)
  have hK : va_K (dC, dI) vwCl (rT cA) s := hK1
  generalize H1 = H at hP hS ⊢
  refine W.widen (k := 7) (n := 196) (by omega) (by omega) ?_
  refine lv_astore_n (lv' := [(1, .ref q0), (0, .ref b)]) hx hb dL_law_7 rfl hl (by decide) rfl (fun ls hl => ?_)
  refine va_new (ci := 1) (fs := [.null, .null, .null, .null, .null, .long 0, .null, .int 0, .null, .int 0, .int 0, .int 0, .int 0]) (C := RX1) (T := TX1) (N := 13) hx hb hts inX1 tyX1 tyX1_ok hown (htL (.classLink RL 10 RX1) (by decide +kernel)) (htL (.instantiable RX1 13) (by decide +kernel)) (htL (.initialized RX1) (by decide +kernel)) hK hP hD hS hA rfl (by decide +kernel) (Nat.le_of_ble_eq_true rfl) (Nat.le_of_ble_eq_true rfl) dL_law_8 (fun q1 H hP hD hS => ?_)
  refine W.widen (k := 8) (n := 209) (by omega) (by omega) ?_
  refine lv_dup hx hb dL_law_11 rfl ?_
  have hPc := hP.sub (ws' := [(q1, .inr (1, [.null, .null, .null, .null, .null, .long 0, .null, .int 0, .null, .int 0, .int 0, .int 0, .int 0]))]) [7] rfl
  have hDc := hD.sub (ws' := [(q1, .inr (1, [.null, .null, .null, .null, .null, .long 0, .null, .int 0, .null, .int 0, .int 0, .int 0, .int 0]))]) [7] (by decide) rfl
  have hKc := hK.sub (tys' := []) [] rfl
  have hFc := va_free (wc := [(q1, .inr (1, [.null, .null, .null, .null, .null, .long 0, .null, .int 0, .null, .int 0, .int 0, .int 0, .int 0]))]) hD hS hA [7] rfl
  refine va_callv (va_runI (As := []) (rest := [.ref q1]) ⟨hx, hb, hml, hown, htL⟩ (mc_init l dC dI q1 H.size) (cwI 0 htL gL_law_X1_init rfl rfl rfl (htL (.initialized RX1) (by decide +kernel)) (htL (.methodLink RL 12 yX1_init) (by decide +kernel)) (htL (.instanceMethod yX1_init) (by decide +kernel)) rfl (by decide +kernel) ⟨Nat.le_of_ble_eq_true rfl, Nat.le_of_ble_eq_true rfl⟩) ⟨fun a U g mk q => by obtain ⟨q0, q1, qP, qK, qD⟩ := q; exact ⟨q0, q1, qP, va_K.moved (u := U) (U := U.calling g mk a) (Vm.Alike.refl U.vm) qK, qD⟩, fun U hU hW => ⟨rfl, by rw [hU], by rw [hU]; exact hPc, va_K.moved hW.alike hKc, hDc.weaken (fun _ _ _ _ => trivial)⟩⟩ rfl rfl hl.1 rfl (lv_room (Nat.le_of_ble_eq_true rfl)) dL_law_12 ⟨Nat.le_of_ble_eq_true rfl, Nat.le_of_ble_eq_true rfl⟩) hS (fun q _ h => hFc q h) hFc (fun v t H1 locs ht hvm hwv hB hz1 hk1 hS => ?_)
  obtain ⟨bd, cB, hbd, hP1, hK1, hD1⟩ := hB
  rw [ht] at hP1
  have hK1 := va_K.moved hvm.symm hK1
  obtain ⟨hP, hD⟩ := va_join (wr := rW ad cA u) (w1 := mW bd cB v) hP hD [7] [0, 1, 2, 3, 4, 5, 6] rfl rfl (by decide) (by decide) hk1 hFc hP1 hD1
  have hK : va_K (dC, dI) vwCl (rT cA ++ mT cB) s := hK.app hK1
  generalize H1 = H at hP hS ⊢
  refine W.widen (k := 15) (n := 425) (by omega) (by omega) ?_
  refine lv_astore_n (lv' := [(2, .ref q1), (1, .ref q0), (0, .ref b)]) hx hb dL_law_15 rfl hl (by decide) rfl (fun ls hl => ?_)
  refine lv_iconst (v := 0) hx hb dL_law_16 (by decide) ?_
  refine lv_istore_n (lv' := [(3, .int 0), (2, .ref q1), (1, .ref q0), (0, .ref b)]) hx hb dL_law_17 rfl hl (by decide) rfl (fun ls hl => ?_)
  subst had hbd hw hwv
  exact law_loop hL C0 hK (513) 0 0 0 nI_0.symm (by omega) (by omega) (by omega) r0 m0 ss_start H _ hP hD hS ls (lv_sub hl [3, 2, 1, 0] rfl)
