set_option maxHeartbeats 4000000 in
set_option maxRecDepth 100000 in
theorem lc_make {p : Program} {l : Launch} {e : Env} {s : State} {m : MethodId} {below : List Frame} {meth : Method} {c : Code} {dC : Nat → ClassId} {dI : Nat → Nat → Nat} {b L : Nat} {xs : Nat → Int32} (C0 : lw_At p s m meth c b L xs) {ad bd : Nat → Nat} {cA cB : Nat → ClassId} {u : RS} {v : MS} {tt : Nat} (hR : sSim tt u v) (htt : tt < 100000) (hK : va_K (dC, dI) vwCl (rT cA ++ mT cB) s) {H : Heap} {locs : List Loc} (hP : va_P (dC, dI) vwCl (rW ad cA u ++ mW bd cB v) H) (hD : va_D (fun q : Nat => s.heap.size ≤ q) (rW ad cA u ++ mW bd cB v)) (hS : va_S (fun q : Nat => s.heap.size ≤ q) s.heap H locs) {ls : Array Slot} {x3 : Int32} (hl : lv_has ls 4 [(0, .ref b), (1, .ref (ad 0)), (2, .ref (bd 0)), (3, .int x3)]) (hj1 : vp_in (x3 + 1) L) (hj2 : vp_in (x3 + 2) L) (hj3 : vp_in (x3 + 3) L) (kk : ∀ (u : RS) (v : MS) (H : Heap) (locs : List Loc), sSim (tt + 64) u v → va_P (dC, dI) vwCl (rW ad cA u ++ mW bd cB v) H → va_D (fun q : Nat => s.heap.size ≤ q) (rW ad cA u ++ mW bd cB v) → va_S (fun q : Nat => s.heap.size ≤ q) s.heap H locs → W p l e room_1 s m #[Value.ref b] below meth c H locs 15 425 (lw_Z below #[Value.ref b] s) (F0 m 602 ls [])) : W p l e room_1 s m #[Value.ref b] below meth c H locs 15 425 (lw_Z below #[Value.ref b] s) (F0 m 136 ls []) := by
  obtain ⟨hx, hb, hr, hml, hown, hts, hX, hbl, hlocks, hgv⟩ := C0
  have hA : ∀ q : Nat, s.heap.size ≤ q → (fun q : Nat => s.heap.size ≤ q) q := fun _ h => h
  have hbA : ¬ (fun q : Nat => s.heap.size ≤ q) b := Nat.not_le.mpr hbl
  have htL : ∀ w ∈ wsL_law, w.before #[Value.ref b] s = true := fun w h => hts w (wsL_law_in w h)
  refine lv_aload_n hx hb dL_law_136 rfl (lv_at hl 1 rfl) ?_
  refine lv_aload_n hx hb dL_law_137 rfl (lv_at hl 0 rfl) ?_
  refine lv_iload_n hx hb dL_law_138 rfl (lv_at hl 3 rfl) ?_
  refine lv_iconst (v := 1) hx hb dL_law_139 (by decide) ?_
  refine lv_iadd hx hb dL_law_140 ?_
  refine va_sld hx hb hX hbl hbA hS hj1 dL_law_141 ?_
  refine lv_aload_n hx hb dL_law_142 rfl (lv_at hl 0 rfl) ?_
  refine lv_iload_n hx hb dL_law_143 rfl (lv_at hl 3 rfl) ?_
  refine lv_iconst (v := 2) hx hb dL_law_144 (by decide) ?_
  refine lv_iadd hx hb dL_law_145 ?_
  refine va_sld hx hb hX hbl hbA hS hj2 dL_law_146 ?_
  refine lv_aload_n hx hb dL_law_147 rfl (lv_at hl 0 rfl) ?_
  refine lv_iload_n hx hb dL_law_148 rfl (lv_at hl 3 rfl) ?_
  refine lv_iconst (v := 3) hx hb dL_law_149 (by decide) ?_
  refine lv_iadd hx hb dL_law_150 ?_
  refine va_sld hx hb hX hbl hbA hS hj3 dL_law_151 ?_
  have hPc := hP.sub (ws' := (rW ad cA u)) [0, 1, 2, 3, 4, 5, 6] rfl
  have hKc := hK.sub (tys' := rT cA) [0, 1, 2, 3, 4, 5] rfl
  have hDc := hD.sub (ws' := (rW ad cA u)) [0, 1, 2, 3, 4, 5, 6] (by decide) rfl
  have hFc := va_free (wc := (rW ad cA u)) hD hS hA [0, 1, 2, 3, 4, 5, 6] rfl
  refine va_calli (va_runV (As := [.int (xs (x3 + 1).toNatClampNeg), .int (xs (x3 + 2).toNatClampNeg), .int (xs (x3 + 3).toNatClampNeg)]) (rest := []) ⟨hx, hb, hml, hown, htL⟩ (rc_make l dC dI ad cA _ u (xs (x3 + 1).toNatClampNeg) (xs (x3 + 2).toNatClampNeg) (xs (x3 + 3).toNatClampNeg) _ rfl) (cwV 3 htL gL_law_X0_make rfl rfl rfl (by decide +kernel) ⟨Nat.le_of_ble_eq_true rfl, Nat.le_of_ble_eq_true rfl⟩) ⟨fun a U g mk q => by obtain ⟨q0, q1, qP, qK, qD⟩ := q; exact ⟨q0, q1, qP, va_K.moved (u := U) (U := U.calling g mk a) (Vm.Alike.refl U.vm) qK, qD⟩, va_recv hKc hPc (ci := 0) (q0 := 0) rfl rfl, fun U hU hW => ⟨rfl, by rw [hU], by rw [hU]; exact hPc, va_K.moved hW.alike hKc, hDc.weaken (fun _ _ _ _ => trivial)⟩⟩ rfl rfl hl.1 rfl (lv_room (Nat.le_of_ble_eq_true rfl)) dL_law_152 ⟨Nat.le_of_ble_eq_true rfl, Nat.le_of_ble_eq_true rfl⟩) hS (fun q _ h => hFc q h) hFc (fun r_x u1 t H1 locs ht hvm hw_r_x hB hz1 hk1 hS => ?_)
  obtain ⟨e_r_x, e_u1⟩ := hw_r_x
  obtain ⟨hP1, hK1, hD1⟩ := hB
  rw [ht] at hP1
  obtain ⟨hP, hD⟩ := va_join (wr := (mW bd cB v)) (w1 := (rW ad cA u1)) hP hD [0, 1, 2, 3, 4, 5, 6] [7, 8, 9, 10, 11, 12, 13, 14] rfl rfl (by decide) (by decide) hk1 hFc hP1 hD1
  generalize H1 = H at hP hS ⊢
  have hP := hP.sub (ws' := (rW ad cA u1 ++ mW bd cB v)) [8, 9, 10, 11, 12, 13, 14, 0, 1, 2, 3, 4, 5, 6, 7] rfl
  have hD := hD.sub (ws' := (rW ad cA u1 ++ mW bd cB v)) [8, 9, 10, 11, 12, 13, 14, 0, 1, 2, 3, 4, 5, 6, 7] (by decide) rfl
  refine lv_aload_n hx hb dL_law_155 rfl (lv_at hl 2 rfl) ?_
  refine lv_aload_n hx hb dL_law_156 rfl (lv_at hl 0 rfl) ?_
  refine lv_iload_n hx hb dL_law_157 rfl (lv_at hl 3 rfl) ?_
  refine lv_iconst (v := 1) hx hb dL_law_158 (by decide) ?_
  refine lv_iadd hx hb dL_law_159 ?_
  refine va_sld hx hb hX hbl hbA hS hj1 dL_law_160 ?_
  refine lv_aload_n hx hb dL_law_161 rfl (lv_at hl 0 rfl) ?_
  refine lv_iload_n hx hb dL_law_162 rfl (lv_at hl 3 rfl) ?_
  refine lv_iconst (v := 2) hx hb dL_law_163 (by decide) ?_
  refine lv_iadd hx hb dL_law_164 ?_
  refine va_sld hx hb hX hbl hbA hS hj2 dL_law_165 ?_
  refine lv_aload_n hx hb dL_law_166 rfl (lv_at hl 0 rfl) ?_
  refine lv_iload_n hx hb dL_law_167 rfl (lv_at hl 3 rfl) ?_
  refine lv_iconst (v := 3) hx hb dL_law_168 (by decide) ?_
  refine lv_iadd hx hb dL_law_169 ?_
  refine va_sld hx hb hX hbl hbA hS hj3 dL_law_170 ?_
  have hPc := hP.sub (ws' := (mW bd cB v)) [7, 8, 9, 10, 11, 12, 13, 14] rfl
  have hKc := hK.sub (tys' := mT cB) [6, 7, 8, 9, 10, 11, 12] rfl
  have hDc := hD.sub (ws' := (mW bd cB v)) [7, 8, 9, 10, 11, 12, 13, 14] (by decide) rfl
  have hFc := va_free (wc := (mW bd cB v)) hD hS hA [7, 8, 9, 10, 11, 12, 13, 14] rfl
  refine va_calli (va_runV (As := [.int (xs (x3 + 1).toNatClampNeg), .int (xs (x3 + 2).toNatClampNeg), .int (xs (x3 + 3).toNatClampNeg)]) (rest := [.int r_x]) ⟨hx, hb, hml, hown, hts⟩ (mc_make l dC dI bd cB _ v (xs (x3 + 1).toNatClampNeg) (xs (x3 + 2).toNatClampNeg) (xs (x3 + 3).toNatClampNeg) _ rfl) (cwV 3 hts gLM_make rfl rfl rfl (by decide +kernel) ⟨Nat.le_of_ble_eq_true rfl, Nat.le_of_ble_eq_true rfl⟩) ⟨fun a U g mk q => by obtain ⟨q0, q1, qP, qK, qD⟩ := q; exact ⟨q0, q1, qP, va_K.moved (u := U) (U := U.calling g mk a) (Vm.Alike.refl U.vm) qK, qD⟩, va_recv hKc hPc (ci := 1) (q0 := 0) rfl rfl, fun U hU hW => ⟨rfl, by rw [hU], by rw [hU]; exact hPc, va_K.moved hW.alike hKc, hDc.weaken (fun _ _ _ _ => trivial)⟩⟩ rfl rfl hl.1 rfl (lv_room (Nat.le_of_ble_eq_true rfl)) dL_law_171 ⟨Nat.le_of_ble_eq_true rfl, Nat.le_of_ble_eq_true rfl⟩) hS (fun q _ h => hFc q h) hFc (fun r_m v1 t H1 locs ht hvm hw_r_m hB hz1 hk1 hS => ?_)
  obtain ⟨e_r_m, e_v1⟩ := hw_r_m
  obtain ⟨hP1, hK1, hD1⟩ := hB
  rw [ht] at hP1
  obtain ⟨hP, hD⟩ := va_join (wr := (rW ad cA u1)) (w1 := (mW bd cB v1)) hP hD [7, 8, 9, 10, 11, 12, 13, 14] [0, 1, 2, 3, 4, 5, 6] rfl rfl (by decide) (by decide) hk1 hFc hP1 hD1
  generalize H1 = H at hP hS ⊢
  refine lv_icmp_eq (tgt := 602) hx hb dL_law_174 (by decide) (fun c_1 => ?_) (fun c_1 => ?_)
  · have hsim := ss_make hR htt (xs (x3 + 1).toNatClampNeg) (xs (x3 + 2).toNatClampNeg) (xs (x3 + 3).toNatClampNeg)
    rw [← e_u1, ← e_v1] at hsim
    exact kk _ _ _ _ hsim.2 hP hD hS
  · exact absurd (by rw [e_r_x, e_r_m]; exact (ss_make hR htt (xs (x3 + 1).toNatClampNeg) (xs (x3 + 2).toNatClampNeg) (xs (x3 + 3).toNatClampNeg)).1) c_1
set_option maxHeartbeats 4000000 in
set_option maxRecDepth 100000 in
theorem lc_resume {p : Program} {l : Launch} {e : Env} {s : State} {m : MethodId} {below : List Frame} {meth : Method} {c : Code} {dC : Nat → ClassId} {dI : Nat → Nat → Nat} {b L : Nat} {xs : Nat → Int32} (C0 : lw_At p s m meth c b L xs) {ad bd : Nat → Nat} {cA cB : Nat → ClassId} {u : RS} {v : MS} {tt : Nat} (hR : sSim tt u v) (htt : tt < 100000) (hK : va_K (dC, dI) vwCl (rT cA ++ mT cB) s) {H : Heap} {locs : List Loc} (hP : va_P (dC, dI) vwCl (rW ad cA u ++ mW bd cB v) H) (hD : va_D (fun q : Nat => s.heap.size ≤ q) (rW ad cA u ++ mW bd cB v)) (hS : va_S (fun q : Nat => s.heap.size ≤ q) s.heap H locs) {ls : Array Slot} {x3 : Int32} (hl : lv_has ls 4 [(0, .ref b), (1, .ref (ad 0)), (2, .ref (bd 0)), (3, .int x3)]) (hj1 : vp_in (x3 + 1) L) (hj2 : vp_in (x3 + 2) L) (hj3 : vp_in (x3 + 3) L) (kk : ∀ (u : RS) (v : MS) (H : Heap) (locs : List Loc), sSim (tt + 64) u v → va_P (dC, dI) vwCl (rW ad cA u ++ mW bd cB v) H → va_D (fun q : Nat => s.heap.size ≤ q) (rW ad cA u ++ mW bd cB v) → va_S (fun q : Nat => s.heap.size ≤ q) s.heap H locs → W p l e room_1 s m #[Value.ref b] below meth c H locs 15 425 (lw_Z below #[Value.ref b] s) (F0 m 602 ls [])) : W p l e room_1 s m #[Value.ref b] below meth c H locs 15 425 (lw_Z below #[Value.ref b] s) (F0 m 179 ls []) := by
  obtain ⟨hx, hb, hr, hml, hown, hts, hX, hbl, hlocks, hgv⟩ := C0
  have hA : ∀ q : Nat, s.heap.size ≤ q → (fun q : Nat => s.heap.size ≤ q) q := fun _ h => h
  have hbA : ¬ (fun q : Nat => s.heap.size ≤ q) b := Nat.not_le.mpr hbl
  have htL : ∀ w ∈ wsL_law, w.before #[Value.ref b] s = true := fun w h => hts w (wsL_law_in w h)
  refine lv_aload_n hx hb dL_law_179 rfl (lv_at hl 1 rfl) ?_
  refine lv_aload_n hx hb dL_law_180 rfl (lv_at hl 0 rfl) ?_
  refine lv_iload_n hx hb dL_law_181 rfl (lv_at hl 3 rfl) ?_
  refine lv_iconst (v := 1) hx hb dL_law_182 (by decide) ?_
  refine lv_iadd hx hb dL_law_183 ?_
  refine va_sld hx hb hX hbl hbA hS hj1 dL_law_184 ?_
  have hPc := hP.sub (ws' := (rW ad cA u)) [0, 1, 2, 3, 4, 5, 6] rfl
  have hKc := hK.sub (tys' := rT cA) [0, 1, 2, 3, 4, 5] rfl
  have hDc := hD.sub (ws' := (rW ad cA u)) [0, 1, 2, 3, 4, 5, 6] (by decide) rfl
  have hFc := va_free (wc := (rW ad cA u)) hD hS hA [0, 1, 2, 3, 4, 5, 6] rfl
  refine va_calli (va_runV (As := [.int (xs (x3 + 1).toNatClampNeg)]) (rest := []) ⟨hx, hb, hml, hown, htL⟩ (rc_resume l dC dI ad cA _ u (xs (x3 + 1).toNatClampNeg) (ss_rInv hR) _ rfl) (cwV 1 htL gL_law_X0_resume rfl rfl rfl (by decide +kernel) ⟨Nat.le_of_ble_eq_true rfl, Nat.le_of_ble_eq_true rfl⟩) ⟨fun a U g mk q => by obtain ⟨q0, q1, qP, qK, qD⟩ := q; exact ⟨q0, q1, qP, va_K.moved (u := U) (U := U.calling g mk a) (Vm.Alike.refl U.vm) qK, qD⟩, va_recv hKc hPc (ci := 0) (q0 := 0) rfl rfl, fun U hU hW => ⟨rfl, by rw [hU], by rw [hU]; exact hPc, va_K.moved hW.alike hKc, hDc.weaken (fun _ _ _ _ => trivial)⟩⟩ rfl rfl hl.1 rfl (lv_room (Nat.le_of_ble_eq_true rfl)) dL_law_185 ⟨Nat.le_of_ble_eq_true rfl, Nat.le_of_ble_eq_true rfl⟩) hS (fun q _ h => hFc q h) hFc (fun r_x u1 t H1 locs ht hvm hw_r_x hB hz1 hk1 hS => ?_)
  obtain ⟨e_r_x, e_u1⟩ := hw_r_x
  obtain ⟨hP1, hK1, hD1⟩ := hB
  rw [ht] at hP1
  obtain ⟨hP, hD⟩ := va_join (wr := (mW bd cB v)) (w1 := (rW ad cA u1)) hP hD [0, 1, 2, 3, 4, 5, 6] [7, 8, 9, 10, 11, 12, 13, 14] rfl rfl (by decide) (by decide) hk1 hFc hP1 hD1
  generalize H1 = H at hP hS ⊢
  have hP := hP.sub (ws' := (rW ad cA u1 ++ mW bd cB v)) [8, 9, 10, 11, 12, 13, 14, 0, 1, 2, 3, 4, 5, 6, 7] rfl
  have hD := hD.sub (ws' := (rW ad cA u1 ++ mW bd cB v)) [8, 9, 10, 11, 12, 13, 14, 0, 1, 2, 3, 4, 5, 6, 7] (by decide) rfl
  refine lv_aload_n hx hb dL_law_188 rfl (lv_at hl 2 rfl) ?_
  refine lv_aload_n hx hb dL_law_189 rfl (lv_at hl 0 rfl) ?_
  refine lv_iload_n hx hb dL_law_190 rfl (lv_at hl 3 rfl) ?_
  refine lv_iconst (v := 1) hx hb dL_law_191 (by decide) ?_
  refine lv_iadd hx hb dL_law_192 ?_
  refine va_sld hx hb hX hbl hbA hS hj1 dL_law_193 ?_
  have hPc := hP.sub (ws' := (mW bd cB v)) [7, 8, 9, 10, 11, 12, 13, 14] rfl
  have hKc := hK.sub (tys' := mT cB) [6, 7, 8, 9, 10, 11, 12] rfl
  have hDc := hD.sub (ws' := (mW bd cB v)) [7, 8, 9, 10, 11, 12, 13, 14] (by decide) rfl
  have hFc := va_free (wc := (mW bd cB v)) hD hS hA [7, 8, 9, 10, 11, 12, 13, 14] rfl
  refine va_calli (va_runV (As := [.int (xs (x3 + 1).toNatClampNeg)]) (rest := [.int r_x]) ⟨hx, hb, hml, hown, hts⟩ (mc_resume l dC dI bd cB _ v (xs (x3 + 1).toNatClampNeg) (ss_mInv hR) _ rfl) (cwV 1 hts gLM_resume rfl rfl rfl (by decide +kernel) ⟨Nat.le_of_ble_eq_true rfl, Nat.le_of_ble_eq_true rfl⟩) ⟨fun a U g mk q => by obtain ⟨q0, q1, qP, qK, qD⟩ := q; exact ⟨q0, q1, qP, va_K.moved (u := U) (U := U.calling g mk a) (Vm.Alike.refl U.vm) qK, qD⟩, va_recv hKc hPc (ci := 1) (q0 := 0) rfl rfl, fun U hU hW => ⟨rfl, by rw [hU], by rw [hU]; exact hPc, va_K.moved hW.alike hKc, hDc.weaken (fun _ _ _ _ => trivial)⟩⟩ rfl rfl hl.1 rfl (lv_room (Nat.le_of_ble_eq_true rfl)) dL_law_194 ⟨Nat.le_of_ble_eq_true rfl, Nat.le_of_ble_eq_true rfl⟩) hS (fun q _ h => hFc q h) hFc (fun r_m v1 t H1 locs ht hvm hw_r_m hB hz1 hk1 hS => ?_)
  obtain ⟨e_r_m, e_v1⟩ := hw_r_m
  obtain ⟨hP1, hK1, hD1⟩ := hB
  rw [ht] at hP1
  obtain ⟨hP, hD⟩ := va_join (wr := (rW ad cA u1)) (w1 := (mW bd cB v1)) hP hD [7, 8, 9, 10, 11, 12, 13, 14] [0, 1, 2, 3, 4, 5, 6] rfl rfl (by decide) (by decide) hk1 hFc hP1 hD1
  generalize H1 = H at hP hS ⊢
  refine lv_icmp_eq (tgt := 602) hx hb dL_law_197 (by decide) (fun c_1 => ?_) (fun c_1 => ?_)
  · have hsim := ss_resume hR htt (xs (x3 + 1).toNatClampNeg)
    rw [← e_u1, ← e_v1] at hsim
    exact kk _ _ _ _ hsim.2 hP hD hS
  · exact absurd (by rw [e_r_x, e_r_m]; exact (ss_resume hR htt (xs (x3 + 1).toNatClampNeg)).1) c_1
set_option maxHeartbeats 4000000 in
set_option maxRecDepth 100000 in
theorem lc_suspend {p : Program} {l : Launch} {e : Env} {s : State} {m : MethodId} {below : List Frame} {meth : Method} {c : Code} {dC : Nat → ClassId} {dI : Nat → Nat → Nat} {b L : Nat} {xs : Nat → Int32} (C0 : lw_At p s m meth c b L xs) {ad bd : Nat → Nat} {cA cB : Nat → ClassId} {u : RS} {v : MS} {tt : Nat} (hR : sSim tt u v) (htt : tt < 100000) (hK : va_K (dC, dI) vwCl (rT cA ++ mT cB) s) {H : Heap} {locs : List Loc} (hP : va_P (dC, dI) vwCl (rW ad cA u ++ mW bd cB v) H) (hD : va_D (fun q : Nat => s.heap.size ≤ q) (rW ad cA u ++ mW bd cB v)) (hS : va_S (fun q : Nat => s.heap.size ≤ q) s.heap H locs) {ls : Array Slot} {x3 : Int32} (hl : lv_has ls 4 [(0, .ref b), (1, .ref (ad 0)), (2, .ref (bd 0)), (3, .int x3)]) (hj1 : vp_in (x3 + 1) L) (hj2 : vp_in (x3 + 2) L) (hj3 : vp_in (x3 + 3) L) (kk : ∀ (u : RS) (v : MS) (H : Heap) (locs : List Loc), sSim (tt + 64) u v → va_P (dC, dI) vwCl (rW ad cA u ++ mW bd cB v) H → va_D (fun q : Nat => s.heap.size ≤ q) (rW ad cA u ++ mW bd cB v) → va_S (fun q : Nat => s.heap.size ≤ q) s.heap H locs → W p l e room_1 s m #[Value.ref b] below meth c H locs 15 425 (lw_Z below #[Value.ref b] s) (F0 m 602 ls [])) : W p l e room_1 s m #[Value.ref b] below meth c H locs 15 425 (lw_Z below #[Value.ref b] s) (F0 m 202 ls []) := by
  obtain ⟨hx, hb, hr, hml, hown, hts, hX, hbl, hlocks, hgv⟩ := C0
  have hA : ∀ q : Nat, s.heap.size ≤ q → (fun q : Nat => s.heap.size ≤ q) q := fun _ h => h
  have hbA : ¬ (fun q : Nat => s.heap.size ≤ q) b := Nat.not_le.mpr hbl
  have htL : ∀ w ∈ wsL_law, w.before #[Value.ref b] s = true := fun w h => hts w (wsL_law_in w h)
  refine lv_aload_n hx hb dL_law_202 rfl (lv_at hl 1 rfl) ?_
  have hPc := hP.sub (ws' := (rW ad cA u)) [0, 1, 2, 3, 4, 5, 6] rfl
  have hKc := hK.sub (tys' := rT cA) [0, 1, 2, 3, 4, 5] rfl
  have hDc := hD.sub (ws' := (rW ad cA u)) [0, 1, 2, 3, 4, 5, 6] (by decide) rfl
  have hFc := va_free (wc := (rW ad cA u)) hD hS hA [0, 1, 2, 3, 4, 5, 6] rfl
  refine va_calli (va_runV (As := []) (rest := []) ⟨hx, hb, hml, hown, htL⟩ (rc_suspend l dC dI ad cA _ u _ rfl) (cwV 0 htL gL_law_X0_suspend rfl rfl rfl (by decide +kernel) ⟨Nat.le_of_ble_eq_true rfl, Nat.le_of_ble_eq_true rfl⟩) ⟨fun a U g mk q => by obtain ⟨q0, q1, qP, qK, qD⟩ := q; exact ⟨q0, q1, qP, va_K.moved (u := U) (U := U.calling g mk a) (Vm.Alike.refl U.vm) qK, qD⟩, va_recv hKc hPc (ci := 0) (q0 := 0) rfl rfl, fun U hU hW => ⟨rfl, by rw [hU], by rw [hU]; exact hPc, va_K.moved hW.alike hKc, hDc.weaken (fun _ _ _ _ => trivial)⟩⟩ rfl rfl hl.1 rfl (lv_room (Nat.le_of_ble_eq_true rfl)) dL_law_203 ⟨Nat.le_of_ble_eq_true rfl, Nat.le_of_ble_eq_true rfl⟩) hS (fun q _ h => hFc q h) hFc (fun r_x u1 t H1 locs ht hvm hw_r_x hB hz1 hk1 hS => ?_)
  obtain ⟨e_r_x, e_u1⟩ := hw_r_x
  obtain ⟨hP1, hK1, hD1⟩ := hB
  rw [ht] at hP1
  obtain ⟨hP, hD⟩ := va_join (wr := (mW bd cB v)) (w1 := (rW ad cA u1)) hP hD [0, 1, 2, 3, 4, 5, 6] [7, 8, 9, 10, 11, 12, 13, 14] rfl rfl (by decide) (by decide) hk1 hFc hP1 hD1
  generalize H1 = H at hP hS ⊢
  have hP := hP.sub (ws' := (rW ad cA u1 ++ mW bd cB v)) [8, 9, 10, 11, 12, 13, 14, 0, 1, 2, 3, 4, 5, 6, 7] rfl
  have hD := hD.sub (ws' := (rW ad cA u1 ++ mW bd cB v)) [8, 9, 10, 11, 12, 13, 14, 0, 1, 2, 3, 4, 5, 6, 7] (by decide) rfl
  refine lv_aload_n hx hb dL_law_206 rfl (lv_at hl 2 rfl) ?_
  have hPc := hP.sub (ws' := (mW bd cB v)) [7, 8, 9, 10, 11, 12, 13, 14] rfl
  have hKc := hK.sub (tys' := mT cB) [6, 7, 8, 9, 10, 11, 12] rfl
  have hDc := hD.sub (ws' := (mW bd cB v)) [7, 8, 9, 10, 11, 12, 13, 14] (by decide) rfl
  have hFc := va_free (wc := (mW bd cB v)) hD hS hA [7, 8, 9, 10, 11, 12, 13, 14] rfl
  refine va_calli (va_runV (As := []) (rest := [.int r_x]) ⟨hx, hb, hml, hown, hts⟩ (mc_suspend l dC dI bd cB _ v _ rfl) (cwV 0 hts gLM_suspend rfl rfl rfl (by decide +kernel) ⟨Nat.le_of_ble_eq_true rfl, Nat.le_of_ble_eq_true rfl⟩) ⟨fun a U g mk q => by obtain ⟨q0, q1, qP, qK, qD⟩ := q; exact ⟨q0, q1, qP, va_K.moved (u := U) (U := U.calling g mk a) (Vm.Alike.refl U.vm) qK, qD⟩, va_recv hKc hPc (ci := 1) (q0 := 0) rfl rfl, fun U hU hW => ⟨rfl, by rw [hU], by rw [hU]; exact hPc, va_K.moved hW.alike hKc, hDc.weaken (fun _ _ _ _ => trivial)⟩⟩ rfl rfl hl.1 rfl (lv_room (Nat.le_of_ble_eq_true rfl)) dL_law_207 ⟨Nat.le_of_ble_eq_true rfl, Nat.le_of_ble_eq_true rfl⟩) hS (fun q _ h => hFc q h) hFc (fun r_m v1 t H1 locs ht hvm hw_r_m hB hz1 hk1 hS => ?_)
  obtain ⟨e_r_m, e_v1⟩ := hw_r_m
  obtain ⟨hP1, hK1, hD1⟩ := hB
  rw [ht] at hP1
  obtain ⟨hP, hD⟩ := va_join (wr := (rW ad cA u1)) (w1 := (mW bd cB v1)) hP hD [7, 8, 9, 10, 11, 12, 13, 14] [0, 1, 2, 3, 4, 5, 6] rfl rfl (by decide) (by decide) hk1 hFc hP1 hD1
  generalize H1 = H at hP hS ⊢
  refine lv_icmp_eq (tgt := 602) hx hb dL_law_210 (by decide) (fun c_1 => ?_) (fun c_1 => ?_)
  · have hsim := ss_suspend hR htt 
    rw [← e_u1, ← e_v1] at hsim
    exact kk _ _ _ _ hsim.2 hP hD hS
  · exact absurd (by rw [e_r_x, e_r_m]; exact (ss_suspend hR htt ).1) c_1
set_option maxHeartbeats 4000000 in
set_option maxRecDepth 100000 in
theorem lc_end {p : Program} {l : Launch} {e : Env} {s : State} {m : MethodId} {below : List Frame} {meth : Method} {c : Code} {dC : Nat → ClassId} {dI : Nat → Nat → Nat} {b L : Nat} {xs : Nat → Int32} (C0 : lw_At p s m meth c b L xs) {ad bd : Nat → Nat} {cA cB : Nat → ClassId} {u : RS} {v : MS} {tt : Nat} (hR : sSim tt u v) (htt : tt < 100000) (hK : va_K (dC, dI) vwCl (rT cA ++ mT cB) s) {H : Heap} {locs : List Loc} (hP : va_P (dC, dI) vwCl (rW ad cA u ++ mW bd cB v) H) (hD : va_D (fun q : Nat => s.heap.size ≤ q) (rW ad cA u ++ mW bd cB v)) (hS : va_S (fun q : Nat => s.heap.size ≤ q) s.heap H locs) {ls : Array Slot} {x3 : Int32} (hl : lv_has ls 4 [(0, .ref b), (1, .ref (ad 0)), (2, .ref (bd 0)), (3, .int x3)]) (hj1 : vp_in (x3 + 1) L) (hj2 : vp_in (x3 + 2) L) (hj3 : vp_in (x3 + 3) L) (kk : ∀ (u : RS) (v : MS) (H : Heap) (locs : List Loc), sSim (tt + 64) u v → va_P (dC, dI) vwCl (rW ad cA u ++ mW bd cB v) H → va_D (fun q : Nat => s.heap.size ≤ q) (rW ad cA u ++ mW bd cB v) → va_S (fun q : Nat => s.heap.size ≤ q) s.heap H locs → W p l e room_1 s m #[Value.ref b] below meth c H locs 15 425 (lw_Z below #[Value.ref b] s) (F0 m 602 ls [])) : W p l e room_1 s m #[Value.ref b] below meth c H locs 15 425 (lw_Z below #[Value.ref b] s) (F0 m 215 ls []) := by
  obtain ⟨hx, hb, hr, hml, hown, hts, hX, hbl, hlocks, hgv⟩ := C0
  have hA : ∀ q : Nat, s.heap.size ≤ q → (fun q : Nat => s.heap.size ≤ q) q := fun _ h => h
  have hbA : ¬ (fun q : Nat => s.heap.size ≤ q) b := Nat.not_le.mpr hbl
  have htL : ∀ w ∈ wsL_law, w.before #[Value.ref b] s = true := fun w h => hts w (wsL_law_in w h)
  refine lv_aload_n hx hb dL_law_215 rfl (lv_at hl 1 rfl) ?_
  have hPc := hP.sub (ws' := (rW ad cA u)) [0, 1, 2, 3, 4, 5, 6] rfl
  have hKc := hK.sub (tys' := rT cA) [0, 1, 2, 3, 4, 5] rfl
  have hDc := hD.sub (ws' := (rW ad cA u)) [0, 1, 2, 3, 4, 5, 6] (by decide) rfl
  have hFc := va_free (wc := (rW ad cA u)) hD hS hA [0, 1, 2, 3, 4, 5, 6] rfl
  refine va_calli (va_runV (As := []) (rest := []) ⟨hx, hb, hml, hown, htL⟩ (rc_end l dC dI ad cA _ u _ rfl) (cwV 0 htL gL_law_X0_end rfl rfl rfl (by decide +kernel) ⟨Nat.le_of_ble_eq_true rfl, Nat.le_of_ble_eq_true rfl⟩) ⟨fun a U g mk q => by obtain ⟨q0, q1, qP, qK, qD⟩ := q; exact ⟨q0, q1, qP, va_K.moved (u := U) (U := U.calling g mk a) (Vm.Alike.refl U.vm) qK, qD⟩, va_recv hKc hPc (ci := 0) (q0 := 0) rfl rfl, fun U hU hW => ⟨rfl, by rw [hU], by rw [hU]; exact hPc, va_K.moved hW.alike hKc, hDc.weaken (fun _ _ _ _ => trivial)⟩⟩ rfl rfl hl.1 rfl (lv_room (Nat.le_of_ble_eq_true rfl)) dL_law_216 ⟨Nat.le_of_ble_eq_true rfl, Nat.le_of_ble_eq_true rfl⟩) hS (fun q _ h => hFc q h) hFc (fun r_x u1 t H1 locs ht hvm hw_r_x hB hz1 hk1 hS => ?_)
  obtain ⟨e_r_x, e_u1⟩ := hw_r_x
  obtain ⟨hP1, hK1, hD1⟩ := hB
  rw [ht] at hP1
  obtain ⟨hP, hD⟩ := va_join (wr := (mW bd cB v)) (w1 := (rW ad cA u1)) hP hD [0, 1, 2, 3, 4, 5, 6] [7, 8, 9, 10, 11, 12, 13, 14] rfl rfl (by decide) (by decide) hk1 hFc hP1 hD1
  generalize H1 = H at hP hS ⊢
  have hP := hP.sub (ws' := (rW ad cA u1 ++ mW bd cB v)) [8, 9, 10, 11, 12, 13, 14, 0, 1, 2, 3, 4, 5, 6, 7] rfl
  have hD := hD.sub (ws' := (rW ad cA u1 ++ mW bd cB v)) [8, 9, 10, 11, 12, 13, 14, 0, 1, 2, 3, 4, 5, 6, 7] (by decide) rfl
  refine lv_aload_n hx hb dL_law_219 rfl (lv_at hl 2 rfl) ?_
  have hPc := hP.sub (ws' := (mW bd cB v)) [7, 8, 9, 10, 11, 12, 13, 14] rfl
  have hKc := hK.sub (tys' := mT cB) [6, 7, 8, 9, 10, 11, 12] rfl
  have hDc := hD.sub (ws' := (mW bd cB v)) [7, 8, 9, 10, 11, 12, 13, 14] (by decide) rfl
  have hFc := va_free (wc := (mW bd cB v)) hD hS hA [7, 8, 9, 10, 11, 12, 13, 14] rfl
  refine va_calli (va_runV (As := []) (rest := [.int r_x]) ⟨hx, hb, hml, hown, hts⟩ (mc_end l dC dI bd cB _ v (ss_mInv hR) _ rfl) (cwV 0 hts gLM_end rfl rfl rfl (by decide +kernel) ⟨Nat.le_of_ble_eq_true rfl, Nat.le_of_ble_eq_true rfl⟩) ⟨fun a U g mk q => by obtain ⟨q0, q1, qP, qK, qD⟩ := q; exact ⟨q0, q1, qP, va_K.moved (u := U) (U := U.calling g mk a) (Vm.Alike.refl U.vm) qK, qD⟩, va_recv hKc hPc (ci := 1) (q0 := 0) rfl rfl, fun U hU hW => ⟨rfl, by rw [hU], by rw [hU]; exact hPc, va_K.moved hW.alike hKc, hDc.weaken (fun _ _ _ _ => trivial)⟩⟩ rfl rfl hl.1 rfl (lv_room (Nat.le_of_ble_eq_true rfl)) dL_law_220 ⟨Nat.le_of_ble_eq_true rfl, Nat.le_of_ble_eq_true rfl⟩) hS (fun q _ h => hFc q h) hFc (fun r_m v1 t H1 locs ht hvm hw_r_m hB hz1 hk1 hS => ?_)
  obtain ⟨e_r_m, e_v1⟩ := hw_r_m
  obtain ⟨hP1, hK1, hD1⟩ := hB
  rw [ht] at hP1
  obtain ⟨hP, hD⟩ := va_join (wr := (rW ad cA u1)) (w1 := (mW bd cB v1)) hP hD [7, 8, 9, 10, 11, 12, 13, 14] [0, 1, 2, 3, 4, 5, 6] rfl rfl (by decide) (by decide) hk1 hFc hP1 hD1
  generalize H1 = H at hP hS ⊢
  refine lv_icmp_eq (tgt := 602) hx hb dL_law_223 (by decide) (fun c_1 => ?_) (fun c_1 => ?_)
  · have hsim := ss_end hR htt 
    rw [← e_u1, ← e_v1] at hsim
    exact kk _ _ _ _ hsim.2 hP hD hS
  · exact absurd (by rw [e_r_x, e_r_m]; exact (ss_end hR htt ).1) c_1
set_option maxHeartbeats 4000000 in
set_option maxRecDepth 100000 in
theorem lc_await {p : Program} {l : Launch} {e : Env} {s : State} {m : MethodId} {below : List Frame} {meth : Method} {c : Code} {dC : Nat → ClassId} {dI : Nat → Nat → Nat} {b L : Nat} {xs : Nat → Int32} (C0 : lw_At p s m meth c b L xs) {ad bd : Nat → Nat} {cA cB : Nat → ClassId} {u : RS} {v : MS} {tt : Nat} (hR : sSim tt u v) (htt : tt < 100000) (hK : va_K (dC, dI) vwCl (rT cA ++ mT cB) s) {H : Heap} {locs : List Loc} (hP : va_P (dC, dI) vwCl (rW ad cA u ++ mW bd cB v) H) (hD : va_D (fun q : Nat => s.heap.size ≤ q) (rW ad cA u ++ mW bd cB v)) (hS : va_S (fun q : Nat => s.heap.size ≤ q) s.heap H locs) {ls : Array Slot} {x3 : Int32} (hl : lv_has ls 4 [(0, .ref b), (1, .ref (ad 0)), (2, .ref (bd 0)), (3, .int x3)]) (hj1 : vp_in (x3 + 1) L) (hj2 : vp_in (x3 + 2) L) (hj3 : vp_in (x3 + 3) L) (kk : ∀ (u : RS) (v : MS) (H : Heap) (locs : List Loc), sSim (tt + 64) u v → va_P (dC, dI) vwCl (rW ad cA u ++ mW bd cB v) H → va_D (fun q : Nat => s.heap.size ≤ q) (rW ad cA u ++ mW bd cB v) → va_S (fun q : Nat => s.heap.size ≤ q) s.heap H locs → W p l e room_1 s m #[Value.ref b] below meth c H locs 15 425 (lw_Z below #[Value.ref b] s) (F0 m 602 ls [])) : W p l e room_1 s m #[Value.ref b] below meth c H locs 15 425 (lw_Z below #[Value.ref b] s) (F0 m 228 ls []) := by
  obtain ⟨hx, hb, hr, hml, hown, hts, hX, hbl, hlocks, hgv⟩ := C0
  have hA : ∀ q : Nat, s.heap.size ≤ q → (fun q : Nat => s.heap.size ≤ q) q := fun _ h => h
  have hbA : ¬ (fun q : Nat => s.heap.size ≤ q) b := Nat.not_le.mpr hbl
  have htL : ∀ w ∈ wsL_law, w.before #[Value.ref b] s = true := fun w h => hts w (wsL_law_in w h)
  refine lv_aload_n hx hb dL_law_228 rfl (lv_at hl 1 rfl) ?_
  refine lv_aload_n hx hb dL_law_229 rfl (lv_at hl 0 rfl) ?_
  refine lv_iload_n hx hb dL_law_230 rfl (lv_at hl 3 rfl) ?_
  refine lv_iconst (v := 1) hx hb dL_law_231 (by decide) ?_
  refine lv_iadd hx hb dL_law_232 ?_
  refine va_sld hx hb hX hbl hbA hS hj1 dL_law_233 ?_
  have hPc := hP.sub (ws' := (rW ad cA u)) [0, 1, 2, 3, 4, 5, 6] rfl
  have hKc := hK.sub (tys' := rT cA) [0, 1, 2, 3, 4, 5] rfl
  have hDc := hD.sub (ws' := (rW ad cA u)) [0, 1, 2, 3, 4, 5, 6] (by decide) rfl
  have hFc := va_free (wc := (rW ad cA u)) hD hS hA [0, 1, 2, 3, 4, 5, 6] rfl
  refine va_calli (va_runV (As := [.int (xs (x3 + 1).toNatClampNeg)]) (rest := []) ⟨hx, hb, hml, hown, htL⟩ (rc_await l dC dI ad cA _ u (xs (x3 + 1).toNatClampNeg) (ss_rInv hR) _ rfl) (cwV 1 htL gL_law_X0_await rfl rfl rfl (by decide +kernel) ⟨Nat.le_of_ble_eq_true rfl, Nat.le_of_ble_eq_true rfl⟩) ⟨fun a U g mk q => by obtain ⟨q0, q1, qP, qK, qD⟩ := q; exact ⟨q0, q1, qP, va_K.moved (u := U) (U := U.calling g mk a) (Vm.Alike.refl U.vm) qK, qD⟩, va_recv hKc hPc (ci := 0) (q0 := 0) rfl rfl, fun U hU hW => ⟨rfl, by rw [hU], by rw [hU]; exact hPc, va_K.moved hW.alike hKc, hDc.weaken (fun _ _ _ _ => trivial)⟩⟩ rfl rfl hl.1 rfl (lv_room (Nat.le_of_ble_eq_true rfl)) dL_law_234 ⟨Nat.le_of_ble_eq_true rfl, Nat.le_of_ble_eq_true rfl⟩) hS (fun q _ h => hFc q h) hFc (fun r_x u1 t H1 locs ht hvm hw_r_x hB hz1 hk1 hS => ?_)
  obtain ⟨e_r_x, e_u1⟩ := hw_r_x
  obtain ⟨hP1, hK1, hD1⟩ := hB
  rw [ht] at hP1
  obtain ⟨hP, hD⟩ := va_join (wr := (mW bd cB v)) (w1 := (rW ad cA u1)) hP hD [0, 1, 2, 3, 4, 5, 6] [7, 8, 9, 10, 11, 12, 13, 14] rfl rfl (by decide) (by decide) hk1 hFc hP1 hD1
  generalize H1 = H at hP hS ⊢
  have hP := hP.sub (ws' := (rW ad cA u1 ++ mW bd cB v)) [8, 9, 10, 11, 12, 13, 14, 0, 1, 2, 3, 4, 5, 6, 7] rfl
  have hD := hD.sub (ws' := (rW ad cA u1 ++ mW bd cB v)) [8, 9, 10, 11, 12, 13, 14, 0, 1, 2, 3, 4, 5, 6, 7] (by decide) rfl
  refine lv_aload_n hx hb dL_law_237 rfl (lv_at hl 2 rfl) ?_
  refine lv_aload_n hx hb dL_law_238 rfl (lv_at hl 0 rfl) ?_
  refine lv_iload_n hx hb dL_law_239 rfl (lv_at hl 3 rfl) ?_
  refine lv_iconst (v := 1) hx hb dL_law_240 (by decide) ?_
  refine lv_iadd hx hb dL_law_241 ?_
  refine va_sld hx hb hX hbl hbA hS hj1 dL_law_242 ?_
  have hPc := hP.sub (ws' := (mW bd cB v)) [7, 8, 9, 10, 11, 12, 13, 14] rfl
  have hKc := hK.sub (tys' := mT cB) [6, 7, 8, 9, 10, 11, 12] rfl
  have hDc := hD.sub (ws' := (mW bd cB v)) [7, 8, 9, 10, 11, 12, 13, 14] (by decide) rfl
  have hFc := va_free (wc := (mW bd cB v)) hD hS hA [7, 8, 9, 10, 11, 12, 13, 14] rfl
  refine va_calli (va_runV (As := [.int (xs (x3 + 1).toNatClampNeg)]) (rest := [.int r_x]) ⟨hx, hb, hml, hown, hts⟩ (mc_await l dC dI bd cB _ v (xs (x3 + 1).toNatClampNeg) (ss_mInv hR) _ rfl) (cwV 1 hts gLM_await rfl rfl rfl (by decide +kernel) ⟨Nat.le_of_ble_eq_true rfl, Nat.le_of_ble_eq_true rfl⟩) ⟨fun a U g mk q => by obtain ⟨q0, q1, qP, qK, qD⟩ := q; exact ⟨q0, q1, qP, va_K.moved (u := U) (U := U.calling g mk a) (Vm.Alike.refl U.vm) qK, qD⟩, va_recv hKc hPc (ci := 1) (q0 := 0) rfl rfl, fun U hU hW => ⟨rfl, by rw [hU], by rw [hU]; exact hPc, va_K.moved hW.alike hKc, hDc.weaken (fun _ _ _ _ => trivial)⟩⟩ rfl rfl hl.1 rfl (lv_room (Nat.le_of_ble_eq_true rfl)) dL_law_243 ⟨Nat.le_of_ble_eq_true rfl, Nat.le_of_ble_eq_true rfl⟩) hS (fun q _ h => hFc q h) hFc (fun r_m v1 t H1 locs ht hvm hw_r_m hB hz1 hk1 hS => ?_)
  obtain ⟨e_r_m, e_v1⟩ := hw_r_m
  obtain ⟨hP1, hK1, hD1⟩ := hB
  rw [ht] at hP1
  obtain ⟨hP, hD⟩ := va_join (wr := (rW ad cA u1)) (w1 := (mW bd cB v1)) hP hD [7, 8, 9, 10, 11, 12, 13, 14] [0, 1, 2, 3, 4, 5, 6] rfl rfl (by decide) (by decide) hk1 hFc hP1 hD1
  generalize H1 = H at hP hS ⊢
  refine lv_icmp_eq (tgt := 602) hx hb dL_law_246 (by decide) (fun c_1 => ?_) (fun c_1 => ?_)
  · have hsim := ss_await hR htt (xs (x3 + 1).toNatClampNeg)
    rw [← e_u1, ← e_v1] at hsim
    exact kk _ _ _ _ hsim.2 hP hD hS
  · exact absurd (by rw [e_r_x, e_r_m]; exact (ss_await hR htt (xs (x3 + 1).toNatClampNeg)).1) c_1
set_option maxHeartbeats 4000000 in
set_option maxRecDepth 100000 in
theorem lc_signal {p : Program} {l : Launch} {e : Env} {s : State} {m : MethodId} {below : List Frame} {meth : Method} {c : Code} {dC : Nat → ClassId} {dI : Nat → Nat → Nat} {b L : Nat} {xs : Nat → Int32} (C0 : lw_At p s m meth c b L xs) {ad bd : Nat → Nat} {cA cB : Nat → ClassId} {u : RS} {v : MS} {tt : Nat} (hR : sSim tt u v) (htt : tt < 100000) (hK : va_K (dC, dI) vwCl (rT cA ++ mT cB) s) {H : Heap} {locs : List Loc} (hP : va_P (dC, dI) vwCl (rW ad cA u ++ mW bd cB v) H) (hD : va_D (fun q : Nat => s.heap.size ≤ q) (rW ad cA u ++ mW bd cB v)) (hS : va_S (fun q : Nat => s.heap.size ≤ q) s.heap H locs) {ls : Array Slot} {x3 : Int32} (hl : lv_has ls 4 [(0, .ref b), (1, .ref (ad 0)), (2, .ref (bd 0)), (3, .int x3)]) (hj1 : vp_in (x3 + 1) L) (hj2 : vp_in (x3 + 2) L) (hj3 : vp_in (x3 + 3) L) (kk : ∀ (u : RS) (v : MS) (H : Heap) (locs : List Loc), sSim (tt + 64) u v → va_P (dC, dI) vwCl (rW ad cA u ++ mW bd cB v) H → va_D (fun q : Nat => s.heap.size ≤ q) (rW ad cA u ++ mW bd cB v) → va_S (fun q : Nat => s.heap.size ≤ q) s.heap H locs → W p l e room_1 s m #[Value.ref b] below meth c H locs 15 425 (lw_Z below #[Value.ref b] s) (F0 m 602 ls [])) : W p l e room_1 s m #[Value.ref b] below meth c H locs 15 425 (lw_Z below #[Value.ref b] s) (F0 m 251 ls []) := by
  obtain ⟨hx, hb, hr, hml, hown, hts, hX, hbl, hlocks, hgv⟩ := C0
  have hA : ∀ q : Nat, s.heap.size ≤ q → (fun q : Nat => s.heap.size ≤ q) q := fun _ h => h
  have hbA : ¬ (fun q : Nat => s.heap.size ≤ q) b := Nat.not_le.mpr hbl
  have htL : ∀ w ∈ wsL_law, w.before #[Value.ref b] s = true := fun w h => hts w (wsL_law_in w h)
  refine lv_aload_n hx hb dL_law_251 rfl (lv_at hl 1 rfl) ?_
  refine lv_aload_n hx hb dL_law_252 rfl (lv_at hl 0 rfl) ?_
  refine lv_iload_n hx hb dL_law_253 rfl (lv_at hl 3 rfl) ?_
  refine lv_iconst (v := 1) hx hb dL_law_254 (by decide) ?_
  refine lv_iadd hx hb dL_law_255 ?_
  refine va_sld hx hb hX hbl hbA hS hj1 dL_law_256 ?_
  have hPc := hP.sub (ws' := (rW ad cA u)) [0, 1, 2, 3, 4, 5, 6] rfl
  have hKc := hK.sub (tys' := rT cA) [0, 1, 2, 3, 4, 5] rfl
  have hDc := hD.sub (ws' := (rW ad cA u)) [0, 1, 2, 3, 4, 5, 6] (by decide) rfl
  have hFc := va_free (wc := (rW ad cA u)) hD hS hA [0, 1, 2, 3, 4, 5, 6] rfl
  refine va_calli (va_runV (As := [.int (xs (x3 + 1).toNatClampNeg)]) (rest := []) ⟨hx, hb, hml, hown, htL⟩ (rc_signal l dC dI ad cA _ u (xs (x3 + 1).toNatClampNeg) (ss_rInv hR) _ rfl) (cwV 1 htL gL_law_X0_signal rfl rfl rfl (by decide +kernel) ⟨Nat.le_of_ble_eq_true rfl, Nat.le_of_ble_eq_true rfl⟩) ⟨fun a U g mk q => by obtain ⟨q0, q1, qP, qK, qD⟩ := q; exact ⟨q0, q1, qP, va_K.moved (u := U) (U := U.calling g mk a) (Vm.Alike.refl U.vm) qK, qD⟩, va_recv hKc hPc (ci := 0) (q0 := 0) rfl rfl, fun U hU hW => ⟨rfl, by rw [hU], by rw [hU]; exact hPc, va_K.moved hW.alike hKc, hDc.weaken (fun _ _ _ _ => trivial)⟩⟩ rfl rfl hl.1 rfl (lv_room (Nat.le_of_ble_eq_true rfl)) dL_law_257 ⟨Nat.le_of_ble_eq_true rfl, Nat.le_of_ble_eq_true rfl⟩) hS (fun q _ h => hFc q h) hFc (fun r_x u1 t H1 locs ht hvm hw_r_x hB hz1 hk1 hS => ?_)
  obtain ⟨e_r_x, e_u1⟩ := hw_r_x
  obtain ⟨hP1, hK1, hD1⟩ := hB
  rw [ht] at hP1
  obtain ⟨hP, hD⟩ := va_join (wr := (mW bd cB v)) (w1 := (rW ad cA u1)) hP hD [0, 1, 2, 3, 4, 5, 6] [7, 8, 9, 10, 11, 12, 13, 14] rfl rfl (by decide) (by decide) hk1 hFc hP1 hD1
  generalize H1 = H at hP hS ⊢
  have hP := hP.sub (ws' := (rW ad cA u1 ++ mW bd cB v)) [8, 9, 10, 11, 12, 13, 14, 0, 1, 2, 3, 4, 5, 6, 7] rfl
  have hD := hD.sub (ws' := (rW ad cA u1 ++ mW bd cB v)) [8, 9, 10, 11, 12, 13, 14, 0, 1, 2, 3, 4, 5, 6, 7] (by decide) rfl
  refine lv_aload_n hx hb dL_law_260 rfl (lv_at hl 2 rfl) ?_
  refine lv_aload_n hx hb dL_law_261 rfl (lv_at hl 0 rfl) ?_
  refine lv_iload_n hx hb dL_law_262 rfl (lv_at hl 3 rfl) ?_
  refine lv_iconst (v := 1) hx hb dL_law_263 (by decide) ?_
  refine lv_iadd hx hb dL_law_264 ?_
  refine va_sld hx hb hX hbl hbA hS hj1 dL_law_265 ?_
  have hPc := hP.sub (ws' := (mW bd cB v)) [7, 8, 9, 10, 11, 12, 13, 14] rfl
  have hKc := hK.sub (tys' := mT cB) [6, 7, 8, 9, 10, 11, 12] rfl
  have hDc := hD.sub (ws' := (mW bd cB v)) [7, 8, 9, 10, 11, 12, 13, 14] (by decide) rfl
  have hFc := va_free (wc := (mW bd cB v)) hD hS hA [7, 8, 9, 10, 11, 12, 13, 14] rfl
  refine va_calli (va_runV (As := [.int (xs (x3 + 1).toNatClampNeg)]) (rest := [.int r_x]) ⟨hx, hb, hml, hown, hts⟩ (mc_signal l dC dI bd cB _ v (xs (x3 + 1).toNatClampNeg) (ss_mInv hR) _ rfl) (cwV 1 hts gLM_signal rfl rfl rfl (by decide +kernel) ⟨Nat.le_of_ble_eq_true rfl, Nat.le_of_ble_eq_true rfl⟩) ⟨fun a U g mk q => by obtain ⟨q0, q1, qP, qK, qD⟩ := q; exact ⟨q0, q1, qP, va_K.moved (u := U) (U := U.calling g mk a) (Vm.Alike.refl U.vm) qK, qD⟩, va_recv hKc hPc (ci := 1) (q0 := 0) rfl rfl, fun U hU hW => ⟨rfl, by rw [hU], by rw [hU]; exact hPc, va_K.moved hW.alike hKc, hDc.weaken (fun _ _ _ _ => trivial)⟩⟩ rfl rfl hl.1 rfl (lv_room (Nat.le_of_ble_eq_true rfl)) dL_law_266 ⟨Nat.le_of_ble_eq_true rfl, Nat.le_of_ble_eq_true rfl⟩) hS (fun q _ h => hFc q h) hFc (fun r_m v1 t H1 locs ht hvm hw_r_m hB hz1 hk1 hS => ?_)
  obtain ⟨e_r_m, e_v1⟩ := hw_r_m
  obtain ⟨hP1, hK1, hD1⟩ := hB
  rw [ht] at hP1
  obtain ⟨hP, hD⟩ := va_join (wr := (rW ad cA u1)) (w1 := (mW bd cB v1)) hP hD [7, 8, 9, 10, 11, 12, 13, 14] [0, 1, 2, 3, 4, 5, 6] rfl rfl (by decide) (by decide) hk1 hFc hP1 hD1
  generalize H1 = H at hP hS ⊢
  refine lv_icmp_eq (tgt := 602) hx hb dL_law_269 (by decide) (fun c_1 => ?_) (fun c_1 => ?_)
  · have hsim := ss_signal hR htt (xs (x3 + 1).toNatClampNeg)
    rw [← e_u1, ← e_v1] at hsim
    exact kk _ _ _ _ hsim.2 hP hD hS
  · exact absurd (by rw [e_r_x, e_r_m]; exact (ss_signal hR htt (xs (x3 + 1).toNatClampNeg)).1) c_1
set_option maxHeartbeats 4000000 in
set_option maxRecDepth 100000 in
theorem lc_post {p : Program} {l : Launch} {e : Env} {s : State} {m : MethodId} {below : List Frame} {meth : Method} {c : Code} {dC : Nat → ClassId} {dI : Nat → Nat → Nat} {b L : Nat} {xs : Nat → Int32} (C0 : lw_At p s m meth c b L xs) {ad bd : Nat → Nat} {cA cB : Nat → ClassId} {u : RS} {v : MS} {tt : Nat} (hR : sSim tt u v) (htt : tt < 100000) (hK : va_K (dC, dI) vwCl (rT cA ++ mT cB) s) {H : Heap} {locs : List Loc} (hP : va_P (dC, dI) vwCl (rW ad cA u ++ mW bd cB v) H) (hD : va_D (fun q : Nat => s.heap.size ≤ q) (rW ad cA u ++ mW bd cB v)) (hS : va_S (fun q : Nat => s.heap.size ≤ q) s.heap H locs) {ls : Array Slot} {x3 : Int32} (hl : lv_has ls 4 [(0, .ref b), (1, .ref (ad 0)), (2, .ref (bd 0)), (3, .int x3)]) (hj1 : vp_in (x3 + 1) L) (hj2 : vp_in (x3 + 2) L) (hj3 : vp_in (x3 + 3) L) (kk : ∀ (u : RS) (v : MS) (H : Heap) (locs : List Loc), sSim (tt + 64) u v → va_P (dC, dI) vwCl (rW ad cA u ++ mW bd cB v) H → va_D (fun q : Nat => s.heap.size ≤ q) (rW ad cA u ++ mW bd cB v) → va_S (fun q : Nat => s.heap.size ≤ q) s.heap H locs → W p l e room_1 s m #[Value.ref b] below meth c H locs 15 425 (lw_Z below #[Value.ref b] s) (F0 m 602 ls [])) : W p l e room_1 s m #[Value.ref b] below meth c H locs 15 425 (lw_Z below #[Value.ref b] s) (F0 m 274 ls []) := by
  obtain ⟨hx, hb, hr, hml, hown, hts, hX, hbl, hlocks, hgv⟩ := C0
  have hA : ∀ q : Nat, s.heap.size ≤ q → (fun q : Nat => s.heap.size ≤ q) q := fun _ h => h
  have hbA : ¬ (fun q : Nat => s.heap.size ≤ q) b := Nat.not_le.mpr hbl
  have htL : ∀ w ∈ wsL_law, w.before #[Value.ref b] s = true := fun w h => hts w (wsL_law_in w h)
  refine lv_aload_n hx hb dL_law_274 rfl (lv_at hl 1 rfl) ?_
  refine lv_aload_n hx hb dL_law_275 rfl (lv_at hl 0 rfl) ?_
  refine lv_iload_n hx hb dL_law_276 rfl (lv_at hl 3 rfl) ?_
  refine lv_iconst (v := 1) hx hb dL_law_277 (by decide) ?_
  refine lv_iadd hx hb dL_law_278 ?_
  refine va_sld hx hb hX hbl hbA hS hj1 dL_law_279 ?_
  have hPc := hP.sub (ws' := (rW ad cA u)) [0, 1, 2, 3, 4, 5, 6] rfl
  have hKc := hK.sub (tys' := rT cA) [0, 1, 2, 3, 4, 5] rfl
  have hDc := hD.sub (ws' := (rW ad cA u)) [0, 1, 2, 3, 4, 5, 6] (by decide) rfl
  have hFc := va_free (wc := (rW ad cA u)) hD hS hA [0, 1, 2, 3, 4, 5, 6] rfl
  refine va_calli (va_runV (As := [.int (xs (x3 + 1).toNatClampNeg)]) (rest := []) ⟨hx, hb, hml, hown, htL⟩ (rc_post l dC dI ad cA _ u (xs (x3 + 1).toNatClampNeg) (ss_rInv hR) _ rfl) (cwV 1 htL gL_law_X0_post rfl rfl rfl (by decide +kernel) ⟨Nat.le_of_ble_eq_true rfl, Nat.le_of_ble_eq_true rfl⟩) ⟨fun a U g mk q => by obtain ⟨q0, q1, qP, qK, qD⟩ := q; exact ⟨q0, q1, qP, va_K.moved (u := U) (U := U.calling g mk a) (Vm.Alike.refl U.vm) qK, qD⟩, va_recv hKc hPc (ci := 0) (q0 := 0) rfl rfl, fun U hU hW => ⟨rfl, by rw [hU], by rw [hU]; exact hPc, va_K.moved hW.alike hKc, hDc.weaken (fun _ _ _ _ => trivial)⟩⟩ rfl rfl hl.1 rfl (lv_room (Nat.le_of_ble_eq_true rfl)) dL_law_280 ⟨Nat.le_of_ble_eq_true rfl, Nat.le_of_ble_eq_true rfl⟩) hS (fun q _ h => hFc q h) hFc (fun r_x u1 t H1 locs ht hvm hw_r_x hB hz1 hk1 hS => ?_)
  obtain ⟨e_r_x, e_u1⟩ := hw_r_x
  obtain ⟨hP1, hK1, hD1⟩ := hB
  rw [ht] at hP1
  obtain ⟨hP, hD⟩ := va_join (wr := (mW bd cB v)) (w1 := (rW ad cA u1)) hP hD [0, 1, 2, 3, 4, 5, 6] [7, 8, 9, 10, 11, 12, 13, 14] rfl rfl (by decide) (by decide) hk1 hFc hP1 hD1
  generalize H1 = H at hP hS ⊢
  have hP := hP.sub (ws' := (rW ad cA u1 ++ mW bd cB v)) [8, 9, 10, 11, 12, 13, 14, 0, 1, 2, 3, 4, 5, 6, 7] rfl
  have hD := hD.sub (ws' := (rW ad cA u1 ++ mW bd cB v)) [8, 9, 10, 11, 12, 13, 14, 0, 1, 2, 3, 4, 5, 6, 7] (by decide) rfl
  refine lv_aload_n hx hb dL_law_283 rfl (lv_at hl 2 rfl) ?_
  refine lv_aload_n hx hb dL_law_284 rfl (lv_at hl 0 rfl) ?_
  refine lv_iload_n hx hb dL_law_285 rfl (lv_at hl 3 rfl) ?_
  refine lv_iconst (v := 1) hx hb dL_law_286 (by decide) ?_
  refine lv_iadd hx hb dL_law_287 ?_
  refine va_sld hx hb hX hbl hbA hS hj1 dL_law_288 ?_
  have hPc := hP.sub (ws' := (mW bd cB v)) [7, 8, 9, 10, 11, 12, 13, 14] rfl
  have hKc := hK.sub (tys' := mT cB) [6, 7, 8, 9, 10, 11, 12] rfl
  have hDc := hD.sub (ws' := (mW bd cB v)) [7, 8, 9, 10, 11, 12, 13, 14] (by decide) rfl
  have hFc := va_free (wc := (mW bd cB v)) hD hS hA [7, 8, 9, 10, 11, 12, 13, 14] rfl
  refine va_calli (va_runV (As := [.int (xs (x3 + 1).toNatClampNeg)]) (rest := [.int r_x]) ⟨hx, hb, hml, hown, hts⟩ (mc_post l dC dI bd cB _ v (xs (x3 + 1).toNatClampNeg) (ss_mInv hR) _ rfl) (cwV 1 hts gLM_post rfl rfl rfl (by decide +kernel) ⟨Nat.le_of_ble_eq_true rfl, Nat.le_of_ble_eq_true rfl⟩) ⟨fun a U g mk q => by obtain ⟨q0, q1, qP, qK, qD⟩ := q; exact ⟨q0, q1, qP, va_K.moved (u := U) (U := U.calling g mk a) (Vm.Alike.refl U.vm) qK, qD⟩, va_recv hKc hPc (ci := 1) (q0 := 0) rfl rfl, fun U hU hW => ⟨rfl, by rw [hU], by rw [hU]; exact hPc, va_K.moved hW.alike hKc, hDc.weaken (fun _ _ _ _ => trivial)⟩⟩ rfl rfl hl.1 rfl (lv_room (Nat.le_of_ble_eq_true rfl)) dL_law_289 ⟨Nat.le_of_ble_eq_true rfl, Nat.le_of_ble_eq_true rfl⟩) hS (fun q _ h => hFc q h) hFc (fun r_m v1 t H1 locs ht hvm hw_r_m hB hz1 hk1 hS => ?_)
  obtain ⟨e_r_m, e_v1⟩ := hw_r_m
  obtain ⟨hP1, hK1, hD1⟩ := hB
  rw [ht] at hP1
  obtain ⟨hP, hD⟩ := va_join (wr := (rW ad cA u1)) (w1 := (mW bd cB v1)) hP hD [7, 8, 9, 10, 11, 12, 13, 14] [0, 1, 2, 3, 4, 5, 6] rfl rfl (by decide) (by decide) hk1 hFc hP1 hD1
  generalize H1 = H at hP hS ⊢
  refine lv_icmp_eq (tgt := 602) hx hb dL_law_292 (by decide) (fun c_1 => ?_) (fun c_1 => ?_)
  · have hsim := ss_post hR htt (xs (x3 + 1).toNatClampNeg)
    rw [← e_u1, ← e_v1] at hsim
    exact kk _ _ _ _ hsim.2 hP hD hS
  · exact absurd (by rw [e_r_x, e_r_m]; exact (ss_post hR htt (xs (x3 + 1).toNatClampNeg)).1) c_1
set_option maxHeartbeats 4000000 in
set_option maxRecDepth 100000 in
theorem lc_step {p : Program} {l : Launch} {e : Env} {s : State} {m : MethodId} {below : List Frame} {meth : Method} {c : Code} {dC : Nat → ClassId} {dI : Nat → Nat → Nat} {b L : Nat} {xs : Nat → Int32} (C0 : lw_At p s m meth c b L xs) {ad bd : Nat → Nat} {cA cB : Nat → ClassId} {u : RS} {v : MS} {tt : Nat} (hR : sSim tt u v) (htt : tt < 100000) (hK : va_K (dC, dI) vwCl (rT cA ++ mT cB) s) {H : Heap} {locs : List Loc} (hP : va_P (dC, dI) vwCl (rW ad cA u ++ mW bd cB v) H) (hD : va_D (fun q : Nat => s.heap.size ≤ q) (rW ad cA u ++ mW bd cB v)) (hS : va_S (fun q : Nat => s.heap.size ≤ q) s.heap H locs) {ls : Array Slot} {x3 : Int32} (hl : lv_has ls 4 [(0, .ref b), (1, .ref (ad 0)), (2, .ref (bd 0)), (3, .int x3)]) (hj1 : vp_in (x3 + 1) L) (hj2 : vp_in (x3 + 2) L) (hj3 : vp_in (x3 + 3) L) (kk : ∀ (u : RS) (v : MS) (H : Heap) (locs : List Loc), sSim (tt + 64) u v → va_P (dC, dI) vwCl (rW ad cA u ++ mW bd cB v) H → va_D (fun q : Nat => s.heap.size ≤ q) (rW ad cA u ++ mW bd cB v) → va_S (fun q : Nat => s.heap.size ≤ q) s.heap H locs → W p l e room_1 s m #[Value.ref b] below meth c H locs 15 425 (lw_Z below #[Value.ref b] s) (F0 m 602 ls [])) : W p l e room_1 s m #[Value.ref b] below meth c H locs 15 425 (lw_Z below #[Value.ref b] s) (F0 m 297 ls []) := by
  obtain ⟨hx, hb, hr, hml, hown, hts, hX, hbl, hlocks, hgv⟩ := C0
  have hA : ∀ q : Nat, s.heap.size ≤ q → (fun q : Nat => s.heap.size ≤ q) q := fun _ h => h
  have hbA : ¬ (fun q : Nat => s.heap.size ≤ q) b := Nat.not_le.mpr hbl
  have htL : ∀ w ∈ wsL_law, w.before #[Value.ref b] s = true := fun w h => hts w (wsL_law_in w h)
  refine lv_aload_n hx hb dL_law_297 rfl (lv_at hl 1 rfl) ?_
  have hPc := hP.sub (ws' := (rW ad cA u)) [0, 1, 2, 3, 4, 5, 6] rfl
  have hKc := hK.sub (tys' := rT cA) [0, 1, 2, 3, 4, 5] rfl
  have hDc := hD.sub (ws' := (rW ad cA u)) [0, 1, 2, 3, 4, 5, 6] (by decide) rfl
  have hFc := va_free (wc := (rW ad cA u)) hD hS hA [0, 1, 2, 3, 4, 5, 6] rfl
  refine va_calli (va_runV (As := []) (rest := []) ⟨hx, hb, hml, hown, htL⟩ (rc_step l dC dI ad cA _ u (ss_rInv hR) _ rfl) (cwV 0 htL gL_law_X0_step rfl rfl rfl (by decide +kernel) ⟨Nat.le_of_ble_eq_true rfl, Nat.le_of_ble_eq_true rfl⟩) ⟨fun a U g mk q => by obtain ⟨q0, q1, qP, qK, qD⟩ := q; exact ⟨q0, q1, qP, va_K.moved (u := U) (U := U.calling g mk a) (Vm.Alike.refl U.vm) qK, qD⟩, va_recv hKc hPc (ci := 0) (q0 := 0) rfl rfl, fun U hU hW => ⟨rfl, by rw [hU], by rw [hU]; exact hPc, va_K.moved hW.alike hKc, hDc.weaken (fun _ _ _ _ => trivial)⟩⟩ rfl rfl hl.1 rfl (lv_room (Nat.le_of_ble_eq_true rfl)) dL_law_298 ⟨Nat.le_of_ble_eq_true rfl, Nat.le_of_ble_eq_true rfl⟩) hS (fun q _ h => hFc q h) hFc (fun r_x u1 t H1 locs ht hvm hw_r_x hB hz1 hk1 hS => ?_)
  obtain ⟨e_r_x, e_u1⟩ := hw_r_x
  obtain ⟨hP1, hK1, hD1⟩ := hB
  rw [ht] at hP1
  obtain ⟨hP, hD⟩ := va_join (wr := (mW bd cB v)) (w1 := (rW ad cA u1)) hP hD [0, 1, 2, 3, 4, 5, 6] [7, 8, 9, 10, 11, 12, 13, 14] rfl rfl (by decide) (by decide) hk1 hFc hP1 hD1
  generalize H1 = H at hP hS ⊢
  have hP := hP.sub (ws' := (rW ad cA u1 ++ mW bd cB v)) [8, 9, 10, 11, 12, 13, 14, 0, 1, 2, 3, 4, 5, 6, 7] rfl
  have hD := hD.sub (ws' := (rW ad cA u1 ++ mW bd cB v)) [8, 9, 10, 11, 12, 13, 14, 0, 1, 2, 3, 4, 5, 6, 7] (by decide) rfl
  refine lv_aload_n hx hb dL_law_301 rfl (lv_at hl 2 rfl) ?_
  have hPc := hP.sub (ws' := (mW bd cB v)) [7, 8, 9, 10, 11, 12, 13, 14] rfl
  have hKc := hK.sub (tys' := mT cB) [6, 7, 8, 9, 10, 11, 12] rfl
  have hDc := hD.sub (ws' := (mW bd cB v)) [7, 8, 9, 10, 11, 12, 13, 14] (by decide) rfl
  have hFc := va_free (wc := (mW bd cB v)) hD hS hA [7, 8, 9, 10, 11, 12, 13, 14] rfl
  refine va_calli (va_runV (As := []) (rest := [.int r_x]) ⟨hx, hb, hml, hown, hts⟩ (mc_step l dC dI bd cB _ v (ss_mInv hR) _ rfl) (cwV 0 hts gLM_step rfl rfl rfl (by decide +kernel) ⟨Nat.le_of_ble_eq_true rfl, Nat.le_of_ble_eq_true rfl⟩) ⟨fun a U g mk q => by obtain ⟨q0, q1, qP, qK, qD⟩ := q; exact ⟨q0, q1, qP, va_K.moved (u := U) (U := U.calling g mk a) (Vm.Alike.refl U.vm) qK, qD⟩, va_recv hKc hPc (ci := 1) (q0 := 0) rfl rfl, fun U hU hW => ⟨rfl, by rw [hU], by rw [hU]; exact hPc, va_K.moved hW.alike hKc, hDc.weaken (fun _ _ _ _ => trivial)⟩⟩ rfl rfl hl.1 rfl (lv_room (Nat.le_of_ble_eq_true rfl)) dL_law_302 ⟨Nat.le_of_ble_eq_true rfl, Nat.le_of_ble_eq_true rfl⟩) hS (fun q _ h => hFc q h) hFc (fun r_m v1 t H1 locs ht hvm hw_r_m hB hz1 hk1 hS => ?_)
  obtain ⟨e_r_m, e_v1⟩ := hw_r_m
  obtain ⟨hP1, hK1, hD1⟩ := hB
  rw [ht] at hP1
  obtain ⟨hP, hD⟩ := va_join (wr := (rW ad cA u1)) (w1 := (mW bd cB v1)) hP hD [7, 8, 9, 10, 11, 12, 13, 14] [0, 1, 2, 3, 4, 5, 6] rfl rfl (by decide) (by decide) hk1 hFc hP1 hD1
  generalize H1 = H at hP hS ⊢
  refine lv_icmp_eq (tgt := 602) hx hb dL_law_305 (by decide) (fun c_1 => ?_) (fun c_1 => ?_)
  · have hsim := ss_step hR htt 
    rw [← e_u1, ← e_v1] at hsim
    exact kk _ _ _ _ hsim.2 hP hD hS
  · exact absurd (by rw [e_r_x, e_r_m]; exact (ss_step hR htt ).1) c_1
set_option maxHeartbeats 4000000 in
set_option maxRecDepth 100000 in
theorem lc_work {p : Program} {l : Launch} {e : Env} {s : State} {m : MethodId} {below : List Frame} {meth : Method} {c : Code} {dC : Nat → ClassId} {dI : Nat → Nat → Nat} {b L : Nat} {xs : Nat → Int32} (C0 : lw_At p s m meth c b L xs) {ad bd : Nat → Nat} {cA cB : Nat → ClassId} {u : RS} {v : MS} {tt : Nat} (hR : sSim tt u v) (htt : tt < 100000) (hK : va_K (dC, dI) vwCl (rT cA ++ mT cB) s) {H : Heap} {locs : List Loc} (hP : va_P (dC, dI) vwCl (rW ad cA u ++ mW bd cB v) H) (hD : va_D (fun q : Nat => s.heap.size ≤ q) (rW ad cA u ++ mW bd cB v)) (hS : va_S (fun q : Nat => s.heap.size ≤ q) s.heap H locs) {ls : Array Slot} {x3 : Int32} (hl : lv_has ls 4 [(0, .ref b), (1, .ref (ad 0)), (2, .ref (bd 0)), (3, .int x3)]) (hj1 : vp_in (x3 + 1) L) (hj2 : vp_in (x3 + 2) L) (hj3 : vp_in (x3 + 3) L) (kk : ∀ (u : RS) (v : MS) (H : Heap) (locs : List Loc), sSim (tt + 64) u v → va_P (dC, dI) vwCl (rW ad cA u ++ mW bd cB v) H → va_D (fun q : Nat => s.heap.size ≤ q) (rW ad cA u ++ mW bd cB v) → va_S (fun q : Nat => s.heap.size ≤ q) s.heap H locs → W p l e room_1 s m #[Value.ref b] below meth c H locs 15 425 (lw_Z below #[Value.ref b] s) (F0 m 602 ls [])) : W p l e room_1 s m #[Value.ref b] below meth c H locs 15 425 (lw_Z below #[Value.ref b] s) (F0 m 310 ls []) := by
  obtain ⟨hx, hb, hr, hml, hown, hts, hX, hbl, hlocks, hgv⟩ := C0
  have hA : ∀ q : Nat, s.heap.size ≤ q → (fun q : Nat => s.heap.size ≤ q) q := fun _ h => h
  have hbA : ¬ (fun q : Nat => s.heap.size ≤ q) b := Nat.not_le.mpr hbl
  have htL : ∀ w ∈ wsL_law, w.before #[Value.ref b] s = true := fun w h => hts w (wsL_law_in w h)
  refine lv_aload_n hx hb dL_law_310 rfl (lv_at hl 1 rfl) ?_
  refine lv_aload_n hx hb dL_law_311 rfl (lv_at hl 0 rfl) ?_
  refine lv_iload_n hx hb dL_law_312 rfl (lv_at hl 3 rfl) ?_
  refine lv_iconst (v := 1) hx hb dL_law_313 (by decide) ?_
  refine lv_iadd hx hb dL_law_314 ?_
  refine va_sld hx hb hX hbl hbA hS hj1 dL_law_315 ?_
  have hPc := hP.sub (ws' := (rW ad cA u)) [0, 1, 2, 3, 4, 5, 6] rfl
  have hKc := hK.sub (tys' := rT cA) [0, 1, 2, 3, 4, 5] rfl
  have hDc := hD.sub (ws' := (rW ad cA u)) [0, 1, 2, 3, 4, 5, 6] (by decide) rfl
  have hFc := va_free (wc := (rW ad cA u)) hD hS hA [0, 1, 2, 3, 4, 5, 6] rfl
  refine va_calli (va_runV (As := [.int (xs (x3 + 1).toNatClampNeg)]) (rest := []) ⟨hx, hb, hml, hown, htL⟩ (rc_work l dC dI ad cA _ u (xs (x3 + 1).toNatClampNeg) _ rfl) (cwV 1 htL gL_law_X0_work rfl rfl rfl (by decide +kernel) ⟨Nat.le_of_ble_eq_true rfl, Nat.le_of_ble_eq_true rfl⟩) ⟨fun a U g mk q => by obtain ⟨q0, q1, qP, qK, qD⟩ := q; exact ⟨q0, q1, qP, va_K.moved (u := U) (U := U.calling g mk a) (Vm.Alike.refl U.vm) qK, qD⟩, va_recv hKc hPc (ci := 0) (q0 := 0) rfl rfl, fun U hU hW => ⟨rfl, by rw [hU], by rw [hU]; exact hPc, va_K.moved hW.alike hKc, hDc.weaken (fun _ _ _ _ => trivial)⟩⟩ rfl rfl hl.1 rfl (lv_room (Nat.le_of_ble_eq_true rfl)) dL_law_316 ⟨Nat.le_of_ble_eq_true rfl, Nat.le_of_ble_eq_true rfl⟩) hS (fun q _ h => hFc q h) hFc (fun r_x u1 t H1 locs ht hvm hw_r_x hB hz1 hk1 hS => ?_)
  obtain ⟨e_r_x, e_u1⟩ := hw_r_x
  obtain ⟨hP1, hK1, hD1⟩ := hB
  rw [ht] at hP1
  obtain ⟨hP, hD⟩ := va_join (wr := (mW bd cB v)) (w1 := (rW ad cA u1)) hP hD [0, 1, 2, 3, 4, 5, 6] [7, 8, 9, 10, 11, 12, 13, 14] rfl rfl (by decide) (by decide) hk1 hFc hP1 hD1
  generalize H1 = H at hP hS ⊢
  have hP := hP.sub (ws' := (rW ad cA u1 ++ mW bd cB v)) [8, 9, 10, 11, 12, 13, 14, 0, 1, 2, 3, 4, 5, 6, 7] rfl
  have hD := hD.sub (ws' := (rW ad cA u1 ++ mW bd cB v)) [8, 9, 10, 11, 12, 13, 14, 0, 1, 2, 3, 4, 5, 6, 7] (by decide) rfl
  refine lv_aload_n hx hb dL_law_319 rfl (lv_at hl 2 rfl) ?_
  refine lv_aload_n hx hb dL_law_320 rfl (lv_at hl 0 rfl) ?_
  refine lv_iload_n hx hb dL_law_321 rfl (lv_at hl 3 rfl) ?_
  refine lv_iconst (v := 1) hx hb dL_law_322 (by decide) ?_
  refine lv_iadd hx hb dL_law_323 ?_
  refine va_sld hx hb hX hbl hbA hS hj1 dL_law_324 ?_
  have hPc := hP.sub (ws' := (mW bd cB v)) [7, 8, 9, 10, 11, 12, 13, 14] rfl
  have hKc := hK.sub (tys' := mT cB) [6, 7, 8, 9, 10, 11, 12] rfl
  have hDc := hD.sub (ws' := (mW bd cB v)) [7, 8, 9, 10, 11, 12, 13, 14] (by decide) rfl
  have hFc := va_free (wc := (mW bd cB v)) hD hS hA [7, 8, 9, 10, 11, 12, 13, 14] rfl
  refine va_calli (va_runV (As := [.int (xs (x3 + 1).toNatClampNeg)]) (rest := [.int r_x]) ⟨hx, hb, hml, hown, hts⟩ (mc_work l dC dI bd cB _ v (xs (x3 + 1).toNatClampNeg) _ rfl) (cwV 1 hts gLM_work rfl rfl rfl (by decide +kernel) ⟨Nat.le_of_ble_eq_true rfl, Nat.le_of_ble_eq_true rfl⟩) ⟨fun a U g mk q => by obtain ⟨q0, q1, qP, qK, qD⟩ := q; exact ⟨q0, q1, qP, va_K.moved (u := U) (U := U.calling g mk a) (Vm.Alike.refl U.vm) qK, qD⟩, va_recv hKc hPc (ci := 1) (q0 := 0) rfl rfl, fun U hU hW => ⟨rfl, by rw [hU], by rw [hU]; exact hPc, va_K.moved hW.alike hKc, hDc.weaken (fun _ _ _ _ => trivial)⟩⟩ rfl rfl hl.1 rfl (lv_room (Nat.le_of_ble_eq_true rfl)) dL_law_325 ⟨Nat.le_of_ble_eq_true rfl, Nat.le_of_ble_eq_true rfl⟩) hS (fun q _ h => hFc q h) hFc (fun r_m v1 t H1 locs ht hvm hw_r_m hB hz1 hk1 hS => ?_)
  obtain ⟨e_r_m, e_v1⟩ := hw_r_m
  obtain ⟨hP1, hK1, hD1⟩ := hB
  rw [ht] at hP1
  obtain ⟨hP, hD⟩ := va_join (wr := (rW ad cA u1)) (w1 := (mW bd cB v1)) hP hD [7, 8, 9, 10, 11, 12, 13, 14] [0, 1, 2, 3, 4, 5, 6] rfl rfl (by decide) (by decide) hk1 hFc hP1 hD1
  generalize H1 = H at hP hS ⊢
  refine lv_icmp_eq (tgt := 602) hx hb dL_law_328 (by decide) (fun c_1 => ?_) (fun c_1 => ?_)
  · have hsim := ss_work hR htt (xs (x3 + 1).toNatClampNeg)
    rw [← e_u1, ← e_v1] at hsim
    exact kk _ _ _ _ hsim.2 hP hD hS
  · exact absurd (by rw [e_r_x, e_r_m]; exact (ss_work hR htt (xs (x3 + 1).toNatClampNeg)).1) c_1
set_option maxHeartbeats 4000000 in
set_option maxRecDepth 100000 in
theorem lc_take {p : Program} {l : Launch} {e : Env} {s : State} {m : MethodId} {below : List Frame} {meth : Method} {c : Code} {dC : Nat → ClassId} {dI : Nat → Nat → Nat} {b L : Nat} {xs : Nat → Int32} (C0 : lw_At p s m meth c b L xs) {ad bd : Nat → Nat} {cA cB : Nat → ClassId} {u : RS} {v : MS} {tt : Nat} (hR : sSim tt u v) (htt : tt < 100000) (hK : va_K (dC, dI) vwCl (rT cA ++ mT cB) s) {H : Heap} {locs : List Loc} (hP : va_P (dC, dI) vwCl (rW ad cA u ++ mW bd cB v) H) (hD : va_D (fun q : Nat => s.heap.size ≤ q) (rW ad cA u ++ mW bd cB v)) (hS : va_S (fun q : Nat => s.heap.size ≤ q) s.heap H locs) {ls : Array Slot} {x3 : Int32} (hl : lv_has ls 4 [(0, .ref b), (1, .ref (ad 0)), (2, .ref (bd 0)), (3, .int x3)]) (hj1 : vp_in (x3 + 1) L) (hj2 : vp_in (x3 + 2) L) (hj3 : vp_in (x3 + 3) L) (kk : ∀ (u : RS) (v : MS) (H : Heap) (locs : List Loc), sSim (tt + 64) u v → va_P (dC, dI) vwCl (rW ad cA u ++ mW bd cB v) H → va_D (fun q : Nat => s.heap.size ≤ q) (rW ad cA u ++ mW bd cB v) → va_S (fun q : Nat => s.heap.size ≤ q) s.heap H locs → W p l e room_1 s m #[Value.ref b] below meth c H locs 15 425 (lw_Z below #[Value.ref b] s) (F0 m 602 ls [])) : W p l e room_1 s m #[Value.ref b] below meth c H locs 15 425 (lw_Z below #[Value.ref b] s) (F0 m 333 ls []) := by
  obtain ⟨hx, hb, hr, hml, hown, hts, hX, hbl, hlocks, hgv⟩ := C0
  have hA : ∀ q : Nat, s.heap.size ≤ q → (fun q : Nat => s.heap.size ≤ q) q := fun _ h => h
  have hbA : ¬ (fun q : Nat => s.heap.size ≤ q) b := Nat.not_le.mpr hbl
  have htL : ∀ w ∈ wsL_law, w.before #[Value.ref b] s = true := fun w h => hts w (wsL_law_in w h)
  refine lv_aload_n hx hb dL_law_333 rfl (lv_at hl 1 rfl) ?_
  refine lv_aload_n hx hb dL_law_334 rfl (lv_at hl 0 rfl) ?_
  refine lv_iload_n hx hb dL_law_335 rfl (lv_at hl 3 rfl) ?_
  refine lv_iconst (v := 1) hx hb dL_law_336 (by decide) ?_
  refine lv_iadd hx hb dL_law_337 ?_
  refine va_sld hx hb hX hbl hbA hS hj1 dL_law_338 ?_
  have hPc := hP.sub (ws' := (rW ad cA u)) [0, 1, 2, 3, 4, 5, 6] rfl
  have hKc := hK.sub (tys' := rT cA) [0, 1, 2, 3, 4, 5] rfl
  have hDc := hD.sub (ws' := (rW ad cA u)) [0, 1, 2, 3, 4, 5, 6] (by decide) rfl
  have hFc := va_free (wc := (rW ad cA u)) hD hS hA [0, 1, 2, 3, 4, 5, 6] rfl
  refine va_calli (va_runV (As := [.int (xs (x3 + 1).toNatClampNeg)]) (rest := []) ⟨hx, hb, hml, hown, htL⟩ (rc_take l dC dI ad cA _ u (xs (x3 + 1).toNatClampNeg) _ rfl) (cwV 1 htL gL_law_X0_take rfl rfl rfl (by decide +kernel) ⟨Nat.le_of_ble_eq_true rfl, Nat.le_of_ble_eq_true rfl⟩) ⟨fun a U g mk q => by obtain ⟨q0, q1, qP, qK, qD⟩ := q; exact ⟨q0, q1, qP, va_K.moved (u := U) (U := U.calling g mk a) (Vm.Alike.refl U.vm) qK, qD⟩, va_recv hKc hPc (ci := 0) (q0 := 0) rfl rfl, fun U hU hW => ⟨rfl, by rw [hU], by rw [hU]; exact hPc, va_K.moved hW.alike hKc, hDc.weaken (fun _ _ _ _ => trivial)⟩⟩ rfl rfl hl.1 rfl (lv_room (Nat.le_of_ble_eq_true rfl)) dL_law_339 ⟨Nat.le_of_ble_eq_true rfl, Nat.le_of_ble_eq_true rfl⟩) hS (fun q _ h => hFc q h) hFc (fun r_x u1 t H1 locs ht hvm hw_r_x hB hz1 hk1 hS => ?_)
  obtain ⟨e_r_x, e_u1⟩ := hw_r_x
  obtain ⟨hP1, hK1, hD1⟩ := hB
  rw [ht] at hP1
  obtain ⟨hP, hD⟩ := va_join (wr := (mW bd cB v)) (w1 := (rW ad cA u1)) hP hD [0, 1, 2, 3, 4, 5, 6] [7, 8, 9, 10, 11, 12, 13, 14] rfl rfl (by decide) (by decide) hk1 hFc hP1 hD1
  generalize H1 = H at hP hS ⊢
  have hP := hP.sub (ws' := (rW ad cA u1 ++ mW bd cB v)) [8, 9, 10, 11, 12, 13, 14, 0, 1, 2, 3, 4, 5, 6, 7] rfl
  have hD := hD.sub (ws' := (rW ad cA u1 ++ mW bd cB v)) [8, 9, 10, 11, 12, 13, 14, 0, 1, 2, 3, 4, 5, 6, 7] (by decide) rfl
  refine lv_aload_n hx hb dL_law_342 rfl (lv_at hl 2 rfl) ?_
  refine lv_aload_n hx hb dL_law_343 rfl (lv_at hl 0 rfl) ?_
  refine lv_iload_n hx hb dL_law_344 rfl (lv_at hl 3 rfl) ?_
  refine lv_iconst (v := 1) hx hb dL_law_345 (by decide) ?_
  refine lv_iadd hx hb dL_law_346 ?_
  refine va_sld hx hb hX hbl hbA hS hj1 dL_law_347 ?_
  have hPc := hP.sub (ws' := (mW bd cB v)) [7, 8, 9, 10, 11, 12, 13, 14] rfl
  have hKc := hK.sub (tys' := mT cB) [6, 7, 8, 9, 10, 11, 12] rfl
  have hDc := hD.sub (ws' := (mW bd cB v)) [7, 8, 9, 10, 11, 12, 13, 14] (by decide) rfl
  have hFc := va_free (wc := (mW bd cB v)) hD hS hA [7, 8, 9, 10, 11, 12, 13, 14] rfl
  refine va_calli (va_runV (As := [.int (xs (x3 + 1).toNatClampNeg)]) (rest := [.int r_x]) ⟨hx, hb, hml, hown, hts⟩ (mc_take l dC dI bd cB _ v (xs (x3 + 1).toNatClampNeg) _ rfl) (cwV 1 hts gLM_take rfl rfl rfl (by decide +kernel) ⟨Nat.le_of_ble_eq_true rfl, Nat.le_of_ble_eq_true rfl⟩) ⟨fun a U g mk q => by obtain ⟨q0, q1, qP, qK, qD⟩ := q; exact ⟨q0, q1, qP, va_K.moved (u := U) (U := U.calling g mk a) (Vm.Alike.refl U.vm) qK, qD⟩, va_recv hKc hPc (ci := 1) (q0 := 0) rfl rfl, fun U hU hW => ⟨rfl, by rw [hU], by rw [hU]; exact hPc, va_K.moved hW.alike hKc, hDc.weaken (fun _ _ _ _ => trivial)⟩⟩ rfl rfl hl.1 rfl (lv_room (Nat.le_of_ble_eq_true rfl)) dL_law_348 ⟨Nat.le_of_ble_eq_true rfl, Nat.le_of_ble_eq_true rfl⟩) hS (fun q _ h => hFc q h) hFc (fun r_m v1 t H1 locs ht hvm hw_r_m hB hz1 hk1 hS => ?_)
  obtain ⟨e_r_m, e_v1⟩ := hw_r_m
  obtain ⟨hP1, hK1, hD1⟩ := hB
  rw [ht] at hP1
  obtain ⟨hP, hD⟩ := va_join (wr := (rW ad cA u1)) (w1 := (mW bd cB v1)) hP hD [7, 8, 9, 10, 11, 12, 13, 14] [0, 1, 2, 3, 4, 5, 6] rfl rfl (by decide) (by decide) hk1 hFc hP1 hD1
  generalize H1 = H at hP hS ⊢
  refine lv_icmp_eq (tgt := 602) hx hb dL_law_351 (by decide) (fun c_1 => ?_) (fun c_1 => ?_)
  · have hsim := ss_take hR htt (xs (x3 + 1).toNatClampNeg)
    rw [← e_u1, ← e_v1] at hsim
    exact kk _ _ _ _ hsim.2 hP hD hS
  · exact absurd (by rw [e_r_x, e_r_m]; exact (ss_take hR htt (xs (x3 + 1).toNatClampNeg)).1) c_1
set_option maxHeartbeats 4000000 in
set_option maxRecDepth 100000 in
theorem lc_rate {p : Program} {l : Launch} {e : Env} {s : State} {m : MethodId} {below : List Frame} {meth : Method} {c : Code} {dC : Nat → ClassId} {dI : Nat → Nat → Nat} {b L : Nat} {xs : Nat → Int32} (C0 : lw_At p s m meth c b L xs) {ad bd : Nat → Nat} {cA cB : Nat → ClassId} {u : RS} {v : MS} {tt : Nat} (hR : sSim tt u v) (htt : tt < 100000) (hK : va_K (dC, dI) vwCl (rT cA ++ mT cB) s) {H : Heap} {locs : List Loc} (hP : va_P (dC, dI) vwCl (rW ad cA u ++ mW bd cB v) H) (hD : va_D (fun q : Nat => s.heap.size ≤ q) (rW ad cA u ++ mW bd cB v)) (hS : va_S (fun q : Nat => s.heap.size ≤ q) s.heap H locs) {ls : Array Slot} {x3 : Int32} (hl : lv_has ls 4 [(0, .ref b), (1, .ref (ad 0)), (2, .ref (bd 0)), (3, .int x3)]) (hj1 : vp_in (x3 + 1) L) (hj2 : vp_in (x3 + 2) L) (hj3 : vp_in (x3 + 3) L) (kk : ∀ (u : RS) (v : MS) (H : Heap) (locs : List Loc), sSim (tt + 64) u v → va_P (dC, dI) vwCl (rW ad cA u ++ mW bd cB v) H → va_D (fun q : Nat => s.heap.size ≤ q) (rW ad cA u ++ mW bd cB v) → va_S (fun q : Nat => s.heap.size ≤ q) s.heap H locs → W p l e room_1 s m #[Value.ref b] below meth c H locs 15 425 (lw_Z below #[Value.ref b] s) (F0 m 602 ls [])) : W p l e room_1 s m #[Value.ref b] below meth c H locs 15 425 (lw_Z below #[Value.ref b] s) (F0 m 356 ls []) := by
  obtain ⟨hx, hb, hr, hml, hown, hts, hX, hbl, hlocks, hgv⟩ := C0
  have hA : ∀ q : Nat, s.heap.size ≤ q → (fun q : Nat => s.heap.size ≤ q) q := fun _ h => h
  have hbA : ¬ (fun q : Nat => s.heap.size ≤ q) b := Nat.not_le.mpr hbl
  have htL : ∀ w ∈ wsL_law, w.before #[Value.ref b] s = true := fun w h => hts w (wsL_law_in w h)
  refine lv_aload_n hx hb dL_law_356 rfl (lv_at hl 1 rfl) ?_
  refine lv_aload_n hx hb dL_law_357 rfl (lv_at hl 0 rfl) ?_
  refine lv_iload_n hx hb dL_law_358 rfl (lv_at hl 3 rfl) ?_
  refine lv_iconst (v := 1) hx hb dL_law_359 (by decide) ?_
  refine lv_iadd hx hb dL_law_360 ?_
  refine va_sld hx hb hX hbl hbA hS hj1 dL_law_361 ?_
  refine lv_aload_n hx hb dL_law_362 rfl (lv_at hl 0 rfl) ?_
  refine lv_iload_n hx hb dL_law_363 rfl (lv_at hl 3 rfl) ?_
  refine lv_iconst (v := 2) hx hb dL_law_364 (by decide) ?_
  refine lv_iadd hx hb dL_law_365 ?_
  refine va_sld hx hb hX hbl hbA hS hj2 dL_law_366 ?_
  have hPc := hP.sub (ws' := (rW ad cA u)) [0, 1, 2, 3, 4, 5, 6] rfl
  have hKc := hK.sub (tys' := rT cA) [0, 1, 2, 3, 4, 5] rfl
  have hDc := hD.sub (ws' := (rW ad cA u)) [0, 1, 2, 3, 4, 5, 6] (by decide) rfl
  have hFc := va_free (wc := (rW ad cA u)) hD hS hA [0, 1, 2, 3, 4, 5, 6] rfl
  refine va_calli (va_runV (As := [.int (xs (x3 + 1).toNatClampNeg), .int (xs (x3 + 2).toNatClampNeg)]) (rest := []) ⟨hx, hb, hml, hown, htL⟩ (rc_rate l dC dI ad cA _ u (xs (x3 + 1).toNatClampNeg) (xs (x3 + 2).toNatClampNeg) _ rfl) (cwV 2 htL gL_law_X0_rate rfl rfl rfl (by decide +kernel) ⟨Nat.le_of_ble_eq_true rfl, Nat.le_of_ble_eq_true rfl⟩) ⟨fun a U g mk q => by obtain ⟨q0, q1, qP, qK, qD⟩ := q; exact ⟨q0, q1, qP, va_K.moved (u := U) (U := U.calling g mk a) (Vm.Alike.refl U.vm) qK, qD⟩, va_recv hKc hPc (ci := 0) (q0 := 0) rfl rfl, fun U hU hW => ⟨rfl, by rw [hU], by rw [hU]; exact hPc, va_K.moved hW.alike hKc, hDc.weaken (fun _ _ _ _ => trivial)⟩⟩ rfl rfl hl.1 rfl (lv_room (Nat.le_of_ble_eq_true rfl)) dL_law_367 ⟨Nat.le_of_ble_eq_true rfl, Nat.le_of_ble_eq_true rfl⟩) hS (fun q _ h => hFc q h) hFc (fun r_x u1 t H1 locs ht hvm hw_r_x hB hz1 hk1 hS => ?_)
  obtain ⟨e_r_x, e_u1⟩ := hw_r_x
  obtain ⟨hP1, hK1, hD1⟩ := hB
  rw [ht] at hP1
  obtain ⟨hP, hD⟩ := va_join (wr := (mW bd cB v)) (w1 := (rW ad cA u1)) hP hD [0, 1, 2, 3, 4, 5, 6] [7, 8, 9, 10, 11, 12, 13, 14] rfl rfl (by decide) (by decide) hk1 hFc hP1 hD1
  generalize H1 = H at hP hS ⊢
  have hP := hP.sub (ws' := (rW ad cA u1 ++ mW bd cB v)) [8, 9, 10, 11, 12, 13, 14, 0, 1, 2, 3, 4, 5, 6, 7] rfl
  have hD := hD.sub (ws' := (rW ad cA u1 ++ mW bd cB v)) [8, 9, 10, 11, 12, 13, 14, 0, 1, 2, 3, 4, 5, 6, 7] (by decide) rfl
  refine lv_aload_n hx hb dL_law_370 rfl (lv_at hl 2 rfl) ?_
  refine lv_aload_n hx hb dL_law_371 rfl (lv_at hl 0 rfl) ?_
  refine lv_iload_n hx hb dL_law_372 rfl (lv_at hl 3 rfl) ?_
  refine lv_iconst (v := 1) hx hb dL_law_373 (by decide) ?_
  refine lv_iadd hx hb dL_law_374 ?_
  refine va_sld hx hb hX hbl hbA hS hj1 dL_law_375 ?_
  refine lv_aload_n hx hb dL_law_376 rfl (lv_at hl 0 rfl) ?_
  refine lv_iload_n hx hb dL_law_377 rfl (lv_at hl 3 rfl) ?_
  refine lv_iconst (v := 2) hx hb dL_law_378 (by decide) ?_
  refine lv_iadd hx hb dL_law_379 ?_
  refine va_sld hx hb hX hbl hbA hS hj2 dL_law_380 ?_
  have hPc := hP.sub (ws' := (mW bd cB v)) [7, 8, 9, 10, 11, 12, 13, 14] rfl
  have hKc := hK.sub (tys' := mT cB) [6, 7, 8, 9, 10, 11, 12] rfl
  have hDc := hD.sub (ws' := (mW bd cB v)) [7, 8, 9, 10, 11, 12, 13, 14] (by decide) rfl
  have hFc := va_free (wc := (mW bd cB v)) hD hS hA [7, 8, 9, 10, 11, 12, 13, 14] rfl
  refine va_calli (va_runV (As := [.int (xs (x3 + 1).toNatClampNeg), .int (xs (x3 + 2).toNatClampNeg)]) (rest := [.int r_x]) ⟨hx, hb, hml, hown, hts⟩ (mc_rate l dC dI bd cB _ v (xs (x3 + 1).toNatClampNeg) (xs (x3 + 2).toNatClampNeg) _ rfl) (cwV 2 hts gLM_rate rfl rfl rfl (by decide +kernel) ⟨Nat.le_of_ble_eq_true rfl, Nat.le_of_ble_eq_true rfl⟩) ⟨fun a U g mk q => by obtain ⟨q0, q1, qP, qK, qD⟩ := q; exact ⟨q0, q1, qP, va_K.moved (u := U) (U := U.calling g mk a) (Vm.Alike.refl U.vm) qK, qD⟩, va_recv hKc hPc (ci := 1) (q0 := 0) rfl rfl, fun U hU hW => ⟨rfl, by rw [hU], by rw [hU]; exact hPc, va_K.moved hW.alike hKc, hDc.weaken (fun _ _ _ _ => trivial)⟩⟩ rfl rfl hl.1 rfl (lv_room (Nat.le_of_ble_eq_true rfl)) dL_law_381 ⟨Nat.le_of_ble_eq_true rfl, Nat.le_of_ble_eq_true rfl⟩) hS (fun q _ h => hFc q h) hFc (fun r_m v1 t H1 locs ht hvm hw_r_m hB hz1 hk1 hS => ?_)
  obtain ⟨e_r_m, e_v1⟩ := hw_r_m
  obtain ⟨hP1, hK1, hD1⟩ := hB
  rw [ht] at hP1
  obtain ⟨hP, hD⟩ := va_join (wr := (rW ad cA u1)) (w1 := (mW bd cB v1)) hP hD [7, 8, 9, 10, 11, 12, 13, 14] [0, 1, 2, 3, 4, 5, 6] rfl rfl (by decide) (by decide) hk1 hFc hP1 hD1
  generalize H1 = H at hP hS ⊢
  refine lv_icmp_eq (tgt := 602) hx hb dL_law_384 (by decide) (fun c_1 => ?_) (fun c_1 => ?_)
  · have hsim := ss_rate hR htt (xs (x3 + 1).toNatClampNeg) (xs (x3 + 2).toNatClampNeg)
    rw [← e_u1, ← e_v1] at hsim
    exact kk _ _ _ _ hsim.2 hP hD hS
  · exact absurd (by rw [e_r_x, e_r_m]; exact (ss_rate hR htt (xs (x3 + 1).toNatClampNeg) (xs (x3 + 2).toNatClampNeg)).1) c_1
set_option maxHeartbeats 4000000 in
set_option maxRecDepth 100000 in
theorem lc_yield {p : Program} {l : Launch} {e : Env} {s : State} {m : MethodId} {below : List Frame} {meth : Method} {c : Code} {dC : Nat → ClassId} {dI : Nat → Nat → Nat} {b L : Nat} {xs : Nat → Int32} (C0 : lw_At p s m meth c b L xs) {ad bd : Nat → Nat} {cA cB : Nat → ClassId} {u : RS} {v : MS} {tt : Nat} (hR : sSim tt u v) (htt : tt < 100000) (hK : va_K (dC, dI) vwCl (rT cA ++ mT cB) s) {H : Heap} {locs : List Loc} (hP : va_P (dC, dI) vwCl (rW ad cA u ++ mW bd cB v) H) (hD : va_D (fun q : Nat => s.heap.size ≤ q) (rW ad cA u ++ mW bd cB v)) (hS : va_S (fun q : Nat => s.heap.size ≤ q) s.heap H locs) {ls : Array Slot} {x3 : Int32} (hl : lv_has ls 4 [(0, .ref b), (1, .ref (ad 0)), (2, .ref (bd 0)), (3, .int x3)]) (hj1 : vp_in (x3 + 1) L) (hj2 : vp_in (x3 + 2) L) (hj3 : vp_in (x3 + 3) L) (kk : ∀ (u : RS) (v : MS) (H : Heap) (locs : List Loc), sSim (tt + 64) u v → va_P (dC, dI) vwCl (rW ad cA u ++ mW bd cB v) H → va_D (fun q : Nat => s.heap.size ≤ q) (rW ad cA u ++ mW bd cB v) → va_S (fun q : Nat => s.heap.size ≤ q) s.heap H locs → W p l e room_1 s m #[Value.ref b] below meth c H locs 15 425 (lw_Z below #[Value.ref b] s) (F0 m 602 ls [])) : W p l e room_1 s m #[Value.ref b] below meth c H locs 15 425 (lw_Z below #[Value.ref b] s) (F0 m 389 ls []) := by
  obtain ⟨hx, hb, hr, hml, hown, hts, hX, hbl, hlocks, hgv⟩ := C0
  have hA : ∀ q : Nat, s.heap.size ≤ q → (fun q : Nat => s.heap.size ≤ q) q := fun _ h => h
  have hbA : ¬ (fun q : Nat => s.heap.size ≤ q) b := Nat.not_le.mpr hbl
  have htL : ∀ w ∈ wsL_law, w.before #[Value.ref b] s = true := fun w h => hts w (wsL_law_in w h)
  refine lv_aload_n hx hb dL_law_389 rfl (lv_at hl 1 rfl) ?_
  have hPc := hP.sub (ws' := (rW ad cA u)) [0, 1, 2, 3, 4, 5, 6] rfl
  have hKc := hK.sub (tys' := rT cA) [0, 1, 2, 3, 4, 5] rfl
  have hDc := hD.sub (ws' := (rW ad cA u)) [0, 1, 2, 3, 4, 5, 6] (by decide) rfl
  have hFc := va_free (wc := (rW ad cA u)) hD hS hA [0, 1, 2, 3, 4, 5, 6] rfl
  refine va_calli (va_runV (As := []) (rest := []) ⟨hx, hb, hml, hown, htL⟩ (rc_yield l dC dI ad cA _ u (ss_rInv hR) _ rfl) (cwV 0 htL gL_law_X0_yield rfl rfl rfl (by decide +kernel) ⟨Nat.le_of_ble_eq_true rfl, Nat.le_of_ble_eq_true rfl⟩) ⟨fun a U g mk q => by obtain ⟨q0, q1, qP, qK, qD⟩ := q; exact ⟨q0, q1, qP, va_K.moved (u := U) (U := U.calling g mk a) (Vm.Alike.refl U.vm) qK, qD⟩, va_recv hKc hPc (ci := 0) (q0 := 0) rfl rfl, fun U hU hW => ⟨rfl, by rw [hU], by rw [hU]; exact hPc, va_K.moved hW.alike hKc, hDc.weaken (fun _ _ _ _ => trivial)⟩⟩ rfl rfl hl.1 rfl (lv_room (Nat.le_of_ble_eq_true rfl)) dL_law_390 ⟨Nat.le_of_ble_eq_true rfl, Nat.le_of_ble_eq_true rfl⟩) hS (fun q _ h => hFc q h) hFc (fun r_x u1 t H1 locs ht hvm hw_r_x hB hz1 hk1 hS => ?_)
  obtain ⟨e_r_x, e_u1⟩ := hw_r_x
  obtain ⟨hP1, hK1, hD1⟩ := hB
  rw [ht] at hP1
  obtain ⟨hP, hD⟩ := va_join (wr := (mW bd cB v)) (w1 := (rW ad cA u1)) hP hD [0, 1, 2, 3, 4, 5, 6] [7, 8, 9, 10, 11, 12, 13, 14] rfl rfl (by decide) (by decide) hk1 hFc hP1 hD1
  generalize H1 = H at hP hS ⊢
  have hP := hP.sub (ws' := (rW ad cA u1 ++ mW bd cB v)) [8, 9, 10, 11, 12, 13, 14, 0, 1, 2, 3, 4, 5, 6, 7] rfl
  have hD := hD.sub (ws' := (rW ad cA u1 ++ mW bd cB v)) [8, 9, 10, 11, 12, 13, 14, 0, 1, 2, 3, 4, 5, 6, 7] (by decide) rfl
  refine lv_aload_n hx hb dL_law_393 rfl (lv_at hl 2 rfl) ?_
  have hPc := hP.sub (ws' := (mW bd cB v)) [7, 8, 9, 10, 11, 12, 13, 14] rfl
  have hKc := hK.sub (tys' := mT cB) [6, 7, 8, 9, 10, 11, 12] rfl
  have hDc := hD.sub (ws' := (mW bd cB v)) [7, 8, 9, 10, 11, 12, 13, 14] (by decide) rfl
  have hFc := va_free (wc := (mW bd cB v)) hD hS hA [7, 8, 9, 10, 11, 12, 13, 14] rfl
  refine va_calli (va_runV (As := []) (rest := [.int r_x]) ⟨hx, hb, hml, hown, hts⟩ (mc_yield l dC dI bd cB _ v (ss_mInv hR) _ rfl) (cwV 0 hts gLM_yield rfl rfl rfl (by decide +kernel) ⟨Nat.le_of_ble_eq_true rfl, Nat.le_of_ble_eq_true rfl⟩) ⟨fun a U g mk q => by obtain ⟨q0, q1, qP, qK, qD⟩ := q; exact ⟨q0, q1, qP, va_K.moved (u := U) (U := U.calling g mk a) (Vm.Alike.refl U.vm) qK, qD⟩, va_recv hKc hPc (ci := 1) (q0 := 0) rfl rfl, fun U hU hW => ⟨rfl, by rw [hU], by rw [hU]; exact hPc, va_K.moved hW.alike hKc, hDc.weaken (fun _ _ _ _ => trivial)⟩⟩ rfl rfl hl.1 rfl (lv_room (Nat.le_of_ble_eq_true rfl)) dL_law_394 ⟨Nat.le_of_ble_eq_true rfl, Nat.le_of_ble_eq_true rfl⟩) hS (fun q _ h => hFc q h) hFc (fun r_m v1 t H1 locs ht hvm hw_r_m hB hz1 hk1 hS => ?_)
  obtain ⟨e_r_m, e_v1⟩ := hw_r_m
  obtain ⟨hP1, hK1, hD1⟩ := hB
  rw [ht] at hP1
  obtain ⟨hP, hD⟩ := va_join (wr := (rW ad cA u1)) (w1 := (mW bd cB v1)) hP hD [7, 8, 9, 10, 11, 12, 13, 14] [0, 1, 2, 3, 4, 5, 6] rfl rfl (by decide) (by decide) hk1 hFc hP1 hD1
  generalize H1 = H at hP hS ⊢
  refine lv_icmp_eq (tgt := 602) hx hb dL_law_397 (by decide) (fun c_1 => ?_) (fun c_1 => ?_)
  · have hsim := ss_yield hR htt 
    rw [← e_u1, ← e_v1] at hsim
    exact kk _ _ _ _ hsim.2 hP hD hS
  · exact absurd (by rw [e_r_x, e_r_m]; exact (ss_yield hR htt ).1) c_1
set_option maxHeartbeats 4000000 in
set_option maxRecDepth 100000 in
theorem lc_active {p : Program} {l : Launch} {e : Env} {s : State} {m : MethodId} {below : List Frame} {meth : Method} {c : Code} {dC : Nat → ClassId} {dI : Nat → Nat → Nat} {b L : Nat} {xs : Nat → Int32} (C0 : lw_At p s m meth c b L xs) {ad bd : Nat → Nat} {cA cB : Nat → ClassId} {u : RS} {v : MS} {tt : Nat} (hR : sSim tt u v) (htt : tt < 100000) (hK : va_K (dC, dI) vwCl (rT cA ++ mT cB) s) {H : Heap} {locs : List Loc} (hP : va_P (dC, dI) vwCl (rW ad cA u ++ mW bd cB v) H) (hD : va_D (fun q : Nat => s.heap.size ≤ q) (rW ad cA u ++ mW bd cB v)) (hS : va_S (fun q : Nat => s.heap.size ≤ q) s.heap H locs) {ls : Array Slot} {x3 : Int32} (hl : lv_has ls 4 [(0, .ref b), (1, .ref (ad 0)), (2, .ref (bd 0)), (3, .int x3)]) (hj1 : vp_in (x3 + 1) L) (hj2 : vp_in (x3 + 2) L) (hj3 : vp_in (x3 + 3) L) (kk : ∀ (u : RS) (v : MS) (H : Heap) (locs : List Loc), sSim (tt + 64) u v → va_P (dC, dI) vwCl (rW ad cA u ++ mW bd cB v) H → va_D (fun q : Nat => s.heap.size ≤ q) (rW ad cA u ++ mW bd cB v) → va_S (fun q : Nat => s.heap.size ≤ q) s.heap H locs → W p l e room_1 s m #[Value.ref b] below meth c H locs 15 425 (lw_Z below #[Value.ref b] s) (F0 m 602 ls [])) : W p l e room_1 s m #[Value.ref b] below meth c H locs 15 425 (lw_Z below #[Value.ref b] s) (F0 m 402 ls []) := by
  obtain ⟨hx, hb, hr, hml, hown, hts, hX, hbl, hlocks, hgv⟩ := C0
  have hA : ∀ q : Nat, s.heap.size ≤ q → (fun q : Nat => s.heap.size ≤ q) q := fun _ h => h
  have hbA : ¬ (fun q : Nat => s.heap.size ≤ q) b := Nat.not_le.mpr hbl
  have htL : ∀ w ∈ wsL_law, w.before #[Value.ref b] s = true := fun w h => hts w (wsL_law_in w h)
  refine lv_aload_n hx hb dL_law_402 rfl (lv_at hl 1 rfl) ?_
  have hPc := hP.sub (ws' := (rW ad cA u)) [0, 1, 2, 3, 4, 5, 6] rfl
  have hKc := hK.sub (tys' := rT cA) [0, 1, 2, 3, 4, 5] rfl
  refine va_calli (va_runV (As := []) (rest := []) ⟨hx, hb, hml, hown, htL⟩ (rc_active l dC dI ad cA u _ rfl) (cwV 0 htL gL_law_X0_active rfl rfl rfl (by decide +kernel) ⟨Nat.le_of_ble_eq_true rfl, Nat.le_of_ble_eq_true rfl⟩) ⟨fun a U g mk q => by obtain ⟨q0, qP, qK⟩ := q; exact ⟨q0, qP, va_K.moved (u := U) (U := U.calling g mk a) (Vm.Alike.refl U.vm) qK⟩, va_recv hKc hPc (ci := 0) (q0 := 0) rfl rfl, fun U hU hW => ⟨rfl, by rw [hU]; exact hPc, va_K.moved hW.alike hKc⟩⟩ rfl rfl hl.1 rfl (lv_room (Nat.le_of_ble_eq_true rfl)) dL_law_403 ⟨Nat.le_of_ble_eq_true rfl, Nat.le_of_ble_eq_true rfl⟩) hS (fun _ _ h => h.elim) (fun _ h => h.elim) (fun r_x u_ t H1 locs ht hvm e_r_x hB hz1 hk1 hS => ?_)
  have hP := hP.kept (fun k x hx => hk1 x.1 ((hP k x hx).lt) (fun h => h))
  generalize H1 = H at hP hS ⊢
  refine lv_aload_n hx hb dL_law_406 rfl (lv_at hl 2 rfl) ?_
  have hPc := hP.sub (ws' := (mW bd cB v)) [7, 8, 9, 10, 11, 12, 13, 14] rfl
  have hKc := hK.sub (tys' := mT cB) [6, 7, 8, 9, 10, 11, 12] rfl
  refine va_calli (va_runV (As := []) (rest := [.int r_x]) ⟨hx, hb, hml, hown, hts⟩ (mc_active l dC dI bd cB v _ rfl) (cwV 0 hts gLM_active rfl rfl rfl (by decide +kernel) ⟨Nat.le_of_ble_eq_true rfl, Nat.le_of_ble_eq_true rfl⟩) ⟨fun a U g mk q => by obtain ⟨q0, qP, qK⟩ := q; exact ⟨q0, qP, va_K.moved (u := U) (U := U.calling g mk a) (Vm.Alike.refl U.vm) qK⟩, va_recv hKc hPc (ci := 1) (q0 := 0) rfl rfl, fun U hU hW => ⟨rfl, by rw [hU]; exact hPc, va_K.moved hW.alike hKc⟩⟩ rfl rfl hl.1 rfl (lv_room (Nat.le_of_ble_eq_true rfl)) dL_law_407 ⟨Nat.le_of_ble_eq_true rfl, Nat.le_of_ble_eq_true rfl⟩) hS (fun _ _ h => h.elim) (fun _ h => h.elim) (fun r_m u_ t H1 locs ht hvm e_r_m hB hz1 hk1 hS => ?_)
  have hP := hP.kept (fun k x hx => hk1 x.1 ((hP k x hx).lt) (fun h => h))
  generalize H1 = H at hP hS ⊢
  refine lv_icmp_eq (tgt := 602) hx hb dL_law_410 (by decide) (fun c_1 => ?_) (fun c_1 => ?_)
  · have hsim := ss_active hR htt 
    exact kk _ _ _ _ (ss_mono hR (by omega)) hP hD hS
  · exact absurd (by rw [e_r_x, e_r_m]; exact ss_active hR htt ) c_1
set_option maxHeartbeats 4000000 in
set_option maxRecDepth 100000 in
theorem lc_present {p : Program} {l : Launch} {e : Env} {s : State} {m : MethodId} {below : List Frame} {meth : Method} {c : Code} {dC : Nat → ClassId} {dI : Nat → Nat → Nat} {b L : Nat} {xs : Nat → Int32} (C0 : lw_At p s m meth c b L xs) {ad bd : Nat → Nat} {cA cB : Nat → ClassId} {u : RS} {v : MS} {tt : Nat} (hR : sSim tt u v) (htt : tt < 100000) (hK : va_K (dC, dI) vwCl (rT cA ++ mT cB) s) {H : Heap} {locs : List Loc} (hP : va_P (dC, dI) vwCl (rW ad cA u ++ mW bd cB v) H) (hD : va_D (fun q : Nat => s.heap.size ≤ q) (rW ad cA u ++ mW bd cB v)) (hS : va_S (fun q : Nat => s.heap.size ≤ q) s.heap H locs) {ls : Array Slot} {x3 : Int32} (hl : lv_has ls 4 [(0, .ref b), (1, .ref (ad 0)), (2, .ref (bd 0)), (3, .int x3)]) (hj1 : vp_in (x3 + 1) L) (hj2 : vp_in (x3 + 2) L) (hj3 : vp_in (x3 + 3) L) (kk : ∀ (u : RS) (v : MS) (H : Heap) (locs : List Loc), sSim (tt + 64) u v → va_P (dC, dI) vwCl (rW ad cA u ++ mW bd cB v) H → va_D (fun q : Nat => s.heap.size ≤ q) (rW ad cA u ++ mW bd cB v) → va_S (fun q : Nat => s.heap.size ≤ q) s.heap H locs → W p l e room_1 s m #[Value.ref b] below meth c H locs 15 425 (lw_Z below #[Value.ref b] s) (F0 m 602 ls [])) : W p l e room_1 s m #[Value.ref b] below meth c H locs 15 425 (lw_Z below #[Value.ref b] s) (F0 m 415 ls []) := by
  obtain ⟨hx, hb, hr, hml, hown, hts, hX, hbl, hlocks, hgv⟩ := C0
  have hA : ∀ q : Nat, s.heap.size ≤ q → (fun q : Nat => s.heap.size ≤ q) q := fun _ h => h
  have hbA : ¬ (fun q : Nat => s.heap.size ≤ q) b := Nat.not_le.mpr hbl
  have htL : ∀ w ∈ wsL_law, w.before #[Value.ref b] s = true := fun w h => hts w (wsL_law_in w h)
  refine lv_aload_n hx hb dL_law_415 rfl (lv_at hl 1 rfl) ?_
  have hPc := hP.sub (ws' := (rW ad cA u)) [0, 1, 2, 3, 4, 5, 6] rfl
  have hKc := hK.sub (tys' := rT cA) [0, 1, 2, 3, 4, 5] rfl
  refine va_calli (va_runV (As := []) (rest := []) ⟨hx, hb, hml, hown, htL⟩ (rc_present l dC dI ad cA u _ rfl) (cwV 0 htL gL_law_X0_present rfl rfl rfl (by decide +kernel) ⟨Nat.le_of_ble_eq_true rfl, Nat.le_of_ble_eq_true rfl⟩) ⟨fun a U g mk q => by obtain ⟨q0, qP, qK⟩ := q; exact ⟨q0, qP, va_K.moved (u := U) (U := U.calling g mk a) (Vm.Alike.refl U.vm) qK⟩, va_recv hKc hPc (ci := 0) (q0 := 0) rfl rfl, fun U hU hW => ⟨rfl, by rw [hU]; exact hPc, va_K.moved hW.alike hKc⟩⟩ rfl rfl hl.1 rfl (lv_room (Nat.le_of_ble_eq_true rfl)) dL_law_416 ⟨Nat.le_of_ble_eq_true rfl, Nat.le_of_ble_eq_true rfl⟩) hS (fun _ _ h => h.elim) (fun _ h => h.elim) (fun r_x u_ t H1 locs ht hvm e_r_x hB hz1 hk1 hS => ?_)
  have hP := hP.kept (fun k x hx => hk1 x.1 ((hP k x hx).lt) (fun h => h))
  generalize H1 = H at hP hS ⊢
  refine lv_aload_n hx hb dL_law_419 rfl (lv_at hl 2 rfl) ?_
  have hPc := hP.sub (ws' := (mW bd cB v)) [7, 8, 9, 10, 11, 12, 13, 14] rfl
  have hKc := hK.sub (tys' := mT cB) [6, 7, 8, 9, 10, 11, 12] rfl
  refine va_calli (va_runV (As := []) (rest := [.int r_x]) ⟨hx, hb, hml, hown, hts⟩ (mc_present l dC dI bd cB v _ rfl) (cwV 0 hts gLM_present rfl rfl rfl (by decide +kernel) ⟨Nat.le_of_ble_eq_true rfl, Nat.le_of_ble_eq_true rfl⟩) ⟨fun a U g mk q => by obtain ⟨q0, qP, qK⟩ := q; exact ⟨q0, qP, va_K.moved (u := U) (U := U.calling g mk a) (Vm.Alike.refl U.vm) qK⟩, va_recv hKc hPc (ci := 1) (q0 := 0) rfl rfl, fun U hU hW => ⟨rfl, by rw [hU]; exact hPc, va_K.moved hW.alike hKc⟩⟩ rfl rfl hl.1 rfl (lv_room (Nat.le_of_ble_eq_true rfl)) dL_law_420 ⟨Nat.le_of_ble_eq_true rfl, Nat.le_of_ble_eq_true rfl⟩) hS (fun _ _ h => h.elim) (fun _ h => h.elim) (fun r_m u_ t H1 locs ht hvm e_r_m hB hz1 hk1 hS => ?_)
  have hP := hP.kept (fun k x hx => hk1 x.1 ((hP k x hx).lt) (fun h => h))
  generalize H1 = H at hP hS ⊢
  refine lv_icmp_eq (tgt := 602) hx hb dL_law_423 (by decide) (fun c_1 => ?_) (fun c_1 => ?_)
  · have hsim := ss_present hR htt 
    exact kk _ _ _ _ (ss_mono hR (by omega)) hP hD hS
  · exact absurd (by rw [e_r_x, e_r_m]; exact ss_present hR htt ) c_1
set_option maxHeartbeats 4000000 in
set_option maxRecDepth 100000 in
theorem lc_wanted {p : Program} {l : Launch} {e : Env} {s : State} {m : MethodId} {below : List Frame} {meth : Method} {c : Code} {dC : Nat → ClassId} {dI : Nat → Nat → Nat} {b L : Nat} {xs : Nat → Int32} (C0 : lw_At p s m meth c b L xs) {ad bd : Nat → Nat} {cA cB : Nat → ClassId} {u : RS} {v : MS} {tt : Nat} (hR : sSim tt u v) (htt : tt < 100000) (hK : va_K (dC, dI) vwCl (rT cA ++ mT cB) s) {H : Heap} {locs : List Loc} (hP : va_P (dC, dI) vwCl (rW ad cA u ++ mW bd cB v) H) (hD : va_D (fun q : Nat => s.heap.size ≤ q) (rW ad cA u ++ mW bd cB v)) (hS : va_S (fun q : Nat => s.heap.size ≤ q) s.heap H locs) {ls : Array Slot} {x3 : Int32} (hl : lv_has ls 4 [(0, .ref b), (1, .ref (ad 0)), (2, .ref (bd 0)), (3, .int x3)]) (hj1 : vp_in (x3 + 1) L) (hj2 : vp_in (x3 + 2) L) (hj3 : vp_in (x3 + 3) L) (kk : ∀ (u : RS) (v : MS) (H : Heap) (locs : List Loc), sSim (tt + 64) u v → va_P (dC, dI) vwCl (rW ad cA u ++ mW bd cB v) H → va_D (fun q : Nat => s.heap.size ≤ q) (rW ad cA u ++ mW bd cB v) → va_S (fun q : Nat => s.heap.size ≤ q) s.heap H locs → W p l e room_1 s m #[Value.ref b] below meth c H locs 15 425 (lw_Z below #[Value.ref b] s) (F0 m 602 ls [])) : W p l e room_1 s m #[Value.ref b] below meth c H locs 15 425 (lw_Z below #[Value.ref b] s) (F0 m 428 ls []) := by
  obtain ⟨hx, hb, hr, hml, hown, hts, hX, hbl, hlocks, hgv⟩ := C0
  have hA : ∀ q : Nat, s.heap.size ≤ q → (fun q : Nat => s.heap.size ≤ q) q := fun _ h => h
  have hbA : ¬ (fun q : Nat => s.heap.size ≤ q) b := Nat.not_le.mpr hbl
  have htL : ∀ w ∈ wsL_law, w.before #[Value.ref b] s = true := fun w h => hts w (wsL_law_in w h)
  refine lv_aload_n hx hb dL_law_428 rfl (lv_at hl 1 rfl) ?_
  have hPc := hP.sub (ws' := (rW ad cA u)) [0, 1, 2, 3, 4, 5, 6] rfl
  have hKc := hK.sub (tys' := rT cA) [0, 1, 2, 3, 4, 5] rfl
  refine va_calli (va_runV (As := []) (rest := []) ⟨hx, hb, hml, hown, htL⟩ (rc_wanted l dC dI ad cA u (ss_rInv hR) _ rfl) (cwV 0 htL gL_law_X0_wanted rfl rfl rfl (by decide +kernel) ⟨Nat.le_of_ble_eq_true rfl, Nat.le_of_ble_eq_true rfl⟩) ⟨fun a U g mk q => by obtain ⟨q0, qP, qK⟩ := q; exact ⟨q0, qP, va_K.moved (u := U) (U := U.calling g mk a) (Vm.Alike.refl U.vm) qK⟩, va_recv hKc hPc (ci := 0) (q0 := 0) rfl rfl, fun U hU hW => ⟨rfl, by rw [hU]; exact hPc, va_K.moved hW.alike hKc⟩⟩ rfl rfl hl.1 rfl (lv_room (Nat.le_of_ble_eq_true rfl)) dL_law_429 ⟨Nat.le_of_ble_eq_true rfl, Nat.le_of_ble_eq_true rfl⟩) hS (fun _ _ h => h.elim) (fun _ h => h.elim) (fun r_x u_ t H1 locs ht hvm e_r_x hB hz1 hk1 hS => ?_)
  have hP := hP.kept (fun k x hx => hk1 x.1 ((hP k x hx).lt) (fun h => h))
  generalize H1 = H at hP hS ⊢
  refine lv_aload_n hx hb dL_law_432 rfl (lv_at hl 2 rfl) ?_
  have hPc := hP.sub (ws' := (mW bd cB v)) [7, 8, 9, 10, 11, 12, 13, 14] rfl
  have hKc := hK.sub (tys' := mT cB) [6, 7, 8, 9, 10, 11, 12] rfl
  refine va_calli (va_runV (As := []) (rest := [.int r_x]) ⟨hx, hb, hml, hown, hts⟩ (mc_wanted l dC dI bd cB v (ss_mInv hR) _ rfl) (cwV 0 hts gLM_wanted rfl rfl rfl (by decide +kernel) ⟨Nat.le_of_ble_eq_true rfl, Nat.le_of_ble_eq_true rfl⟩) ⟨fun a U g mk q => by obtain ⟨q0, qP, qK⟩ := q; exact ⟨q0, qP, va_K.moved (u := U) (U := U.calling g mk a) (Vm.Alike.refl U.vm) qK⟩, va_recv hKc hPc (ci := 1) (q0 := 0) rfl rfl, fun U hU hW => ⟨rfl, by rw [hU]; exact hPc, va_K.moved hW.alike hKc⟩⟩ rfl rfl hl.1 rfl (lv_room (Nat.le_of_ble_eq_true rfl)) dL_law_433 ⟨Nat.le_of_ble_eq_true rfl, Nat.le_of_ble_eq_true rfl⟩) hS (fun _ _ h => h.elim) (fun _ h => h.elim) (fun r_m u_ t H1 locs ht hvm e_r_m hB hz1 hk1 hS => ?_)
  have hP := hP.kept (fun k x hx => hk1 x.1 ((hP k x hx).lt) (fun h => h))
  generalize H1 = H at hP hS ⊢
  refine lv_icmp_eq (tgt := 602) hx hb dL_law_436 (by decide) (fun c_1 => ?_) (fun c_1 => ?_)
  · have hsim := ss_wanted hR htt 
    exact kk _ _ _ _ (ss_mono hR (by omega)) hP hD hS
  · exact absurd (by rw [e_r_x, e_r_m]; exact ss_wanted hR htt ) c_1
set_option maxHeartbeats 4000000 in
set_option maxRecDepth 100000 in
theorem lc_here {p : Program} {l : Launch} {e : Env} {s : State} {m : MethodId} {below : List Frame} {meth : Method} {c : Code} {dC : Nat → ClassId} {dI : Nat → Nat → Nat} {b L : Nat} {xs : Nat → Int32} (C0 : lw_At p s m meth c b L xs) {ad bd : Nat → Nat} {cA cB : Nat → ClassId} {u : RS} {v : MS} {tt : Nat} (hR : sSim tt u v) (htt : tt < 100000) (hK : va_K (dC, dI) vwCl (rT cA ++ mT cB) s) {H : Heap} {locs : List Loc} (hP : va_P (dC, dI) vwCl (rW ad cA u ++ mW bd cB v) H) (hD : va_D (fun q : Nat => s.heap.size ≤ q) (rW ad cA u ++ mW bd cB v)) (hS : va_S (fun q : Nat => s.heap.size ≤ q) s.heap H locs) {ls : Array Slot} {x3 : Int32} (hl : lv_has ls 4 [(0, .ref b), (1, .ref (ad 0)), (2, .ref (bd 0)), (3, .int x3)]) (hj1 : vp_in (x3 + 1) L) (hj2 : vp_in (x3 + 2) L) (hj3 : vp_in (x3 + 3) L) (kk : ∀ (u : RS) (v : MS) (H : Heap) (locs : List Loc), sSim (tt + 64) u v → va_P (dC, dI) vwCl (rW ad cA u ++ mW bd cB v) H → va_D (fun q : Nat => s.heap.size ≤ q) (rW ad cA u ++ mW bd cB v) → va_S (fun q : Nat => s.heap.size ≤ q) s.heap H locs → W p l e room_1 s m #[Value.ref b] below meth c H locs 15 425 (lw_Z below #[Value.ref b] s) (F0 m 602 ls [])) : W p l e room_1 s m #[Value.ref b] below meth c H locs 15 425 (lw_Z below #[Value.ref b] s) (F0 m 441 ls []) := by
  obtain ⟨hx, hb, hr, hml, hown, hts, hX, hbl, hlocks, hgv⟩ := C0
  have hA : ∀ q : Nat, s.heap.size ≤ q → (fun q : Nat => s.heap.size ≤ q) q := fun _ h => h
  have hbA : ¬ (fun q : Nat => s.heap.size ≤ q) b := Nat.not_le.mpr hbl
  have htL : ∀ w ∈ wsL_law, w.before #[Value.ref b] s = true := fun w h => hts w (wsL_law_in w h)
  refine lv_aload_n hx hb dL_law_441 rfl (lv_at hl 1 rfl) ?_
  have hPc := hP.sub (ws' := (rW ad cA u)) [0, 1, 2, 3, 4, 5, 6] rfl
  have hKc := hK.sub (tys' := rT cA) [0, 1, 2, 3, 4, 5] rfl
  refine va_calli (va_runV (As := []) (rest := []) ⟨hx, hb, hml, hown, htL⟩ (rc_here l dC dI ad cA u _ rfl) (cwV 0 htL gL_law_X0_here rfl rfl rfl (by decide +kernel) ⟨Nat.le_of_ble_eq_true rfl, Nat.le_of_ble_eq_true rfl⟩) ⟨fun a U g mk q => by obtain ⟨q0, qP, qK⟩ := q; exact ⟨q0, qP, va_K.moved (u := U) (U := U.calling g mk a) (Vm.Alike.refl U.vm) qK⟩, va_recv hKc hPc (ci := 0) (q0 := 0) rfl rfl, fun U hU hW => ⟨rfl, by rw [hU]; exact hPc, va_K.moved hW.alike hKc⟩⟩ rfl rfl hl.1 rfl (lv_room (Nat.le_of_ble_eq_true rfl)) dL_law_442 ⟨Nat.le_of_ble_eq_true rfl, Nat.le_of_ble_eq_true rfl⟩) hS (fun _ _ h => h.elim) (fun _ h => h.elim) (fun r_x u_ t H1 locs ht hvm e_r_x hB hz1 hk1 hS => ?_)
  have hP := hP.kept (fun k x hx => hk1 x.1 ((hP k x hx).lt) (fun h => h))
  generalize H1 = H at hP hS ⊢
  refine lv_aload_n hx hb dL_law_445 rfl (lv_at hl 2 rfl) ?_
  have hPc := hP.sub (ws' := (mW bd cB v)) [7, 8, 9, 10, 11, 12, 13, 14] rfl
  have hKc := hK.sub (tys' := mT cB) [6, 7, 8, 9, 10, 11, 12] rfl
  refine va_calli (va_runV (As := []) (rest := [.int r_x]) ⟨hx, hb, hml, hown, hts⟩ (mc_here l dC dI bd cB v _ rfl) (cwV 0 hts gLM_here rfl rfl rfl (by decide +kernel) ⟨Nat.le_of_ble_eq_true rfl, Nat.le_of_ble_eq_true rfl⟩) ⟨fun a U g mk q => by obtain ⟨q0, qP, qK⟩ := q; exact ⟨q0, qP, va_K.moved (u := U) (U := U.calling g mk a) (Vm.Alike.refl U.vm) qK⟩, va_recv hKc hPc (ci := 1) (q0 := 0) rfl rfl, fun U hU hW => ⟨rfl, by rw [hU]; exact hPc, va_K.moved hW.alike hKc⟩⟩ rfl rfl hl.1 rfl (lv_room (Nat.le_of_ble_eq_true rfl)) dL_law_446 ⟨Nat.le_of_ble_eq_true rfl, Nat.le_of_ble_eq_true rfl⟩) hS (fun _ _ h => h.elim) (fun _ h => h.elim) (fun r_m u_ t H1 locs ht hvm e_r_m hB hz1 hk1 hS => ?_)
  have hP := hP.kept (fun k x hx => hk1 x.1 ((hP k x hx).lt) (fun h => h))
  generalize H1 = H at hP hS ⊢
  refine lv_icmp_eq (tgt := 602) hx hb dL_law_449 (by decide) (fun c_1 => ?_) (fun c_1 => ?_)
  · have hsim := ss_here hR htt 
    exact kk _ _ _ _ (ss_mono hR (by omega)) hP hD hS
  · exact absurd (by rw [e_r_x, e_r_m]; exact ss_here hR htt ) c_1
set_option maxHeartbeats 4000000 in
set_option maxRecDepth 100000 in
theorem lc_place {p : Program} {l : Launch} {e : Env} {s : State} {m : MethodId} {below : List Frame} {meth : Method} {c : Code} {dC : Nat → ClassId} {dI : Nat → Nat → Nat} {b L : Nat} {xs : Nat → Int32} (C0 : lw_At p s m meth c b L xs) {ad bd : Nat → Nat} {cA cB : Nat → ClassId} {u : RS} {v : MS} {tt : Nat} (hR : sSim tt u v) (htt : tt < 100000) (hK : va_K (dC, dI) vwCl (rT cA ++ mT cB) s) {H : Heap} {locs : List Loc} (hP : va_P (dC, dI) vwCl (rW ad cA u ++ mW bd cB v) H) (hD : va_D (fun q : Nat => s.heap.size ≤ q) (rW ad cA u ++ mW bd cB v)) (hS : va_S (fun q : Nat => s.heap.size ≤ q) s.heap H locs) {ls : Array Slot} {x3 : Int32} (hl : lv_has ls 4 [(0, .ref b), (1, .ref (ad 0)), (2, .ref (bd 0)), (3, .int x3)]) (hj1 : vp_in (x3 + 1) L) (hj2 : vp_in (x3 + 2) L) (hj3 : vp_in (x3 + 3) L) (kk : ∀ (u : RS) (v : MS) (H : Heap) (locs : List Loc), sSim (tt + 64) u v → va_P (dC, dI) vwCl (rW ad cA u ++ mW bd cB v) H → va_D (fun q : Nat => s.heap.size ≤ q) (rW ad cA u ++ mW bd cB v) → va_S (fun q : Nat => s.heap.size ≤ q) s.heap H locs → W p l e room_1 s m #[Value.ref b] below meth c H locs 15 425 (lw_Z below #[Value.ref b] s) (F0 m 602 ls [])) : W p l e room_1 s m #[Value.ref b] below meth c H locs 15 425 (lw_Z below #[Value.ref b] s) (F0 m 454 ls []) := by
  obtain ⟨hx, hb, hr, hml, hown, hts, hX, hbl, hlocks, hgv⟩ := C0
  have hA : ∀ q : Nat, s.heap.size ≤ q → (fun q : Nat => s.heap.size ≤ q) q := fun _ h => h
  have hbA : ¬ (fun q : Nat => s.heap.size ≤ q) b := Nat.not_le.mpr hbl
  have htL : ∀ w ∈ wsL_law, w.before #[Value.ref b] s = true := fun w h => hts w (wsL_law_in w h)
  refine lv_aload_n hx hb dL_law_454 rfl (lv_at hl 1 rfl) ?_
  refine lv_aload_n hx hb dL_law_455 rfl (lv_at hl 0 rfl) ?_
  refine lv_iload_n hx hb dL_law_456 rfl (lv_at hl 3 rfl) ?_
  refine lv_iconst (v := 1) hx hb dL_law_457 (by decide) ?_
  refine lv_iadd hx hb dL_law_458 ?_
  refine va_sld hx hb hX hbl hbA hS hj1 dL_law_459 ?_
  have hPc := hP.sub (ws' := (rW ad cA u)) [0, 1, 2, 3, 4, 5, 6] rfl
  have hKc := hK.sub (tys' := rT cA) [0, 1, 2, 3, 4, 5] rfl
  refine va_calli (va_runV (As := [.int (xs (x3 + 1).toNatClampNeg)]) (rest := []) ⟨hx, hb, hml, hown, htL⟩ (rc_place l dC dI ad cA u (xs (x3 + 1).toNatClampNeg) _ rfl) (cwV 1 htL gL_law_X0_place rfl rfl rfl (by decide +kernel) ⟨Nat.le_of_ble_eq_true rfl, Nat.le_of_ble_eq_true rfl⟩) ⟨fun a U g mk q => by obtain ⟨q0, qP, qK⟩ := q; exact ⟨q0, qP, va_K.moved (u := U) (U := U.calling g mk a) (Vm.Alike.refl U.vm) qK⟩, va_recv hKc hPc (ci := 0) (q0 := 0) rfl rfl, fun U hU hW => ⟨rfl, by rw [hU]; exact hPc, va_K.moved hW.alike hKc⟩⟩ rfl rfl hl.1 rfl (lv_room (Nat.le_of_ble_eq_true rfl)) dL_law_460 ⟨Nat.le_of_ble_eq_true rfl, Nat.le_of_ble_eq_true rfl⟩) hS (fun _ _ h => h.elim) (fun _ h => h.elim) (fun r_x u_ t H1 locs ht hvm e_r_x hB hz1 hk1 hS => ?_)
  have hP := hP.kept (fun k x hx => hk1 x.1 ((hP k x hx).lt) (fun h => h))
  generalize H1 = H at hP hS ⊢
  refine lv_aload_n hx hb dL_law_463 rfl (lv_at hl 2 rfl) ?_
  refine lv_aload_n hx hb dL_law_464 rfl (lv_at hl 0 rfl) ?_
  refine lv_iload_n hx hb dL_law_465 rfl (lv_at hl 3 rfl) ?_
  refine lv_iconst (v := 1) hx hb dL_law_466 (by decide) ?_
  refine lv_iadd hx hb dL_law_467 ?_
  refine va_sld hx hb hX hbl hbA hS hj1 dL_law_468 ?_
  have hPc := hP.sub (ws' := (mW bd cB v)) [7, 8, 9, 10, 11, 12, 13, 14] rfl
  have hKc := hK.sub (tys' := mT cB) [6, 7, 8, 9, 10, 11, 12] rfl
  refine va_calli (va_runV (As := [.int (xs (x3 + 1).toNatClampNeg)]) (rest := [.int r_x]) ⟨hx, hb, hml, hown, hts⟩ (mc_place l dC dI bd cB v (xs (x3 + 1).toNatClampNeg) _ rfl) (cwV 1 hts gLM_place rfl rfl rfl (by decide +kernel) ⟨Nat.le_of_ble_eq_true rfl, Nat.le_of_ble_eq_true rfl⟩) ⟨fun a U g mk q => by obtain ⟨q0, qP, qK⟩ := q; exact ⟨q0, qP, va_K.moved (u := U) (U := U.calling g mk a) (Vm.Alike.refl U.vm) qK⟩, va_recv hKc hPc (ci := 1) (q0 := 0) rfl rfl, fun U hU hW => ⟨rfl, by rw [hU]; exact hPc, va_K.moved hW.alike hKc⟩⟩ rfl rfl hl.1 rfl (lv_room (Nat.le_of_ble_eq_true rfl)) dL_law_469 ⟨Nat.le_of_ble_eq_true rfl, Nat.le_of_ble_eq_true rfl⟩) hS (fun _ _ h => h.elim) (fun _ h => h.elim) (fun r_m u_ t H1 locs ht hvm e_r_m hB hz1 hk1 hS => ?_)
  have hP := hP.kept (fun k x hx => hk1 x.1 ((hP k x hx).lt) (fun h => h))
  generalize H1 = H at hP hS ⊢
  refine lv_icmp_eq (tgt := 602) hx hb dL_law_472 (by decide) (fun c_1 => ?_) (fun c_1 => ?_)
  · have hsim := ss_place hR htt (xs (x3 + 1).toNatClampNeg)
    exact kk _ _ _ _ (ss_mono hR (by omega)) hP hD hS
  · exact absurd (by rw [e_r_x, e_r_m]; exact ss_place hR htt (xs (x3 + 1).toNatClampNeg)) c_1
set_option maxHeartbeats 4000000 in
set_option maxRecDepth 100000 in
theorem lc_priority {p : Program} {l : Launch} {e : Env} {s : State} {m : MethodId} {below : List Frame} {meth : Method} {c : Code} {dC : Nat → ClassId} {dI : Nat → Nat → Nat} {b L : Nat} {xs : Nat → Int32} (C0 : lw_At p s m meth c b L xs) {ad bd : Nat → Nat} {cA cB : Nat → ClassId} {u : RS} {v : MS} {tt : Nat} (hR : sSim tt u v) (htt : tt < 100000) (hK : va_K (dC, dI) vwCl (rT cA ++ mT cB) s) {H : Heap} {locs : List Loc} (hP : va_P (dC, dI) vwCl (rW ad cA u ++ mW bd cB v) H) (hD : va_D (fun q : Nat => s.heap.size ≤ q) (rW ad cA u ++ mW bd cB v)) (hS : va_S (fun q : Nat => s.heap.size ≤ q) s.heap H locs) {ls : Array Slot} {x3 : Int32} (hl : lv_has ls 4 [(0, .ref b), (1, .ref (ad 0)), (2, .ref (bd 0)), (3, .int x3)]) (hj1 : vp_in (x3 + 1) L) (hj2 : vp_in (x3 + 2) L) (hj3 : vp_in (x3 + 3) L) (kk : ∀ (u : RS) (v : MS) (H : Heap) (locs : List Loc), sSim (tt + 64) u v → va_P (dC, dI) vwCl (rW ad cA u ++ mW bd cB v) H → va_D (fun q : Nat => s.heap.size ≤ q) (rW ad cA u ++ mW bd cB v) → va_S (fun q : Nat => s.heap.size ≤ q) s.heap H locs → W p l e room_1 s m #[Value.ref b] below meth c H locs 15 425 (lw_Z below #[Value.ref b] s) (F0 m 602 ls [])) : W p l e room_1 s m #[Value.ref b] below meth c H locs 15 425 (lw_Z below #[Value.ref b] s) (F0 m 477 ls []) := by
  obtain ⟨hx, hb, hr, hml, hown, hts, hX, hbl, hlocks, hgv⟩ := C0
  have hA : ∀ q : Nat, s.heap.size ≤ q → (fun q : Nat => s.heap.size ≤ q) q := fun _ h => h
  have hbA : ¬ (fun q : Nat => s.heap.size ≤ q) b := Nat.not_le.mpr hbl
  have htL : ∀ w ∈ wsL_law, w.before #[Value.ref b] s = true := fun w h => hts w (wsL_law_in w h)
  refine lv_aload_n hx hb dL_law_477 rfl (lv_at hl 1 rfl) ?_
  refine lv_aload_n hx hb dL_law_478 rfl (lv_at hl 0 rfl) ?_
  refine lv_iload_n hx hb dL_law_479 rfl (lv_at hl 3 rfl) ?_
  refine lv_iconst (v := 1) hx hb dL_law_480 (by decide) ?_
  refine lv_iadd hx hb dL_law_481 ?_
  refine va_sld hx hb hX hbl hbA hS hj1 dL_law_482 ?_
  have hPc := hP.sub (ws' := (rW ad cA u)) [0, 1, 2, 3, 4, 5, 6] rfl
  have hKc := hK.sub (tys' := rT cA) [0, 1, 2, 3, 4, 5] rfl
  refine va_calli (va_runV (As := [.int (xs (x3 + 1).toNatClampNeg)]) (rest := []) ⟨hx, hb, hml, hown, htL⟩ (rc_priority l dC dI ad cA u (xs (x3 + 1).toNatClampNeg) _ rfl) (cwV 1 htL gL_law_X0_priority rfl rfl rfl (by decide +kernel) ⟨Nat.le_of_ble_eq_true rfl, Nat.le_of_ble_eq_true rfl⟩) ⟨fun a U g mk q => by obtain ⟨q0, qP, qK⟩ := q; exact ⟨q0, qP, va_K.moved (u := U) (U := U.calling g mk a) (Vm.Alike.refl U.vm) qK⟩, va_recv hKc hPc (ci := 0) (q0 := 0) rfl rfl, fun U hU hW => ⟨rfl, by rw [hU]; exact hPc, va_K.moved hW.alike hKc⟩⟩ rfl rfl hl.1 rfl (lv_room (Nat.le_of_ble_eq_true rfl)) dL_law_483 ⟨Nat.le_of_ble_eq_true rfl, Nat.le_of_ble_eq_true rfl⟩) hS (fun _ _ h => h.elim) (fun _ h => h.elim) (fun r_x u_ t H1 locs ht hvm e_r_x hB hz1 hk1 hS => ?_)
  have hP := hP.kept (fun k x hx => hk1 x.1 ((hP k x hx).lt) (fun h => h))
  generalize H1 = H at hP hS ⊢
  refine lv_aload_n hx hb dL_law_486 rfl (lv_at hl 2 rfl) ?_
  refine lv_aload_n hx hb dL_law_487 rfl (lv_at hl 0 rfl) ?_
  refine lv_iload_n hx hb dL_law_488 rfl (lv_at hl 3 rfl) ?_
  refine lv_iconst (v := 1) hx hb dL_law_489 (by decide) ?_
  refine lv_iadd hx hb dL_law_490 ?_
  refine va_sld hx hb hX hbl hbA hS hj1 dL_law_491 ?_
  have hPc := hP.sub (ws' := (mW bd cB v)) [7, 8, 9, 10, 11, 12, 13, 14] rfl
  have hKc := hK.sub (tys' := mT cB) [6, 7, 8, 9, 10, 11, 12] rfl
  refine va_calli (va_runV (As := [.int (xs (x3 + 1).toNatClampNeg)]) (rest := [.int r_x]) ⟨hx, hb, hml, hown, hts⟩ (mc_priority l dC dI bd cB v (xs (x3 + 1).toNatClampNeg) _ rfl) (cwV 1 hts gLM_priority rfl rfl rfl (by decide +kernel) ⟨Nat.le_of_ble_eq_true rfl, Nat.le_of_ble_eq_true rfl⟩) ⟨fun a U g mk q => by obtain ⟨q0, qP, qK⟩ := q; exact ⟨q0, qP, va_K.moved (u := U) (U := U.calling g mk a) (Vm.Alike.refl U.vm) qK⟩, va_recv hKc hPc (ci := 1) (q0 := 0) rfl rfl, fun U hU hW => ⟨rfl, by rw [hU]; exact hPc, va_K.moved hW.alike hKc⟩⟩ rfl rfl hl.1 rfl (lv_room (Nat.le_of_ble_eq_true rfl)) dL_law_492 ⟨Nat.le_of_ble_eq_true rfl, Nat.le_of_ble_eq_true rfl⟩) hS (fun _ _ h => h.elim) (fun _ h => h.elim) (fun r_m u_ t H1 locs ht hvm e_r_m hB hz1 hk1 hS => ?_)
  have hP := hP.kept (fun k x hx => hk1 x.1 ((hP k x hx).lt) (fun h => h))
  generalize H1 = H at hP hS ⊢
  refine lv_icmp_eq (tgt := 602) hx hb dL_law_495 (by decide) (fun c_1 => ?_) (fun c_1 => ?_)
  · have hsim := ss_priority hR htt (xs (x3 + 1).toNatClampNeg)
    exact kk _ _ _ _ (ss_mono hR (by omega)) hP hD hS
  · exact absurd (by rw [e_r_x, e_r_m]; exact ss_priority hR htt (xs (x3 + 1).toNatClampNeg)) c_1
set_option maxHeartbeats 4000000 in
set_option maxRecDepth 100000 in
theorem lc_row {p : Program} {l : Launch} {e : Env} {s : State} {m : MethodId} {below : List Frame} {meth : Method} {c : Code} {dC : Nat → ClassId} {dI : Nat → Nat → Nat} {b L : Nat} {xs : Nat → Int32} (C0 : lw_At p s m meth c b L xs) {ad bd : Nat → Nat} {cA cB : Nat → ClassId} {u : RS} {v : MS} {tt : Nat} (hR : sSim tt u v) (htt : tt < 100000) (hK : va_K (dC, dI) vwCl (rT cA ++ mT cB) s) {H : Heap} {locs : List Loc} (hP : va_P (dC, dI) vwCl (rW ad cA u ++ mW bd cB v) H) (hD : va_D (fun q : Nat => s.heap.size ≤ q) (rW ad cA u ++ mW bd cB v)) (hS : va_S (fun q : Nat => s.heap.size ≤ q) s.heap H locs) {ls : Array Slot} {x3 : Int32} (hl : lv_has ls 4 [(0, .ref b), (1, .ref (ad 0)), (2, .ref (bd 0)), (3, .int x3)]) (hj1 : vp_in (x3 + 1) L) (hj2 : vp_in (x3 + 2) L) (hj3 : vp_in (x3 + 3) L) (kk : ∀ (u : RS) (v : MS) (H : Heap) (locs : List Loc), sSim (tt + 64) u v → va_P (dC, dI) vwCl (rW ad cA u ++ mW bd cB v) H → va_D (fun q : Nat => s.heap.size ≤ q) (rW ad cA u ++ mW bd cB v) → va_S (fun q : Nat => s.heap.size ≤ q) s.heap H locs → W p l e room_1 s m #[Value.ref b] below meth c H locs 15 425 (lw_Z below #[Value.ref b] s) (F0 m 602 ls [])) : W p l e room_1 s m #[Value.ref b] below meth c H locs 15 425 (lw_Z below #[Value.ref b] s) (F0 m 500 ls []) := by
  obtain ⟨hx, hb, hr, hml, hown, hts, hX, hbl, hlocks, hgv⟩ := C0
  have hA : ∀ q : Nat, s.heap.size ≤ q → (fun q : Nat => s.heap.size ≤ q) q := fun _ h => h
  have hbA : ¬ (fun q : Nat => s.heap.size ≤ q) b := Nat.not_le.mpr hbl
  have htL : ∀ w ∈ wsL_law, w.before #[Value.ref b] s = true := fun w h => hts w (wsL_law_in w h)
  refine lv_aload_n hx hb dL_law_500 rfl (lv_at hl 1 rfl) ?_
  refine lv_aload_n hx hb dL_law_501 rfl (lv_at hl 0 rfl) ?_
  refine lv_iload_n hx hb dL_law_502 rfl (lv_at hl 3 rfl) ?_
  refine lv_iconst (v := 1) hx hb dL_law_503 (by decide) ?_
  refine lv_iadd hx hb dL_law_504 ?_
  refine va_sld hx hb hX hbl hbA hS hj1 dL_law_505 ?_
  have hPc := hP.sub (ws' := (rW ad cA u)) [0, 1, 2, 3, 4, 5, 6] rfl
  have hKc := hK.sub (tys' := rT cA) [0, 1, 2, 3, 4, 5] rfl
  refine va_calli (va_runV (As := [.int (xs (x3 + 1).toNatClampNeg)]) (rest := []) ⟨hx, hb, hml, hown, htL⟩ (rc_row l dC dI ad cA u (xs (x3 + 1).toNatClampNeg) _ rfl) (cwV 1 htL gL_law_X0_row rfl rfl rfl (by decide +kernel) ⟨Nat.le_of_ble_eq_true rfl, Nat.le_of_ble_eq_true rfl⟩) ⟨fun a U g mk q => by obtain ⟨q0, qP, qK⟩ := q; exact ⟨q0, qP, va_K.moved (u := U) (U := U.calling g mk a) (Vm.Alike.refl U.vm) qK⟩, va_recv hKc hPc (ci := 0) (q0 := 0) rfl rfl, fun U hU hW => ⟨rfl, by rw [hU]; exact hPc, va_K.moved hW.alike hKc⟩⟩ rfl rfl hl.1 rfl (lv_room (Nat.le_of_ble_eq_true rfl)) dL_law_506 ⟨Nat.le_of_ble_eq_true rfl, Nat.le_of_ble_eq_true rfl⟩) hS (fun _ _ h => h.elim) (fun _ h => h.elim) (fun r_x u_ t H1 locs ht hvm e_r_x hB hz1 hk1 hS => ?_)
  have hP := hP.kept (fun k x hx => hk1 x.1 ((hP k x hx).lt) (fun h => h))
  generalize H1 = H at hP hS ⊢
  refine lv_aload_n hx hb dL_law_509 rfl (lv_at hl 2 rfl) ?_
  refine lv_aload_n hx hb dL_law_510 rfl (lv_at hl 0 rfl) ?_
  refine lv_iload_n hx hb dL_law_511 rfl (lv_at hl 3 rfl) ?_
  refine lv_iconst (v := 1) hx hb dL_law_512 (by decide) ?_
  refine lv_iadd hx hb dL_law_513 ?_
  refine va_sld hx hb hX hbl hbA hS hj1 dL_law_514 ?_
  have hPc := hP.sub (ws' := (mW bd cB v)) [7, 8, 9, 10, 11, 12, 13, 14] rfl
  have hKc := hK.sub (tys' := mT cB) [6, 7, 8, 9, 10, 11, 12] rfl
  refine va_calli (va_runV (As := [.int (xs (x3 + 1).toNatClampNeg)]) (rest := [.int r_x]) ⟨hx, hb, hml, hown, hts⟩ (mc_row l dC dI bd cB v (xs (x3 + 1).toNatClampNeg) _ rfl) (cwV 1 hts gLM_row rfl rfl rfl (by decide +kernel) ⟨Nat.le_of_ble_eq_true rfl, Nat.le_of_ble_eq_true rfl⟩) ⟨fun a U g mk q => by obtain ⟨q0, qP, qK⟩ := q; exact ⟨q0, qP, va_K.moved (u := U) (U := U.calling g mk a) (Vm.Alike.refl U.vm) qK⟩, va_recv hKc hPc (ci := 1) (q0 := 0) rfl rfl, fun U hU hW => ⟨rfl, by rw [hU]; exact hPc, va_K.moved hW.alike hKc⟩⟩ rfl rfl hl.1 rfl (lv_room (Nat.le_of_ble_eq_true rfl)) dL_law_515 ⟨Nat.le_of_ble_eq_true rfl, Nat.le_of_ble_eq_true rfl⟩) hS (fun _ _ h => h.elim) (fun _ h => h.elim) (fun r_m u_ t H1 locs ht hvm e_r_m hB hz1 hk1 hS => ?_)
  have hP := hP.kept (fun k x hx => hk1 x.1 ((hP k x hx).lt) (fun h => h))
  generalize H1 = H at hP hS ⊢
  refine lv_icmp_eq (tgt := 602) hx hb dL_law_518 (by decide) (fun c_1 => ?_) (fun c_1 => ?_)
  · have hsim := ss_row hR htt (xs (x3 + 1).toNatClampNeg)
    exact kk _ _ _ _ (ss_mono hR (by omega)) hP hD hS
  · exact absurd (by rw [e_r_x, e_r_m]; exact ss_row hR htt (xs (x3 + 1).toNatClampNeg)) c_1
set_option maxHeartbeats 4000000 in
set_option maxRecDepth 100000 in
theorem lc_at {p : Program} {l : Launch} {e : Env} {s : State} {m : MethodId} {below : List Frame} {meth : Method} {c : Code} {dC : Nat → ClassId} {dI : Nat → Nat → Nat} {b L : Nat} {xs : Nat → Int32} (C0 : lw_At p s m meth c b L xs) {ad bd : Nat → Nat} {cA cB : Nat → ClassId} {u : RS} {v : MS} {tt : Nat} (hR : sSim tt u v) (htt : tt < 100000) (hK : va_K (dC, dI) vwCl (rT cA ++ mT cB) s) {H : Heap} {locs : List Loc} (hP : va_P (dC, dI) vwCl (rW ad cA u ++ mW bd cB v) H) (hD : va_D (fun q : Nat => s.heap.size ≤ q) (rW ad cA u ++ mW bd cB v)) (hS : va_S (fun q : Nat => s.heap.size ≤ q) s.heap H locs) {ls : Array Slot} {x3 : Int32} (hl : lv_has ls 4 [(0, .ref b), (1, .ref (ad 0)), (2, .ref (bd 0)), (3, .int x3)]) (hj1 : vp_in (x3 + 1) L) (hj2 : vp_in (x3 + 2) L) (hj3 : vp_in (x3 + 3) L) (kk : ∀ (u : RS) (v : MS) (H : Heap) (locs : List Loc), sSim (tt + 64) u v → va_P (dC, dI) vwCl (rW ad cA u ++ mW bd cB v) H → va_D (fun q : Nat => s.heap.size ≤ q) (rW ad cA u ++ mW bd cB v) → va_S (fun q : Nat => s.heap.size ≤ q) s.heap H locs → W p l e room_1 s m #[Value.ref b] below meth c H locs 15 425 (lw_Z below #[Value.ref b] s) (F0 m 602 ls [])) : W p l e room_1 s m #[Value.ref b] below meth c H locs 15 425 (lw_Z below #[Value.ref b] s) (F0 m 523 ls []) := by
  obtain ⟨hx, hb, hr, hml, hown, hts, hX, hbl, hlocks, hgv⟩ := C0
  have hA : ∀ q : Nat, s.heap.size ≤ q → (fun q : Nat => s.heap.size ≤ q) q := fun _ h => h
  have hbA : ¬ (fun q : Nat => s.heap.size ≤ q) b := Nat.not_le.mpr hbl
  have htL : ∀ w ∈ wsL_law, w.before #[Value.ref b] s = true := fun w h => hts w (wsL_law_in w h)
  refine lv_aload_n hx hb dL_law_523 rfl (lv_at hl 1 rfl) ?_
  refine lv_aload_n hx hb dL_law_524 rfl (lv_at hl 0 rfl) ?_
  refine lv_iload_n hx hb dL_law_525 rfl (lv_at hl 3 rfl) ?_
  refine lv_iconst (v := 1) hx hb dL_law_526 (by decide) ?_
  refine lv_iadd hx hb dL_law_527 ?_
  refine va_sld hx hb hX hbl hbA hS hj1 dL_law_528 ?_
  refine lv_aload_n hx hb dL_law_529 rfl (lv_at hl 0 rfl) ?_
  refine lv_iload_n hx hb dL_law_530 rfl (lv_at hl 3 rfl) ?_
  refine lv_iconst (v := 2) hx hb dL_law_531 (by decide) ?_
  refine lv_iadd hx hb dL_law_532 ?_
  refine va_sld hx hb hX hbl hbA hS hj2 dL_law_533 ?_
  have hPc := hP.sub (ws' := (rW ad cA u)) [0, 1, 2, 3, 4, 5, 6] rfl
  have hKc := hK.sub (tys' := rT cA) [0, 1, 2, 3, 4, 5] rfl
  refine va_calli (va_runV (As := [.int (xs (x3 + 1).toNatClampNeg), .int (xs (x3 + 2).toNatClampNeg)]) (rest := []) ⟨hx, hb, hml, hown, htL⟩ (rc_at l dC dI ad cA u (xs (x3 + 1).toNatClampNeg) (xs (x3 + 2).toNatClampNeg) _ rfl) (cwV 2 htL gL_law_X0_at rfl rfl rfl (by decide +kernel) ⟨Nat.le_of_ble_eq_true rfl, Nat.le_of_ble_eq_true rfl⟩) ⟨fun a U g mk q => by obtain ⟨q0, qP, qK⟩ := q; exact ⟨q0, qP, va_K.moved (u := U) (U := U.calling g mk a) (Vm.Alike.refl U.vm) qK⟩, va_recv hKc hPc (ci := 0) (q0 := 0) rfl rfl, fun U hU hW => ⟨rfl, by rw [hU]; exact hPc, va_K.moved hW.alike hKc⟩⟩ rfl rfl hl.1 rfl (lv_room (Nat.le_of_ble_eq_true rfl)) dL_law_534 ⟨Nat.le_of_ble_eq_true rfl, Nat.le_of_ble_eq_true rfl⟩) hS (fun _ _ h => h.elim) (fun _ h => h.elim) (fun r_x u_ t H1 locs ht hvm e_r_x hB hz1 hk1 hS => ?_)
  have hP := hP.kept (fun k x hx => hk1 x.1 ((hP k x hx).lt) (fun h => h))
  generalize H1 = H at hP hS ⊢
  refine lv_aload_n hx hb dL_law_537 rfl (lv_at hl 2 rfl) ?_
  refine lv_aload_n hx hb dL_law_538 rfl (lv_at hl 0 rfl) ?_
  refine lv_iload_n hx hb dL_law_539 rfl (lv_at hl 3 rfl) ?_
  refine lv_iconst (v := 1) hx hb dL_law_540 (by decide) ?_
  refine lv_iadd hx hb dL_law_541 ?_
  refine va_sld hx hb hX hbl hbA hS hj1 dL_law_542 ?_
  refine lv_aload_n hx hb dL_law_543 rfl (lv_at hl 0 rfl) ?_
  refine lv_iload_n hx hb dL_law_544 rfl (lv_at hl 3 rfl) ?_
  refine lv_iconst (v := 2) hx hb dL_law_545 (by decide) ?_
  refine lv_iadd hx hb dL_law_546 ?_
  refine va_sld hx hb hX hbl hbA hS hj2 dL_law_547 ?_
  have hPc := hP.sub (ws' := (mW bd cB v)) [7, 8, 9, 10, 11, 12, 13, 14] rfl
  have hKc := hK.sub (tys' := mT cB) [6, 7, 8, 9, 10, 11, 12] rfl
  refine va_calli (va_runV (As := [.int (xs (x3 + 1).toNatClampNeg), .int (xs (x3 + 2).toNatClampNeg)]) (rest := [.int r_x]) ⟨hx, hb, hml, hown, hts⟩ (mc_at l dC dI bd cB v (xs (x3 + 1).toNatClampNeg) (xs (x3 + 2).toNatClampNeg) _ rfl) (cwV 2 hts gLM_at rfl rfl rfl (by decide +kernel) ⟨Nat.le_of_ble_eq_true rfl, Nat.le_of_ble_eq_true rfl⟩) ⟨fun a U g mk q => by obtain ⟨q0, qP, qK⟩ := q; exact ⟨q0, qP, va_K.moved (u := U) (U := U.calling g mk a) (Vm.Alike.refl U.vm) qK⟩, va_recv hKc hPc (ci := 1) (q0 := 0) rfl rfl, fun U hU hW => ⟨rfl, by rw [hU]; exact hPc, va_K.moved hW.alike hKc⟩⟩ rfl rfl hl.1 rfl (lv_room (Nat.le_of_ble_eq_true rfl)) dL_law_548 ⟨Nat.le_of_ble_eq_true rfl, Nat.le_of_ble_eq_true rfl⟩) hS (fun _ _ h => h.elim) (fun _ h => h.elim) (fun r_m u_ t H1 locs ht hvm e_r_m hB hz1 hk1 hS => ?_)
  have hP := hP.kept (fun k x hx => hk1 x.1 ((hP k x hx).lt) (fun h => h))
  generalize H1 = H at hP hS ⊢
  refine lv_icmp_eq (tgt := 602) hx hb dL_law_551 (by decide) (fun c_1 => ?_) (fun c_1 => ?_)
  · have hsim := ss_at hR htt (xs (x3 + 1).toNatClampNeg) (xs (x3 + 2).toNatClampNeg)
    exact kk _ _ _ _ (ss_mono hR (by omega)) hP hD hS
  · exact absurd (by rw [e_r_x, e_r_m]; exact ss_at hR htt (xs (x3 + 1).toNatClampNeg) (xs (x3 + 2).toNatClampNeg)) c_1
set_option maxHeartbeats 4000000 in
set_option maxRecDepth 100000 in
theorem lc_extra {p : Program} {l : Launch} {e : Env} {s : State} {m : MethodId} {below : List Frame} {meth : Method} {c : Code} {dC : Nat → ClassId} {dI : Nat → Nat → Nat} {b L : Nat} {xs : Nat → Int32} (C0 : lw_At p s m meth c b L xs) {ad bd : Nat → Nat} {cA cB : Nat → ClassId} {u : RS} {v : MS} {tt : Nat} (hR : sSim tt u v) (htt : tt < 100000) (hK : va_K (dC, dI) vwCl (rT cA ++ mT cB) s) {H : Heap} {locs : List Loc} (hP : va_P (dC, dI) vwCl (rW ad cA u ++ mW bd cB v) H) (hD : va_D (fun q : Nat => s.heap.size ≤ q) (rW ad cA u ++ mW bd cB v)) (hS : va_S (fun q : Nat => s.heap.size ≤ q) s.heap H locs) {ls : Array Slot} {x3 : Int32} (hl : lv_has ls 4 [(0, .ref b), (1, .ref (ad 0)), (2, .ref (bd 0)), (3, .int x3)]) (hj1 : vp_in (x3 + 1) L) (hj2 : vp_in (x3 + 2) L) (hj3 : vp_in (x3 + 3) L) (kk : ∀ (u : RS) (v : MS) (H : Heap) (locs : List Loc), sSim (tt + 64) u v → va_P (dC, dI) vwCl (rW ad cA u ++ mW bd cB v) H → va_D (fun q : Nat => s.heap.size ≤ q) (rW ad cA u ++ mW bd cB v) → va_S (fun q : Nat => s.heap.size ≤ q) s.heap H locs → W p l e room_1 s m #[Value.ref b] below meth c H locs 15 425 (lw_Z below #[Value.ref b] s) (F0 m 602 ls [])) : W p l e room_1 s m #[Value.ref b] below meth c H locs 15 425 (lw_Z below #[Value.ref b] s) (F0 m 556 ls []) := by
  obtain ⟨hx, hb, hr, hml, hown, hts, hX, hbl, hlocks, hgv⟩ := C0
  have hA : ∀ q : Nat, s.heap.size ≤ q → (fun q : Nat => s.heap.size ≤ q) q := fun _ h => h
  have hbA : ¬ (fun q : Nat => s.heap.size ≤ q) b := Nat.not_le.mpr hbl
  have htL : ∀ w ∈ wsL_law, w.before #[Value.ref b] s = true := fun w h => hts w (wsL_law_in w h)
  refine lv_aload_n hx hb dL_law_556 rfl (lv_at hl 1 rfl) ?_
  refine lv_aload_n hx hb dL_law_557 rfl (lv_at hl 0 rfl) ?_
  refine lv_iload_n hx hb dL_law_558 rfl (lv_at hl 3 rfl) ?_
  refine lv_iconst (v := 1) hx hb dL_law_559 (by decide) ?_
  refine lv_iadd hx hb dL_law_560 ?_
  refine va_sld hx hb hX hbl hbA hS hj1 dL_law_561 ?_
  have hPc := hP.sub (ws' := (rW ad cA u)) [0, 1, 2, 3, 4, 5, 6] rfl
  have hKc := hK.sub (tys' := rT cA) [0, 1, 2, 3, 4, 5] rfl
  refine va_calli (va_runV (As := [.int (xs (x3 + 1).toNatClampNeg)]) (rest := []) ⟨hx, hb, hml, hown, htL⟩ (rc_extra l dC dI ad cA u (xs (x3 + 1).toNatClampNeg) _ rfl) (cwV 1 htL gL_law_X0_extra rfl rfl rfl (by decide +kernel) ⟨Nat.le_of_ble_eq_true rfl, Nat.le_of_ble_eq_true rfl⟩) ⟨fun a U g mk q => by obtain ⟨q0, qP, qK⟩ := q; exact ⟨q0, qP, va_K.moved (u := U) (U := U.calling g mk a) (Vm.Alike.refl U.vm) qK⟩, va_recv hKc hPc (ci := 0) (q0 := 0) rfl rfl, fun U hU hW => ⟨rfl, by rw [hU]; exact hPc, va_K.moved hW.alike hKc⟩⟩ rfl rfl hl.1 rfl (lv_room (Nat.le_of_ble_eq_true rfl)) dL_law_562 ⟨Nat.le_of_ble_eq_true rfl, Nat.le_of_ble_eq_true rfl⟩) hS (fun _ _ h => h.elim) (fun _ h => h.elim) (fun r_x u_ t H1 locs ht hvm e_r_x hB hz1 hk1 hS => ?_)
  have hP := hP.kept (fun k x hx => hk1 x.1 ((hP k x hx).lt) (fun h => h))
  generalize H1 = H at hP hS ⊢
  refine lv_aload_n hx hb dL_law_565 rfl (lv_at hl 2 rfl) ?_
  refine lv_aload_n hx hb dL_law_566 rfl (lv_at hl 0 rfl) ?_
  refine lv_iload_n hx hb dL_law_567 rfl (lv_at hl 3 rfl) ?_
  refine lv_iconst (v := 1) hx hb dL_law_568 (by decide) ?_
  refine lv_iadd hx hb dL_law_569 ?_
  refine va_sld hx hb hX hbl hbA hS hj1 dL_law_570 ?_
  have hPc := hP.sub (ws' := (mW bd cB v)) [7, 8, 9, 10, 11, 12, 13, 14] rfl
  have hKc := hK.sub (tys' := mT cB) [6, 7, 8, 9, 10, 11, 12] rfl
  refine va_calli (va_runV (As := [.int (xs (x3 + 1).toNatClampNeg)]) (rest := [.int r_x]) ⟨hx, hb, hml, hown, hts⟩ (mc_extra l dC dI bd cB v (xs (x3 + 1).toNatClampNeg) _ rfl) (cwV 1 hts gLM_extra rfl rfl rfl (by decide +kernel) ⟨Nat.le_of_ble_eq_true rfl, Nat.le_of_ble_eq_true rfl⟩) ⟨fun a U g mk q => by obtain ⟨q0, qP, qK⟩ := q; exact ⟨q0, qP, va_K.moved (u := U) (U := U.calling g mk a) (Vm.Alike.refl U.vm) qK⟩, va_recv hKc hPc (ci := 1) (q0 := 0) rfl rfl, fun U hU hW => ⟨rfl, by rw [hU]; exact hPc, va_K.moved hW.alike hKc⟩⟩ rfl rfl hl.1 rfl (lv_room (Nat.le_of_ble_eq_true rfl)) dL_law_571 ⟨Nat.le_of_ble_eq_true rfl, Nat.le_of_ble_eq_true rfl⟩) hS (fun _ _ h => h.elim) (fun _ h => h.elim) (fun r_m u_ t H1 locs ht hvm e_r_m hB hz1 hk1 hS => ?_)
  have hP := hP.kept (fun k x hx => hk1 x.1 ((hP k x hx).lt) (fun h => h))
  generalize H1 = H at hP hS ⊢
  refine lv_icmp_eq (tgt := 602) hx hb dL_law_574 (by decide) (fun c_1 => ?_) (fun c_1 => ?_)
  · have hsim := ss_extra hR htt (xs (x3 + 1).toNatClampNeg)
    exact kk _ _ _ _ (ss_mono hR (by omega)) hP hD hS
  · exact absurd (by rw [e_r_x, e_r_m]; exact ss_extra hR htt (xs (x3 + 1).toNatClampNeg)) c_1
set_option maxHeartbeats 4000000 in
set_option maxRecDepth 100000 in
theorem lc_posted {p : Program} {l : Launch} {e : Env} {s : State} {m : MethodId} {below : List Frame} {meth : Method} {c : Code} {dC : Nat → ClassId} {dI : Nat → Nat → Nat} {b L : Nat} {xs : Nat → Int32} (C0 : lw_At p s m meth c b L xs) {ad bd : Nat → Nat} {cA cB : Nat → ClassId} {u : RS} {v : MS} {tt : Nat} (hR : sSim tt u v) (htt : tt < 100000) (hK : va_K (dC, dI) vwCl (rT cA ++ mT cB) s) {H : Heap} {locs : List Loc} (hP : va_P (dC, dI) vwCl (rW ad cA u ++ mW bd cB v) H) (hD : va_D (fun q : Nat => s.heap.size ≤ q) (rW ad cA u ++ mW bd cB v)) (hS : va_S (fun q : Nat => s.heap.size ≤ q) s.heap H locs) {ls : Array Slot} {x3 : Int32} (hl : lv_has ls 4 [(0, .ref b), (1, .ref (ad 0)), (2, .ref (bd 0)), (3, .int x3)]) (hj1 : vp_in (x3 + 1) L) (hj2 : vp_in (x3 + 2) L) (hj3 : vp_in (x3 + 3) L) (kk : ∀ (u : RS) (v : MS) (H : Heap) (locs : List Loc), sSim (tt + 64) u v → va_P (dC, dI) vwCl (rW ad cA u ++ mW bd cB v) H → va_D (fun q : Nat => s.heap.size ≤ q) (rW ad cA u ++ mW bd cB v) → va_S (fun q : Nat => s.heap.size ≤ q) s.heap H locs → W p l e room_1 s m #[Value.ref b] below meth c H locs 15 425 (lw_Z below #[Value.ref b] s) (F0 m 602 ls [])) : W p l e room_1 s m #[Value.ref b] below meth c H locs 15 425 (lw_Z below #[Value.ref b] s) (F0 m 579 ls []) := by
  obtain ⟨hx, hb, hr, hml, hown, hts, hX, hbl, hlocks, hgv⟩ := C0
  have hA : ∀ q : Nat, s.heap.size ≤ q → (fun q : Nat => s.heap.size ≤ q) q := fun _ h => h
  have hbA : ¬ (fun q : Nat => s.heap.size ≤ q) b := Nat.not_le.mpr hbl
  have htL : ∀ w ∈ wsL_law, w.before #[Value.ref b] s = true := fun w h => hts w (wsL_law_in w h)
  refine lv_aload_n hx hb dL_law_579 rfl (lv_at hl 1 rfl) ?_
  refine lv_aload_n hx hb dL_law_580 rfl (lv_at hl 0 rfl) ?_
  refine lv_iload_n hx hb dL_law_581 rfl (lv_at hl 3 rfl) ?_
  refine lv_iconst (v := 1) hx hb dL_law_582 (by decide) ?_
  refine lv_iadd hx hb dL_law_583 ?_
  refine va_sld hx hb hX hbl hbA hS hj1 dL_law_584 ?_
  have hPc := hP.sub (ws' := (rW ad cA u)) [0, 1, 2, 3, 4, 5, 6] rfl
  have hKc := hK.sub (tys' := rT cA) [0, 1, 2, 3, 4, 5] rfl
  refine va_calli (va_runV (As := [.int (xs (x3 + 1).toNatClampNeg)]) (rest := []) ⟨hx, hb, hml, hown, htL⟩ (rc_posted l dC dI ad cA u (xs (x3 + 1).toNatClampNeg) _ rfl) (cwV 1 htL gL_law_X0_posted rfl rfl rfl (by decide +kernel) ⟨Nat.le_of_ble_eq_true rfl, Nat.le_of_ble_eq_true rfl⟩) ⟨fun a U g mk q => by obtain ⟨q0, qP, qK⟩ := q; exact ⟨q0, qP, va_K.moved (u := U) (U := U.calling g mk a) (Vm.Alike.refl U.vm) qK⟩, va_recv hKc hPc (ci := 0) (q0 := 0) rfl rfl, fun U hU hW => ⟨rfl, by rw [hU]; exact hPc, va_K.moved hW.alike hKc⟩⟩ rfl rfl hl.1 rfl (lv_room (Nat.le_of_ble_eq_true rfl)) dL_law_585 ⟨Nat.le_of_ble_eq_true rfl, Nat.le_of_ble_eq_true rfl⟩) hS (fun _ _ h => h.elim) (fun _ h => h.elim) (fun r_x u_ t H1 locs ht hvm e_r_x hB hz1 hk1 hS => ?_)
  have hP := hP.kept (fun k x hx => hk1 x.1 ((hP k x hx).lt) (fun h => h))
  generalize H1 = H at hP hS ⊢
  refine lv_aload_n hx hb dL_law_588 rfl (lv_at hl 2 rfl) ?_
  refine lv_aload_n hx hb dL_law_589 rfl (lv_at hl 0 rfl) ?_
  refine lv_iload_n hx hb dL_law_590 rfl (lv_at hl 3 rfl) ?_
  refine lv_iconst (v := 1) hx hb dL_law_591 (by decide) ?_
  refine lv_iadd hx hb dL_law_592 ?_
  refine va_sld hx hb hX hbl hbA hS hj1 dL_law_593 ?_
  have hPc := hP.sub (ws' := (mW bd cB v)) [7, 8, 9, 10, 11, 12, 13, 14] rfl
  have hKc := hK.sub (tys' := mT cB) [6, 7, 8, 9, 10, 11, 12] rfl
  refine va_calli (va_runV (As := [.int (xs (x3 + 1).toNatClampNeg)]) (rest := [.int r_x]) ⟨hx, hb, hml, hown, hts⟩ (mc_posted l dC dI bd cB v (xs (x3 + 1).toNatClampNeg) (ss_mInv hR) _ rfl) (cwV 1 hts gLM_posted rfl rfl rfl (by decide +kernel) ⟨Nat.le_of_ble_eq_true rfl, Nat.le_of_ble_eq_true rfl⟩) ⟨fun a U g mk q => by obtain ⟨q0, qP, qK⟩ := q; exact ⟨q0, qP, va_K.moved (u := U) (U := U.calling g mk a) (Vm.Alike.refl U.vm) qK⟩, va_recv hKc hPc (ci := 1) (q0 := 0) rfl rfl, fun U hU hW => ⟨rfl, by rw [hU]; exact hPc, va_K.moved hW.alike hKc⟩⟩ rfl rfl hl.1 rfl (lv_room (Nat.le_of_ble_eq_true rfl)) dL_law_594 ⟨Nat.le_of_ble_eq_true rfl, Nat.le_of_ble_eq_true rfl⟩) hS (fun _ _ h => h.elim) (fun _ h => h.elim) (fun r_m u_ t H1 locs ht hvm e_r_m hB hz1 hk1 hS => ?_)
  have hP := hP.kept (fun k x hx => hk1 x.1 ((hP k x hx).lt) (fun h => h))
  generalize H1 = H at hP hS ⊢
  refine lv_icmp_eq (tgt := 602) hx hb dL_law_597 (by decide) (fun c_1 => ?_) (fun c_1 => ?_)
  · have hsim := ss_posted hR htt (xs (x3 + 1).toNatClampNeg)
    exact kk _ _ _ _ (ss_mono hR (by omega)) hP hD hS
  · exact absurd (by rw [e_r_x, e_r_m]; exact ss_posted hR htt (xs (x3 + 1).toNatClampNeg)) c_1
