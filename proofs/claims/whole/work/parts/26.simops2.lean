theorem s_upd_ne {f : Nat → Int32} {q k a : Nat} (h : f a ≠ 0) (h1 : 1 ≤ k) (h8 : k ≤ 8) : upd f q (nI k) a ≠ 0 := by
  by_cases e : a = q
  · rw [e, pk_us]
    exact nI_ne0 (by omega) (by omega)
  · rw [pk_un e]
    exact h
theorem sK.make {t : Nat} {L : List Nat} {u : RS} {v : MS} (h : sK t L u v) {q k : Nat} (hq : q < 32) (hm : ra_priorities u q = 0) (h1k : 1 ≤ k) (h8k : k ≤ 8) (pl : Int32) :
    sK t L (rs_places (rs_priorities u (upd (ra_priorities u) q (nI k))) (upd (ra_places u) q pl)) (ms_rows (ms_places (ms_priorities (ms_made v (upd (ma_made v) q 1)) (upd (ma_priorities v) q (nI k))) (upd (ma_places v) q pl)) (upd (ma_rows v) q 0)) := by
  obtain ⟨h1, h2, h3, h4, h5, h6, h7, h8, h9⟩ := h
  have hn : q ∉ L := fun hh => (h3 q hh).1 hm
  have hk0 : nI k ≠ 0 := nI_ne0 (by omega) (by omega)
  refine ⟨h1, fun p hp => ?_, fun p hp => ?_, h4, h5, h6, h7, ?_, h9⟩
  · show upd (ma_rows v) q 0 p = ra_rows u p ∧ (upd (ma_made v) q 1 p = 0 ↔ upd (ra_priorities u) q (nI k) p = 0) ∧ upd (ma_places v) q pl p = upd (ra_places u) q pl p ∧ (upd (ra_priorities u) q (nI k) p ≠ 0 → upd (ma_priorities v) q (nI k) p = upd (ra_priorities u) q (nI k) p ∧ ∃ k' : Nat, upd (ra_priorities u) q (nI k) p = nI k' ∧ 1 ≤ k' ∧ k' ≤ 8)
    by_cases e : p = q
    · subst e
      simp only [pk_us]
      exact ⟨((h1.2.2.2.2 p hp).mpr hn).symm, ⟨fun h => absurd h (by decide), fun h => absurd h hk0⟩, trivial, fun _ => ⟨trivial, k, rfl, h1k, h8k⟩⟩
    · simp only [pk_un e]
      exact h2 p hp
  · have e : p ≠ q := fun e => hn (e ▸ hp)
    show upd (ra_priorities u) q (nI k) p ≠ 0 ∧ _
    rw [pk_un e]
    exact h3 p hp
  · rcases h8 with e | ⟨a, ha, e, hma⟩
    · exact Or.inl e
    · exact Or.inr ⟨a, ha, e, s_upd_ne hma h1k h8k⟩
theorem sPr.upd {L : List Nat} {u u' : RS} (hp : sPr L u) {q k : Nat} (h1k : 1 ≤ k) (h8k : k ≤ 8) (e1 : rf_present u' = rf_present u) (e2 : ra_priorities u' = upd (ra_priorities u) q (nI k)) : sPr L u' := by
  rcases hp with e | ⟨a, ha, e, hma, hna⟩
  · exact Or.inl (e1.trans e)
  · exact Or.inr ⟨a, ha, e1.trans e, by rw [e2]; exact s_upd_ne hma h1k h8k, hna⟩
theorem ss_make {t : Nat} {u : RS} {v : MS} (h : sSim t u v) (ht : t < 100000) (p1 p2 p3 : Int32) : (rf_make u p1 p2 p3).1 = (mf_make v p1 p2 p3).1 ∧ sSim (t + 64) (rf_make u p1 p2 p3).2 (mf_make v p1 p2 p3).2 := by
  have h0 := ss_mono h (show t ≤ t + 64 by omega)
  obtain ⟨L, h, hp⟩ := h
  unfold rf_make mf_make
  rcases s_proc p1 with ⟨e1, e2⟩ | ⟨q, hq, rfl⟩
  · rw [if_pos e1, if_pos e2]
    exact ⟨rfl, h0⟩
  · have e1 : ¬ rf_isProcess (nI q) = 0 := by rw [rp_isProcess hq]; decide
    rw [if_neg e1, if_neg (show ¬ mf_isProcess (nI q) = 0 from e1), k_clamp (show q < 2147483648 by omega)]
    by_cases hm : ra_priorities u q = 0
    · rw [if_pos ((rp_isMade hq).mpr hm), if_pos ((h.2.1 q hq).2.1.mpr hm)]
      rcases s_pri p2 with ⟨e1, e2⟩ | ⟨k, hk1, hk8, rfl, e1, e2⟩
      · rw [if_pos e1, if_pos e2]
        exact ⟨rfl, h0⟩
      · rw [if_neg (by rw [e1]; decide), if_neg (by rw [e2]; decide)]
        exact ⟨rfl, L, (h.make hq hm hk1 hk8 p3).mono (by omega), hp.upd hk1 hk8 rfl rfl⟩
    · rw [if_neg (fun e => hm ((rp_isMade hq).mp e)), if_neg (fun e => hm ((h.2.1 q hq).2.1.mp e))]
      exact ⟨rfl, h0⟩
theorem sK.rate {t : Nat} {L : List Nat} {u : RS} {v : MS} (h : sK t L u v) {q k : Nat} (hq : q < 32) (hm : ra_priorities u q ≠ 0) (h1k : 1 ≤ k) (h8k : k ≤ 8) :
    sK t L (rs_priorities u (upd (ra_priorities u) q (nI k))) (ms_priorities v (upd (ma_priorities v) q (nI k))) := by
  obtain ⟨h1, h2, h3, h4, h5, h6, h7, h8, h9⟩ := h
  have hk0 : nI k ≠ 0 := nI_ne0 (by omega) (by omega)
  refine ⟨h1, fun p hp => ?_, fun p hp => ?_, h4, h5, h6, h7, ?_, h9⟩
  · show ma_rows v p = ra_rows u p ∧ (ma_made v p = 0 ↔ upd (ra_priorities u) q (nI k) p = 0) ∧ ma_places v p = ra_places u p ∧ (upd (ra_priorities u) q (nI k) p ≠ 0 → upd (ma_priorities v) q (nI k) p = upd (ra_priorities u) q (nI k) p ∧ ∃ k' : Nat, upd (ra_priorities u) q (nI k) p = nI k' ∧ 1 ≤ k' ∧ k' ≤ 8)
    by_cases e : p = q
    · subst e
      simp only [pk_us]
      exact ⟨(h2 p hp).1, ⟨fun h => absurd ((h2 p hp).2.1.mp h) hm, fun h => absurd h hk0⟩, (h2 p hp).2.2.1, fun _ => ⟨trivial, k, rfl, h1k, h8k⟩⟩
    · simp only [pk_un e]
      exact h2 p hp
  · exact ⟨s_upd_ne (h3 p hp).1 h1k h8k, (h3 p hp).2⟩
  · rcases h8 with e | ⟨a, ha, e, hma⟩
    · exact Or.inl e
    · exact Or.inr ⟨a, ha, e, s_upd_ne hma h1k h8k⟩
theorem ss_rate {t : Nat} {u : RS} {v : MS} (h : sSim t u v) (ht : t < 100000) (p1 p2 : Int32) : (rf_rate u p1 p2).1 = (mf_rate v p1 p2).1 ∧ sSim (t + 64) (rf_rate u p1 p2).2 (mf_rate v p1 p2).2 := by
  have h0 := ss_mono h (show t ≤ t + 64 by omega)
  obtain ⟨L, h, hp⟩ := h
  unfold rf_rate mf_rate
  rcases s_proc p1 with ⟨e1, e2⟩ | ⟨q, hq, rfl⟩
  · rw [if_pos (rp_isMade0 e1), if_pos (mp_isMade0 e2)]
    exact ⟨rfl, h0⟩
  · by_cases hm : rf_isMade u (nI q) = 0
    · rw [if_pos hm, if_pos ((h.made hq).mpr hm)]
      exact ⟨rfl, h0⟩
    · have hm2 : ra_priorities u q ≠ 0 := fun e => hm ((rp_isMade hq).mpr e)
      rw [if_neg hm, if_neg (fun e => hm ((h.made hq).mp e)), k_clamp (show q < 2147483648 by omega)]
      rcases s_pri p2 with ⟨e1, e2⟩ | ⟨k, hk1, hk8, rfl, e1, e2⟩
      · rw [if_pos e1, if_pos e2]
        exact ⟨rfl, h0⟩
      · rw [if_neg (by rw [e1]; decide), if_neg (by rw [e2]; decide)]
        exact ⟨((h.2.1 q hq).2.2.2 hm2).1.symm, L, (h.rate hq hm2 hk1 hk8).mono (by omega), hp.upd hk1 hk8 rfl rfl⟩
theorem ss_resume {t : Nat} {u : RS} {v : MS} (h : sSim t u v) (ht : t < 100000) (p1 : Int32) : (rf_resume u p1).1 = (mf_resume v p1).1 ∧ sSim (t + 64) (rf_resume u p1).2 (mf_resume v p1).2 := by
  have h0 := ss_mono h (show t ≤ t + 64 by omega)
  obtain ⟨L, h, hp⟩ := h
  unfold rf_resume mf_resume
  rcases s_proc p1 with ⟨e1, e2⟩ | ⟨q, hq, rfl⟩
  · rw [if_pos (rp_isMade0 e1), if_pos (mp_isMade0 e2)]
    exact ⟨rfl, h0⟩
  · by_cases hm : rf_isMade u (nI q) = 0
    · rw [if_pos hm, if_pos ((h.made hq).mpr hm)]
      exact ⟨rfl, h0⟩
    · have hm2 : ra_priorities u q ≠ 0 := fun e => hm ((rp_isMade hq).mpr e)
      rw [if_neg hm, if_neg (fun e => hm ((h.made hq).mp e)), k_clamp (show q < 2147483648 by omega), h.present, (h.2.1 q hq).1, h.2.2.2.2.2.2.1.1]
      by_cases hr : ra_rows u q = 0
      · rw [if_pos hr, if_pos hr]
        by_cases h1 : nI q = rf_present u
        · rw [if_pos h1, if_pos h1]
          exact ⟨rfl, h0⟩
        · rw [if_neg h1, if_neg h1]
          by_cases h2 : nI q = ra_active u
          · rw [if_pos h2, if_pos h2]
            exact ⟨rfl, h0⟩
          · rw [if_neg h2, if_neg h2]
            exact ⟨rfl, ss_mono (h.wake hp hq ((h.1.2.2.2.2 q hq).mp hr) hm2 (fun e => h1 e.symm)) (by omega)⟩
      · rw [if_neg hr, if_neg hr]
        exact ⟨rfl, h0⟩
theorem ss_suspend {t : Nat} {u : RS} {v : MS} (h : sSim t u v) (ht : t < 100000) : (rf_suspend u).1 = (mf_suspend v).1 ∧ sSim (t + 64) (rf_suspend u).2 (mf_suspend v).2 := by
  have h0 := ss_mono h (show t ≤ t + 64 by omega)
  obtain ⟨L, h, hp⟩ := h
  unfold rf_suspend mf_suspend
  rw [h.present]
  rcases hp with e | ⟨a, ha, e, hma, hna⟩
  · rw [e, if_pos rfl, if_pos (by decide)]
    exact ⟨rfl, h0⟩
  · rw [e, if_neg (k_notneg (by omega)), if_neg (nI_pos (by omega))]
    exact ⟨rfl, ss_mono (h.aside (by omega)) (by omega)⟩
theorem sK.unmake {t : Nat} {L : List Nat} {u : RS} {v : MS} (h : sK t L u v) {a : Nat} (ha : a < 32) (hna : a ∉ L) {x : Int32} (hx : x = -1 ∨ (x = ra_active u ∧ ra_active u ≠ nI a)) :
    sK t L (rs_active (rs_priorities u (upd (ra_priorities u) a 0)) x) (ms_active (ms_made v (upd (ma_made v) a 0)) x) := by
  obtain ⟨h1, h2, h3, h4, h5, h6, h7, h8, h9⟩ := h
  refine ⟨h1, fun p hp => ?_, fun p hp => ?_, h4, h5, h6, ⟨rfl, h7.2⟩, ?_, h9⟩
  · show ma_rows v p = ra_rows u p ∧ (upd (ma_made v) a 0 p = 0 ↔ upd (ra_priorities u) a 0 p = 0) ∧ ma_places v p = ra_places u p ∧ (upd (ra_priorities u) a 0 p ≠ 0 → ma_priorities v p = upd (ra_priorities u) a 0 p ∧ ∃ k' : Nat, upd (ra_priorities u) a 0 p = nI k' ∧ 1 ≤ k' ∧ k' ≤ 8)
    by_cases e : p = a
    · subst e
      simp only [pk_us]
      exact ⟨(h2 p hp).1, trivial, (h2 p hp).2.2.1, fun h => absurd rfl h⟩
    · simp only [pk_un e]
      exact h2 p hp
  · have e : p ≠ a := fun e => hna (e ▸ hp)
    show upd (ra_priorities u) a 0 p ≠ 0 ∧ _
    rw [pk_un e]
    exact h3 p hp
  · rcases hx with e | ⟨e, hne⟩
    · exact Or.inl e
    · rcases h8 with e2 | ⟨b, hb, e2, hmb⟩
      · exact Or.inl (e.trans e2)
      · refine Or.inr ⟨b, hb, e.trans e2, ?_⟩
        show upd (ra_priorities u) a 0 b ≠ 0
        rw [pk_un (fun e3 => hne (by rw [e2, e3]))]
        exact hmb
theorem sAside_active (v : MS) (x : Int32) : ma_active (sAside v x) = ma_active v := by
  unfold sAside
  split <;> rfl
theorem sAside_set (v : MS) (x y : Int32) : ms_active (sAside v x) y = sAside (ms_active v y) x := by
  unfold sAside
  split <;> rfl
theorem ss_end {t : Nat} {u : RS} {v : MS} (h : sSim t u v) (ht : t < 100000) : (rf_end u).1 = (mf_end v).1 ∧ sSim (t + 64) (rf_end u).2 (mf_end v).2 := by
  have h0 := ss_mono h (show t ≤ t + 64 by omega)
  obtain ⟨L, h, hp⟩ := h
  unfold rf_end mf_end
  rw [h.present]
  rcases hp with e | ⟨a, ha, e, hma, hna⟩
  · rw [e, if_pos (rp_isMade0 (by decide)), if_pos (by decide)]
    exact ⟨rfl, h0⟩
  · rw [e, if_neg (fun e2 => hma ((rp_isMade ha).mp e2)), if_neg (nI_pos (by omega)), k_clamp (show a < 2147483648 by omega)]
    have hact := h.2.2.2.2.2.2.1.1
    by_cases ea : ra_active u = nI a
    · have h1 := h.unmake ha hna (x := -1) (Or.inl rfl)
      obtain ⟨x, -, em, -⟩ := h1.first (by omega)
      have em1 := em (ms_made v (upd (ma_made v) a 0)) rfl rfl rfl
      have em2 := em _ rfl rfl rfl
      have hs := h1.aside (by omega)
      rw [em2] at hs
      rw [em1, if_pos ea.symm, if_pos (by rw [sAside_active]; exact (hact.trans ea).symm), sAside_set]
      exact ⟨rfl, ss_mono hs (by omega)⟩
    · have h1 := h.unmake ha hna (x := ra_active u) (Or.inr ⟨rfl, ea⟩)
      rw [← hact] at h1
      obtain ⟨x, -, em, -⟩ := h1.first (by omega)
      have em1 := em (ms_made v (upd (ma_made v) a 0)) rfl rfl rfl
      have em2 := em _ rfl rfl rfl
      have hs := h1.aside (by omega)
      rw [em2] at hs
      rw [em1, if_neg (fun e2 => ea e2.symm), if_neg (by rw [sAside_active]; exact fun e2 => ea (hact.symm.trans e2.symm)), sAside_active, sAside_set]
      rw [hact] at hs
      refine ⟨rfl, ss_mono ?_ (show t ≤ t + 64 by omega)⟩
      have hact2 : ma_active (ms_made v (upd (ma_made v) a 0)) = ra_active u := hact
      rw [hact2]
      exact hs
theorem ss_await {t : Nat} {u : RS} {v : MS} (h : sSim t u v) (ht : t < 100000) (p1 : Int32) : (rf_await u p1).1 = (mf_await v p1).1 ∧ sSim (t + 64) (rf_await u p1).2 (mf_await v p1).2 := by
  have h0 := ss_mono h (show t ≤ t + 64 by omega)
  obtain ⟨L, h, hp⟩ := h
  unfold rf_await mf_await
  rcases s_sem p1 with ⟨e1, e2⟩ | ⟨s, hs, rfl⟩
  · rw [if_pos e1, if_pos e2]
    exact ⟨rfl, h0⟩
  · have e1 : ¬ rf_isSemaphore (nI s) = 0 := by rw [rp_isSemaphore hs]; decide
    rw [if_neg e1, if_neg (show ¬ mf_isSemaphore (nI s) = 0 from e1), k_clamp (show s < 2147483648 by omega), h.present, h.2.2.2.2.1 s hs, show (16 : Int32) + nI s = nI (16 + s) from nI_add 16 s]
    rcases hp with e | ⟨a, ha, e, hma, hna⟩
    · rw [e, if_pos rfl, if_neg (by decide)]
      exact ⟨rfl, h0⟩
    · rw [e, if_neg (k_notneg (by omega)), if_pos (nI_pos' (by omega))]
      by_cases hx : ra_extras u s ≤ 0
      · rw [if_pos hx, if_pos hx]
        exact ⟨rfl, ss_mono ((h.enter ha hna hma (k := 16 + s) (Or.inr ⟨by omega, by omega⟩)).aside (by omega)) (by omega)⟩
      · rw [if_neg hx, if_neg hx]
        exact ⟨rfl, L, (h.extra s _).mono (by omega), Or.inr ⟨a, ha, e, hma, hna⟩⟩
theorem ss_signal {t : Nat} {u : RS} {v : MS} (h : sSim t u v) (ht : t < 100000) (p1 : Int32) : (rf_signal u p1).1 = (mf_signal v p1).1 ∧ sSim (t + 64) (rf_signal u p1).2 (mf_signal v p1).2 := by
  have h0 := ss_mono h (show t ≤ t + 64 by omega)
  rcases s_sem p1 with ⟨e1, e2⟩ | ⟨s, hs, rfl⟩
  · unfold rf_signal mf_signal
    rw [if_pos e1, if_pos e2]
    exact ⟨rfl, h0⟩
  · have hg := h.give (by omega) hs
    have em : mf_signal v (nI s) = (1, mf_give v (nI s)) := by
      unfold mf_signal
      rw [if_neg (show ¬ mf_isSemaphore (nI s) = 0 from by rw [show mf_isSemaphore (nI s) = 1 from rp_isSemaphore hs]; decide)]
    rw [em]
    exact ⟨hg.1, ss_mono hg.2 (by omega)⟩
theorem ss_post {t : Nat} {u : RS} {v : MS} (h : sSim t u v) (ht : t < 100000) (p1 : Int32) : (rf_post u p1).1 = (mf_post v p1).1 ∧ sSim (t + 64) (rf_post u p1).2 (mf_post v p1).2 := by
  have h0 := ss_mono h (show t ≤ t + 64 by omega)
  obtain ⟨L, h, hp⟩ := h
  unfold rf_post mf_post
  rcases s_sem p1 with ⟨e1, e2⟩ | ⟨s, hs, rfl⟩
  · rw [if_pos e1, if_pos e2]
    exact ⟨rfl, h0⟩
  · have e1 : ¬ rf_isSemaphore (nI s) = 0 := by rw [rp_isSemaphore hs]; decide
    rw [if_neg e1, if_neg (show ¬ mf_isSemaphore (nI s) = 0 from e1)]
    obtain ⟨h1, h2, h3, h4, h5, ⟨a, ha, g1, g2, g3⟩, h7, h8, h9⟩ := h
    rw [g1, g2]
    by_cases e40 : a = 40
    · subst e40
      rw [if_neg (show ¬ nI 40 < 40 by decide), if_pos (show nI 40 = 40 by rfl)]
      exact ⟨rfl, h0⟩
    · have hlt : nI a < 40 := by
        rw [show (40 : Int32) = nI 40 from rfl, nI_ltI (by omega) (by omega)]
        omega
      have hne : ¬ nI a = 40 := fun e => e40 ((nI_eq (b := 40) (by omega) (by omega)).mp e)
      rw [if_pos hlt, if_neg hne, k_clamp (show a < 2147483648 by omega)]
      refine ⟨rfl, L, sK.mono ⟨h1, h2, h3, h4, h5, ⟨a + 1, by omega, nI_1 a, nI_1 a, fun k hk => ?_⟩, h7, h8, h9⟩ (show t ≤ t + 64 by omega), hp⟩
      show upd (ma_posted v) a (nI s) k = upd (ra_posts u) a (nI s) k ∧ vp_in (upd (ra_posts u) a (nI s) k) 16
      by_cases e : k = a
      · rw [e, pk_us, pk_us]
        exact ⟨rfl, vp_in_nI hs (by omega)⟩
      · rw [pk_un e, pk_un e]
        exact g3 k (by omega)
theorem ss_work {t : Nat} {u : RS} {v : MS} (h : sSim t u v) (ht : t < 100000) (p1 : Int32) : (rf_work u p1).1 = (mf_work v p1).1 ∧ sSim (t + 64) (rf_work u p1).2 (mf_work v p1).2 := by
  have h0 := ss_mono h (show t ≤ t + 64 by omega)
  obtain ⟨L, h, hp⟩ := h
  obtain ⟨h1, h2, h3, h4, h5, h6, h7, h8, h9⟩ := id h
  unfold rf_work mf_work
  by_cases c1 : p1 < 1
  · rw [if_pos c1, if_pos c1]
    exact ⟨rfl, h0⟩
  · rw [if_neg c1, if_neg c1]
    by_cases c2 : 1000 < p1
    · rw [if_pos c2, if_pos c2]
      exact ⟨rfl, h0⟩
    · rw [if_neg c2, if_neg c2, h7.1]
      have ha : ra_active u = -1 ↔ ra_active u < 0 := by
        rcases h8 with e | ⟨a, ha, e, -⟩
        · rw [e]
          exact ⟨fun _ => by decide, fun _ => rfl⟩
        · rw [e]
          exact ⟨fun h => absurd h (k_notneg (by omega)), fun h => absurd h (nI_pos (by omega))⟩
      by_cases c3 : ra_active u = -1
      · rw [if_pos c3, if_pos (ha.mp c3)]
        exact ⟨rfl, h0⟩
      · rw [if_neg c3, if_neg (fun e => c3 (ha.mpr e)), h7.2.2.1]
        by_cases c4 : ra_wanted u = 0
        · rw [if_pos c4, if_pos c4, h7.2.1]
          exact ⟨rfl, L, sK.mono ⟨h1, h2, h3, h4, h5, h6, ⟨h7.1, rfl, h7.2.2⟩, h8, h9⟩ (show t ≤ t + 64 by omega), hp⟩
        · rw [if_neg c4, if_neg c4]
          exact ⟨rfl, h0⟩
theorem ss_take {t : Nat} {u : RS} {v : MS} (h : sSim t u v) (ht : t < 100000) (p1 : Int32) : (rf_take u p1).1 = (mf_take v p1).1 ∧ sSim (t + 64) (rf_take u p1).2 (mf_take v p1).2 := by
  have h0 := ss_mono h (show t ≤ t + 64 by omega)
  obtain ⟨L, h, hp⟩ := h
  unfold rf_take mf_take
  rcases s_proc p1 with ⟨e1, e2⟩ | ⟨q, hq, rfl⟩
  · rw [if_pos e1, if_pos (mp_isMade0 e2)]
    exact ⟨rfl, h0⟩
  · have e1 : ¬ rf_isProcess (nI q) = 0 := by rw [rp_isProcess hq]; decide
    rw [if_neg e1, k_clamp (show q < 2147483648 by omega), (h.2.1 q hq).1]
    by_cases hr : ra_rows u q = 0
    · rw [if_pos hr, if_pos hr, ite_self]
      exact ⟨rfl, h0⟩
    · have hqL : q ∈ L := by
        rcases Classical.em (q ∈ L) with h6 | h6
        · exact h6
        · exact absurd ((h.1.2.2.2.2 q hq).mpr h6) hr
      have hm : ¬ mf_isMade v (nI q) = 0 := fun e => (h.2.2.1 q hqL).1 ((rp_isMade hq).mp ((h.made hq).mp e))
      rw [if_neg hr, if_neg hm, if_neg hr]
      have hl := h.leave_pri hq
      refine ⟨rfl, _, (h.leave hq).mono (by omega), ?_⟩
      rcases hp with e2 | ⟨a, ha, e2, hma, hna⟩
      · exact Or.inl (hl.2.trans e2)
      · exact Or.inr ⟨a, ha, hl.2.trans e2, by rw [hl.1]; exact hma, fun hh => hna (List.mem_filter.mp hh).1⟩
theorem ss_yield {t : Nat} {u : RS} {v : MS} (h : sSim t u v) (ht : t < 100000) : (rf_yield u).1 = (mf_yield v).1 ∧ sSim (t + 64) (rf_yield u).2 (mf_yield v).2 := by
  have h0 := ss_mono h (show t ≤ t + 64 by omega)
  obtain ⟨L, h, hp⟩ := h
  unfold rf_yield mf_yield
  rw [h.present]
  rcases hp with e | ⟨a, ha, e, hma, hna⟩
  · rw [e, if_pos (rp_isMade0 (by decide)), if_pos (by decide)]
    exact ⟨rfl, h0⟩
  · obtain ⟨ea, k, ek, hk1, hk8⟩ := (h.2.1 a ha).2.2.2 hma
    have hc : rf_at u (nI k) 0 = k_sel (sRow u L (nI k)) 0 := by
      have := h.at (nI k) (a := 0) (by omega)
      rwa [nI_0] at this
    have hm : mf_find v (nI k) 0 = k_sel (sRow u L (nI k)) 0 := by
      have := h.find (by omega) (r := nI k) (nI_ne0 (by omega) (by omega)) (a := 0) (by omega)
      rwa [nI_0] at this
    rw [e, if_neg (fun e2 => hma ((rp_isMade ha).mp e2)), if_neg (nI_pos (by omega)), k_clamp (show a < 2147483648 by omega), ea, ek, hc, hm]
    rcases sRow_first (u := u) (L := L) (r := nI k) with e2 | ⟨q, e2, hq, -⟩
    · rw [e2, if_pos rfl, if_neg (by decide)]
      exact ⟨rfl, h0⟩
    · have hq32 := h.1.2.2.1 q hq
      rw [e2, if_neg (k_notneg (by omega)), if_pos (nI_pos' (by omega))]
      exact ⟨rfl, ss_mono ((h.enter ha hna hma (k := k) (Or.inl ⟨hk1, hk8⟩)).aside (by omega)) (by omega)⟩
