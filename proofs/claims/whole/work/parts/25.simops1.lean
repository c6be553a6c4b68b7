theorem s_proc (x : Int32) : (rf_isProcess x = 0 ∧ mf_isProcess x = 0) ∨ ∃ q : Nat, q < 32 ∧ x = nI q := by
  by_cases h : rf_isProcess x = 0
  · exact Or.inl ⟨h, h⟩
  · exact Or.inr (vp_in_of (ri_isProcess rfl h) (by omega))
theorem s_sem (x : Int32) : (rf_isSemaphore x = 0 ∧ mf_isSemaphore x = 0) ∨ ∃ s : Nat, s < 16 ∧ x = nI s := by
  by_cases h : rf_isSemaphore x = 0
  · exact Or.inl ⟨h, h⟩
  · exact Or.inr (vp_in_of (ri_isSemaphore rfl h) (by omega))
theorem s_pri (x : Int32) : (rf_isPriority x = 0 ∧ mf_isPriority x = 0) ∨ ∃ k : Nat, 1 ≤ k ∧ k ≤ 8 ∧ x = nI k ∧ rf_isPriority x = 1 ∧ mf_isPriority x = 1 := by
  by_cases h1 : x < 1
  · have e : rf_isPriority x = 0 := by unfold rf_isPriority; rw [if_pos h1]
    exact Or.inl ⟨e, e⟩
  · by_cases h2 : 8 < x
    · have e : rf_isPriority x = 0 := by unfold rf_isPriority; rw [if_neg h1, if_pos h2]
      exact Or.inl ⟨e, e⟩
    · have e : rf_isPriority x = 1 := by unfold rf_isPriority; rw [if_neg h1, if_neg h2]
      have h0 : ¬ x < 0 := fun h => h1 (by
        rw [Int32.lt_iff_toInt_lt] at h ⊢
        have a1 : (0 : Int32).toInt = 0 := rfl
        have a2 : (1 : Int32).toInt = 1 := rfl
        omega)
      obtain ⟨k, hk, e2⟩ := nI_of h0
      exact Or.inr ⟨k, k_ge1 e2 (by omega) h1, mi_le8 e2 (by omega) h2, e2, e, e⟩
theorem rp_isMade0 {u : RS} {x : Int32} (h : rf_isProcess x = 0) : rf_isMade u x = 0 := by
  unfold rf_isMade
  rw [if_pos h]
theorem mp_isMade0 {v : MS} {x : Int32} (h : mf_isProcess x = 0) : mf_isMade v x = 0 := by
  unfold mf_isMade
  rw [if_pos h]
theorem sK.made {t : Nat} {L : List Nat} {u : RS} {v : MS} (h : sK t L u v) {q : Nat} (hq : q < 32) : mf_isMade v (nI q) = 0 ↔ rf_isMade u (nI q) = 0 := by
  rw [mp_isMade hq, rp_isMade hq]
  exact (h.2.1 q hq).2.1
theorem ss_active {t : Nat} {u : RS} {v : MS} (h : sSim t u v) (ht : t < 100000) : rf_active u = mf_active v := by
  obtain ⟨L, h, -⟩ := h
  exact h.2.2.2.2.2.2.1.1.symm
theorem ss_present {t : Nat} {u : RS} {v : MS} (h : sSim t u v) (ht : t < 100000) : rf_present u = mf_present v := by
  obtain ⟨L, h, -⟩ := h
  exact h.present.symm
theorem ss_wanted {t : Nat} {u : RS} {v : MS} (h : sSim t u v) (ht : t < 100000) : rf_wanted u = mf_wanted v := by
  obtain ⟨L, h, -⟩ := h
  exact h.2.2.2.2.2.2.1.2.2.1.symm
theorem ss_here {t : Nat} {u : RS} {v : MS} (h : sSim t u v) (ht : t < 100000) : rf_here u = mf_here v := by
  obtain ⟨L, h, -⟩ := h
  exact h.2.2.2.2.2.2.1.2.1.symm
theorem ss_place {t : Nat} {u : RS} {v : MS} (h : sSim t u v) (ht : t < 100000) (p1 : Int32) : rf_place u p1 = mf_place v p1 := by
  obtain ⟨L, h, -⟩ := h
  unfold rf_place mf_place
  rcases s_proc p1 with ⟨e1, e2⟩ | ⟨q, hq, rfl⟩
  · rw [if_pos (rp_isMade0 e1), if_pos (mp_isMade0 e2)]
  · by_cases hm : rf_isMade u (nI q) = 0
    · rw [if_pos hm, if_pos ((h.made hq).mpr hm)]
    · rw [if_neg hm, if_neg (fun e => hm ((h.made hq).mp e)), k_clamp (show q < 2147483648 by omega)]
      exact (h.2.1 q hq).2.2.1.symm
theorem ss_priority {t : Nat} {u : RS} {v : MS} (h : sSim t u v) (ht : t < 100000) (p1 : Int32) : rf_priority u p1 = mf_priority v p1 := by
  obtain ⟨L, h, -⟩ := h
  unfold rf_priority mf_priority
  rcases s_proc p1 with ⟨e1, e2⟩ | ⟨q, hq, rfl⟩
  · rw [if_pos (rp_isMade0 e1), if_pos (mp_isMade0 e2)]
  · by_cases hm : rf_isMade u (nI q) = 0
    · rw [if_pos hm, if_pos ((h.made hq).mpr hm)]
    · rw [if_neg hm, if_neg (fun e => hm ((h.made hq).mp e)), k_clamp (show q < 2147483648 by omega)]
      exact ((h.2.1 q hq).2.2.2 (fun e => hm ((rp_isMade hq).mpr e))).1.symm
theorem ss_row {t : Nat} {u : RS} {v : MS} (h : sSim t u v) (ht : t < 100000) (p1 : Int32) : rf_row u p1 = mf_row v p1 := by
  obtain ⟨L, h, -⟩ := h
  unfold rf_row mf_row
  rcases s_proc p1 with ⟨e1, e2⟩ | ⟨q, hq, rfl⟩
  · rw [if_pos (rp_isMade0 e1), if_pos (mp_isMade0 e2)]
  · by_cases hm : rf_isMade u (nI q) = 0
    · rw [if_pos hm, if_pos ((h.made hq).mpr hm)]
    · rw [if_neg hm, if_neg (fun e => hm ((h.made hq).mp e)), k_clamp (show q < 2147483648 by omega)]
      exact (h.2.1 q hq).1.symm
theorem ss_extra {t : Nat} {u : RS} {v : MS} (h : sSim t u v) (ht : t < 100000) (p1 : Int32) : rf_extra u p1 = mf_extra v p1 := by
  obtain ⟨L, h, -⟩ := h
  unfold rf_extra mf_extra
  rcases s_sem p1 with ⟨e1, e2⟩ | ⟨s, hs, rfl⟩
  · rw [if_pos e1, if_pos e2]
  · have e1 : ¬ rf_isSemaphore (nI s) = 0 := by rw [rp_isSemaphore hs]; decide
    rw [if_neg e1, if_neg (show ¬ mf_isSemaphore (nI s) = 0 from e1), k_clamp (show s < 2147483648 by omega)]
    exact (h.2.2.2.2.1 s hs).symm
theorem ss_posted {t : Nat} {u : RS} {v : MS} (h : sSim t u v) (ht : t < 100000) (p1 : Int32) : rf_posted u p1 = mf_posted v p1 := by
  obtain ⟨L, h, -⟩ := h
  obtain ⟨a, ha, e1, e2, e3⟩ := h.2.2.2.2.2.1
  unfold rf_posted mf_posted
  by_cases h0 : p1 < 0
  · rw [if_pos h0, if_pos h0]
  · rw [if_neg h0, if_neg h0, e1, e2]
    by_cases h1 : nI a ≤ p1
    · rw [if_pos h1, if_pos h1]
    · rw [if_neg h1, if_neg h1]
      obtain ⟨j, hj, rfl⟩ := nI_of h0
      rw [nI_leI (by omega) hj] at h1
      rw [if_neg (show ¬ (40 : Int32) ≤ nI j from k_nle (b := 40) (by omega) (by omega)), k_clamp (show j < 2147483648 by omega)]
      exact (e3 j (by omega)).1.symm
theorem ss_at {t : Nat} {u : RS} {v : MS} (h : sSim t u v) (ht : t < 100000) (p1 p2 : Int32) : rf_at u p1 p2 = mf_at v p1 p2 := by
  obtain ⟨L, h, -⟩ := h
  have hlen : (sRow u L p1).length ≤ 32 := Nat.le_trans (List.length_filter_le _ _) h.1.len
  have hcl : rf_at u p1 p2 = k_nth p2 (sRow u L p1) 0 := rp_at h.1 p1 p2
  have hout : (p2 < 0 ∨ 32 ≤ p2) → rf_at u p1 p2 = -1 := fun ho => by
    rw [hcl]
    have := k_nth_none p2 (sRow u L p1) 0 (fun c hc e => by
      rw [Nat.zero_add] at e
      rcases ho with ho | ho
      · rw [← e] at ho
        exact absurd ho (nI_pos (by omega))
      · rw [← e] at ho
        exact absurd ho (k_n32 (by omega)))
    rwa [nI_0] at this
  have hin : ∀ k : Nat, sVal k → p1 = nI k → rf_at u p1 p2 = if p2 < 0 then -1 else if 32 ≤ p2 then -1 else mf_find v p1 p2 := fun k hk e => by
    by_cases h1 : p2 < 0
    · rw [if_pos h1]
      exact hout (Or.inl h1)
    · rw [if_neg h1]
      by_cases h2 : 32 ≤ p2
      · rw [if_pos h2]
        exact hout (Or.inr h2)
      · rw [if_neg h2]
        obtain ⟨a, ha, rfl⟩ := mi_arg h1 h2
        rw [h.at p1 ha, h.find (by omega) (by rw [e]; exact hk.ne) ha]
  have hno : (∀ k : Nat, sVal k → p1 ≠ nI k) → rf_at u p1 p2 = -1 := fun hn => by
    rw [hcl]
    cases e : sRow u L p1 with
    | nil => rfl
    | cons g s =>
      have hg : g ∈ sRow u L p1 := by rw [e]; exact List.mem_cons_self
      have hg2 := sRow_mem.mp hg
      obtain ⟨k, hk1, hk2⟩ := (h.2.2.1 g hg2.1).2
      exact absurd (hg2.2.symm.trans hk1) (hn k hk2)
  unfold mf_at
  rcases s_pri p1 with ⟨-, e2⟩ | ⟨k, hk1, hk8, e, -, e2⟩
  · rw [if_pos e2]
    have hnp : ∀ k : Nat, 1 ≤ k → k ≤ 8 → p1 ≠ nI k := fun k h1 h2 e => by
      rw [e] at e2
      unfold mf_isPriority at e2
      rw [if_neg (show ¬ nI k < 1 from fun h => by
        rw [show (1 : Int32) = nI 1 from rfl, nI_ltI (by omega) (by omega)] at h
        omega), if_neg (show ¬ (8 : Int32) < nI k from fun h => by
        rw [show (8 : Int32) = nI 8 from rfl, nI_ltI (by omega) (by omega)] at h
        omega)] at e2
      exact absurd e2 (by decide)
    by_cases h16 : p1 < 16
    · rw [if_pos h16]
      refine hno (fun k hk e => ?_)
      rcases hk with hk | hk
      · exact hnp k hk.1 hk.2 e
      · rw [e, show (16 : Int32) = nI 16 from rfl, nI_ltI (by omega) (by omega)] at h16
        omega
    · rw [if_neg h16]
      by_cases h32 : 32 ≤ p1
      · rw [if_pos h32]
        refine hno (fun k hk e => ?_)
        rw [e] at h32
        exact k_n32 hk.lt h32
      · rw [if_neg h32]
        have h0 : ¬ p1 < 0 := fun h => h16 (by
          rw [Int32.lt_iff_toInt_lt] at h ⊢
          have a1 : (0 : Int32).toInt = 0 := rfl
          have a2 : (16 : Int32).toInt = 16 := rfl
          omega)
        obtain ⟨k, hk, e⟩ := mi_arg h0 h32
        refine hin k (Or.inr ⟨?_, hk⟩) e
        rw [e, show (16 : Int32) = nI 16 from rfl, nI_ltI (by omega) (by omega)] at h16
        omega
  · rw [if_neg (by rw [e2]; decide)]
    exact hin k (Or.inl ⟨hk1, hk8⟩) e
