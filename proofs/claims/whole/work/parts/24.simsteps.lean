theorem sK.find' {t : Nat} {L : List Nat} {u : RS} {v v1 : MS} (h : sK t L u v) (ht : t < 1000000) (g1 : ma_rows v1 = ma_rows v) (g2 : ma_made v1 = ma_made v) (g3 : ma_when v1 = ma_when v) {r : Int32} (hr : r ≠ 0) {a : Nat} (ha : a < 32) : mf_find v1 r (nI a) = k_sel (sRow u L r) a := by
  obtain ⟨h1, h2, h3, ⟨w, n, e1, e2, e3, e4, e5⟩, -⟩ := h
  have := sf_find (v := v1) (r := r) (b := nI a) (w := w) (fun p hp => ⟨by rw [g3]; exact (e3 p hp).1, by have := (e3 p hp).2; omega⟩) 33 (a + 1) (-1) (sRow u L r) (by omega) (by omega) (Or.inl (by decide)) (e5.sublist (List.filter_sublist)) (fun p hp => h1.2.2.1 p (sRow_mem.mp hp).1) (fun p hp => ?_)
  · rw [if_neg (by omega), pk_m1, Nat.add_sub_cancel] at this
    exact this
  · rw [g1, g2, sRow_mem, (h2 p hp).1]
    constructor
    · rintro ⟨-, h5, -⟩
      refine ⟨?_, h5⟩
      rcases Classical.em (p ∈ L) with h6 | h6
      · exact h6
      · exact absurd (h5.symm.trans ((h1.2.2.2.2 p hp).mpr h6)) hr
    · rintro ⟨h5, h6⟩
      exact ⟨fun h7 => (h3 p h5).1 ((h2 p hp).2.1.mp h7), h6, Or.inl (by decide)⟩
/-- the model's putting aside, with x the one that is chosen -/
def sAside (v : MS) (x : Int32) : MS := if x < 0 then mf_want v x else mf_want (ms_rows v (upd (ma_rows v) x.toNatClampNeg 0)) x
/-- who is chosen -/
theorem sK.first {t : Nat} {L : List Nat} {u : RS} {v : MS} (h : sK t L u v) (ht : t < 1000000) : ∃ x : Int32, rf_firstReady u = x ∧ (∀ v1 : MS, ma_rows v1 = ma_rows v → ma_made v1 = ma_made v → ma_when v1 = ma_when v → mf_putAside v1 = sAside v1 x) ∧ (x = -1 ∨ ∃ q : Nat, x = nI q ∧ q ∈ L) := by
  have hz : ∀ r : Int32, k_sel (sRow u L r) 0 = -1 ∨ ¬ k_sel (sRow u L r) 0 < 0 := fun r => by
    rcases sRow_first (u := u) (L := L) (r := r) with e | ⟨q, e, hq, -⟩
    · exact Or.inl e
    · have := h.1.2.2.1 q hq
      exact Or.inr (by rw [e]; exact nI_pos (by omega))
  have hc : ∀ k : Nat, 1 ≤ k → k ≤ 8 → rf_at u (nI k) 0 = k_sel (sRow u L (nI k)) 0 := fun k _ _ => by
    have := h.at (nI k) (a := 0) (by omega)
    rwa [nI_0] at this
  refine ⟨k_top (fun k => k_sel (sRow u L (nI k)) 0) 8, sk_ready u _ hc 8 (by omega), fun v1 g1 g2 g3 => ?_, ?_⟩
  · have hm : ∀ k : Nat, 1 ≤ k → k ≤ 8 → mf_find v1 (nI k) 0 = k_sel (sRow u L (nI k)) 0 := fun k h1 h2 => by
      have := h.find' ht g1 g2 g3 (r := nI k) (nI_ne0 (by omega) (by omega)) (a := 0) (by omega)
      rwa [nI_0] at this
    have := sk_aside v1 (fun k => k_sel (sRow u L (nI k)) 0) hm 8 1 (-1) (by omega) (by omega)
    rw [k_fold_top _ (fun k => hz (nI k))] at this
    exact this
  · rcases k_top_or (fun k => k_sel (sRow u L (nI k)) 0) 8 with e | ⟨k, h1, h2, e, hne⟩
    · exact Or.inl e
    · rcases sRow_first (u := u) (L := L) (r := nI k) with e2 | ⟨q, e2, hq, -⟩
      · exact absurd e2 hne
      · exact Or.inr ⟨q, e.trans e2, hq⟩
theorem rf_leave_none (u : RS) : rf_leave u (-1) = u := by
  unfold rf_leave
  rw [if_pos (by decide)]
/-- the present one is put aside -/
theorem sK.aside {t : Nat} {L : List Nat} {u : RS} {v : MS} (h : sK t L u v) (ht : t < 1000000) : sSim t (rf_putAside u) (mf_putAside v) := by
  obtain ⟨x, e1, e2, hx⟩ := h.first ht
  have eu : rf_putAside u = rf_want (rf_leave u x) x := by
    unfold rf_putAside
    rw [e1]
  rw [eu, e2 v rfl rfl rfl]
  unfold sAside
  rcases hx with rfl | ⟨q, rfl, hq⟩
  · rw [if_pos (by decide), rf_leave_none]
    exact ⟨L, h.want (Or.inl (by decide)), Or.inl rfl⟩
  · have hq32 := h.1.2.2.1 q hq
    rw [if_neg (nI_pos (by omega)), k_clamp (show q < 2147483648 by omega)]
    refine ⟨_, (h.leave hq32).want (Or.inr (vp_in_nI hq32 (by omega))), Or.inr ⟨q, hq32, rfl, ?_, by simp⟩⟩
    show ra_priorities (rf_leave u (nI q)) q ≠ 0
    rw [(h.leave_pri hq32).1]
    exact (h.2.2.1 q hq).1
theorem rp_isMade {u : RS} {q : Nat} (hq : q < 32) : rf_isMade u (nI q) = 0 ↔ ra_priorities u q = 0 := by
  unfold rf_isMade
  rw [rp_isProcess hq, if_neg (by decide), k_clamp (show q < 2147483648 by omega)]
  by_cases h : ra_priorities u q = 0
  · rw [if_pos h]
    exact ⟨fun _ => h, fun _ => rfl⟩
  · rw [if_neg h]
    exact ⟨fun h2 => absurd h2 (by decide), fun h2 => absurd h2 h⟩
theorem mp_isMade {v : MS} {q : Nat} (hq : q < 32) : mf_isMade v (nI q) = 0 ↔ ma_made v q = 0 := by
  unfold mf_isMade
  rw [show mf_isProcess (nI q) = 1 from rp_isProcess hq, if_neg (by decide), k_clamp (show q < 2147483648 by omega)]
  by_cases h : ma_made v q = 0
  · rw [if_pos h]
    exact ⟨fun _ => h, fun _ => rfl⟩
  · rw [if_neg h]
    exact ⟨fun h2 => absurd h2 (by decide), fun h2 => absurd h2 h⟩
theorem rp_priority {u : RS} {q : Nat} (hq : q < 32) (h : ra_priorities u q ≠ 0) : rf_priority u (nI q) = ra_priorities u q := by
  unfold rf_priority
  rw [if_neg (fun e => h ((rp_isMade hq).mp e)), k_clamp (show q < 2147483648 by omega)]
/-- one is woken -/
theorem sK.wake {t : Nat} {L : List Nat} {u : RS} {v : MS} (h : sK t L u v) (hp : sPr L u) {q : Nat} (hq : q < 32) (hn : q ∉ L) (hm : ra_priorities u q ≠ 0) (hne : rf_present u ≠ nI q) : sSim (t + 1) (rf_wake u (nI q)) (mf_wake v (nI q)) := by
  have hpr := h.present
  unfold rf_wake mf_wake
  rw [hpr, k_clamp (show q < 2147483648 by omega)]
  rcases hp with e | ⟨a, ha, e, hma, hna⟩
  · rw [e, if_pos rfl, if_pos (by decide)]
    exact ⟨L, ((h.same hq hn).want (Or.inr (vp_in_nI hq (by omega)))).mono (by omega), Or.inr ⟨q, hq, rfl, hm, hn⟩⟩
  · have haq : a ≠ q := fun e2 => hne (by rw [e, e2])
    obtain ⟨ea, ka, eka, ka1, ka8⟩ := (h.2.1 a ha).2.2.2 hma
    obtain ⟨eq, kq, ekq, kq1, kq8⟩ := (h.2.1 q hq).2.2.2 hm
    rw [e, if_neg (k_notneg (by omega)), if_neg (nI_pos (by omega)), rp_priority ha hma, rp_priority hq hm, k_clamp (show a < 2147483648 by omega), ea, eq]
    by_cases hlt : ra_priorities u a < ra_priorities u q
    · rw [if_pos hlt, if_pos hlt, eka]
      have h2 := h.enter ha hna hma (k := ka) (Or.inl ⟨ka1, ka8⟩)
      have hq2 : q ∉ L ++ [a] := fun hh => by
        rcases List.mem_append.mp hh with h3 | h3
        · exact hn h3
        · exact haq (List.mem_singleton.mp h3).symm
      refine ⟨_, (h2.same hq hq2).want (Or.inr (vp_in_nI hq (by omega))), Or.inr ⟨q, hq, rfl, ?_, hq2⟩⟩
      show ra_priorities (rf_enter u (nI a) (nI ka)) q ≠ 0
      rw [(h.enter_pri ha hna (k := ka) (Or.inl ⟨ka1, ka8⟩)).1]
      exact hm
    · rw [if_neg hlt, if_neg hlt, ekq]
      have h2 := h.enter hq hn hm (k := kq) (Or.inl ⟨kq1, kq8⟩)
      have h3 := h.enter_pri hq hn (k := kq) (Or.inl ⟨kq1, kq8⟩)
      refine ⟨_, h2, Or.inr ⟨a, ha, h3.2.trans e, by rw [h3.1]; exact hma, fun hh => ?_⟩⟩
      rcases List.mem_append.mp hh with h4 | h4
      · exact hna h4
      · exact haq (List.mem_singleton.mp h4)
/-- a semaphore has one signal more too many, or less -/
theorem sK.extra {t : Nat} {L : List Nat} {u : RS} {v : MS} (h : sK t L u v) (s : Nat) (x : Int32) : sK t L (rs_extras u (upd (ra_extras u) s x)) (ms_extras v (upd (ma_extras v) s x)) := by
  obtain ⟨h1, h2, h3, h4, h5, h6, h7, h8, h9⟩ := h
  refine ⟨h1, h2, h3, h4, fun k hk => ?_, h6, h7, h8, h9⟩
  show upd (ma_extras v) s x k = upd (ra_extras u) s x k
  by_cases e : k = s
  · rw [e, pk_us, pk_us]
  · rw [pk_un e, pk_un e]
    exact h5 k hk
theorem rp_isSemaphore {s : Nat} (h : s < 16) : rf_isSemaphore (nI s) = 1 := by
  unfold rf_isSemaphore
  rw [if_neg (nI_pos (by omega)), if_neg (show ¬ (16 : Int32) ≤ nI s from k_nle (b := 16) h (by omega))]
/-- a semaphore is signalled -/
theorem sSim.give {t : Nat} {u : RS} {v : MS} (h : sSim t u v) (ht : t < 1000000) {s : Nat} (hs : s < 16) : (rf_signal u (nI s)).1 = 1 ∧ sSim (t + 1) (rf_signal u (nI s)).2 (mf_give v (nI s)) := by
  obtain ⟨L, h, hp⟩ := h
  have e16 : (16 : Int32) + nI s = nI (16 + s) := nI_add 16 s
  have hc : rf_at u (nI (16 + s)) 0 = k_sel (sRow u L (nI (16 + s))) 0 := by
    have := h.at (nI (16 + s)) (a := 0) (by omega)
    rwa [nI_0] at this
  have hm : mf_find v (nI (16 + s)) 0 = k_sel (sRow u L (nI (16 + s))) 0 := by
    have := h.find ht (r := nI (16 + s)) (nI_ne0 (by omega) (by omega)) (a := 0) (by omega)
    rwa [nI_0] at this
  unfold rf_signal mf_give
  rw [rp_isSemaphore hs, if_neg (by decide), e16, hc, hm, k_clamp (show s < 2147483648 by omega)]
  rcases sRow_first (u := u) (L := L) (r := nI (16 + s)) with e | ⟨q, e, hq, -⟩
  · rw [e, if_pos rfl, if_neg (by decide), h.2.2.2.2.1 s hs]
    exact ⟨rfl, L, (h.extra s _).mono (by omega), hp⟩
  · have hq32 := h.1.2.2.1 q hq
    rw [e, if_neg (k_notneg (by omega)), if_pos (nI_pos' (by omega)), k_clamp (show q < 2147483648 by omega)]
    have hl := h.leave_pri hq32
    refine ⟨rfl, (h.leave hq32).wake ?_ hq32 (by simp) (by rw [hl.1]; exact (h.2.2.1 q hq).1) ?_⟩
    · rcases hp with e2 | ⟨a, ha, e2, hma, hna⟩
      · exact Or.inl (hl.2.trans e2)
      · exact Or.inr ⟨a, ha, hl.2.trans e2, by rw [hl.1]; exact hma, fun hh => hna (List.mem_filter.mp hh).1⟩
    · rw [hl.2]
      rcases hp with e2 | ⟨a, ha, e2, hma, hna⟩
      · rw [e2]
        exact fun h => k_notneg (show q < 2147483648 by omega) h.symm
      · rw [e2]
        exact fun h2 => hna (by rw [(nI_eq (by omega) (by omega)).mp h2]; exact hq)
