/-- a row's number: ready rows 1 to 8, semaphores' rows 16 to 31 -/
def sVal (k : Nat) : Prop := (1 ≤ k ∧ k ≤ 8) ∨ (16 ≤ k ∧ k < 32)
def sOk (u : RS) (x : Int32) : Prop := x = -1 ∨ ∃ a : Nat, a < 32 ∧ x = nI a ∧ ra_priorities u a ≠ 0
/-- class and reference hold the same room; L: who is in a row, in the order of entering; t bounds the reference's clock -/
def sK (t : Nat) (L : List Nat) (u : RS) (v : MS) : Prop :=
  rRep u L ∧
  (∀ p : Nat, p < 32 → ma_rows v p = ra_rows u p ∧ (ma_made v p = 0 ↔ ra_priorities u p = 0) ∧ ma_places v p = ra_places u p ∧ (ra_priorities u p ≠ 0 → ma_priorities v p = ra_priorities u p ∧ ∃ k : Nat, ra_priorities u p = nI k ∧ 1 ≤ k ∧ k ≤ 8)) ∧
  (∀ p ∈ L, ra_priorities u p ≠ 0 ∧ ∃ k : Nat, ra_rows u p = nI k ∧ sVal k) ∧
  (∃ (w : Nat → Nat) (n : Nat), ma_now v = lN n ∧ n ≤ t ∧ (∀ p : Nat, p < 32 → ma_when v p = lN (w p) ∧ w p ≤ n) ∧ (∀ p ∈ L, w p < n) ∧ L.Pairwise (fun a b => w a < w b)) ∧
  (∀ k : Nat, k < 16 → ma_extras v k = ra_extras u k) ∧
  (∃ a : Nat, a ≤ 40 ∧ ra_postCount u = nI a ∧ ma_posts v = nI a ∧ ∀ k : Nat, k < a → ma_posted v k = ra_posts u k ∧ vp_in (ra_posts u k) 16) ∧
  (ma_active v = ra_active u ∧ ma_here v = ra_here u ∧ ma_wanted v = ra_wanted u ∧ (ra_wanted u = 0 ∨ ra_wanted u = 1) ∧ (ra_wanted u = 1 → ma_change v = ra_wantedOne u)) ∧
  sOk u (ra_active u) ∧ (ma_change v < 0 ∨ vp_in (ma_change v) 32)
/-- the present one, if there is one, is made and in no row -/
def sPr (L : List Nat) (u : RS) : Prop := rf_present u = -1 ∨ ∃ a : Nat, a < 32 ∧ rf_present u = nI a ∧ ra_priorities u a ≠ 0 ∧ a ∉ L
def sSim (t : Nat) (u : RS) (v : MS) : Prop := ∃ L : List Nat, sK t L u v ∧ sPr L u
theorem sOk.range {u : RS} {x : Int32} (h : sOk u x) : x < 0 ∨ vp_in x 32 := by
  rcases h with rfl | ⟨a, ha, rfl, -⟩
  · exact Or.inl (by decide)
  · exact Or.inr (vp_in_nI ha (by omega))
theorem ss_rInv {t : Nat} {u : RS} {v : MS} (h : sSim t u v) : rInv u := by
  obtain ⟨L, ⟨h1, -, -, -, -, ⟨a, ha, e1, -⟩, h7, -⟩, -⟩ := h
  have := h1.len
  exact ⟨by rw [h1.1]; exact k_le0 (by omega), by rw [e1]; exact k_le0 (by omega), h7.2.2.2.1⟩
theorem sK.mInv {t : Nat} {L : List Nat} {u : RS} {v : MS} (h : sK t L u v) : mInv v := by
  obtain ⟨-, -, -, -, -, ⟨a, ha, -, e2, e3⟩, h7, h8, h9⟩ := h
  exact ⟨by rw [h7.1]; exact h8.range, h9, ⟨a, ha, e2, fun k hk => by rw [(e3 k hk).1]; exact (e3 k hk).2⟩, by rw [h7.2.2.1]; exact h7.2.2.2.1⟩
theorem ss_mInv {t : Nat} {u : RS} {v : MS} (h : sSim t u v) : mInv v := by
  obtain ⟨L, h, -⟩ := h
  exact h.mInv
theorem sK.mono {t t' : Nat} {L : List Nat} {u : RS} {v : MS} (h : sK t L u v) (ht : t ≤ t') : sK t' L u v := by
  obtain ⟨h1, h2, h3, ⟨w, n, e1, e2, e3⟩, h5, h6, h7, h8, h9⟩ := h
  exact ⟨h1, h2, h3, ⟨w, n, e1, by omega, e3⟩, h5, h6, h7, h8, h9⟩
theorem ss_mono {t t' : Nat} {u : RS} {v : MS} (h : sSim t u v) (ht : t ≤ t') : sSim t' u v := by
  obtain ⟨L, h, hp⟩ := h
  exact ⟨L, h.mono ht, hp⟩
theorem ss_start : sSim 0 r0 m0 := by
  refine ⟨[], ⟨⟨rfl, List.nodup_nil, fun p hp => absurd hp List.not_mem_nil, fun k hk => absurd hk (Nat.not_lt_zero _), fun p _ => ⟨fun _ => List.not_mem_nil, fun _ => rfl⟩⟩, fun p _ => ⟨rfl, ⟨fun _ => rfl, fun _ => rfl⟩, rfl, fun h => absurd rfl h⟩, fun p hp => absurd hp List.not_mem_nil,
    ⟨fun _ => 0, 0, rfl, Nat.le_refl _, fun p _ => ⟨rfl, Nat.le_refl _⟩, fun p hp => absurd hp List.not_mem_nil, List.Pairwise.nil⟩, fun k _ => rfl, ⟨0, by omega, rfl, rfl, fun k hk => absurd hk (Nat.not_lt_zero _)⟩, ⟨rfl, rfl, rfl, Or.inl rfl, fun h => absurd h (by decide)⟩, Or.inl rfl, Or.inl (by decide)⟩, Or.inl rfl⟩
