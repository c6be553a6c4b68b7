/-- what the reference's step does behind its loop -/
def sTail (v : MS) : Int32 × MS := (if ma_wanted v = 0 then (ma_active v, ms_posts v 0) else (if ma_active v < 0 then (if ma_change v < 0 then (ma_change v, ms_wanted (ms_here (ms_active (ms_posts v 0) (ma_change v)) 0) 0) else (ma_change v, ms_wanted (ms_here (ms_active (ms_posts v 0) (ma_change v)) (ma_places v (ma_change v).toNatClampNeg)) 0)) else (if ma_change v < 0 then (ma_change v, ms_wanted (ms_here (ms_active (ms_places (ms_posts v 0) (upd (ma_places v) (ma_active v).toNatClampNeg (ma_here v))) (ma_change v)) 0) 0) else (ma_change v, ms_wanted (ms_here (ms_active (ms_places (ms_posts v 0) (upd (ma_places v) (ma_active v).toNatClampNeg (ma_here v))) (ma_change v)) ((upd (ma_places v) (ma_active v).toNatClampNeg (ma_here v)) (ma_change v).toNatClampNeg)) 0))))
theorem sl_step : ∀ (n j t : Nat) (u : RS) (v : MS), sSim t u v → t + n < 1000000 → j + n = 41 → j ≤ 40 → ∃ (u' : RS) (v' : MS), rl_signalPosted n u (nI j) = rs_postCount u' 0 ∧ ml_step n v (nI j) = sTail v' ∧ sSim (t + n) u' v' := by
  intro n
  induction n with
  | zero => intro j t u v _ _ h1 h2; omega
  | succ n ih =>
    intro j t u v h ht h1 h2
    obtain ⟨L, hK, hp⟩ := id h
    obtain ⟨a, ha, g1, g2, g3⟩ := hK.2.2.2.2.2.1
    simp only [rl_signalPosted, ml_step]
    rw [g1, g2]
    by_cases hc : a ≤ j
    · rw [if_pos (nI_le hc (by omega)), if_pos (nI_le hc (by omega))]
      exact ⟨u, v, rfl, rfl, ss_mono h (by omega)⟩
    · rw [if_neg (k_nle (by omega) (by omega)), if_neg (k_nle (by omega) (by omega)), if_neg (show ¬ (40 : Int32) ≤ nI j from k_nle (b := 40) (by omega) (by omega)), k_clamp (show j < 2147483648 by omega), nI_1, (g3 j (by omega)).1]
      obtain ⟨s, hs, es⟩ := vp_in_of (g3 j (by omega)).2 (by omega)
      rw [es]
      have hg := h.give (by omega) hs
      obtain ⟨u', v', e1, e2, e3⟩ := ih (j + 1) (t + 1) _ _ hg.2 (by omega) (by omega) (by omega)
      exact ⟨u', v', e1, e2, ss_mono e3 (by omega)⟩
theorem rp_place {u : RS} {q : Nat} (hq : q < 32) (h : ra_priorities u q ≠ 0) : rf_place u (nI q) = ra_places u q := by
  unfold rf_place
  rw [if_neg (fun e => h ((rp_isMade hq).mp e)), k_clamp (show q < 2147483648 by omega)]
/-- places of the active one, and a change that is done -/
theorem sK.change {t : Nat} {L : List Nat} {u : RS} {v : MS} (h : sK t L u v) (pl pm : Nat → Int32) (hpl : ∀ p : Nat, p < 32 → pm p = pl p) (x y : Int32) (hx : sOk u x) :
    sK t L (rs_wantedOne (rs_wanted (rs_here (rs_active (rs_places (rs_postCount u 0) pl) x) y) 0) (-1)) (ms_wanted (ms_here (ms_active (ms_places (ms_posts v 0) pm) x) y) 0) := by
  obtain ⟨h1, h2, h3, h4, h5, h6, h7, h8, h9⟩ := h
  exact ⟨h1, fun p hp => ⟨(h2 p hp).1, (h2 p hp).2.1, hpl p hp, (h2 p hp).2.2.2⟩, h3, h4, h5, ⟨0, by omega, rfl, rfl, fun k hk => absurd hk (Nat.not_lt_zero _)⟩, ⟨rfl, rfl, rfl, Or.inl rfl, fun h => absurd h (show ¬ (0 : Int32) = 1 by decide)⟩, hx, h9⟩
theorem sl_tail {t : Nat} {u : RS} {v : MS} (h : sSim t u v) : ∃ u1 : RS, u1 = rs_postCount u 0 ∧ ((if ra_wanted u1 = 0 then (ra_active u1, u1) else (ra_active (rf_change u1), rf_change u1)) : Int32 × RS).1 = (sTail v).1 ∧ sSim t ((if ra_wanted u1 = 0 then (ra_active u1, u1) else (ra_active (rf_change u1), rf_change u1)) : Int32 × RS).2 (sTail v).2 := by
  refine ⟨_, rfl, ?_⟩
  obtain ⟨L, h, hp⟩ := h
  obtain ⟨h1, h2, h3, h4, h5, h6, h7, h8, h9⟩ := id h
  have ew : ra_wanted (rs_postCount u 0) = ra_wanted u := rfl
  unfold sTail
  rw [ew, h7.2.2.1]
  rcases h7.2.2.2.1 with w0 | w1
  · rw [if_pos w0, if_pos w0]
    exact ⟨h7.1.symm, L, ⟨h1, h2, h3, h4, h5, ⟨0, by omega, rfl, rfl, fun k hk => absurd hk (Nat.not_lt_zero _)⟩, h7, h8, h9⟩, hp⟩
  · have w2 : ¬ ra_wanted u = 0 := by rw [w1]; decide
    have hch := h7.2.2.2.2 w1
    have hpres : rf_present u = ra_wantedOne u := by
      unfold rf_present
      rw [if_neg w2]
    rw [if_neg w2, if_neg w2, h7.1, hch, h7.2.1]
    -- who becomes active
    obtain ⟨x, ex⟩ : ∃ x, x = ra_wantedOne u := ⟨_, rfl⟩
    have hpx : x = -1 ∨ ∃ b : Nat, b < 32 ∧ x = nI b ∧ ra_priorities u b ≠ 0 ∧ b ∉ L := by
      rw [ex, ← hpres]
      exact hp
    have hok : sOk u x := by
      rcases hpx with e | ⟨b, hb, e, hmb, -⟩
      · exact Or.inl e
      · exact Or.inr ⟨b, hb, e, hmb⟩
    -- the class's places behind it
    have key : ∀ (pl pm : Nat → Int32) (y : Int32), (∀ p : Nat, p < 32 → pm p = pl p) → sSim t (rs_wantedOne (rs_wanted (rs_here (rs_active (rs_places (rs_postCount u 0) pl) x) y) 0) (-1)) (ms_wanted (ms_here (ms_active (ms_places (ms_posts v 0) pm) x) y) 0) := fun pl pm y hpl => by
      refine ⟨L, h.change pl pm hpl x y hok, ?_⟩
      exact hpx
    have hy : ∀ pl : Nat → Int32, rf_place (rs_active (rs_places (rs_postCount u 0) pl) x) x = if x < 0 then 0 else pl x.toNatClampNeg := fun pl => by
      rcases hpx with e | ⟨b, hb, e, hmb, -⟩
      · rw [e, if_pos (by decide)]
        unfold rf_place
        rw [if_pos (rp_isMade0 (by decide))]
      · rw [e, if_neg (nI_pos (by omega)), k_clamp (show b < 2147483648 by omega)]
        exact rp_place (u := rs_active (rs_places (rs_postCount u 0) pl) (nI b)) hb hmb
    rw [← ex]
    rcases h8 with ea | ⟨a, ha, ea, hma⟩
    · have ec : rf_change (rs_postCount u 0) = rs_wantedOne (rs_wanted (rs_here (rs_active (rs_places (rs_postCount u 0) (ra_places u)) x) (if x < 0 then 0 else ra_places u x.toNatClampNeg)) 0) (-1) := by
        rw [← hy]
        unfold rf_change
        rw [if_pos (show rf_isProcess (ra_active (rs_postCount u 0)) = 0 by rw [show ra_active (rs_postCount u 0) = -1 from ea]; decide), ex]
        rfl
      rw [ec, if_pos (show ra_active u < 0 by rw [ea]; decide)]
      have k0 := key (ra_places u) (ma_places v) (if x < 0 then 0 else ra_places u x.toNatClampNeg) (fun p hp => (h2 p hp).2.2.1)
      rcases hpx with e | ⟨b, hb, e, hmb, -⟩
      · have hx0 : x < 0 := by rw [e]; decide
        rw [if_pos hx0] at k0 ⊢
        rw [if_pos hx0]
        exact ⟨rfl, k0⟩
      · have hx0 : ¬ x < 0 := by rw [e]; exact nI_pos (by omega)
        rw [if_neg hx0] at k0 ⊢
        rw [if_neg hx0]
        have e5 : ma_places v x.toNatClampNeg = ra_places u x.toNatClampNeg := by
          rw [e, k_clamp (show b < 2147483648 by omega)]
          exact (h2 b hb).2.2.1
        rw [e5]
        exact ⟨rfl, k0⟩
    · have ec : rf_change (rs_postCount u 0) = rs_wantedOne (rs_wanted (rs_here (rs_active (rs_places (rs_postCount u 0) (upd (ra_places u) a (ra_here u))) x) (if x < 0 then 0 else upd (ra_places u) a (ra_here u) x.toNatClampNeg)) 0) (-1) := by
        rw [← hy]
        unfold rf_change
        rw [if_neg (show ¬ rf_isProcess (ra_active (rs_postCount u 0)) = 0 by rw [show ra_active (rs_postCount u 0) = nI a from ea, rp_isProcess ha]; decide), show ra_active (rs_postCount u 0) = nI a from ea, k_clamp (show a < 2147483648 by omega), ex]
        rfl
      rw [ec, ea, if_neg (show ¬ nI a < 0 from nI_pos (by omega)), k_clamp (show a < 2147483648 by omega)]
      have k0 := key (upd (ra_places u) a (ra_here u)) (upd (ma_places v) a (ra_here u)) (if x < 0 then 0 else upd (ra_places u) a (ra_here u) x.toNatClampNeg) (fun p hp => by
        by_cases e : p = a
        · rw [e, pk_us, pk_us]
        · rw [pk_un e, pk_un e]
          exact (h2 p hp).2.2.1)
      rcases hpx with e | ⟨b, hb, e, hmb, -⟩
      · have hx0 : x < 0 := by rw [e]; decide
        rw [if_pos hx0] at k0 ⊢
        rw [if_pos hx0]
        exact ⟨rfl, k0⟩
      · have hx0 : ¬ x < 0 := by rw [e]; exact nI_pos (by omega)
        rw [if_neg hx0] at k0 ⊢
        rw [if_neg hx0]
        have e5 : upd (ma_places v) a (ra_here u) x.toNatClampNeg = upd (ra_places u) a (ra_here u) x.toNatClampNeg := by
          rw [e, k_clamp (show b < 2147483648 by omega)]
          by_cases e6 : b = a
          · rw [e6, pk_us, pk_us]
          · rw [pk_un e6, pk_un e6]
            exact (h2 b hb).2.2.1
        rw [e5]
        exact ⟨rfl, k0⟩
theorem ss_step {t : Nat} {u : RS} {v : MS} (h : sSim t u v) (ht : t < 100000) : (rf_step u).1 = (mf_step v).1 ∧ sSim (t + 64) (rf_step u).2 (mf_step v).2 := by
  obtain ⟨u', v', e1, e2, h'⟩ := sl_step 41 0 t u v h (by omega) (by omega) (by omega)
  obtain ⟨u1, eu1, hA, hB⟩ := sl_tail h'
  have es : rf_signalPosted u = u1 := by
    rw [eu1, ← e1]
    rfl
  have em : mf_step v = sTail v' := by
    rw [← e2]
    rfl
  have ec : rf_step u = if ra_wanted u1 = 0 then (ra_active u1, u1) else (ra_active (rf_change u1), rf_change u1) := by
    unfold rf_step
    rw [es]
  rw [ec, em]
  exact ⟨hA, ss_mono hB (by omega)⟩
