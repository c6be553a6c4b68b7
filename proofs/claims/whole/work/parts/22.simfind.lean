/-- the a-th of a list, or NONE -/
def k_sel (F : List Nat) (a : Nat) : Int32 := match F[a]? with
  | some p => nI p
  | none => -1
theorem k_nth_sel (a : Nat) (ha : a < 1000) : ∀ (F : List Nat) (b : Nat), b + F.length < 1000 → b ≤ a → k_nth (nI a) F (nI b) = k_sel F (a - b) := by
  intro F
  induction F with
  | nil => intro b _ _; simp [k_nth, k_sel]
  | cons p t ih =>
    intro b hb hba
    have hb' : b + (t.length + 1) < 1000 := hb
    unfold k_nth
    by_cases e : b = a
    · subst e
      rw [if_pos rfl, Nat.sub_self]
      rfl
    · rw [if_neg (fun q => e ((nI_eq (by omega) (by omega)).mp q)), nI_1, ih (b + 1) (by omega) (by omega)]
      have : a - b = (a - (b + 1)) + 1 := by omega
      rw [this]
      rfl
theorem k_nth_none (i : Int32) : ∀ (F : List Nat) (b : Nat), (∀ c : Nat, c < F.length → nI (b + c) ≠ i) → k_nth i F (nI b) = -1 := by
  intro F
  induction F with
  | nil => intro b _; rfl
  | cons p t ih =>
    intro b h
    unfold k_nth
    have h0 := h 0 (Nat.zero_lt_succ _)
    rw [Nat.add_zero] at h0
    rw [if_neg h0, nI_1]
    exact ih (b + 1) (fun c hc => by
      have := h (c + 1) (Nat.succ_lt_succ hc)
      rwa [show b + (c + 1) = b + 1 + c by omega] at this)
theorem k_cmp_le {a b : Nat} (ha : a < 4611686018427387904) (hb : b < 4611686018427387904) : lg_cmp (lN a) (lN b) ≤ 0 ↔ a ≤ b := by
  unfold lg_cmp
  by_cases h1 : b < a
  · rw [if_pos ((pk_lLT (by omega) (by omega)).mpr h1)]
    exact ⟨fun h => absurd h (by decide), fun h => absurd h (by omega)⟩
  · rw [if_neg (fun h => h1 ((pk_lLT (by omega) (by omega)).mp h))]
    by_cases h2 : a = b
    · rw [if_pos (by rw [h2])]
      exact ⟨fun _ => by omega, fun _ => by decide⟩
    · rw [if_neg (fun h => h2 ((pk_lEQ (by omega) (by omega)).mp h))]
      exact ⟨fun _ => by omega, fun _ => by decide⟩
theorem k_cmp_ge {a b : Nat} (ha : a < 4611686018427387904) (hb : b < 4611686018427387904) : 0 ≤ lg_cmp (lN a) (lN b) ↔ b ≤ a := by
  unfold lg_cmp
  by_cases h1 : b < a
  · rw [if_pos ((pk_lLT (by omega) (by omega)).mpr h1)]
    exact ⟨fun _ => by omega, fun _ => by decide⟩
  · rw [if_neg (fun h => h1 ((pk_lLT (by omega) (by omega)).mp h))]
    by_cases h2 : a = b
    · rw [if_pos (by rw [h2])]
      exact ⟨fun _ => by omega, fun _ => by decide⟩
    · rw [if_neg (fun h => h2 ((pk_lEQ (by omega) (by omega)).mp h))]
      exact ⟨fun h => absurd h (by decide), fun h => absurd h (by omega)⟩
/-- x is the one of least w among the first k that C holds of -/
def sBest (C : Nat → Prop) (w : Nat → Nat) (k : Nat) (x : Int32) : Prop := (x = -1 ∧ ∀ p : Nat, p < k → ¬ C p) ∨ ∃ q : Nat, q < k ∧ x = nI q ∧ C q ∧ ∀ p : Nat, p < k → C p → w q ≤ w p
theorem sBest.skip {C : Nat → Prop} {w : Nat → Nat} {k : Nat} {x : Int32} (h : sBest C w k x) (hc : ¬ C k) : sBest C w (k + 1) x := by
  rcases h with ⟨e, h⟩ | ⟨q, hq, e, h1, h2⟩
  · exact Or.inl ⟨e, fun p hp => by
      rcases Nat.lt_succ_iff_lt_or_eq.mp hp with h3 | h3
      · exact h p h3
      · rw [h3]; exact hc⟩
  · exact Or.inr ⟨q, by omega, e, h1, fun p hp hcp => by
      rcases Nat.lt_succ_iff_lt_or_eq.mp hp with h3 | h3
      · exact h2 p h3 hcp
      · rw [h3] at hcp; exact absurd hcp hc⟩
theorem sBest.keep {C : Nat → Prop} {w : Nat → Nat} {k q : Nat} {x : Int32} (h : sBest C w k x) (e : x = nI q) (hq : q < 32) (hk : k ≤ 32) (hw : w q ≤ w k) : sBest C w (k + 1) x := by
  rcases h with ⟨e2, h⟩ | ⟨q2, hq2, e2, h1, h2⟩
  · rw [e] at e2
    exact absurd e2 (fun h => absurd (h ▸ nI_pos' (n := q) (by omega) : (0 : Int32) ≤ -1) (by decide))
  · have e3 : q2 = q := (nI_eq (by omega) (by omega)).mp (e2.symm.trans e)
    subst e3
    exact Or.inr ⟨q2, by omega, e, h1, fun p hp hcp => by
      rcases Nat.lt_succ_iff_lt_or_eq.mp hp with h3 | h3
      · exact h2 p h3 hcp
      · rw [h3]; exact hw⟩
theorem sBest.take0 {C : Nat → Prop} {w : Nat → Nat} {k : Nat} {x : Int32} (h : sBest C w k x) (hx : x < 0) (hk : k ≤ 32) (hc : C k) : sBest C w (k + 1) (nI k) := by
  rcases h with ⟨e, h⟩ | ⟨q, hq, e, h1, h2⟩
  · exact Or.inr ⟨k, by omega, rfl, hc, fun p hp hcp => by
      rcases Nat.lt_succ_iff_lt_or_eq.mp hp with h3 | h3
      · exact absurd hcp (h p h3)
      · rw [h3]; exact Nat.le_refl _⟩
  · rw [e] at hx
    exact absurd hx (nI_pos (by omega))
theorem sBest.take1 {C : Nat → Prop} {w : Nat → Nat} {k q : Nat} {x : Int32} (h : sBest C w k x) (e : x = nI q) (hq : q < 32) (hk : k ≤ 32) (hc : C k) (hw : w k < w q) : sBest C w (k + 1) (nI k) := by
  rcases h with ⟨e2, h⟩ | ⟨q2, hq2, e2, h1, h2⟩
  · rw [e] at e2
    exact absurd e2 (fun h => absurd (h ▸ nI_pos' (n := q) (by omega) : (0 : Int32) ≤ -1) (by decide))
  · have e3 : q2 = q := (nI_eq (by omega) (by omega)).mp (e2.symm.trans e)
    subst e3
    exact Or.inr ⟨k, by omega, rfl, hc, fun p hp hcp => by
      rcases Nat.lt_succ_iff_lt_or_eq.mp hp with h3 | h3
      · have := h2 p h3 hcp; omega
      · rw [h3]; exact Nat.le_refl _⟩
theorem sf_find2 {v : MS} {r b x4 : Int32} {w : Nat → Nat} {C : Nat → Prop} (hw : ∀ p : Nat, p < 32 → ma_when v p = lN (w p) ∧ w p < 4611686018427387904) (hx4 : x4 < 0 ∨ vp_in x4 32)
    (hC : ∀ p : Nat, p < 32 → (C p ↔ ¬ ma_made v p = 0 ∧ ma_rows v p = r ∧ (x4 < 0 ∨ w x4.toNatClampNeg < w p))) :
    ∀ (n k : Nat) (x5 : Int32), k + n = 33 → k ≤ 32 → sBest C w k x5 → sBest C w 32 (ml_find2 v r b x4 n x5 (nI k)) := by
  intro n
  induction n with
  | zero => intro k x5 h1 h2; omega
  | succ n ih =>
    intro k x5 h1 h2 hb
    rcases Nat.lt_or_ge k 32 with hk | hk
    · have e32 : ¬ (32 : Int32) ≤ nI k := show ¬ nI 32 ≤ nI k from k_nle hk (by omega)
      have hA : sBest C w (k + 1) x5 → sBest C w 32 (ml_find2 v r b x4 n x5 (nI (k + 1))) := fun h => ih (k + 1) x5 (by omega) (by omega) h
      have hB : sBest C w (k + 1) (nI k) → sBest C w 32 (ml_find2 v r b x4 n (nI k) (nI (k + 1))) := fun h => ih (k + 1) (nI k) (by omega) (by omega) h
      simp only [ml_find2, if_neg e32, nI_1, k_clamp (show k < 2147483648 by omega)]
      generalize ml_find2 v r b x4 n x5 (nI (k + 1)) = RA at hA ⊢
      generalize ml_find2 v r b x4 n (nI k) (nI (k + 1)) = RB at hB ⊢
      by_cases hm : ma_made v k = 0
      · simp only [if_pos hm, ite_self]
        exact hA (hb.skip (fun h => ((hC k hk).mp h).1 hm))
      · by_cases hr : ma_rows v k = r
        · by_cases hl : x4 < 0 ∨ w x4.toNatClampNeg < w k
          · have hc : C k := (hC k hk).mpr ⟨hm, hr, hl⟩
            have fin : sBest C w 32 (if x5 < 0 then RB else if 0 ≤ lg_cmp (ma_when v k) (ma_when v x5.toNatClampNeg) then RA else RB) := by
              by_cases h5 : x5 < 0
              · rw [if_pos h5]
                exact hB (hb.take0 h5 h2 hc)
              · rw [if_neg h5]
                obtain ⟨q, hq, e, -, -⟩ : ∃ q : Nat, q < k ∧ x5 = nI q ∧ C q ∧ ∀ p : Nat, p < k → C p → w q ≤ w p := hb.resolve_left (fun h => h5 (by rw [h.1]; decide))
                rw [e, k_clamp (show q < 2147483648 by omega), (hw k hk).1, (hw q (by omega)).1]
                by_cases h6 : w q ≤ w k
                · rw [if_pos ((k_cmp_ge (hw k hk).2 (hw q (by omega)).2).mpr h6)]
                  exact hA (hb.keep e (by omega) h2 h6)
                · rw [if_neg (fun h => h6 ((k_cmp_ge (hw k hk).2 (hw q (by omega)).2).mp h))]
                  exact hB (hb.take1 e (by omega) h2 hc (by omega))
            by_cases h4 : x4 < 0
            · simp only [if_pos h4, if_neg hm, if_pos hr]
              exact fin
            · have h4v := hx4.resolve_left h4
              obtain ⟨i4, hi4, e4⟩ := vp_in_of h4v (by omega)
              have hl2 := hl.resolve_left h4
              have hcm : ¬ lg_cmp (ma_when v k) (ma_when v x4.toNatClampNeg) ≤ 0 := by
                rw [e4, k_clamp (show i4 < 2147483648 by omega)] at hl2 ⊢
                rw [(hw k hk).1, (hw i4 hi4).1, k_cmp_le (hw k hk).2 (hw i4 hi4).2]
                omega
              simp only [if_neg h4, if_neg hcm, if_neg hm, if_pos hr]
              exact fin
          · have h4 : ¬ x4 < 0 := fun h => hl (Or.inl h)
            have h4v := hx4.resolve_left h4
            obtain ⟨i4, hi4, e4⟩ := vp_in_of h4v (by omega)
            have hcm : lg_cmp (ma_when v k) (ma_when v x4.toNatClampNeg) ≤ 0 := by
              have hl2 : ¬ w x4.toNatClampNeg < w k := fun h => hl (Or.inr h)
              rw [e4, k_clamp (show i4 < 2147483648 by omega)] at hl2 ⊢
              rw [(hw k hk).1, (hw i4 hi4).1, k_cmp_le (hw k hk).2 (hw i4 hi4).2]
              omega
            simp only [if_neg h4, if_pos hcm, ite_self]
            exact hA (hb.skip (fun h => hl ((hC k hk).mp h).2.2))
        · simp only [if_neg hr, ite_self]
          exact hA (hb.skip (fun h => hr ((hC k hk).mp h).2.1))
    · have e : k = 32 := by omega
      subst e
      simp only [ml_find2, if_pos (show (32 : Int32) ≤ nI 32 from by decide)]
      exact hb
/-- the best of a list that is sorted by w is its first -/
theorem sf_first {C : Nat → Prop} {w : Nat → Nat} {G : List Nat} (hs : G.Pairwise (fun a b => w a < w b)) (hG : ∀ p ∈ G, p < 32) (hC : ∀ p : Nat, p < 32 → (C p ↔ p ∈ G)) {x : Int32} (h : sBest C w 32 x) : x = k_sel G 0 := by
  cases G with
  | nil =>
    rcases h with ⟨e, -⟩ | ⟨q, hq, -, h1, -⟩
    · exact e
    · exact absurd ((hC q hq).mp h1) List.not_mem_nil
  | cons g t =>
    have hg : g < 32 := hG g List.mem_cons_self
    have hcg : C g := (hC g hg).mpr List.mem_cons_self
    rcases h with ⟨-, h⟩ | ⟨q, hq, e, h1, h2⟩
    · exact absurd hcg (h g hg)
    · have h3 := h2 g hg hcg
      rcases List.mem_cons.mp ((hC q hq).mp h1) with h4 | h4
      · rw [e, h4]
        rfl
      · have := (List.pairwise_cons.mp hs).1 q h4
        omega
theorem sf_find {v : MS} {r b : Int32} {w : Nat → Nat} (hw : ∀ p : Nat, p < 32 → ma_when v p = lN (w p) ∧ w p < 4611686018427387904) :
    ∀ (n j : Nat) (x4 : Int32) (G : List Nat), j < n → j < 1000 → (x4 < 0 ∨ vp_in x4 32) → G.Pairwise (fun a b => w a < w b) → (∀ p ∈ G, p < 32) → (∀ p : Nat, p < 32 → ((¬ ma_made v p = 0 ∧ ma_rows v p = r ∧ (x4 < 0 ∨ w x4.toNatClampNeg < w p)) ↔ p ∈ G)) →
    ml_find v r b n (nI j + (-1)) x4 = if j = 0 then x4 else k_sel G (j - 1) := by
  intro n
  induction n with
  | zero => intro j x4 G h; omega
  | succ n ih =>
    intro j x4 G hjn hj hx4 hs hG hC
    simp only [ml_find]
    rcases Nat.eq_zero_or_pos j with h0 | h0
    · subst h0
      rw [if_pos (show nI 0 + (-1) < 0 by decide), if_pos rfl]
    · have hB := sf_first hs hG hC (sf_find2 (b := b) hw hx4 (fun p _ => Iff.rfl) 33 0 (-1) (by omega) (by omega) (Or.inl ⟨rfl, fun p hp => absurd hp (Nat.not_lt_zero _)⟩))
      rw [nI_0] at hB
      rw [k_pred h0, if_neg (nI_pos (n := j - 1) (by omega)), if_neg (show ¬ j = 0 by omega), hB]
      cases G with
      | nil =>
        rw [if_neg (show ¬ (0 : Int32) ≤ k_sel [] 0 by decide)]
        simp [k_sel]
      | cons g t =>
        have hg : g < 32 := hG g List.mem_cons_self
        have hcg := (hC g hg).mpr List.mem_cons_self
        rw [show k_sel (g :: t) 0 = nI g from rfl, if_pos (nI_pos' (by omega)), show nI (j - 1) - 1 = nI (j - 1) + (-1) from Int32.sub_eq_add_neg _ _]
        have hst := List.pairwise_cons.mp hs
        rw [ih (j - 1) (nI g) t (by omega) (by omega) (Or.inr (vp_in_nI hg (by omega))) hst.2 (fun p hp => hG p (List.mem_cons_of_mem _ hp)) (fun p hp => ?_)]
        · by_cases h1 : j - 1 = 0
          · rw [if_pos h1, h1]
            rfl
          · rw [if_neg h1, show j - 1 = (j - 1 - 1) + 1 by omega]
            rfl
        · rw [k_clamp (show g < 2147483648 by omega)]
          constructor
          · rintro ⟨h1, h2, h3⟩
            have h4 : w g < w p := h3.resolve_left (nI_pos (by omega))
            have h5 : p ∈ g :: t := (hC p hp).mp ⟨h1, h2, hcg.2.2.imp id (fun h => by omega)⟩
            rcases List.mem_cons.mp h5 with h6 | h6
            · rw [h6] at h4; omega
            · exact h6
          · intro h
            have h5 := (hC p hp).mpr (List.mem_cons_of_mem _ h)
            exact ⟨h5.1, h5.2.1, Or.inr (hst.1 p h)⟩
