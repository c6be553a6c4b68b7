theorem k_nle {a b : Nat} (h : a < b) (hb : b < 2147483648) : ¬ nI b ≤ nI a := nI_ge h (by omega)
theorem k_clamp {n : Nat} (h : n < 2147483648) : (nI n).toNatClampNeg = n := nI_clamp (by omega)
def mOk (x : Int32) : Prop := x < 0 ∨ vp_in x 32
def mInv (u : MS) : Prop := (ma_active u < 0 ∨ vp_in (ma_active u) 32) ∧ (ma_change u < 0 ∨ vp_in (ma_change u) 32) ∧ (∃ a : Nat, a ≤ 40 ∧ ma_posts u = nI a ∧ ∀ k : Nat, k < a → vp_in (ma_posted u k) 16) ∧ (ma_wanted u = 0 ∨ ma_wanted u = 1)
theorem mi_isProcess {r x : Int32} (h : r = mf_isProcess x) (c : ¬ r = 0) : vp_in x 32 := ri_isProcess h c
theorem mi_isSemaphore {r x : Int32} (h : r = mf_isSemaphore x) (c : ¬ r = 0) : vp_in x 16 := ri_isSemaphore h c
theorem mi_isMade {u : MS} {r x : Int32} (h : r = mf_isMade u x) (c : ¬ r = 0) : vp_in x 32 := by
  subst h
  unfold mf_isMade at c
  by_cases h1 : mf_isProcess x = 0
  · rw [if_pos h1] at c
    exact absurd rfl c
  · exact mi_isProcess rfl h1
theorem mi_ge {x : Int32} (h : x < 0 ∨ vp_in x 32) (c : ¬ x < 0) : vp_in x 32 := h.resolve_left c
theorem mi_nlt {x : Int32} (c : 0 ≤ x) : ¬ x < 0 := by
  rw [Int32.le_iff_toInt_le] at c
  rw [Int32.lt_iff_toInt_lt]
  omega
theorem mi_le {x : Int32} (h : x < 0 ∨ vp_in x 32) (c : 0 ≤ x) : vp_in x 32 := mi_ge h (mi_nlt c)
theorem mi_presentOk {u : MS} (hI : mInv u) : mf_presentOne u < 0 ∨ vp_in (mf_presentOne u) 32 := by
  unfold mf_presentOne
  split
  · exact hI.1
  · exact hI.2.1
theorem mi_presentOne {u : MS} {r : Int32} (h : r = mf_presentOne u) (hI : mInv u) (c : ¬ r < 0) : vp_in r 32 := by
  subst h
  exact mi_ge (mi_presentOk hI) c
theorem mi_presentOne2 {u : MS} {r : Int32} (h : r = mf_presentOne u) (hI : mInv u) (c : 0 ≤ r) : vp_in r 32 := mi_presentOne h hI (mi_nlt c)
theorem mi_find2L (u : MS) (a b x4 : Int32) : ∀ (n : Nat) (x5 x6 : Int32), (x5 < 0 ∨ vp_in x5 32) → (∃ k : Nat, x6 = nI k ∧ k + n = 33) → (ml_find2 u a b x4 n x5 x6 < 0 ∨ vp_in (ml_find2 u a b x4 n x5 x6) 32) := by
  intro n
  induction n with
  | zero => intro x5 x6 _ _; exact Or.inr (by unfold ml_find2; exact vp_in_nI (n := 0) (N := 32) (by omega) (by omega))
  | succ n ih =>
    intro x5 x6 h5 ⟨k, hk, hkn⟩
    by_cases hc : 32 ≤ x6
    · simp only [ml_find2, if_pos hc]
      exact h5
    · have hk2 := k_lt 32 hk (by omega) rfl hc
      have h6 : x6 < 0 ∨ vp_in x6 32 := Or.inr (k_in hk hk2 (by omega))
      have hn : ∃ k : Nat, x6 + 1 = nI k ∧ k + n = 33 := ⟨k + 1, by rw [hk, nI_1], by omega⟩
      have i5 := ih x5 (x6 + 1) h5 hn
      have i6 := ih x6 (x6 + 1) h6 hn
      generalize e5 : ml_find2 u a b x4 n x5 (x6 + 1) = r5 at i5
      generalize e6 : ml_find2 u a b x4 n x6 (x6 + 1) = r6 at i6
      simp only [ml_find2, if_neg hc, e5, e6]
      repeat' split
      all_goals first | exact i5 | exact i6
theorem mi_find2 {u : MS} {a b x4 B : Int32} (h : B = ml_find2 u a b x4 33 (-1) 0) : B < 0 ∨ vp_in B 32 := by
  rw [h]
  exact mi_find2L u a b x4 33 (-1) 0 (Or.inl (by decide)) ⟨0, nI_0.symm, by omega⟩
theorem mi_findL (u : MS) (a b : Int32) : ∀ (n : Nat) (x3 x4 : Int32), (x4 < 0 ∨ vp_in x4 32) → (ml_find u a b n x3 x4 < 0 ∨ vp_in (ml_find u a b n x3 x4) 32) := by
  intro n
  induction n with
  | zero => intro x3 x4 _; exact Or.inr (by unfold ml_find; exact vp_in_nI (n := 0) (N := 32) (by omega) (by omega))
  | succ n ih =>
    intro x3 x4 h4
    obtain ⟨B, hB⟩ : ∃ B, B = ml_find2 u a b x4 33 (-1) 0 := ⟨_, rfl⟩
    have i1 := ih (x3 - 1) B (mi_find2 hB)
    generalize e1 : ml_find u a b n (x3 - 1) B = r1 at i1
    simp only [ml_find, ← hB, e1]
    split
    · exact h4
    · split
      · exact i1
      · exact Or.inl (by decide)
theorem mi_find {u : MS} {r a b : Int32} (h : r = mf_find u a b) : r < 0 ∨ vp_in r 32 := by
  rw [h]
  exact mi_findL u a b 33 b (-1) (Or.inl (by decide))
theorem mi_arg {x : Int32} (c0 : ¬ x < 0) (c1 : ¬ 32 ≤ x) : ∃ a : Nat, a < 32 ∧ x = nI a := vp_in_of (k_in2 c0 c1 rfl) (by omega)
theorem mi_pos {x : Int32} {j : Nat} (hj : x = nI j + (-1)) (_ : j < 2147483648) (c : ¬ x < 0) : 1 ≤ j := by
  rcases Nat.eq_zero_or_pos j with h | h
  · subst h
    subst hj
    exact absurd (by decide) c
  · exact h
theorem mi_pred {j : Nat} (h : 1 ≤ j) : nI j + (-1) - 1 = nI (j - 1) + (-1) := by
  rw [k_pred h, Int32.sub_eq_add_neg]
theorem mi_le8 {x : Int32} {j : Nat} (hj : x = nI j) (hb : j < 2147483648) (c : ¬ 8 < x) : j ≤ 8 := by
  rw [Int32.lt_iff_toInt_lt, hj, nI_toInt (by omega), show (8 : Int32).toInt = 8 from rfl] at c
  omega
theorem mi_nn {x : Int32} {j : Nat} (hj : x = nI j) (hb : j < 2147483648) : ¬ x < 0 := by
  rw [hj]
  exact nI_pos (by omega)
theorem mi_post {u : MS} (hI : mInv u) (c : ¬ ma_posts u = 40) : vp_in (ma_posts u) 40 := by
  obtain ⟨a, h1, h2, -⟩ := hI.2.2.1
  have : a ≠ 40 := fun e => c (by rw [h2, e]; rfl)
  exact k_in h2 (by omega) (by omega)
theorem mi_below {u : MS} (hI : mInv u) {x : Int32} (c0 : ¬ x < 0) (c1 : ¬ ma_posts u ≤ x) : ∃ j : Nat, x = nI j ∧ j < 40 ∧ vp_in (ma_posted u j) 16 := by
  obtain ⟨a, h1, h2, h3⟩ := hI.2.2.1
  obtain ⟨j, hj, e⟩ := nI_of c0
  have hlt : j < a := by
    rw [h2, e, nI_leI (by omega) hj] at c1
    omega
  exact ⟨j, e, by omega, h3 j hlt⟩
theorem mi_posted {u : MS} (hI : mInv u) {x : Int32} (c0 : ¬ x < 0) (c1 : ¬ ma_posts u ≤ x) : vp_in x 40 := by
  obtain ⟨j, e, hj, -⟩ := mi_below hI c0 c1
  exact k_in e hj (by omega)
theorem mi_sem {u : MS} (hI : mInv u) {x : Int32} (c0 : ¬ x < 0) (c1 : ¬ ma_posts u ≤ x) : vp_in (ma_posted u x.toNatClampNeg) 16 := by
  obtain ⟨j, e, hj, h⟩ := mi_below hI c0 c1
  rw [e, nI_clamp (by omega)]
  exact h
theorem mi_jlt {u : MS} (hI : mInv u) {x : Int32} {j : Nat} (hj : x = nI j) (hb : j < 2147483648) (c1 : ¬ ma_posts u ≤ x) : j < 40 := by
  obtain ⟨i, e, hi, -⟩ := mi_below hI (mi_nn hj hb) c1
  rw [hj, nI_eq (by omega) (by omega)] at e
  omega
theorem mi_want {u : MS} {p1 : Int32} (hI : mInv u) (hp : p1 < 0 ∨ vp_in p1 32) : mInv (mf_want u p1) := ⟨hI.1, hp, hI.2.2.1, Or.inr rfl⟩
theorem mi_wake {u : MS} {p1 : Int32} (hI : mInv u) (hp : vp_in p1 32) : mInv (mf_wake u p1) := by
  unfold mf_wake
  split
  · exact ⟨hI.1, Or.inr hp, hI.2.2.1, Or.inr rfl⟩
  · split
    · exact ⟨hI.1, Or.inr hp, hI.2.2.1, Or.inr rfl⟩
    · exact hI
theorem mi_give {u v : MS} {p1 : Int32} (h : v = mf_give u p1) (hI : mInv u) : mInv v := by
  rw [h]
  obtain ⟨r, hr⟩ : ∃ r, r = mf_find u (16 + p1) 0 := ⟨_, rfl⟩
  have h1 : 0 ≤ r → mInv (mf_wake (ms_rows u (upd (ma_rows u) r.toNatClampNeg 0)) r) := fun c => mi_wake (u := ms_rows u (upd (ma_rows u) r.toNatClampNeg 0)) hI (mi_le (mi_find hr) c)
  generalize ew : mf_wake (ms_rows u (upd (ma_rows u) r.toNatClampNeg 0)) r = w at h1
  simp only [mf_give, ← hr, ew]
  split
  · rename_i c
    exact h1 c
  · exact hI
