/-- who is in row r, in order -/
def sRow (u : RS) (L : List Nat) (r : Int32) : List Nat := L.filter (fun p => decide (ra_rows u p = r))
theorem sRow_mem {u : RS} {L : List Nat} {r : Int32} {p : Nat} : p ∈ sRow u L r ↔ p ∈ L ∧ ra_rows u p = r := by
  unfold sRow
  rw [List.mem_filter]
  simp
theorem sVal.ne {k : Nat} (h : sVal k) : nI k ≠ 0 := by
  unfold sVal at h
  exact nI_ne0 (by omega) (by omega)
theorem sVal.lt {k : Nat} (h : sVal k) : k < 32 := by
  unfold sVal at h
  omega
theorem sK.at {t : Nat} {L : List Nat} {u : RS} {v : MS} (h : sK t L u v) (r : Int32) {a : Nat} (ha : a < 32) : rf_at u r (nI a) = k_sel (sRow u L r) a := by
  rw [rp_at h.1 r (nI a)]
  have hl : (sRow u L r).length ≤ 32 := Nat.le_trans (List.length_filter_le _ _) h.1.len
  have := k_nth_sel a (by omega) (sRow u L r) 0 (by omega) (by omega)
  rw [nI_0] at this
  exact this
theorem sK.find {t : Nat} {L : List Nat} {u : RS} {v : MS} (h : sK t L u v) (ht : t < 1000000) {r : Int32} (hr : r ≠ 0) {a : Nat} (ha : a < 32) : mf_find v r (nI a) = k_sel (sRow u L r) a := by
  obtain ⟨h1, h2, h3, ⟨w, n, e1, e2, e3, e4, e5⟩, -⟩ := h
  have := sf_find (v := v) (r := r) (b := nI a) (w := w) (fun p hp => ⟨(e3 p hp).1, by have := (e3 p hp).2; omega⟩) 33 (a + 1) (-1) (sRow u L r) (by omega) (by omega) (Or.inl (by decide)) (e5.sublist (List.filter_sublist)) (fun p hp => h1.2.2.1 p (sRow_mem.mp hp).1) (fun p hp => ?_)
  · rw [if_neg (by omega), pk_m1, Nat.add_sub_cancel] at this
    exact this
  · rw [sRow_mem, (h2 p hp).1]
    constructor
    · rintro ⟨-, h5, -⟩
      refine ⟨?_, h5⟩
      rcases Classical.em (p ∈ L) with h6 | h6
      · exact h6
      · exact absurd (h5.symm.trans ((h1.2.2.2.2 p hp).mpr h6)) hr
    · rintro ⟨h5, h6⟩
      exact ⟨fun h7 => (h3 p h5).1 ((h2 p hp).2.1.mp h7), h6, Or.inl (by decide)⟩
/-- a row's first: NONE, or one of it -/
theorem sRow_first {u : RS} {L : List Nat} {r : Int32} : k_sel (sRow u L r) 0 = -1 ∨ ∃ q : Nat, k_sel (sRow u L r) 0 = nI q ∧ q ∈ L ∧ ra_rows u q = r := by
  cases e : sRow u L r with
  | nil => exact Or.inl rfl
  | cons g s =>
    have : g ∈ sRow u L r := by rw [e]; exact List.mem_cons_self
    exact Or.inr ⟨g, rfl, (sRow_mem.mp this).1, (sRow_mem.mp this).2⟩
theorem k_notneg {q : Nat} (h : q < 2147483648) : nI q ≠ -1 := fun e => absurd (e ▸ nI_pos' (n := q) (by omega) : (0 : Int32) ≤ -1) (by decide)
/-- one leaves its row -/
theorem sK.leave {t : Nat} {L : List Nat} {u : RS} {v : MS} (h : sK t L u v) {q : Nat} (hq : q < 32) : sK t (L.filter (fun p => decide (p ≠ q))) (rf_leave u (nI q)) (ms_rows v (upd (ma_rows v) q 0)) := by
  obtain ⟨h1, h2, h3, ⟨w, n, e1, e2, e3, e4, e5⟩, h5, h6, h7, h8, h9⟩ := h
  obtain ⟨li, ln, e, hr⟩ := rp_leave h1 hq
  refine ⟨hr, fun p hp => ?_, fun p hp => ?_, ⟨w, n, e1, e2, e3, fun p hp => e4 p (List.mem_filter.mp hp).1, e5.sublist List.filter_sublist⟩, ?_, ?_, ?_, ?_, h9⟩
  · rw [e]
    refine ⟨?_, (h2 p hp).2⟩
    show upd (ma_rows v) q 0 p = upd (ra_rows u) q 0 p
    by_cases hpq : p = q
    · rw [hpq, pk_us, pk_us]
    · rw [pk_un hpq, pk_un hpq]
      exact (h2 p hp).1
  · have hp2 := List.mem_filter.mp hp
    have hpq : p ≠ q := by simpa using hp2.2
    rw [e]
    refine ⟨(h3 p hp2.1).1, ?_⟩
    show ∃ k : Nat, upd (ra_rows u) q 0 p = nI k ∧ sVal k
    rw [pk_un hpq]
    exact (h3 p hp2.1).2
  · rw [e]; exact h5
  · rw [e]; exact h6
  · rw [e]; exact h7
  · rw [e]; exact h8
theorem sK.leave_pri {t : Nat} {L : List Nat} {u : RS} {v : MS} (h : sK t L u v) {q : Nat} (hq : q < 32) : ra_priorities (rf_leave u (nI q)) = ra_priorities u ∧ rf_present (rf_leave u (nI q)) = rf_present u := by
  obtain ⟨li, ln, e, -⟩ := rp_leave h.1 hq
  rw [e]
  exact ⟨rfl, rfl⟩
/-- one that is in no row leaves it: nothing changes -/
theorem sK.same {t : Nat} {L : List Nat} {u : RS} {v : MS} (h : sK t L u v) {q : Nat} (hq : q < 32) (hn : q ∉ L) : sK t L u (ms_rows v (upd (ma_rows v) q 0)) := by
  obtain ⟨h1, h2, h3, h4, h5, h6, h7, h8, h9⟩ := h
  refine ⟨h1, fun p hp => ⟨?_, (h2 p hp).2⟩, h3, h4, h5, h6, h7, h8, h9⟩
  show upd (ma_rows v) q 0 p = ra_rows u p
  by_cases hpq : p = q
  · rw [hpq, pk_us]
    exact ((h1.2.2.2.2 q hq).mpr hn).symm
  · rw [pk_un hpq]
    exact (h2 p hp).1
/-- one enters a row at its end -/
theorem sK.enter {t : Nat} {L : List Nat} {u : RS} {v : MS} (h : sK t L u v) {q k : Nat} (hq : q < 32) (hn : q ∉ L) (hm : ra_priorities u q ≠ 0) (hk : sVal k) : sK (t + 1) (L ++ [q]) (rf_enter u (nI q) (nI k)) (mf_enter v (nI q) (nI k)) := by
  obtain ⟨h1, h2, h3, ⟨w, n, e1, e2, e3, e4, e5⟩, h5, h6, h7, h8, h9⟩ := h
  obtain ⟨e, hr⟩ := rp_enter h1 hq hn hk.ne
  have em : mf_enter v (nI q) (nI k) = ms_now (ms_when (ms_rows v (upd (ma_rows v) q (nI k))) (vp_updL (ma_when v) q (ma_now v))) (ma_now v + 1) := by
    unfold mf_enter
    rw [k_clamp (show q < 2147483648 by omega)]
  rw [em]
  refine ⟨hr, fun p hp => ?_, fun p hp => ?_, ⟨fun j => if j = q then n else w j, n + 1, ?_, by omega, fun p hp => ?_, fun p hp => ?_, ?_⟩, ?_, ?_, ?_, ?_, h9⟩
  · rw [e]
    refine ⟨?_, (h2 p hp).2⟩
    show upd (ma_rows v) q (nI k) p = upd (ra_rows u) q (nI k) p
    by_cases hpq : p = q
    · rw [hpq, pk_us, pk_us]
    · rw [pk_un hpq, pk_un hpq]
      exact (h2 p hp).1
  · rw [e]
    show ra_priorities u p ≠ 0 ∧ ∃ k' : Nat, upd (ra_rows u) q (nI k) p = nI k' ∧ sVal k'
    by_cases hpq : p = q
    · rw [hpq, pk_us]
      exact ⟨hm, k, rfl, hk⟩
    · rw [pk_un hpq]
      rcases List.mem_append.mp hp with h | h
      · exact h3 p h
      · exact absurd (List.mem_singleton.mp h) hpq
  · show ma_now v + 1 = lN (n + 1)
    rw [e1, lN_1]
  · show vp_updL (ma_when v) q (ma_now v) p = lN (if p = q then n else w p) ∧ (if p = q then n else w p) ≤ n + 1
    by_cases hpq : p = q
    · rw [hpq, pk_uLs, if_pos rfl]
      exact ⟨e1, by omega⟩
    · rw [pk_uLn hpq, if_neg hpq]
      exact ⟨(e3 p hp).1, by have := (e3 p hp).2; omega⟩
  · show (if p = q then n else w p) < n + 1
    by_cases hpq : p = q
    · rw [if_pos hpq]; omega
    · rw [if_neg hpq]
      rcases List.mem_append.mp hp with h | h
      · have := e4 p h; omega
      · exact absurd (List.mem_singleton.mp h) hpq
  · rw [List.pairwise_append]
    have hne : ∀ a ∈ L, a ≠ q := fun a ha e => hn (e ▸ ha)
    refine ⟨e5.imp_of_mem (fun {a b} ha hb hab => by
      show (if a = q then n else w a) < (if b = q then n else w b)
      rw [if_neg (hne a ha), if_neg (hne b hb)]
      exact hab), List.pairwise_singleton _ _, fun a ha b hb => ?_⟩
    show (if a = q then n else w a) < (if b = q then n else w b)
    rw [List.mem_singleton.mp hb, if_pos rfl, if_neg (hne a ha)]
    exact e4 a ha
  · rw [e]; exact h5
  · rw [e]; exact h6
  · rw [e]; exact h7
  · rw [e]; exact h8
theorem sK.enter_pri {t : Nat} {L : List Nat} {u : RS} {v : MS} (h : sK t L u v) {q k : Nat} (hq : q < 32) (hn : q ∉ L) (hk : sVal k) : ra_priorities (rf_enter u (nI q) (nI k)) = ra_priorities u ∧ rf_present (rf_enter u (nI q) (nI k)) = rf_present u := by
  obtain ⟨e, -⟩ := rp_enter h.1 hq hn hk.ne
  rw [e]
  exact ⟨rfl, rfl⟩
/-- a change is wanted -/
theorem sK.want {t : Nat} {L : List Nat} {u : RS} {v : MS} (h : sK t L u v) {x : Int32} (hx : x < 0 ∨ vp_in x 32) : sK t L (rf_want u x) (mf_want v x) := by
  obtain ⟨h1, h2, h3, h4, h5, h6, h7, h8, h9⟩ := h
  exact ⟨h1, h2, h3, h4, h5, h6, ⟨h7.1, h7.2.1, rfl, Or.inr rfl, fun _ => rfl⟩, h8, hx⟩
theorem rf_want_present (u : RS) (x : Int32) : rf_present (rf_want u x) = x := rfl
theorem sK.present {t : Nat} {L : List Nat} {u : RS} {v : MS} (h : sK t L u v) : mf_presentOne v = rf_present u := by
  obtain ⟨-, -, -, -, -, -, h7, -, -⟩ := h
  unfold mf_presentOne rf_present
  rw [h7.2.2.1]
  rcases h7.2.2.2.1 with e | e
  · rw [if_pos e, if_pos e]
    exact h7.1
  · rw [if_neg (by rw [e]; decide), if_neg (by rw [e]; decide)]
    exact h7.2.2.2.2 e
/-- the highest of 1 .. k that has one -/
def k_top (f : Nat → Int32) : Nat → Int32
  | 0 => -1
  | k + 1 => if f (k + 1) = -1 then k_top f k else f (k + 1)
def k_fold (f : Nat → Int32) : Nat → Nat → Int32 → Int32
  | 0, _, x => x
  | c + 1, j, x => k_fold f c (j + 1) (if f j < 0 then x else f j)
theorem k_fold_snoc (f : Nat → Int32) : ∀ (c j : Nat) (x : Int32), k_fold f (c + 1) j x = if f (j + c) < 0 then k_fold f c j x else f (j + c) := by
  intro c
  induction c with
  | zero => intro j x; rfl
  | succ c ih =>
    intro j x
    show k_fold f (c + 1) (j + 1) _ = _
    rw [ih, show j + 1 + c = j + (c + 1) by omega]
    rfl
theorem k_fold_top (f : Nat → Int32) (hf : ∀ k, f k = -1 ∨ ¬ f k < 0) : ∀ c : Nat, k_fold f c 1 (-1) = k_top f c := by
  intro c
  induction c with
  | zero => rfl
  | succ c ih =>
    rw [k_fold_snoc, ih, show 1 + c = c + 1 by omega]
    show _ = if f (c + 1) = -1 then k_top f c else f (c + 1)
    rcases hf (c + 1) with e | e
    · rw [if_pos (by rw [e]; decide), if_pos e]
    · rw [if_neg e, if_neg (fun h => e (by rw [h]; decide))]
theorem k_top_or (f : Nat → Int32) : ∀ c : Nat, k_top f c = -1 ∨ ∃ k : Nat, 1 ≤ k ∧ k ≤ c ∧ k_top f c = f k ∧ f k ≠ -1 := by
  intro c
  induction c with
  | zero => exact Or.inl rfl
  | succ c ih =>
    show (if f (c + 1) = -1 then k_top f c else f (c + 1)) = -1 ∨ ∃ k : Nat, 1 ≤ k ∧ k ≤ c + 1 ∧ (if f (c + 1) = -1 then k_top f c else f (c + 1)) = f k ∧ f k ≠ -1
    by_cases h : f (c + 1) = -1
    · rw [if_pos h]
      rcases ih with h2 | ⟨k, h2, h3, h4, h5⟩
      · exact Or.inl h2
      · exact Or.inr ⟨k, h2, by omega, h4, h5⟩
    · rw [if_neg h]
      exact Or.inr ⟨c + 1, by omega, by omega, rfl, h⟩
theorem sk_ready (u : RS) (f : Nat → Int32) (hf : ∀ k : Nat, 1 ≤ k → k ≤ 8 → rf_at u (nI k) 0 = f k) : ∀ j : Nat, j ≤ 8 → rl_firstReady u (j + 1) (nI j) = k_top f j := by
  intro j
  induction j with
  | zero => intro _; rfl
  | succ j ih =>
    intro hj
    simp only [rl_firstReady]
    rw [if_neg (show ¬ nI (j + 1) < 1 from fun h => by
      rw [show (1 : Int32) = nI 1 from rfl, nI_ltI (by omega) (by omega)] at h
      omega), hf (j + 1) (by omega) hj, pk_m1]
    have := ih (by omega)
    simp only [rl_firstReady] at this
    show (if f (j + 1) = -1 then _ else _) = if f (j + 1) = -1 then k_top f j else f (j + 1)
    by_cases h : f (j + 1) = -1
    · rw [if_pos h, if_pos h]
      exact ih (by omega)
    · rw [if_neg h, if_neg h]
theorem sk_aside (v : MS) (f : Nat → Int32) (hf : ∀ k : Nat, 1 ≤ k → k ≤ 8 → mf_find v (nI k) 0 = f k) : ∀ (c j : Nat) (x : Int32), j + c = 9 → 1 ≤ j →
    ml_putAside v (c + 1) x (nI j) = if k_fold f c j x < 0 then mf_want v (k_fold f c j x) else mf_want (ms_rows v (upd (ma_rows v) (k_fold f c j x).toNatClampNeg 0)) (k_fold f c j x) := by
  intro c
  induction c with
  | zero =>
    intro j x h1 h2
    have e : j = 9 := by omega
    subst e
    simp only [ml_putAside]
    rw [if_pos (show (8 : Int32) < nI 9 by decide)]
    rfl
  | succ c ih =>
    intro j x h1 h2
    have e8 : ¬ (8 : Int32) < nI j := fun h => by
      rw [show (8 : Int32) = nI 8 from rfl, nI_ltI (by omega) (by omega)] at h
      omega
    rw [ml_putAside, if_neg e8, hf j h2 (by omega), nI_1]
    show _ = if k_fold f c (j + 1) (if f j < 0 then x else f j) < 0 then _ else _
    by_cases h : f j < 0
    · rw [if_pos h, ih (j + 1) x (by omega) (by omega)]
      simp only [k_fold, if_pos h]
    · rw [if_neg h, ih (j + 1) (f j) (by omega) (by omega)]
      simp only [k_fold, if_neg h]
