theorem k_n32 {j : Nat} (h : j < 32) : ¬ (32 : Int32) ≤ nI j := k_nle (b := 32) h (by omega)
/-- the i-th of a list, counted from b -/
def k_nth (i : Int32) : List Nat → Int32 → Int32
  | [], _ => -1
  | p :: t, b => if b = i then nI p else k_nth i t (b + 1)
theorem k_len (a : Nat) : ∀ (L : List Nat), L.Nodup → L.length ≤ (L.filter (fun p => decide (p ≠ a))).length + 1 := by
  intro L
  induction L with
  | nil => intro _; simp
  | cons x t ih =>
    intro h
    rw [List.nodup_cons] at h
    by_cases hx : x = a
    · subst hx
      have e : t.filter (fun p => decide (p ≠ x)) = t := List.filter_eq_self.mpr (fun q hq => by
        have : q ≠ x := fun e => h.1 (e ▸ hq)
        simp [this])
      rw [List.filter_cons, if_neg (by simp), e, List.length_cons]
      exact Nat.le_refl _
    · have := ih h.2
      simp [hx] at this ⊢
      omega
theorem k_pig : ∀ (n : Nat) (L : List Nat), L.Nodup → (∀ p ∈ L, p < n) → L.length ≤ n := by
  intro n
  induction n with
  | zero =>
    intro L _ h
    cases L with
    | nil => simp
    | cons x t => exact absurd (h x List.mem_cons_self) (Nat.not_lt_zero _)
  | succ n ih =>
    intro L hn h
    have h1 := k_len n L hn
    have h2 := ih (L.filter (fun p => decide (p ≠ n))) (hn.filter _) (fun p hp => by
      rw [List.mem_filter] at hp
      have := h p hp.1
      have h3 : p ≠ n := by simpa using hp.2
      omega)
    omega
theorem rp_isProcess {q : Nat} (h : q < 32) : rf_isProcess (nI q) = 1 := by
  unfold rf_isProcess
  rw [if_neg (nI_pos (by omega)), if_neg (k_n32 (j := q) h)]
/-- the line: the processes that are in a row, in the order in which they entered -/
def rRep (u : RS) (L : List Nat) : Prop := ra_lineLength u = nI L.length ∧ L.Nodup ∧ (∀ p ∈ L, p < 32) ∧ (∀ (k : Nat) (h : k < L.length), ra_line u k = nI L[k]) ∧ (∀ p, p < 32 → (ra_rows u p = 0 ↔ p ∉ L))
theorem rRep.len {u : RS} {L : List Nat} (h : rRep u L) : L.length ≤ 32 := k_pig 32 L h.2.1 h.2.2.1
theorem rp_atL {u : RS} {L : List Nat} (h : rRep u L) (r i : Int32) : ∀ (n j : Nat) (x3 : Int32), j + n = 33 → j ≤ L.length → rl_at u r i n x3 (nI j) = k_nth i ((L.drop j).filter (fun p => decide (ra_rows u p = r))) x3 := by
  have hlen := h.len
  intro n
  induction n with
  | zero => intro j x3 h1 h2; omega
  | succ n ih =>
    intro j x3 h1 h2
    simp only [rl_at]
    rcases Nat.lt_or_ge j L.length with hlt | hge
    · have hp : L[j] < 32 := h.2.2.1 _ (List.getElem_mem hlt)
      rw [h.1, if_neg (k_nle hlt (by omega)), if_neg (k_n32 (j := j) (by omega)), k_clamp (by omega), h.2.2.2.1 j hlt, rp_isProcess hp, if_neg (by decide), k_clamp (by omega), List.drop_eq_getElem_cons hlt, List.filter_cons, nI_1]
      by_cases hr : ra_rows u L[j] = r
      · have hd : decide (ra_rows u L[j] = r) = true := by simpa using hr
        rw [if_pos hr, if_pos hd]
        show _ = if x3 = i then nI L[j] else k_nth i (List.filter (fun p => decide (ra_rows u p = r)) (List.drop (j + 1) L)) (x3 + 1)
        by_cases hi : x3 = i
        · rw [if_pos hi, if_pos hi]
        · rw [if_neg hi, if_neg hi]
          exact ih (j + 1) _ (by omega) (by omega)
      · have hd : ¬ decide (ra_rows u L[j] = r) = true := by simpa using hr
        rw [if_neg hr, if_neg hd]
        exact ih (j + 1) _ (by omega) (by omega)
    · have e : j = L.length := by omega
      subst e
      rw [h.1, if_pos (nI_le (Nat.le_refl _) (by omega)), List.drop_length]
      rfl
theorem rp_at {u : RS} {L : List Nat} (h : rRep u L) (r i : Int32) : rf_at u r i = k_nth i (L.filter (fun p => decide (ra_rows u p = r))) 0 := by
  have := rp_atL h r i 33 0 0 (by omega) (by omega)
  rw [List.drop_zero] at this
  exact this
/-- leave: the line without that one; no other field changes -/
theorem rp_leaveL (q : Nat) (hq : q < 32) (L : List Nat) (hL : L.length ≤ 32) (hb : ∀ p ∈ L, p < 32) : ∀ (n j : Nat) (u2 : RS) (K : List Nat), j + n = 33 → j ≤ L.length → K = (L.take j).filter (fun p => decide (p ≠ q)) → ra_lineLength u2 = nI L.length →
    (∀ (k : Nat) (h : k < K.length), ra_line u2 k = nI K[k]) → (∀ (k : Nat) (h : k < L.length), j ≤ k → ra_line u2 k = nI L[k]) →
    ∃ li : Nat → Int32, rl_leave (nI q) n u2 (nI K.length) (nI j) = rs_lineLength (rs_line u2 li) (nI (L.filter (fun p => decide (p ≠ q))).length) ∧ ∀ (k : Nat) (h : k < (L.filter (fun p => decide (p ≠ q))).length), li k = nI (L.filter (fun p => decide (p ≠ q)))[k] := by
  intro n
  induction n with
  | zero => intro j u2 K h1 h2; omega
  | succ n ih =>
    intro j u2 K h1 h2 hK hlen hkept hrest
    simp only [rl_leave]
    have hKl : K.length ≤ j := by
      rw [hK]
      exact Nat.le_trans (List.length_filter_le _ _) (by rw [List.length_take]; omega)
    rcases Nat.lt_or_ge j L.length with hlt | hge
    · have hp : L[j] < 32 := hb _ (List.getElem_mem hlt)
      rw [hlen, if_neg (k_nle hlt (by omega)), if_neg (k_n32 (j := j) (by omega)), k_clamp (by omega), hrest j hlt (Nat.le_refl _), k_clamp (by omega), nI_1, nI_1]
      have ht : L.take (j + 1) = L.take j ++ [L[j]] := List.take_succ_eq_append_getElem hlt
      by_cases he : L[j] = q
      · rw [if_pos (by rw [he])]
        refine ih (j + 1) u2 K (by omega) (by omega) ?_ hlen hkept (fun k h hk => hrest k h (by omega))
        rw [ht, List.filter_append, hK]
        simp [he]
      · rw [if_neg (fun e => he ((nI_eq (by omega) (by omega)).mp e))]
        obtain ⟨li, e1, e2⟩ := ih (j + 1) (rs_line u2 (upd (ra_line u2) K.length (nI L[j]))) (K ++ [L[j]]) (by omega) (by omega) (by rw [ht, List.filter_append, hK]; simp [he]) hlen
          (fun k h => by
            show upd (ra_line u2) K.length (nI L[j]) k = _
            by_cases hk : k = K.length
            · subst hk
              rw [pk_us]
              simp
            · rw [pk_un hk]
              have : k < K.length := by simp at h; omega
              rw [hkept k this, List.getElem_append_left this])
          (fun k h hk => by
            show upd (ra_line u2) K.length (nI L[j]) k = _
            rw [pk_un (by omega)]
            exact hrest k h (by omega))
        refine ⟨li, ?_, e2⟩
        rw [List.length_append] at e1
        exact e1
    · have e : j = L.length := by omega
      subst e
      rw [hlen, if_pos (nI_le (Nat.le_refl _) (by omega))]
      rw [List.take_length] at hK
      exact ⟨ra_line u2, by rw [← hK]; rfl, by rw [← hK]; exact hkept⟩
theorem rp_leave {u : RS} {L : List Nat} (h : rRep u L) {q : Nat} (hq : q < 32) : ∃ (li : Nat → Int32) (n : Int32), rf_leave u (nI q) = rs_lineLength (rs_line (rs_rows u (upd (ra_rows u) q 0)) li) n ∧ rRep (rf_leave u (nI q)) (L.filter (fun p => decide (p ≠ q))) := by
  obtain ⟨li, e1, e2⟩ := rp_leaveL q hq L h.len h.2.2.1 33 0 (rs_rows u (upd (ra_rows u) q 0)) [] (by omega) (by omega) (by simp) h.1 (fun k hk => absurd hk (Nat.not_lt_zero _)) (fun k hk _ => h.2.2.2.1 k hk)
  have e : rf_leave u (nI q) = rs_lineLength (rs_line (rs_rows u (upd (ra_rows u) q 0)) li) (nI (L.filter (fun p => decide (p ≠ q))).length) := by
    unfold rf_leave
    rw [rp_isProcess hq, if_neg (by decide), k_clamp (by omega)]
    exact e1
  refine ⟨li, _, e, ?_⟩
  rw [e]
  refine ⟨rfl, h.2.1.filter _, fun p hp => h.2.2.1 p (List.mem_filter.mp hp).1, e2, fun p hp => ?_⟩
  show upd (ra_rows u) q 0 p = 0 ↔ _
  by_cases hpq : p = q
  · subst hpq
    rw [pk_us]
    simp
  · rw [pk_un hpq, h.2.2.2.2 p hp, List.mem_filter]
    simp [hpq]
/-- enter: at the line's end -/
theorem rp_enter {u : RS} {L : List Nat} (h : rRep u L) {q : Nat} (hq : q < 32) (hn : q ∉ L) {r : Int32} (hr : r ≠ 0) : rf_enter u (nI q) r = rs_lineLength (rs_line (rs_rows u (upd (ra_rows u) q r)) (upd (ra_line u) L.length (nI q))) (nI (L.length + 1)) ∧ rRep (rf_enter u (nI q) r) (L ++ [q]) := by
  have hnd : (q :: L).Nodup := List.nodup_cons.mpr ⟨hn, h.2.1⟩
  have hlen : L.length + 1 ≤ 32 := k_pig 32 (q :: L) hnd (fun p hp => by
    rcases List.mem_cons.mp hp with rfl | hp
    · exact hq
    · exact h.2.2.1 p hp)
  have e : rf_enter u (nI q) r = rs_lineLength (rs_line (rs_rows u (upd (ra_rows u) q r)) (upd (ra_line u) L.length (nI q))) (nI (L.length + 1)) := by
    unfold rf_enter
    rw [rp_isProcess hq, if_neg (by decide), h.1, if_neg (k_n32 (j := L.length) (by omega)), k_clamp (by omega), k_clamp (by omega), nI_1]
  refine ⟨e, ?_⟩
  rw [e]
  refine ⟨by rw [List.length_append]; rfl, ?_, fun p hp => ?_, fun k hk => ?_, fun p hp => ?_⟩
  · exact (List.perm_append_singleton q L).nodup_iff.mpr hnd
  · rcases List.mem_append.mp hp with hp | hp
    · exact h.2.2.1 p hp
    · rw [List.mem_singleton.mp hp]
      exact hq
  · show upd (ra_line u) L.length (nI q) k = _
    by_cases hk2 : k = L.length
    · subst hk2
      rw [pk_us]
      simp
    · rw [pk_un hk2]
      have : k < L.length := by simp at hk; omega
      rw [h.2.2.2.1 k this, List.getElem_append_left this]
  · show upd (ra_rows u) q r p = 0 ↔ _
    by_cases hpq : p = q
    · subst hpq
      rw [pk_us]
      simp [hr]
    · rw [pk_un hpq, h.2.2.2.2 p hp]
      simp [hpq]
