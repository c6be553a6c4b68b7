def rf_isProcess (p1 : Int32) : Int32 := (if p1 < 0 then 0 else (if 32 ≤ p1 then 0 else 1))
def rf_isSemaphore (p1 : Int32) : Int32 := (if p1 < 0 then 0 else (if 16 ≤ p1 then 0 else 1))
def rf_isPriority (p1 : Int32) : Int32 := (if p1 < 1 then 0 else (if 8 < p1 then 0 else 1))
def rf_isMade (u : RS) (p1 : Int32) : Int32 := (if (rf_isProcess p1) = 0 then 0 else (if ra_priorities u p1.toNatClampNeg = 0 then 0 else 1))
def rf_present (u : RS)  : Int32 := (if ra_wanted u = 0 then ra_active u else ra_wantedOne u)
def rf_active (u : RS)  : Int32 := ra_active u
def rf_wanted (u : RS)  : Int32 := ra_wanted u
def rf_here (u : RS)  : Int32 := ra_here u
def rf_place (u : RS) (p1 : Int32) : Int32 := (if (rf_isMade u p1) = 0 then 0 else ra_places u p1.toNatClampNeg)
def rf_priority (u : RS) (p1 : Int32) : Int32 := (if (rf_isMade u p1) = 0 then (-1) else ra_priorities u p1.toNatClampNeg)
def rf_row (u : RS) (p1 : Int32) : Int32 := (if (rf_isMade u p1) = 0 then (-1) else ra_rows u p1.toNatClampNeg)
def rl_at (u : RS) (p1 : Int32) (p2 : Int32) : Nat → Int32 → Int32 → Int32
  | 0, _, _ => 0
  | n + 1, x3, x4 => (if ra_lineLength u ≤ x4 then (-1) else (if 32 ≤ x4 then (-1) else (if (rf_isProcess (ra_line u x4.toNatClampNeg)) = 0 then (rl_at u p1 p2 n x3 (x4 + 1)) else (if ra_rows u (ra_line u x4.toNatClampNeg).toNatClampNeg = p1 then (if x3 = p2 then ra_line u x4.toNatClampNeg else (rl_at u p1 p2 n (x3 + 1) (x4 + 1))) else (rl_at u p1 p2 n x3 (x4 + 1))))))
def rf_at (u : RS) (p1 : Int32) (p2 : Int32) : Int32 := (rl_at u p1 p2 33 0 0)
def rf_extra (u : RS) (p1 : Int32) : Int32 := (if (rf_isSemaphore p1) = 0 then (-1) else ra_extras u p1.toNatClampNeg)
def rf_posted (u : RS) (p1 : Int32) : Int32 := (if p1 < 0 then (-1) else (if ra_postCount u ≤ p1 then (-1) else (if 40 ≤ p1 then (-1) else ra_posts u p1.toNatClampNeg)))
def rl_firstReady (u : RS) : Nat → Int32 → Int32
  | 0, _ => 0
  | n + 1, x1 => (if x1 < 1 then (-1) else (if (rf_at u x1 0) = (-1) then (rl_firstReady u n (x1 + (-1))) else (rf_at u x1 0)))
def rf_firstReady (u : RS)  : Int32 := (rl_firstReady u 9 8)
def rf_want (u : RS) (p1 : Int32) : RS := (rs_wantedOne (rs_wanted u 1) p1)
def rf_enter (u : RS) (p1 : Int32) (p2 : Int32) : RS := (if (rf_isProcess p1) = 0 then u else (if 32 ≤ ra_lineLength u then u else (rs_lineLength (rs_line (rs_rows u (upd (ra_rows u) p1.toNatClampNeg p2)) (upd (ra_line u) (ra_lineLength u).toNatClampNeg p1)) ((ra_lineLength u) + 1))))
def rl_leave (p1 : Int32) : Nat → RS → Int32 → Int32 → RS
  | 0, u2, _, _ => u2
  | n + 1, u2, x2, x3 => (if ra_lineLength u2 ≤ x3 then (rs_lineLength u2 x2) else (if 32 ≤ x3 then (rs_lineLength u2 x2) else (if ra_line u2 x3.toNatClampNeg = p1 then (rl_leave p1 n u2 x2 (x3 + 1)) else (rl_leave p1 n (rs_line u2 (upd (ra_line u2) x2.toNatClampNeg (ra_line u2 x3.toNatClampNeg))) (x2 + 1) (x3 + 1)))))
def rf_leave (u : RS) (p1 : Int32) : RS := (if (rf_isProcess p1) = 0 then u else (rl_leave p1 33 (rs_rows u (upd (ra_rows u) p1.toNatClampNeg 0)) 0 0))
def rf_wake (u : RS) (p1 : Int32) : RS := (if (rf_present u) = (-1) then (rf_want u p1) else (if (rf_priority u (rf_present u)) < (rf_priority u p1) then (rf_want (rf_enter u (rf_present u) (rf_priority u (rf_present u))) p1) else (rf_enter u p1 (rf_priority u p1))))
def rf_putAside (u : RS)  : RS := (rf_want (rf_leave u (rf_firstReady u)) (rf_firstReady u))
def rf_signal (u : RS) (p1 : Int32) : Int32 × RS := (if (rf_isSemaphore p1) = 0 then (0, u) else (if (rf_at u (16 + p1) 0) = (-1) then (1, (rs_extras u (upd (ra_extras u) p1.toNatClampNeg ((ra_extras u p1.toNatClampNeg) + 1)))) else (1, (rf_wake (rf_leave u (rf_at u (16 + p1) 0)) (rf_at u (16 + p1) 0)))))
def rl_signalPosted  : Nat → RS → Int32 → RS
  | 0, u2, _ => u2
  | n + 1, u2, x1 => (if ra_postCount u2 ≤ x1 then (rs_postCount u2 0) else (if 40 ≤ x1 then (rs_postCount u2 0) else (rl_signalPosted  n ((rf_signal u2 (ra_posts u2 x1.toNatClampNeg)).2) (x1 + 1))))
def rf_signalPosted (u : RS)  : RS := (rl_signalPosted  41 u 0)
def rf_change (u : RS)  : RS := (if (rf_isProcess (ra_active u)) = 0 then (rs_wantedOne (rs_wanted (rs_here (rs_active u (ra_wantedOne u)) (rf_place (rs_active u (ra_wantedOne u)) (ra_wantedOne u))) 0) (-1)) else (rs_wantedOne (rs_wanted (rs_here (rs_active (rs_places u (upd (ra_places u) (ra_active u).toNatClampNeg (ra_here u))) (ra_wantedOne u)) (rf_place (rs_active (rs_places u (upd (ra_places u) (ra_active u).toNatClampNeg (ra_here u))) (ra_wantedOne u)) (ra_wantedOne u))) 0) (-1)))
def rf_make (u : RS) (p1 : Int32) (p2 : Int32) (p3 : Int32) : Int32 × RS := (if (rf_isProcess p1) = 0 then (0, u) else (if (rf_isMade u p1) = 0 then (if (rf_isPriority p2) = 0 then (0, u) else (1, (rs_places (rs_priorities u (upd (ra_priorities u) p1.toNatClampNeg p2)) (upd (ra_places u) p1.toNatClampNeg p3)))) else (0, u)))
def rf_resume (u : RS) (p1 : Int32) : Int32 × RS := (if (rf_isMade u p1) = 0 then (0, u) else (if ra_rows u p1.toNatClampNeg = 0 then (if p1 = (rf_present u) then (0, u) else (if p1 = ra_active u then (0, u) else (1, (rf_wake u p1)))) else (0, u)))
def rf_suspend (u : RS)  : Int32 × RS := (if (rf_present u) = (-1) then ((rf_present u), u) else ((rf_present u), (rf_putAside u)))
def rf_end (u : RS)  : Int32 × RS := (if (rf_isMade u (rf_present u)) = 0 then ((-1), u) else (if (rf_present u) = ra_active u then ((rf_present u), (rf_putAside (rs_active (rs_priorities u (upd (ra_priorities u) (rf_present u).toNatClampNeg 0)) (-1)))) else ((rf_present u), (rf_putAside (rs_priorities u (upd (ra_priorities u) (rf_present u).toNatClampNeg 0))))))
def rf_await (u : RS) (p1 : Int32) : Int32 × RS := (if (rf_isSemaphore p1) = 0 then ((-1), u) else (if (rf_present u) = (-1) then ((-1), u) else (if ra_extras u p1.toNatClampNeg ≤ 0 then (0, (rf_putAside (rf_enter u (rf_present u) (16 + p1)))) else (1, (rs_extras u (upd (ra_extras u) p1.toNatClampNeg ((ra_extras u p1.toNatClampNeg) - 1)))))))
def rf_post (u : RS) (p1 : Int32) : Int32 × RS := (if (rf_isSemaphore p1) = 0 then ((-1), u) else (if ra_postCount u < 40 then ((ra_postCount u) + 1, (rs_postCount (rs_posts u (upd (ra_posts u) (ra_postCount u).toNatClampNeg p1)) ((ra_postCount u) + 1))) else ((-1), u)))
def rf_step (u : RS)  : Int32 × RS := (if ra_wanted (rf_signalPosted u) = 0 then (ra_active (rf_signalPosted u), (rf_signalPosted u)) else (ra_active (rf_change (rf_signalPosted u)), (rf_change (rf_signalPosted u))))
def rf_work (u : RS) (p1 : Int32) : Int32 × RS := (if p1 < 1 then (0, u) else (if 1000 < p1 then (0, u) else (if ra_active u = (-1) then (0, u) else (if ra_wanted u = 0 then (1, (rs_here u ((ra_here u) + p1))) else (0, u)))))
def rf_take (u : RS) (p1 : Int32) : Int32 × RS := (if (rf_isProcess p1) = 0 then (0, u) else (if ra_rows u p1.toNatClampNeg = 0 then (0, u) else (1, (rf_leave u p1))))
def rf_rate (u : RS) (p1 : Int32) (p2 : Int32) : Int32 × RS := (if (rf_isMade u p1) = 0 then ((-1), u) else (if (rf_isPriority p2) = 0 then ((-1), u) else (ra_priorities u p1.toNatClampNeg, (rs_priorities u (upd (ra_priorities u) p1.toNatClampNeg p2)))))
def rf_yield (u : RS)  : Int32 × RS := (if (rf_isMade u (rf_present u)) = 0 then (0, u) else (if (rf_at u (ra_priorities u (rf_present u).toNatClampNeg) 0) = (-1) then (0, u) else (1, (rf_putAside (rf_enter u (rf_present u) (ra_priorities u (rf_present u).toNatClampNeg))))))
def rInv (u : RS) : Prop := 0 ≤ ra_lineLength u ∧ 0 ≤ ra_postCount u ∧ (ra_wanted u = 0 ∨ ra_wanted u = 1)
theorem ri_isProcess {r x : Int32} (h : r = rf_isProcess x) (c : ¬ r = 0) : vp_in x 32 := by
  subst h
  unfold rf_isProcess at c
  by_cases h1 : x < 0
  · rw [if_pos h1] at c
    exact absurd rfl c
  · rw [if_neg h1] at c
    by_cases h2 : 32 ≤ x
    · rw [if_pos h2] at c
      exact absurd rfl c
    · exact k_in2 h1 h2 rfl
theorem ri_isSemaphore {r x : Int32} (h : r = rf_isSemaphore x) (c : ¬ r = 0) : vp_in x 16 := by
  subst h
  unfold rf_isSemaphore at c
  by_cases h1 : x < 0
  · rw [if_pos h1] at c
    exact absurd rfl c
  · rw [if_neg h1] at c
    by_cases h2 : 16 ≤ x
    · rw [if_pos h2] at c
      exact absurd rfl c
    · exact k_in2 h1 h2 rfl
theorem ri_isMade {u : RS} {r x : Int32} (h : r = rf_isMade u x) (c : ¬ r = 0) : vp_in x 32 := by
  subst h
  unfold rf_isMade at c
  by_cases h1 : rf_isProcess x = 0
  · rw [if_pos h1] at c
    exact absurd rfl c
  · exact ri_isProcess rfl h1
theorem ri_loop (p1 : Int32) : ∀ (n : Nat) (u2 : RS) (x2 x3 : Int32), rInv u2 → (∃ i j : Nat, x2 = nI i ∧ x3 = nI j ∧ i ≤ j ∧ j + n = 33) → rInv (rl_leave p1 n u2 x2 x3) := by
  intro n
  induction n with
  | zero => intro u2 x2 x3 h _; exact h
  | succ n ih =>
    intro u2 x2 x3 h ⟨i, j, hi, hj, hij, hjn⟩
    have h2 : rInv (rs_lineLength u2 x2) := ⟨by show (0 : Int32) ≤ x2; rw [hi]; exact k_le0 (by omega), h.2⟩
    simp only [rl_leave]
    split
    · exact h2
    · split
      · exact h2
      · split
        · exact ih _ _ _ h ⟨i, j + 1, hi, by rw [hj, nI_1], by omega, by omega⟩
        · exact ih _ _ _ h ⟨i + 1, j + 1, by rw [hi, nI_1], by rw [hj, nI_1], by omega, by omega⟩
theorem ri_leave {u v : RS} {p1 : Int32} (h : v = rf_leave u p1) (hI : rInv u) : rInv v := by
  subst h
  unfold rf_leave
  split
  · exact hI
  · exact ri_loop _ _ _ _ _ hI ⟨0, 0, nI_0.symm, nI_0.symm, by omega, by omega⟩
theorem ri_enter {u v : RS} {p1 p2 : Int32} (h : v = rf_enter u p1 p2) (hI : rInv u) : rInv v := by
  subst h
  unfold rf_enter
  split
  · exact hI
  · split
    · exact hI
    · rename_i h1 h2
      exact ⟨k_add0 hI.1 h2, hI.2⟩
theorem ri_want {u v : RS} {p1 : Int32} (h : v = rf_want u p1) (hI : rInv u) : rInv v := by
  subst h
  exact ⟨hI.1, hI.2.1, Or.inr rfl⟩
theorem ri_wake {u v : RS} {p1 : Int32} (h : v = rf_wake u p1) (hI : rInv u) : rInv v := by
  subst h
  unfold rf_wake
  split
  · exact ri_want rfl hI
  · split
    · exact ri_want rfl (ri_enter rfl hI)
    · exact ri_enter rfl hI
theorem ri_signal {u v : RS} {p1 : Int32} (h : v = (rf_signal u p1).2) (hI : rInv u) : rInv v := by
  subst h
  have h1 : rInv (rf_wake (rf_leave u (rf_at u (16 + p1) 0)) (rf_at u (16 + p1) 0)) := ri_wake rfl (ri_leave rfl hI)
  generalize hw : rf_wake (rf_leave u (rf_at u (16 + p1) 0)) (rf_at u (16 + p1) 0) = w at h1
  simp only [rf_signal, hw]
  split
  · exact hI
  · split
    · exact hI
    · exact h1
