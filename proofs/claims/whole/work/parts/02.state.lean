section KQ
variable {p : Program} {l : Launch} {e : Env} {R : Room} {s : State} {m : MethodId} {args : Array Value} {below : List Frame} {meth : Method} {c : Code} {H : Heap} {locs : List Loc} {cells slots : Nat} {Q : State → Prop} {g : JFrame}
/-- the end of a walk gets a name: a loop inside a method can then be said -/
theorem k_nameQ (k : ∀ Q' : State → Prop, Q' = Q → W p l e R s m args below meth c H locs cells slots Q' g) : W p l e R s m args below meth c H locs cells slots Q g := k Q rfl
end KQ
theorem k_lt {x N : Int32} {j : Nat} (n : Nat) (hj : x = nI j) (hb : j < 2147483648) (hN : N.toInt = (n : Int)) (c : ¬ N ≤ x) : j < n := by
  rw [Int32.le_iff_toInt_le, hN, hj, nI_toInt (by omega)] at c
  omega
theorem k_ge1 {x : Int32} {j : Nat} (hj : x = nI j) (hb : j < 2147483648) (c : ¬ x < 1) : 1 ≤ j := by
  rw [Int32.lt_iff_toInt_lt, hj, nI_toInt (by omega), show (1 : Int32).toInt = 1 from rfl] at c
  omega
theorem k_pred {j : Nat} (h : 1 ≤ j) : nI j + (-1) = nI (j - 1) := by
  obtain ⟨k, rfl⟩ : ∃ k, j = k + 1 := ⟨j - 1, by omega⟩
  exact pk_m1 k
theorem k_in {x : Int32} {j n : Nat} (hj : x = nI j) (h : j < n) (hn : n < 2147483648) : vp_in x n := by
  rw [hj]
  exact vp_in_nI h (by omega)
theorem k_in0 {x N : Int32} {n : Nat} (h0 : 0 ≤ x) (c : ¬ N ≤ x) (hN : N.toInt = (n : Int)) : vp_in x n := by
  rw [vp_in_iff]
  rw [Int32.le_iff_toInt_le, hN] at c
  rw [Int32.le_iff_toInt_le, show (0 : Int32).toInt = 0 from rfl] at h0
  omega
theorem k_in1 {x N : Int32} {n : Nat} (h0 : 0 ≤ x) (c : x < N) (hN : N.toInt = (n : Int)) : vp_in x n := by
  rw [vp_in_iff]
  rw [Int32.lt_iff_toInt_lt, hN] at c
  rw [Int32.le_iff_toInt_le, show (0 : Int32).toInt = 0 from rfl] at h0
  omega
theorem k_in2 {x N : Int32} {n : Nat} (h0 : ¬ x < 0) (c : ¬ N ≤ x) (hN : N.toInt = (n : Int)) : vp_in x n := by
  rw [vp_in_iff]
  rw [Int32.le_iff_toInt_le, hN] at c
  rw [Int32.lt_iff_toInt_lt, show (0 : Int32).toInt = 0 from rfl] at h0
  omega
theorem k_nar {x : Int32} (h : x = 0 ∨ x = 1) : narrow .boolean (.int x) = .int x := by
  rcases h with rfl | rfl <;> rfl
theorem k_le0 {j : Nat} (h : j < 2147483648) : (0 : Int32) ≤ nI j := nI_pos' (by omega)
theorem k_add0 {x : Int32} (h : 0 ≤ x) (c : ¬ 32 ≤ x) : 0 ≤ x + 1 := by
  have hv := k_in0 (n := 32) h c rfl
  obtain ⟨j, hj, rfl⟩ := vp_in_of hv (by omega)
  rw [nI_1]
  exact k_le0 (by omega)
theorem k_nz0 : vp_nar .boolean 0 = 0 := by decide
theorem k_nz1 : vp_nar .boolean 1 = 1 := by decide
abbrev RS : Type := (Nat → Int32) × (Nat → Int32) × (Nat → Int32) × (Nat → Int32) × Int32 × (Nat → Int32) × (Nat → Int32) × Int32 × Int32 × Int32 × Int32 × Int32
def ra_priorities (u : RS) : Nat → Int32 := u.1
def ra_places (u : RS) : Nat → Int32 := u.2.1
def ra_rows (u : RS) : Nat → Int32 := u.2.2.1
def ra_line (u : RS) : Nat → Int32 := u.2.2.2.1
def ra_lineLength (u : RS) : Int32 := u.2.2.2.2.1
def ra_extras (u : RS) : Nat → Int32 := u.2.2.2.2.2.1
def ra_posts (u : RS) : Nat → Int32 := u.2.2.2.2.2.2.1
def ra_postCount (u : RS) : Int32 := u.2.2.2.2.2.2.2.1
def ra_active (u : RS) : Int32 := u.2.2.2.2.2.2.2.2.1
def ra_here (u : RS) : Int32 := u.2.2.2.2.2.2.2.2.2.1
def ra_wanted (u : RS) : Int32 := u.2.2.2.2.2.2.2.2.2.2.1
def ra_wantedOne (u : RS) : Int32 := u.2.2.2.2.2.2.2.2.2.2.2
def rs_priorities (u : RS) (v : Nat → Int32) : RS := (v, ra_places u, ra_rows u, ra_line u, ra_lineLength u, ra_extras u, ra_posts u, ra_postCount u, ra_active u, ra_here u, ra_wanted u, ra_wantedOne u)
def rs_places (u : RS) (v : Nat → Int32) : RS := (ra_priorities u, v, ra_rows u, ra_line u, ra_lineLength u, ra_extras u, ra_posts u, ra_postCount u, ra_active u, ra_here u, ra_wanted u, ra_wantedOne u)
def rs_rows (u : RS) (v : Nat → Int32) : RS := (ra_priorities u, ra_places u, v, ra_line u, ra_lineLength u, ra_extras u, ra_posts u, ra_postCount u, ra_active u, ra_here u, ra_wanted u, ra_wantedOne u)
def rs_line (u : RS) (v : Nat → Int32) : RS := (ra_priorities u, ra_places u, ra_rows u, v, ra_lineLength u, ra_extras u, ra_posts u, ra_postCount u, ra_active u, ra_here u, ra_wanted u, ra_wantedOne u)
def rs_lineLength (u : RS) (v : Int32) : RS := (ra_priorities u, ra_places u, ra_rows u, ra_line u, v, ra_extras u, ra_posts u, ra_postCount u, ra_active u, ra_here u, ra_wanted u, ra_wantedOne u)
def rs_extras (u : RS) (v : Nat → Int32) : RS := (ra_priorities u, ra_places u, ra_rows u, ra_line u, ra_lineLength u, v, ra_posts u, ra_postCount u, ra_active u, ra_here u, ra_wanted u, ra_wantedOne u)
def rs_posts (u : RS) (v : Nat → Int32) : RS := (ra_priorities u, ra_places u, ra_rows u, ra_line u, ra_lineLength u, ra_extras u, v, ra_postCount u, ra_active u, ra_here u, ra_wanted u, ra_wantedOne u)
def rs_postCount (u : RS) (v : Int32) : RS := (ra_priorities u, ra_places u, ra_rows u, ra_line u, ra_lineLength u, ra_extras u, ra_posts u, v, ra_active u, ra_here u, ra_wanted u, ra_wantedOne u)
def rs_active (u : RS) (v : Int32) : RS := (ra_priorities u, ra_places u, ra_rows u, ra_line u, ra_lineLength u, ra_extras u, ra_posts u, ra_postCount u, v, ra_here u, ra_wanted u, ra_wantedOne u)
def rs_here (u : RS) (v : Int32) : RS := (ra_priorities u, ra_places u, ra_rows u, ra_line u, ra_lineLength u, ra_extras u, ra_posts u, ra_postCount u, ra_active u, v, ra_wanted u, ra_wantedOne u)
def rs_wanted (u : RS) (v : Int32) : RS := (ra_priorities u, ra_places u, ra_rows u, ra_line u, ra_lineLength u, ra_extras u, ra_posts u, ra_postCount u, ra_active u, ra_here u, v, ra_wantedOne u)
def rs_wantedOne (u : RS) (v : Int32) : RS := (ra_priorities u, ra_places u, ra_rows u, ra_line u, ra_lineLength u, ra_extras u, ra_posts u, ra_postCount u, ra_active u, ra_here u, ra_wanted u, v)
theorem rq_priorities_priorities (u : RS) (v : Nat → Int32) : ra_priorities (rs_priorities u v) = v := rfl
theorem rq_priorities_places (u : RS) (v : Nat → Int32) : ra_priorities (rs_places u v) = ra_priorities u := rfl
theorem rq_priorities_rows (u : RS) (v : Nat → Int32) : ra_priorities (rs_rows u v) = ra_priorities u := rfl
theorem rq_priorities_line (u : RS) (v : Nat → Int32) : ra_priorities (rs_line u v) = ra_priorities u := rfl
theorem rq_priorities_lineLength (u : RS) (v : Int32) : ra_priorities (rs_lineLength u v) = ra_priorities u := rfl
theorem rq_priorities_extras (u : RS) (v : Nat → Int32) : ra_priorities (rs_extras u v) = ra_priorities u := rfl
theorem rq_priorities_posts (u : RS) (v : Nat → Int32) : ra_priorities (rs_posts u v) = ra_priorities u := rfl
theorem rq_priorities_postCount (u : RS) (v : Int32) : ra_priorities (rs_postCount u v) = ra_priorities u := rfl
theorem rq_priorities_active (u : RS) (v : Int32) : ra_priorities (rs_active u v) = ra_priorities u := rfl
theorem rq_priorities_here (u : RS) (v : Int32) : ra_priorities (rs_here u v) = ra_priorities u := rfl
theorem rq_priorities_wanted (u : RS) (v : Int32) : ra_priorities (rs_wanted u v) = ra_priorities u := rfl
theorem rq_priorities_wantedOne (u : RS) (v : Int32) : ra_priorities (rs_wantedOne u v) = ra_priorities u := rfl
theorem rq_places_priorities (u : RS) (v : Nat → Int32) : ra_places (rs_priorities u v) = ra_places u := rfl
theorem rq_places_places (u : RS) (v : Nat → Int32) : ra_places (rs_places u v) = v := rfl
theorem rq_places_rows (u : RS) (v : Nat → Int32) : ra_places (rs_rows u v) = ra_places u := rfl
theorem rq_places_line (u : RS) (v : Nat → Int32) : ra_places (rs_line u v) = ra_places u := rfl
theorem rq_places_lineLength (u : RS) (v : Int32) : ra_places (rs_lineLength u v) = ra_places u := rfl
theorem rq_places_extras (u : RS) (v : Nat → Int32) : ra_places (rs_extras u v) = ra_places u := rfl
theorem rq_places_posts (u : RS) (v : Nat → Int32) : ra_places (rs_posts u v) = ra_places u := rfl
theorem rq_places_postCount (u : RS) (v : Int32) : ra_places (rs_postCount u v) = ra_places u := rfl
theorem rq_places_active (u : RS) (v : Int32) : ra_places (rs_active u v) = ra_places u := rfl
theorem rq_places_here (u : RS) (v : Int32) : ra_places (rs_here u v) = ra_places u := rfl
theorem rq_places_wanted (u : RS) (v : Int32) : ra_places (rs_wanted u v) = ra_places u := rfl
theorem rq_places_wantedOne (u : RS) (v : Int32) : ra_places (rs_wantedOne u v) = ra_places u := rfl
theorem rq_rows_priorities (u : RS) (v : Nat → Int32) : ra_rows (rs_priorities u v) = ra_rows u := rfl
theorem rq_rows_places (u : RS) (v : Nat → Int32) : ra_rows (rs_places u v) = ra_rows u := rfl
theorem rq_rows_rows (u : RS) (v : Nat → Int32) : ra_rows (rs_rows u v) = v := rfl
theorem rq_rows_line (u : RS) (v : Nat → Int32) : ra_rows (rs_line u v) = ra_rows u := rfl
theorem rq_rows_lineLength (u : RS) (v : Int32) : ra_rows (rs_lineLength u v) = ra_rows u := rfl
theorem rq_rows_extras (u : RS) (v : Nat → Int32) : ra_rows (rs_extras u v) = ra_rows u := rfl
theorem rq_rows_posts (u : RS) (v : Nat → Int32) : ra_rows (rs_posts u v) = ra_rows u := rfl
theorem rq_rows_postCount (u : RS) (v : Int32) : ra_rows (rs_postCount u v) = ra_rows u := rfl
theorem rq_rows_active (u : RS) (v : Int32) : ra_rows (rs_active u v) = ra_rows u := rfl
theorem rq_rows_here (u : RS) (v : Int32) : ra_rows (rs_here u v) = ra_rows u := rfl
theorem rq_rows_wanted (u : RS) (v : Int32) : ra_rows (rs_wanted u v) = ra_rows u := rfl
theorem rq_rows_wantedOne (u : RS) (v : Int32) : ra_rows (rs_wantedOne u v) = ra_rows u := rfl
theorem rq_line_priorities (u : RS) (v : Nat → Int32) : ra_line (rs_priorities u v) = ra_line u := rfl
theorem rq_line_places (u : RS) (v : Nat → Int32) : ra_line (rs_places u v) = ra_line u := rfl
theorem rq_line_rows (u : RS) (v : Nat → Int32) : ra_line (rs_rows u v) = ra_line u := rfl
theorem rq_line_line (u : RS) (v : Nat → Int32) : ra_line (rs_line u v) = v := rfl
theorem rq_line_lineLength (u : RS) (v : Int32) : ra_line (rs_lineLength u v) = ra_line u := rfl
theorem rq_line_extras (u : RS) (v : Nat → Int32) : ra_line (rs_extras u v) = ra_line u := rfl
theorem rq_line_posts (u : RS) (v : Nat → Int32) : ra_line (rs_posts u v) = ra_line u := rfl
theorem rq_line_postCount (u : RS) (v : Int32) : ra_line (rs_postCount u v) = ra_line u := rfl
theorem rq_line_active (u : RS) (v : Int32) : ra_line (rs_active u v) = ra_line u := rfl
theorem rq_line_here (u : RS) (v : Int32) : ra_line (rs_here u v) = ra_line u := rfl
theorem rq_line_wanted (u : RS) (v : Int32) : ra_line (rs_wanted u v) = ra_line u := rfl
theorem rq_line_wantedOne (u : RS) (v : Int32) : ra_line (rs_wantedOne u v) = ra_line u := rfl
theorem rq_lineLength_priorities (u : RS) (v : Nat → Int32) : ra_lineLength (rs_priorities u v) = ra_lineLength u := rfl
theorem rq_lineLength_places (u : RS) (v : Nat → Int32) : ra_lineLength (rs_places u v) = ra_lineLength u := rfl
theorem rq_lineLength_rows (u : RS) (v : Nat → Int32) : ra_lineLength (rs_rows u v) = ra_lineLength u := rfl
theorem rq_lineLength_line (u : RS) (v : Nat → Int32) : ra_lineLength (rs_line u v) = ra_lineLength u := rfl
theorem rq_lineLength_lineLength (u : RS) (v : Int32) : ra_lineLength (rs_lineLength u v) = v := rfl
theorem rq_lineLength_extras (u : RS) (v : Nat → Int32) : ra_lineLength (rs_extras u v) = ra_lineLength u := rfl
theorem rq_lineLength_posts (u : RS) (v : Nat → Int32) : ra_lineLength (rs_posts u v) = ra_lineLength u := rfl
theorem rq_lineLength_postCount (u : RS) (v : Int32) : ra_lineLength (rs_postCount u v) = ra_lineLength u := rfl
theorem rq_lineLength_active (u : RS) (v : Int32) : ra_lineLength (rs_active u v) = ra_lineLength u := rfl
theorem rq_lineLength_here (u : RS) (v : Int32) : ra_lineLength (rs_here u v) = ra_lineLength u := rfl
theorem rq_lineLength_wanted (u : RS) (v : Int32) : ra_lineLength (rs_wanted u v) = ra_lineLength u := rfl
theorem rq_lineLength_wantedOne (u : RS) (v : Int32) : ra_lineLength (rs_wantedOne u v) = ra_lineLength u := rfl
theorem rq_extras_priorities (u : RS) (v : Nat → Int32) : ra_extras (rs_priorities u v) = ra_extras u := rfl
theorem rq_extras_places (u : RS) (v : Nat → Int32) : ra_extras (rs_places u v) = ra_extras u := rfl
theorem rq_extras_rows (u : RS) (v : Nat → Int32) : ra_extras (rs_rows u v) = ra_extras u := rfl
theorem rq_extras_line (u : RS) (v : Nat → Int32) : ra_extras (rs_line u v) = ra_extras u := rfl
theorem rq_extras_lineLength (u : RS) (v : Int32) : ra_extras (rs_lineLength u v) = ra_extras u := rfl
theorem rq_extras_extras (u : RS) (v : Nat → Int32) : ra_extras (rs_extras u v) = v := rfl
theorem rq_extras_posts (u : RS) (v : Nat → Int32) : ra_extras (rs_posts u v) = ra_extras u := rfl
theorem rq_extras_postCount (u : RS) (v : Int32) : ra_extras (rs_postCount u v) = ra_extras u := rfl
theorem rq_extras_active (u : RS) (v : Int32) : ra_extras (rs_active u v) = ra_extras u := rfl
theorem rq_extras_here (u : RS) (v : Int32) : ra_extras (rs_here u v) = ra_extras u := rfl
theorem rq_extras_wanted (u : RS) (v : Int32) : ra_extras (rs_wanted u v) = ra_extras u := rfl
theorem rq_extras_wantedOne (u : RS) (v : Int32) : ra_extras (rs_wantedOne u v) = ra_extras u := rfl
theorem rq_posts_priorities (u : RS) (v : Nat → Int32) : ra_posts (rs_priorities u v) = ra_posts u := rfl
theorem rq_posts_places (u : RS) (v : Nat → Int32) : ra_posts (rs_places u v) = ra_posts u := rfl
theorem rq_posts_rows (u : RS) (v : Nat → Int32) : ra_posts (rs_rows u v) = ra_posts u := rfl
theorem rq_posts_line (u : RS) (v : Nat → Int32) : ra_posts (rs_line u v) = ra_posts u := rfl
theorem rq_posts_lineLength (u : RS) (v : Int32) : ra_posts (rs_lineLength u v) = ra_posts u := rfl
theorem rq_posts_extras (u : RS) (v : Nat → Int32) : ra_posts (rs_extras u v) = ra_posts u := rfl
theorem rq_posts_posts (u : RS) (v : Nat → Int32) : ra_posts (rs_posts u v) = v := rfl
theorem rq_posts_postCount (u : RS) (v : Int32) : ra_posts (rs_postCount u v) = ra_posts u := rfl
theorem rq_posts_active (u : RS) (v : Int32) : ra_posts (rs_active u v) = ra_posts u := rfl
theorem rq_posts_here (u : RS) (v : Int32) : ra_posts (rs_here u v) = ra_posts u := rfl
theorem rq_posts_wanted (u : RS) (v : Int32) : ra_posts (rs_wanted u v) = ra_posts u := rfl
theorem rq_posts_wantedOne (u : RS) (v : Int32) : ra_posts (rs_wantedOne u v) = ra_posts u := rfl
theorem rq_postCount_priorities (u : RS) (v : Nat → Int32) : ra_postCount (rs_priorities u v) = ra_postCount u := rfl
theorem rq_postCount_places (u : RS) (v : Nat → Int32) : ra_postCount (rs_places u v) = ra_postCount u := rfl
theorem rq_postCount_rows (u : RS) (v : Nat → Int32) : ra_postCount (rs_rows u v) = ra_postCount u := rfl
theorem rq_postCount_line (u : RS) (v : Nat → Int32) : ra_postCount (rs_line u v) = ra_postCount u := rfl
theorem rq_postCount_lineLength (u : RS) (v : Int32) : ra_postCount (rs_lineLength u v) = ra_postCount u := rfl
theorem rq_postCount_extras (u : RS) (v : Nat → Int32) : ra_postCount (rs_extras u v) = ra_postCount u := rfl
theorem rq_postCount_posts (u : RS) (v : Nat → Int32) : ra_postCount (rs_posts u v) = ra_postCount u := rfl
theorem rq_postCount_postCount (u : RS) (v : Int32) : ra_postCount (rs_postCount u v) = v := rfl
theorem rq_postCount_active (u : RS) (v : Int32) : ra_postCount (rs_active u v) = ra_postCount u := rfl
theorem rq_postCount_here (u : RS) (v : Int32) : ra_postCount (rs_here u v) = ra_postCount u := rfl
theorem rq_postCount_wanted (u : RS) (v : Int32) : ra_postCount (rs_wanted u v) = ra_postCount u := rfl
theorem rq_postCount_wantedOne (u : RS) (v : Int32) : ra_postCount (rs_wantedOne u v) = ra_postCount u := rfl
theorem rq_active_priorities (u : RS) (v : Nat → Int32) : ra_active (rs_priorities u v) = ra_active u := rfl
theorem rq_active_places (u : RS) (v : Nat → Int32) : ra_active (rs_places u v) = ra_active u := rfl
theorem rq_active_rows (u : RS) (v : Nat → Int32) : ra_active (rs_rows u v) = ra_active u := rfl
theorem rq_active_line (u : RS) (v : Nat → Int32) : ra_active (rs_line u v) = ra_active u := rfl
theorem rq_active_lineLength (u : RS) (v : Int32) : ra_active (rs_lineLength u v) = ra_active u := rfl
theorem rq_active_extras (u : RS) (v : Nat → Int32) : ra_active (rs_extras u v) = ra_active u := rfl
theorem rq_active_posts (u : RS) (v : Nat → Int32) : ra_active (rs_posts u v) = ra_active u := rfl
theorem rq_active_postCount (u : RS) (v : Int32) : ra_active (rs_postCount u v) = ra_active u := rfl
theorem rq_active_active (u : RS) (v : Int32) : ra_active (rs_active u v) = v := rfl
theorem rq_active_here (u : RS) (v : Int32) : ra_active (rs_here u v) = ra_active u := rfl
theorem rq_active_wanted (u : RS) (v : Int32) : ra_active (rs_wanted u v) = ra_active u := rfl
theorem rq_active_wantedOne (u : RS) (v : Int32) : ra_active (rs_wantedOne u v) = ra_active u := rfl
theorem rq_here_priorities (u : RS) (v : Nat → Int32) : ra_here (rs_priorities u v) = ra_here u := rfl
theorem rq_here_places (u : RS) (v : Nat → Int32) : ra_here (rs_places u v) = ra_here u := rfl
theorem rq_here_rows (u : RS) (v : Nat → Int32) : ra_here (rs_rows u v) = ra_here u := rfl
theorem rq_here_line (u : RS) (v : Nat → Int32) : ra_here (rs_line u v) = ra_here u := rfl
theorem rq_here_lineLength (u : RS) (v : Int32) : ra_here (rs_lineLength u v) = ra_here u := rfl
theorem rq_here_extras (u : RS) (v : Nat → Int32) : ra_here (rs_extras u v) = ra_here u := rfl
theorem rq_here_posts (u : RS) (v : Nat → Int32) : ra_here (rs_posts u v) = ra_here u := rfl
theorem rq_here_postCount (u : RS) (v : Int32) : ra_here (rs_postCount u v) = ra_here u := rfl
theorem rq_here_active (u : RS) (v : Int32) : ra_here (rs_active u v) = ra_here u := rfl
theorem rq_here_here (u : RS) (v : Int32) : ra_here (rs_here u v) = v := rfl
theorem rq_here_wanted (u : RS) (v : Int32) : ra_here (rs_wanted u v) = ra_here u := rfl
theorem rq_here_wantedOne (u : RS) (v : Int32) : ra_here (rs_wantedOne u v) = ra_here u := rfl
theorem rq_wanted_priorities (u : RS) (v : Nat → Int32) : ra_wanted (rs_priorities u v) = ra_wanted u := rfl
theorem rq_wanted_places (u : RS) (v : Nat → Int32) : ra_wanted (rs_places u v) = ra_wanted u := rfl
theorem rq_wanted_rows (u : RS) (v : Nat → Int32) : ra_wanted (rs_rows u v) = ra_wanted u := rfl
theorem rq_wanted_line (u : RS) (v : Nat → Int32) : ra_wanted (rs_line u v) = ra_wanted u := rfl
theorem rq_wanted_lineLength (u : RS) (v : Int32) : ra_wanted (rs_lineLength u v) = ra_wanted u := rfl
theorem rq_wanted_extras (u : RS) (v : Nat → Int32) : ra_wanted (rs_extras u v) = ra_wanted u := rfl
theorem rq_wanted_posts (u : RS) (v : Nat → Int32) : ra_wanted (rs_posts u v) = ra_wanted u := rfl
theorem rq_wanted_postCount (u : RS) (v : Int32) : ra_wanted (rs_postCount u v) = ra_wanted u := rfl
theorem rq_wanted_active (u : RS) (v : Int32) : ra_wanted (rs_active u v) = ra_wanted u := rfl
theorem rq_wanted_here (u : RS) (v : Int32) : ra_wanted (rs_here u v) = ra_wanted u := rfl
theorem rq_wanted_wanted (u : RS) (v : Int32) : ra_wanted (rs_wanted u v) = v := rfl
theorem rq_wanted_wantedOne (u : RS) (v : Int32) : ra_wanted (rs_wantedOne u v) = ra_wanted u := rfl
theorem rq_wantedOne_priorities (u : RS) (v : Nat → Int32) : ra_wantedOne (rs_priorities u v) = ra_wantedOne u := rfl
theorem rq_wantedOne_places (u : RS) (v : Nat → Int32) : ra_wantedOne (rs_places u v) = ra_wantedOne u := rfl
theorem rq_wantedOne_rows (u : RS) (v : Nat → Int32) : ra_wantedOne (rs_rows u v) = ra_wantedOne u := rfl
theorem rq_wantedOne_line (u : RS) (v : Nat → Int32) : ra_wantedOne (rs_line u v) = ra_wantedOne u := rfl
theorem rq_wantedOne_lineLength (u : RS) (v : Int32) : ra_wantedOne (rs_lineLength u v) = ra_wantedOne u := rfl
theorem rq_wantedOne_extras (u : RS) (v : Nat → Int32) : ra_wantedOne (rs_extras u v) = ra_wantedOne u := rfl
theorem rq_wantedOne_posts (u : RS) (v : Nat → Int32) : ra_wantedOne (rs_posts u v) = ra_wantedOne u := rfl
theorem rq_wantedOne_postCount (u : RS) (v : Int32) : ra_wantedOne (rs_postCount u v) = ra_wantedOne u := rfl
theorem rq_wantedOne_active (u : RS) (v : Int32) : ra_wantedOne (rs_active u v) = ra_wantedOne u := rfl
theorem rq_wantedOne_here (u : RS) (v : Int32) : ra_wantedOne (rs_here u v) = ra_wantedOne u := rfl
theorem rq_wantedOne_wanted (u : RS) (v : Int32) : ra_wantedOne (rs_wanted u v) = ra_wantedOne u := rfl
theorem rq_wantedOne_wantedOne (u : RS) (v : Int32) : ra_wantedOne (rs_wantedOne u v) = v := rfl
def rF (ad : Nat → Nat) (u : RS) : List Value := [.ref (ad 1), .ref (ad 2), .ref (ad 3), .ref (ad 4), .int (ra_lineLength u), .ref (ad 5), .ref (ad 6), .int (ra_postCount u), .int (ra_active u), .int (ra_here u), .int (ra_wanted u), .int (ra_wantedOne u)]
def rW (ad : Nat → Nat) (cA : Nat → ClassId) (u : RS) : va_W := [(ad 0, .inr (0, rF ad u)), (ad 1, .inl (cA 1, 32, .inl (ra_priorities u))), (ad 2, .inl (cA 2, 32, .inl (ra_places u))), (ad 3, .inl (cA 3, 32, .inl (ra_rows u))), (ad 4, .inl (cA 4, 32, .inl (ra_line u))), (ad 5, .inl (cA 5, 16, .inl (ra_extras u))), (ad 6, .inl (cA 6, 40, .inl (ra_posts u)))]
theorem rw_priorities (ad : Nat → Nat) (cA : Nat → ClassId) (u : RS) (f : Nat → Int32) : (rW ad cA u).set 1 (ad 1, .inl (cA 1, 32, .inl f)) = rW ad cA (rs_priorities u f) := rfl
theorem rw_places (ad : Nat → Nat) (cA : Nat → ClassId) (u : RS) (f : Nat → Int32) : (rW ad cA u).set 2 (ad 2, .inl (cA 2, 32, .inl f)) = rW ad cA (rs_places u f) := rfl
theorem rw_rows (ad : Nat → Nat) (cA : Nat → ClassId) (u : RS) (f : Nat → Int32) : (rW ad cA u).set 3 (ad 3, .inl (cA 3, 32, .inl f)) = rW ad cA (rs_rows u f) := rfl
theorem rw_line (ad : Nat → Nat) (cA : Nat → ClassId) (u : RS) (f : Nat → Int32) : (rW ad cA u).set 4 (ad 4, .inl (cA 4, 32, .inl f)) = rW ad cA (rs_line u f) := rfl
theorem rw_lineLength (ad : Nat → Nat) (cA : Nat → ClassId) (u : RS) (v : Int32) : (rW ad cA u).set 0 (ad 0, .inr (0, (rF ad u).set 4 (.int v))) = rW ad cA (rs_lineLength u v) := rfl
theorem rw_extras (ad : Nat → Nat) (cA : Nat → ClassId) (u : RS) (f : Nat → Int32) : (rW ad cA u).set 5 (ad 5, .inl (cA 5, 16, .inl f)) = rW ad cA (rs_extras u f) := rfl
theorem rw_posts (ad : Nat → Nat) (cA : Nat → ClassId) (u : RS) (f : Nat → Int32) : (rW ad cA u).set 6 (ad 6, .inl (cA 6, 40, .inl f)) = rW ad cA (rs_posts u f) := rfl
theorem rw_postCount (ad : Nat → Nat) (cA : Nat → ClassId) (u : RS) (v : Int32) : (rW ad cA u).set 0 (ad 0, .inr (0, (rF ad u).set 7 (.int v))) = rW ad cA (rs_postCount u v) := rfl
theorem rw_active (ad : Nat → Nat) (cA : Nat → ClassId) (u : RS) (v : Int32) : (rW ad cA u).set 0 (ad 0, .inr (0, (rF ad u).set 8 (.int v))) = rW ad cA (rs_active u v) := rfl
theorem rw_here (ad : Nat → Nat) (cA : Nat → ClassId) (u : RS) (v : Int32) : (rW ad cA u).set 0 (ad 0, .inr (0, (rF ad u).set 9 (.int v))) = rW ad cA (rs_here u v) := rfl
theorem rw_wanted (ad : Nat → Nat) (cA : Nat → ClassId) (u : RS) (v : Int32) : (rW ad cA u).set 0 (ad 0, .inr (0, (rF ad u).set 10 (.int v))) = rW ad cA (rs_wanted u v) := rfl
theorem rw_wantedOne (ad : Nat → Nat) (cA : Nat → ClassId) (u : RS) (v : Int32) : (rW ad cA u).set 0 (ad 0, .inr (0, (rF ad u).set 11 (.int v))) = rW ad cA (rs_wantedOne u v) := rfl
def rT (cA : Nat → ClassId) : List (ClassId × FieldType) := [(cA 1, .int), (cA 2, .int), (cA 3, .int), (cA 4, .int), (cA 5, .int), (cA 6, .int)]
def rAt (dC : Nat → ClassId) (dI : Nat → Nat → Nat) (A : Nat → Prop) (ad : Nat → Nat) (cA : Nat → ClassId) (u : RS) (t : State) : Prop := va_P (dC, dI) vwCl (rW ad cA u) t.heap ∧ va_K (dC, dI) vwCl (rT cA) t ∧ va_D A (rW ad cA u)
