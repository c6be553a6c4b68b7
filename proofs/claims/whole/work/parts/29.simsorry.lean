theorem ss_make {t : Nat} {u : RS} {v : MS} (h : sSim t u v) (ht : t < 100000) (p1 : Int32) (p2 : Int32) (p3 : Int32) : (rf_make u p1 p2 p3).1 = (mf_make v p1 p2 p3).1 ∧ sSim (t + 64) (rf_make u p1 p2 p3).2 (mf_make v p1 p2 p3).2 := sorry
theorem ss_resume {t : Nat} {u : RS} {v : MS} (h : sSim t u v) (ht : t < 100000) (p1 : Int32) : (rf_resume u p1).1 = (mf_resume v p1).1 ∧ sSim (t + 64) (rf_resume u p1).2 (mf_resume v p1).2 := sorry
theorem ss_suspend {t : Nat} {u : RS} {v : MS} (h : sSim t u v) (ht : t < 100000) : (rf_suspend u).1 = (mf_suspend v).1 ∧ sSim (t + 64) (rf_suspend u).2 (mf_suspend v).2 := sorry
theorem ss_end {t : Nat} {u : RS} {v : MS} (h : sSim t u v) (ht : t < 100000) : (rf_end u).1 = (mf_end v).1 ∧ sSim (t + 64) (rf_end u).2 (mf_end v).2 := sorry
theorem ss_await {t : Nat} {u : RS} {v : MS} (h : sSim t u v) (ht : t < 100000) (p1 : Int32) : (rf_await u p1).1 = (mf_await v p1).1 ∧ sSim (t + 64) (rf_await u p1).2 (mf_await v p1).2 := sorry
theorem ss_signal {t : Nat} {u : RS} {v : MS} (h : sSim t u v) (ht : t < 100000) (p1 : Int32) : (rf_signal u p1).1 = (mf_signal v p1).1 ∧ sSim (t + 64) (rf_signal u p1).2 (mf_signal v p1).2 := sorry
theorem ss_post {t : Nat} {u : RS} {v : MS} (h : sSim t u v) (ht : t < 100000) (p1 : Int32) : (rf_post u p1).1 = (mf_post v p1).1 ∧ sSim (t + 64) (rf_post u p1).2 (mf_post v p1).2 := sorry
theorem ss_step {t : Nat} {u : RS} {v : MS} (h : sSim t u v) (ht : t < 100000) : (rf_step u).1 = (mf_step v).1 ∧ sSim (t + 64) (rf_step u).2 (mf_step v).2 := sorry
theorem ss_work {t : Nat} {u : RS} {v : MS} (h : sSim t u v) (ht : t < 100000) (p1 : Int32) : (rf_work u p1).1 = (mf_work v p1).1 ∧ sSim (t + 64) (rf_work u p1).2 (mf_work v p1).2 := sorry
theorem ss_take {t : Nat} {u : RS} {v : MS} (h : sSim t u v) (ht : t < 100000) (p1 : Int32) : (rf_take u p1).1 = (mf_take v p1).1 ∧ sSim (t + 64) (rf_take u p1).2 (mf_take v p1).2 := sorry
theorem ss_rate {t : Nat} {u : RS} {v : MS} (h : sSim t u v) (ht : t < 100000) (p1 : Int32) (p2 : Int32) : (rf_rate u p1 p2).1 = (mf_rate v p1 p2).1 ∧ sSim (t + 64) (rf_rate u p1 p2).2 (mf_rate v p1 p2).2 := sorry
theorem ss_yield {t : Nat} {u : RS} {v : MS} (h : sSim t u v) (ht : t < 100000) : (rf_yield u).1 = (mf_yield v).1 ∧ sSim (t + 64) (rf_yield u).2 (mf_yield v).2 := sorry
theorem ss_active {t : Nat} {u : RS} {v : MS} (h : sSim t u v) (ht : t < 100000) : rf_active u = mf_active v := sorry
theorem ss_present {t : Nat} {u : RS} {v : MS} (h : sSim t u v) (ht : t < 100000) : rf_present u = mf_present v := sorry
theorem ss_wanted {t : Nat} {u : RS} {v : MS} (h : sSim t u v) (ht : t < 100000) : rf_wanted u = mf_wanted v := sorry
theorem ss_here {t : Nat} {u : RS} {v : MS} (h : sSim t u v) (ht : t < 100000) : rf_here u = mf_here v := sorry
theorem ss_place {t : Nat} {u : RS} {v : MS} (h : sSim t u v) (ht : t < 100000) (p1 : Int32) : rf_place u p1 = mf_place v p1 := sorry
theorem ss_priority {t : Nat} {u : RS} {v : MS} (h : sSim t u v) (ht : t < 100000) (p1 : Int32) : rf_priority u p1 = mf_priority v p1 := sorry
theorem ss_row {t : Nat} {u : RS} {v : MS} (h : sSim t u v) (ht : t < 100000) (p1 : Int32) : rf_row u p1 = mf_row v p1 := sorry
theorem ss_at {t : Nat} {u : RS} {v : MS} (h : sSim t u v) (ht : t < 100000) (p1 : Int32) (p2 : Int32) : rf_at u p1 p2 = mf_at v p1 p2 := sorry
theorem ss_extra {t : Nat} {u : RS} {v : MS} (h : sSim t u v) (ht : t < 100000) (p1 : Int32) : rf_extra u p1 = mf_extra v p1 := sorry
theorem ss_posted {t : Nat} {u : RS} {v : MS} (h : sSim t u v) (ht : t < 100000) (p1 : Int32) : rf_posted u p1 = mf_posted v p1 := sorry
