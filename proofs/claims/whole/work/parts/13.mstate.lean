abbrev MS : Type := (Nat → Int32) × (Nat → Int32) × (Nat → Int32) × (Nat → Int32) × (Nat → Int64) × Int64 × (Nat → Int32) × Int32 × (Nat → Int32) × Int32 × Int32 × Int32 × Int32
def ma_made (u : MS) : Nat → Int32 := u.1
def ma_priorities (u : MS) : Nat → Int32 := u.2.1
def ma_places (u : MS) : Nat → Int32 := u.2.2.1
def ma_rows (u : MS) : Nat → Int32 := u.2.2.2.1
def ma_when (u : MS) : Nat → Int64 := u.2.2.2.2.1
def ma_now (u : MS) : Int64 := u.2.2.2.2.2.1
def ma_extras (u : MS) : Nat → Int32 := u.2.2.2.2.2.2.1
def ma_posts (u : MS) : Int32 := u.2.2.2.2.2.2.2.1
def ma_posted (u : MS) : Nat → Int32 := u.2.2.2.2.2.2.2.2.1
def ma_active (u : MS) : Int32 := u.2.2.2.2.2.2.2.2.2.1
def ma_here (u : MS) : Int32 := u.2.2.2.2.2.2.2.2.2.2.1
def ma_wanted (u : MS) : Int32 := u.2.2.2.2.2.2.2.2.2.2.2.1
def ma_change (u : MS) : Int32 := u.2.2.2.2.2.2.2.2.2.2.2.2
def ms_made (u : MS) (v : Nat → Int32) : MS := (v, ma_priorities u, ma_places u, ma_rows u, ma_when u, ma_now u, ma_extras u, ma_posts u, ma_posted u, ma_active u, ma_here u, ma_wanted u, ma_change u)
def ms_priorities (u : MS) (v : Nat → Int32) : MS := (ma_made u, v, ma_places u, ma_rows u, ma_when u, ma_now u, ma_extras u, ma_posts u, ma_posted u, ma_active u, ma_here u, ma_wanted u, ma_change u)
def ms_places (u : MS) (v : Nat → Int32) : MS := (ma_made u, ma_priorities u, v, ma_rows u, ma_when u, ma_now u, ma_extras u, ma_posts u, ma_posted u, ma_active u, ma_here u, ma_wanted u, ma_change u)
def ms_rows (u : MS) (v : Nat → Int32) : MS := (ma_made u, ma_priorities u, ma_places u, v, ma_when u, ma_now u, ma_extras u, ma_posts u, ma_posted u, ma_active u, ma_here u, ma_wanted u, ma_change u)
def ms_when (u : MS) (v : Nat → Int64) : MS := (ma_made u, ma_priorities u, ma_places u, ma_rows u, v, ma_now u, ma_extras u, ma_posts u, ma_posted u, ma_active u, ma_here u, ma_wanted u, ma_change u)
def ms_now (u : MS) (v : Int64) : MS := (ma_made u, ma_priorities u, ma_places u, ma_rows u, ma_when u, v, ma_extras u, ma_posts u, ma_posted u, ma_active u, ma_here u, ma_wanted u, ma_change u)
def ms_extras (u : MS) (v : Nat → Int32) : MS := (ma_made u, ma_priorities u, ma_places u, ma_rows u, ma_when u, ma_now u, v, ma_posts u, ma_posted u, ma_active u, ma_here u, ma_wanted u, ma_change u)
def ms_posts (u : MS) (v : Int32) : MS := (ma_made u, ma_priorities u, ma_places u, ma_rows u, ma_when u, ma_now u, ma_extras u, v, ma_posted u, ma_active u, ma_here u, ma_wanted u, ma_change u)
def ms_posted (u : MS) (v : Nat → Int32) : MS := (ma_made u, ma_priorities u, ma_places u, ma_rows u, ma_when u, ma_now u, ma_extras u, ma_posts u, v, ma_active u, ma_here u, ma_wanted u, ma_change u)
def ms_active (u : MS) (v : Int32) : MS := (ma_made u, ma_priorities u, ma_places u, ma_rows u, ma_when u, ma_now u, ma_extras u, ma_posts u, ma_posted u, v, ma_here u, ma_wanted u, ma_change u)
def ms_here (u : MS) (v : Int32) : MS := (ma_made u, ma_priorities u, ma_places u, ma_rows u, ma_when u, ma_now u, ma_extras u, ma_posts u, ma_posted u, ma_active u, v, ma_wanted u, ma_change u)
def ms_wanted (u : MS) (v : Int32) : MS := (ma_made u, ma_priorities u, ma_places u, ma_rows u, ma_when u, ma_now u, ma_extras u, ma_posts u, ma_posted u, ma_active u, ma_here u, v, ma_change u)
def ms_change (u : MS) (v : Int32) : MS := (ma_made u, ma_priorities u, ma_places u, ma_rows u, ma_when u, ma_now u, ma_extras u, ma_posts u, ma_posted u, ma_active u, ma_here u, ma_wanted u, v)
theorem mq_made_made (u : MS) (v : Nat → Int32) : ma_made (ms_made u v) = v := rfl
theorem mq_made_priorities (u : MS) (v : Nat → Int32) : ma_made (ms_priorities u v) = ma_made u := rfl
theorem mq_made_places (u : MS) (v : Nat → Int32) : ma_made (ms_places u v) = ma_made u := rfl
theorem mq_made_rows (u : MS) (v : Nat → Int32) : ma_made (ms_rows u v) = ma_made u := rfl
theorem mq_made_when (u : MS) (v : Nat → Int64) : ma_made (ms_when u v) = ma_made u := rfl
theorem mq_made_now (u : MS) (v : Int64) : ma_made (ms_now u v) = ma_made u := rfl
theorem mq_made_extras (u : MS) (v : Nat → Int32) : ma_made (ms_extras u v) = ma_made u := rfl
theorem mq_made_posts (u : MS) (v : Int32) : ma_made (ms_posts u v) = ma_made u := rfl
theorem mq_made_posted (u : MS) (v : Nat → Int32) : ma_made (ms_posted u v) = ma_made u := rfl
theorem mq_made_active (u : MS) (v : Int32) : ma_made (ms_active u v) = ma_made u := rfl
theorem mq_made_here (u : MS) (v : Int32) : ma_made (ms_here u v) = ma_made u := rfl
theorem mq_made_wanted (u : MS) (v : Int32) : ma_made (ms_wanted u v) = ma_made u := rfl
theorem mq_made_change (u : MS) (v : Int32) : ma_made (ms_change u v) = ma_made u := rfl
theorem mq_priorities_made (u : MS) (v : Nat → Int32) : ma_priorities (ms_made u v) = ma_priorities u := rfl
theorem mq_priorities_priorities (u : MS) (v : Nat → Int32) : ma_priorities (ms_priorities u v) = v := rfl
theorem mq_priorities_places (u : MS) (v : Nat → Int32) : ma_priorities (ms_places u v) = ma_priorities u := rfl
theorem mq_priorities_rows (u : MS) (v : Nat → Int32) : ma_priorities (ms_rows u v) = ma_priorities u := rfl
theorem mq_priorities_when (u : MS) (v : Nat → Int64) : ma_priorities (ms_when u v) = ma_priorities u := rfl
theorem mq_priorities_now (u : MS) (v : Int64) : ma_priorities (ms_now u v) = ma_priorities u := rfl
theorem mq_priorities_extras (u : MS) (v : Nat → Int32) : ma_priorities (ms_extras u v) = ma_priorities u := rfl
theorem mq_priorities_posts (u : MS) (v : Int32) : ma_priorities (ms_posts u v) = ma_priorities u := rfl
theorem mq_priorities_posted (u : MS) (v : Nat → Int32) : ma_priorities (ms_posted u v) = ma_priorities u := rfl
theorem mq_priorities_active (u : MS) (v : Int32) : ma_priorities (ms_active u v) = ma_priorities u := rfl
theorem mq_priorities_here (u : MS) (v : Int32) : ma_priorities (ms_here u v) = ma_priorities u := rfl
theorem mq_priorities_wanted (u : MS) (v : Int32) : ma_priorities (ms_wanted u v) = ma_priorities u := rfl
theorem mq_priorities_change (u : MS) (v : Int32) : ma_priorities (ms_change u v) = ma_priorities u := rfl
theorem mq_places_made (u : MS) (v : Nat → Int32) : ma_places (ms_made u v) = ma_places u := rfl
theorem mq_places_priorities (u : MS) (v : Nat → Int32) : ma_places (ms_priorities u v) = ma_places u := rfl
theorem mq_places_places (u : MS) (v : Nat → Int32) : ma_places (ms_places u v) = v := rfl
theorem mq_places_rows (u : MS) (v : Nat → Int32) : ma_places (ms_rows u v) = ma_places u := rfl
theorem mq_places_when (u : MS) (v : Nat → Int64) : ma_places (ms_when u v) = ma_places u := rfl
theorem mq_places_now (u : MS) (v : Int64) : ma_places (ms_now u v) = ma_places u := rfl
theorem mq_places_extras (u : MS) (v : Nat → Int32) : ma_places (ms_extras u v) = ma_places u := rfl
theorem mq_places_posts (u : MS) (v : Int32) : ma_places (ms_posts u v) = ma_places u := rfl
theorem mq_places_posted (u : MS) (v : Nat → Int32) : ma_places (ms_posted u v) = ma_places u := rfl
theorem mq_places_active (u : MS) (v : Int32) : ma_places (ms_active u v) = ma_places u := rfl
theorem mq_places_here (u : MS) (v : Int32) : ma_places (ms_here u v) = ma_places u := rfl
theorem mq_places_wanted (u : MS) (v : Int32) : ma_places (ms_wanted u v) = ma_places u := rfl
theorem mq_places_change (u : MS) (v : Int32) : ma_places (ms_change u v) = ma_places u := rfl
theorem mq_rows_made (u : MS) (v : Nat → Int32) : ma_rows (ms_made u v) = ma_rows u := rfl
theorem mq_rows_priorities (u : MS) (v : Nat → Int32) : ma_rows (ms_priorities u v) = ma_rows u := rfl
theorem mq_rows_places (u : MS) (v : Nat → Int32) : ma_rows (ms_places u v) = ma_rows u := rfl
theorem mq_rows_rows (u : MS) (v : Nat → Int32) : ma_rows (ms_rows u v) = v := rfl
theorem mq_rows_when (u : MS) (v : Nat → Int64) : ma_rows (ms_when u v) = ma_rows u := rfl
theorem mq_rows_now (u : MS) (v : Int64) : ma_rows (ms_now u v) = ma_rows u := rfl
theorem mq_rows_extras (u : MS) (v : Nat → Int32) : ma_rows (ms_extras u v) = ma_rows u := rfl
theorem mq_rows_posts (u : MS) (v : Int32) : ma_rows (ms_posts u v) = ma_rows u := rfl
theorem mq_rows_posted (u : MS) (v : Nat → Int32) : ma_rows (ms_posted u v) = ma_rows u := rfl
theorem mq_rows_active (u : MS) (v : Int32) : ma_rows (ms_active u v) = ma_rows u := rfl
theorem mq_rows_here (u : MS) (v : Int32) : ma_rows (ms_here u v) = ma_rows u := rfl
theorem mq_rows_wanted (u : MS) (v : Int32) : ma_rows (ms_wanted u v) = ma_rows u := rfl
theorem mq_rows_change (u : MS) (v : Int32) : ma_rows (ms_change u v) = ma_rows u := rfl
theorem mq_when_made (u : MS) (v : Nat → Int32) : ma_when (ms_made u v) = ma_when u := rfl
theorem mq_when_priorities (u : MS) (v : Nat → Int32) : ma_when (ms_priorities u v) = ma_when u := rfl
theorem mq_when_places (u : MS) (v : Nat → Int32) : ma_when (ms_places u v) = ma_when u := rfl
theorem mq_when_rows (u : MS) (v : Nat → Int32) : ma_when (ms_rows u v) = ma_when u := rfl
theorem mq_when_when (u : MS) (v : Nat → Int64) : ma_when (ms_when u v) = v := rfl
theorem mq_when_now (u : MS) (v : Int64) : ma_when (ms_now u v) = ma_when u := rfl
theorem mq_when_extras (u : MS) (v : Nat → Int32) : ma_when (ms_extras u v) = ma_when u := rfl
theorem mq_when_posts (u : MS) (v : Int32) : ma_when (ms_posts u v) = ma_when u := rfl
theorem mq_when_posted (u : MS) (v : Nat → Int32) : ma_when (ms_posted u v) = ma_when u := rfl
theorem mq_when_active (u : MS) (v : Int32) : ma_when (ms_active u v) = ma_when u := rfl
theorem mq_when_here (u : MS) (v : Int32) : ma_when (ms_here u v) = ma_when u := rfl
theorem mq_when_wanted (u : MS) (v : Int32) : ma_when (ms_wanted u v) = ma_when u := rfl
theorem mq_when_change (u : MS) (v : Int32) : ma_when (ms_change u v) = ma_when u := rfl
theorem mq_now_made (u : MS) (v : Nat → Int32) : ma_now (ms_made u v) = ma_now u := rfl
theorem mq_now_priorities (u : MS) (v : Nat → Int32) : ma_now (ms_priorities u v) = ma_now u := rfl
theorem mq_now_places (u : MS) (v : Nat → Int32) : ma_now (ms_places u v) = ma_now u := rfl
theorem mq_now_rows (u : MS) (v : Nat → Int32) : ma_now (ms_rows u v) = ma_now u := rfl
theorem mq_now_when (u : MS) (v : Nat → Int64) : ma_now (ms_when u v) = ma_now u := rfl
theorem mq_now_now (u : MS) (v : Int64) : ma_now (ms_now u v) = v := rfl
theorem mq_now_extras (u : MS) (v : Nat → Int32) : ma_now (ms_extras u v) = ma_now u := rfl
theorem mq_now_posts (u : MS) (v : Int32) : ma_now (ms_posts u v) = ma_now u := rfl
theorem mq_now_posted (u : MS) (v : Nat → Int32) : ma_now (ms_posted u v) = ma_now u := rfl
theorem mq_now_active (u : MS) (v : Int32) : ma_now (ms_active u v) = ma_now u := rfl
theorem mq_now_here (u : MS) (v : Int32) : ma_now (ms_here u v) = ma_now u := rfl
theorem mq_now_wanted (u : MS) (v : Int32) : ma_now (ms_wanted u v) = ma_now u := rfl
theorem mq_now_change (u : MS) (v : Int32) : ma_now (ms_change u v) = ma_now u := rfl
theorem mq_extras_made (u : MS) (v : Nat → Int32) : ma_extras (ms_made u v) = ma_extras u := rfl
theorem mq_extras_priorities (u : MS) (v : Nat → Int32) : ma_extras (ms_priorities u v) = ma_extras u := rfl
theorem mq_extras_places (u : MS) (v : Nat → Int32) : ma_extras (ms_places u v) = ma_extras u := rfl
theorem mq_extras_rows (u : MS) (v : Nat → Int32) : ma_extras (ms_rows u v) = ma_extras u := rfl
theorem mq_extras_when (u : MS) (v : Nat → Int64) : ma_extras (ms_when u v) = ma_extras u := rfl
theorem mq_extras_now (u : MS) (v : Int64) : ma_extras (ms_now u v) = ma_extras u := rfl
theorem mq_extras_extras (u : MS) (v : Nat → Int32) : ma_extras (ms_extras u v) = v := rfl
theorem mq_extras_posts (u : MS) (v : Int32) : ma_extras (ms_posts u v) = ma_extras u := rfl
theorem mq_extras_posted (u : MS) (v : Nat → Int32) : ma_extras (ms_posted u v) = ma_extras u := rfl
theorem mq_extras_active (u : MS) (v : Int32) : ma_extras (ms_active u v) = ma_extras u := rfl
theorem mq_extras_here (u : MS) (v : Int32) : ma_extras (ms_here u v) = ma_extras u := rfl
theorem mq_extras_wanted (u : MS) (v : Int32) : ma_extras (ms_wanted u v) = ma_extras u := rfl
theorem mq_extras_change (u : MS) (v : Int32) : ma_extras (ms_change u v) = ma_extras u := rfl
theorem mq_posts_made (u : MS) (v : Nat → Int32) : ma_posts (ms_made u v) = ma_posts u := rfl
theorem mq_posts_priorities (u : MS) (v : Nat → Int32) : ma_posts (ms_priorities u v) = ma_posts u := rfl
theorem mq_posts_places (u : MS) (v : Nat → Int32) : ma_posts (ms_places u v) = ma_posts u := rfl
theorem mq_posts_rows (u : MS) (v : Nat → Int32) : ma_posts (ms_rows u v) = ma_posts u := rfl
theorem mq_posts_when (u : MS) (v : Nat → Int64) : ma_posts (ms_when u v) = ma_posts u := rfl
theorem mq_posts_now (u : MS) (v : Int64) : ma_posts (ms_now u v) = ma_posts u := rfl
theorem mq_posts_extras (u : MS) (v : Nat → Int32) : ma_posts (ms_extras u v) = ma_posts u := rfl
theorem mq_posts_posts (u : MS) (v : Int32) : ma_posts (ms_posts u v) = v := rfl
theorem mq_posts_posted (u : MS) (v : Nat → Int32) : ma_posts (ms_posted u v) = ma_posts u := rfl
theorem mq_posts_active (u : MS) (v : Int32) : ma_posts (ms_active u v) = ma_posts u := rfl
theorem mq_posts_here (u : MS) (v : Int32) : ma_posts (ms_here u v) = ma_posts u := rfl
theorem mq_posts_wanted (u : MS) (v : Int32) : ma_posts (ms_wanted u v) = ma_posts u := rfl
theorem mq_posts_change (u : MS) (v : Int32) : ma_posts (ms_change u v) = ma_posts u := rfl
theorem mq_posted_made (u : MS) (v : Nat → Int32) : ma_posted (ms_made u v) = ma_posted u := rfl
theorem mq_posted_priorities (u : MS) (v : Nat → Int32) : ma_posted (ms_priorities u v) = ma_posted u := rfl
theorem mq_posted_places (u : MS) (v : Nat → Int32) : ma_posted (ms_places u v) = ma_posted u := rfl
theorem mq_posted_rows (u : MS) (v : Nat → Int32) : ma_posted (ms_rows u v) = ma_posted u := rfl
theorem mq_posted_when (u : MS) (v : Nat → Int64) : ma_posted (ms_when u v) = ma_posted u := rfl
theorem mq_posted_now (u : MS) (v : Int64) : ma_posted (ms_now u v) = ma_posted u := rfl
theorem mq_posted_extras (u : MS) (v : Nat → Int32) : ma_posted (ms_extras u v) = ma_posted u := rfl
theorem mq_posted_posts (u : MS) (v : Int32) : ma_posted (ms_posts u v) = ma_posted u := rfl
theorem mq_posted_posted (u : MS) (v : Nat → Int32) : ma_posted (ms_posted u v) = v := rfl
theorem mq_posted_active (u : MS) (v : Int32) : ma_posted (ms_active u v) = ma_posted u := rfl
theorem mq_posted_here (u : MS) (v : Int32) : ma_posted (ms_here u v) = ma_posted u := rfl
theorem mq_posted_wanted (u : MS) (v : Int32) : ma_posted (ms_wanted u v) = ma_posted u := rfl
theorem mq_posted_change (u : MS) (v : Int32) : ma_posted (ms_change u v) = ma_posted u := rfl
theorem mq_active_made (u : MS) (v : Nat → Int32) : ma_active (ms_made u v) = ma_active u := rfl
theorem mq_active_priorities (u : MS) (v : Nat → Int32) : ma_active (ms_priorities u v) = ma_active u := rfl
theorem mq_active_places (u : MS) (v : Nat → Int32) : ma_active (ms_places u v) = ma_active u := rfl
theorem mq_active_rows (u : MS) (v : Nat → Int32) : ma_active (ms_rows u v) = ma_active u := rfl
theorem mq_active_when (u : MS) (v : Nat → Int64) : ma_active (ms_when u v) = ma_active u := rfl
theorem mq_active_now (u : MS) (v : Int64) : ma_active (ms_now u v) = ma_active u := rfl
theorem mq_active_extras (u : MS) (v : Nat → Int32) : ma_active (ms_extras u v) = ma_active u := rfl
theorem mq_active_posts (u : MS) (v : Int32) : ma_active (ms_posts u v) = ma_active u := rfl
theorem mq_active_posted (u : MS) (v : Nat → Int32) : ma_active (ms_posted u v) = ma_active u := rfl
theorem mq_active_active (u : MS) (v : Int32) : ma_active (ms_active u v) = v := rfl
theorem mq_active_here (u : MS) (v : Int32) : ma_active (ms_here u v) = ma_active u := rfl
theorem mq_active_wanted (u : MS) (v : Int32) : ma_active (ms_wanted u v) = ma_active u := rfl
theorem mq_active_change (u : MS) (v : Int32) : ma_active (ms_change u v) = ma_active u := rfl
theorem mq_here_made (u : MS) (v : Nat → Int32) : ma_here (ms_made u v) = ma_here u := rfl
theorem mq_here_priorities (u : MS) (v : Nat → Int32) : ma_here (ms_priorities u v) = ma_here u := rfl
theorem mq_here_places (u : MS) (v : Nat → Int32) : ma_here (ms_places u v) = ma_here u := rfl
theorem mq_here_rows (u : MS) (v : Nat → Int32) : ma_here (ms_rows u v) = ma_here u := rfl
theorem mq_here_when (u : MS) (v : Nat → Int64) : ma_here (ms_when u v) = ma_here u := rfl
theorem mq_here_now (u : MS) (v : Int64) : ma_here (ms_now u v) = ma_here u := rfl
theorem mq_here_extras (u : MS) (v : Nat → Int32) : ma_here (ms_extras u v) = ma_here u := rfl
theorem mq_here_posts (u : MS) (v : Int32) : ma_here (ms_posts u v) = ma_here u := rfl
theorem mq_here_posted (u : MS) (v : Nat → Int32) : ma_here (ms_posted u v) = ma_here u := rfl
theorem mq_here_active (u : MS) (v : Int32) : ma_here (ms_active u v) = ma_here u := rfl
theorem mq_here_here (u : MS) (v : Int32) : ma_here (ms_here u v) = v := rfl
theorem mq_here_wanted (u : MS) (v : Int32) : ma_here (ms_wanted u v) = ma_here u := rfl
theorem mq_here_change (u : MS) (v : Int32) : ma_here (ms_change u v) = ma_here u := rfl
theorem mq_wanted_made (u : MS) (v : Nat → Int32) : ma_wanted (ms_made u v) = ma_wanted u := rfl
theorem mq_wanted_priorities (u : MS) (v : Nat → Int32) : ma_wanted (ms_priorities u v) = ma_wanted u := rfl
theorem mq_wanted_places (u : MS) (v : Nat → Int32) : ma_wanted (ms_places u v) = ma_wanted u := rfl
theorem mq_wanted_rows (u : MS) (v : Nat → Int32) : ma_wanted (ms_rows u v) = ma_wanted u := rfl
theorem mq_wanted_when (u : MS) (v : Nat → Int64) : ma_wanted (ms_when u v) = ma_wanted u := rfl
theorem mq_wanted_now (u : MS) (v : Int64) : ma_wanted (ms_now u v) = ma_wanted u := rfl
theorem mq_wanted_extras (u : MS) (v : Nat → Int32) : ma_wanted (ms_extras u v) = ma_wanted u := rfl
theorem mq_wanted_posts (u : MS) (v : Int32) : ma_wanted (ms_posts u v) = ma_wanted u := rfl
theorem mq_wanted_posted (u : MS) (v : Nat → Int32) : ma_wanted (ms_posted u v) = ma_wanted u := rfl
theorem mq_wanted_active (u : MS) (v : Int32) : ma_wanted (ms_active u v) = ma_wanted u := rfl
theorem mq_wanted_here (u : MS) (v : Int32) : ma_wanted (ms_here u v) = ma_wanted u := rfl
theorem mq_wanted_wanted (u : MS) (v : Int32) : ma_wanted (ms_wanted u v) = v := rfl
theorem mq_wanted_change (u : MS) (v : Int32) : ma_wanted (ms_change u v) = ma_wanted u := rfl
theorem mq_change_made (u : MS) (v : Nat → Int32) : ma_change (ms_made u v) = ma_change u := rfl
theorem mq_change_priorities (u : MS) (v : Nat → Int32) : ma_change (ms_priorities u v) = ma_change u := rfl
theorem mq_change_places (u : MS) (v : Nat → Int32) : ma_change (ms_places u v) = ma_change u := rfl
theorem mq_change_rows (u : MS) (v : Nat → Int32) : ma_change (ms_rows u v) = ma_change u := rfl
theorem mq_change_when (u : MS) (v : Nat → Int64) : ma_change (ms_when u v) = ma_change u := rfl
theorem mq_change_now (u : MS) (v : Int64) : ma_change (ms_now u v) = ma_change u := rfl
theorem mq_change_extras (u : MS) (v : Nat → Int32) : ma_change (ms_extras u v) = ma_change u := rfl
theorem mq_change_posts (u : MS) (v : Int32) : ma_change (ms_posts u v) = ma_change u := rfl
theorem mq_change_posted (u : MS) (v : Nat → Int32) : ma_change (ms_posted u v) = ma_change u := rfl
theorem mq_change_active (u : MS) (v : Int32) : ma_change (ms_active u v) = ma_change u := rfl
theorem mq_change_here (u : MS) (v : Int32) : ma_change (ms_here u v) = ma_change u := rfl
theorem mq_change_wanted (u : MS) (v : Int32) : ma_change (ms_wanted u v) = ma_change u := rfl
theorem mq_change_change (u : MS) (v : Int32) : ma_change (ms_change u v) = v := rfl
def mF (ad : Nat → Nat) (u : MS) : List Value := [.ref (ad 1), .ref (ad 2), .ref (ad 3), .ref (ad 4), .ref (ad 5), .long (ma_now u), .ref (ad 6), .int (ma_posts u), .ref (ad 7), .int (ma_active u), .int (ma_here u), .int (ma_wanted u), .int (ma_change u)]
def mW (ad : Nat → Nat) (cA : Nat → ClassId) (u : MS) : va_W := [(ad 0, .inr (1, mF ad u)), (ad 1, .inl (cA 1, 32, .inl (ma_made u))), (ad 2, .inl (cA 2, 32, .inl (ma_priorities u))), (ad 3, .inl (cA 3, 32, .inl (ma_places u))), (ad 4, .inl (cA 4, 32, .inl (ma_rows u))), (ad 5, .inl (cA 5, 32, .inr (.inl (ma_when u)))), (ad 6, .inl (cA 6, 16, .inl (ma_extras u))), (ad 7, .inl (cA 7, 40, .inl (ma_posted u)))]
theorem mw_made (ad : Nat → Nat) (cA : Nat → ClassId) (u : MS) (f : Nat → Int32) : (mW ad cA u).set 1 (ad 1, .inl (cA 1, 32, .inl f)) = mW ad cA (ms_made u f) := rfl
theorem mw_priorities (ad : Nat → Nat) (cA : Nat → ClassId) (u : MS) (f : Nat → Int32) : (mW ad cA u).set 2 (ad 2, .inl (cA 2, 32, .inl f)) = mW ad cA (ms_priorities u f) := rfl
theorem mw_places (ad : Nat → Nat) (cA : Nat → ClassId) (u : MS) (f : Nat → Int32) : (mW ad cA u).set 3 (ad 3, .inl (cA 3, 32, .inl f)) = mW ad cA (ms_places u f) := rfl
theorem mw_rows (ad : Nat → Nat) (cA : Nat → ClassId) (u : MS) (f : Nat → Int32) : (mW ad cA u).set 4 (ad 4, .inl (cA 4, 32, .inl f)) = mW ad cA (ms_rows u f) := rfl
theorem mw_when (ad : Nat → Nat) (cA : Nat → ClassId) (u : MS) (f : Nat → Int64) : (mW ad cA u).set 5 (ad 5, .inl (cA 5, 32, .inr (.inl f))) = mW ad cA (ms_when u f) := rfl
theorem mw_now (ad : Nat → Nat) (cA : Nat → ClassId) (u : MS) (v : Int64) : (mW ad cA u).set 0 (ad 0, .inr (1, (mF ad u).set 5 (.long v))) = mW ad cA (ms_now u v) := rfl
theorem mw_extras (ad : Nat → Nat) (cA : Nat → ClassId) (u : MS) (f : Nat → Int32) : (mW ad cA u).set 6 (ad 6, .inl (cA 6, 16, .inl f)) = mW ad cA (ms_extras u f) := rfl
theorem mw_posts (ad : Nat → Nat) (cA : Nat → ClassId) (u : MS) (v : Int32) : (mW ad cA u).set 0 (ad 0, .inr (1, (mF ad u).set 7 (.int v))) = mW ad cA (ms_posts u v) := rfl
theorem mw_posted (ad : Nat → Nat) (cA : Nat → ClassId) (u : MS) (f : Nat → Int32) : (mW ad cA u).set 7 (ad 7, .inl (cA 7, 40, .inl f)) = mW ad cA (ms_posted u f) := rfl
theorem mw_active (ad : Nat → Nat) (cA : Nat → ClassId) (u : MS) (v : Int32) : (mW ad cA u).set 0 (ad 0, .inr (1, (mF ad u).set 9 (.int v))) = mW ad cA (ms_active u v) := rfl
theorem mw_here (ad : Nat → Nat) (cA : Nat → ClassId) (u : MS) (v : Int32) : (mW ad cA u).set 0 (ad 0, .inr (1, (mF ad u).set 10 (.int v))) = mW ad cA (ms_here u v) := rfl
theorem mw_wanted (ad : Nat → Nat) (cA : Nat → ClassId) (u : MS) (v : Int32) : (mW ad cA u).set 0 (ad 0, .inr (1, (mF ad u).set 11 (.int v))) = mW ad cA (ms_wanted u v) := rfl
theorem mw_change (ad : Nat → Nat) (cA : Nat → ClassId) (u : MS) (v : Int32) : (mW ad cA u).set 0 (ad 0, .inr (1, (mF ad u).set 12 (.int v))) = mW ad cA (ms_change u v) := rfl
def mT (cA : Nat → ClassId) : List (ClassId × FieldType) := [(cA 1, .boolean), (cA 2, .int), (cA 3, .int), (cA 4, .int), (cA 5, .long), (cA 6, .int), (cA 7, .int)]
def mAt (dC : Nat → ClassId) (dI : Nat → Nat → Nat) (A : Nat → Prop) (ad : Nat → Nat) (cA : Nat → ClassId) (u : MS) (t : State) : Prop := va_P (dC, dI) vwCl (mW ad cA u) t.heap ∧ va_K (dC, dI) vwCl (mT cA) t ∧ va_D A (mW ad cA u)
def mf_isProcess (p1 : Int32) : Int32 := (if p1 < 0 then 0 else (if 32 ≤ p1 then 0 else 1))
def mf_isSemaphore (p1 : Int32) : Int32 := (if p1 < 0 then 0 else (if 16 ≤ p1 then 0 else 1))
def mf_isPriority (p1 : Int32) : Int32 := (if p1 < 1 then 0 else (if 8 < p1 then 0 else 1))
def mf_isMade (u : MS) (p1 : Int32) : Int32 := (if (mf_isProcess p1) = 0 then 0 else (if ma_made u p1.toNatClampNeg = 0 then 0 else 1))
def mf_presentOne (u : MS)  : Int32 := (if ma_wanted u = 0 then ma_active u else ma_change u)
def mf_present (u : MS)  : Int32 := (mf_presentOne u)
def mf_active (u : MS)  : Int32 := ma_active u
def mf_wanted (u : MS)  : Int32 := ma_wanted u
def mf_here (u : MS)  : Int32 := ma_here u
def mf_place (u : MS) (p1 : Int32) : Int32 := (if (mf_isMade u p1) = 0 then 0 else ma_places u p1.toNatClampNeg)
def mf_priority (u : MS) (p1 : Int32) : Int32 := (if (mf_isMade u p1) = 0 then (-1) else ma_priorities u p1.toNatClampNeg)
def mf_row (u : MS) (p1 : Int32) : Int32 := (if (mf_isMade u p1) = 0 then (-1) else ma_rows u p1.toNatClampNeg)
def ml_find2 (u : MS) (p1 : Int32) (p2 : Int32) (x4 : Int32) : Nat → Int32 → Int32 → Int32
  | 0, _, _ => 0
  | n + 1, x5, x6 => (if 32 ≤ x6 then x5 else (if x4 < 0 then (if ma_made u x6.toNatClampNeg = 0 then (ml_find2 u p1 p2 x4 n x5 (x6 + 1)) else (if ma_rows u x6.toNatClampNeg = p1 then (if x5 < 0 then (ml_find2 u p1 p2 x4 n x6 (x6 + 1)) else (if 0 ≤ lg_cmp (ma_when u x6.toNatClampNeg) (ma_when u x5.toNatClampNeg) then (ml_find2 u p1 p2 x4 n x5 (x6 + 1)) else (ml_find2 u p1 p2 x4 n x6 (x6 + 1)))) else (ml_find2 u p1 p2 x4 n x5 (x6 + 1)))) else (if lg_cmp (ma_when u x6.toNatClampNeg) (ma_when u x4.toNatClampNeg) ≤ 0 then (if ma_made u x6.toNatClampNeg = 0 then (ml_find2 u p1 p2 x4 n x5 (x6 + 1)) else (if ma_rows u x6.toNatClampNeg = p1 then (ml_find2 u p1 p2 x4 n x5 (x6 + 1)) else (ml_find2 u p1 p2 x4 n x5 (x6 + 1)))) else (if ma_made u x6.toNatClampNeg = 0 then (ml_find2 u p1 p2 x4 n x5 (x6 + 1)) else (if ma_rows u x6.toNatClampNeg = p1 then (if x5 < 0 then (ml_find2 u p1 p2 x4 n x6 (x6 + 1)) else (if 0 ≤ lg_cmp (ma_when u x6.toNatClampNeg) (ma_when u x5.toNatClampNeg) then (ml_find2 u p1 p2 x4 n x5 (x6 + 1)) else (ml_find2 u p1 p2 x4 n x6 (x6 + 1)))) else (ml_find2 u p1 p2 x4 n x5 (x6 + 1)))))))
def ml_find (u : MS) (p1 : Int32) (p2 : Int32) : Nat → Int32 → Int32 → Int32
  | 0, _, _ => 0
  | n + 1, x3, x4 => (if x3 < 0 then x4 else (if 0 ≤ (ml_find2 u p1 p2 x4 33 (-1) 0) then (ml_find u p1 p2 n (x3 - 1) (ml_find2 u p1 p2 x4 33 (-1) 0)) else (-1)))
def mf_find (u : MS) (p1 : Int32) (p2 : Int32) : Int32 := (ml_find u p1 p2 33 p2 (-1))
def mf_at (u : MS) (p1 : Int32) (p2 : Int32) : Int32 := (if (mf_isPriority p1) = 0 then (if p1 < 16 then (-1) else (if 32 ≤ p1 then (-1) else (if p2 < 0 then (-1) else (if 32 ≤ p2 then (-1) else (mf_find u p1 p2))))) else (if p2 < 0 then (-1) else (if 32 ≤ p2 then (-1) else (mf_find u p1 p2))))
def mf_extra (u : MS) (p1 : Int32) : Int32 := (if (mf_isSemaphore p1) = 0 then (-1) else ma_extras u p1.toNatClampNeg)
def mf_posted (u : MS) (p1 : Int32) : Int32 := (if p1 < 0 then (-1) else (if ma_posts u ≤ p1 then (-1) else ma_posted u p1.toNatClampNeg))
def mf_want (u : MS) (p1 : Int32) : MS := (ms_change (ms_wanted u 1) p1)
def mf_enter (u : MS) (p1 : Int32) (p2 : Int32) : MS := (ms_now (ms_when (ms_rows u (upd (ma_rows u) p1.toNatClampNeg p2)) (vp_updL (ma_when u) p1.toNatClampNeg (ma_now u))) ((ma_now u) + 1))
def mf_wake (u : MS) (p1 : Int32) : MS := (if (mf_presentOne u) < 0 then (mf_want (ms_rows u (upd (ma_rows u) p1.toNatClampNeg 0)) p1) else (if ma_priorities u (mf_presentOne u).toNatClampNeg < ma_priorities u p1.toNatClampNeg then (mf_want (ms_rows (mf_enter u (mf_presentOne u) (ma_priorities u (mf_presentOne u).toNatClampNeg)) (upd (ma_rows (mf_enter u (mf_presentOne u) (ma_priorities u (mf_presentOne u).toNatClampNeg))) p1.toNatClampNeg 0)) p1) else (mf_enter u p1 (ma_priorities u p1.toNatClampNeg))))
def ml_putAside (u : MS) : Nat → Int32 → Int32 → MS
  | 0, _, _ => u
  | n + 1, x1, x2 => (if 8 < x2 then (if x1 < 0 then (mf_want u x1) else (mf_want (ms_rows u (upd (ma_rows u) x1.toNatClampNeg 0)) x1)) else (if (mf_find u x2 0) < 0 then (ml_putAside u n x1 (x2 + 1)) else (ml_putAside u n (mf_find u x2 0) (x2 + 1))))
def mf_putAside (u : MS)  : MS := (ml_putAside u 9 (-1) 1)
def mf_give (u : MS) (p1 : Int32) : MS := (if 0 ≤ (mf_find u (16 + p1) 0) then (mf_wake (ms_rows u (upd (ma_rows u) (mf_find u (16 + p1) 0).toNatClampNeg 0)) (mf_find u (16 + p1) 0)) else (ms_extras u (upd (ma_extras u) p1.toNatClampNeg ((ma_extras u p1.toNatClampNeg) + 1))))
def mf_signal (u : MS) (p1 : Int32) : Int32 × MS := (if (mf_isSemaphore p1) = 0 then (0, u) else (1, (mf_give u p1)))
def mf_make (u : MS) (p1 : Int32) (p2 : Int32) (p3 : Int32) : Int32 × MS := (if (mf_isProcess p1) = 0 then (0, u) else (if ma_made u p1.toNatClampNeg = 0 then (if (mf_isPriority p2) = 0 then (0, u) else (1, (ms_rows (ms_places (ms_priorities (ms_made u (upd (ma_made u) p1.toNatClampNeg 1)) (upd (ma_priorities u) p1.toNatClampNeg p2)) (upd (ma_places u) p1.toNatClampNeg p3)) (upd (ma_rows u) p1.toNatClampNeg 0)))) else (0, u)))
def mf_resume (u : MS) (p1 : Int32) : Int32 × MS := (if (mf_isMade u p1) = 0 then (0, u) else (if ma_rows u p1.toNatClampNeg = 0 then (if p1 = (mf_presentOne u) then (0, u) else (if p1 = ma_active u then (0, u) else (1, (mf_wake u p1)))) else (0, u)))
def mf_suspend (u : MS)  : Int32 × MS := (if (mf_presentOne u) < 0 then ((mf_presentOne u), u) else ((mf_presentOne u), (mf_putAside u)))
def mf_end (u : MS)  : Int32 × MS := (if (mf_presentOne u) < 0 then ((mf_presentOne u), u) else (if (mf_presentOne u) = ma_active (mf_putAside (ms_made u (upd (ma_made u) (mf_presentOne u).toNatClampNeg 0))) then ((mf_presentOne u), (ms_active (mf_putAside (ms_made u (upd (ma_made u) (mf_presentOne u).toNatClampNeg 0))) (-1))) else ((mf_presentOne u), (ms_active (mf_putAside (ms_made u (upd (ma_made u) (mf_presentOne u).toNatClampNeg 0))) (ma_active (mf_putAside (ms_made u (upd (ma_made u) (mf_presentOne u).toNatClampNeg 0))))))))
def mf_await (u : MS) (p1 : Int32) : Int32 × MS := (if (mf_isSemaphore p1) = 0 then ((-1), u) else (if 0 ≤ (mf_presentOne u) then (if ma_extras u p1.toNatClampNeg ≤ 0 then (0, (mf_putAside (mf_enter u (mf_presentOne u) (16 + p1)))) else (1, (ms_extras u (upd (ma_extras u) p1.toNatClampNeg ((ma_extras u p1.toNatClampNeg) - 1))))) else ((-1), u)))
def mf_post (u : MS) (p1 : Int32) : Int32 × MS := (if (mf_isSemaphore p1) = 0 then ((-1), u) else (if ma_posts u = 40 then ((-1), u) else ((ma_posts u) + 1, (ms_posts (ms_posted u (upd (ma_posted u) (ma_posts u).toNatClampNeg p1)) ((ma_posts u) + 1)))))
def ml_step  : Nat → MS → Int32 → Int32 × MS
  | 0, u2, _ => (0, u2)
  | n + 1, u2, x1 => (if ma_posts u2 ≤ x1 then (if ma_wanted u2 = 0 then (ma_active u2, (ms_posts u2 0)) else (if ma_active u2 < 0 then (if ma_change u2 < 0 then (ma_change u2, (ms_wanted (ms_here (ms_active (ms_posts u2 0) (ma_change u2)) 0) 0)) else (ma_change u2, (ms_wanted (ms_here (ms_active (ms_posts u2 0) (ma_change u2)) (ma_places u2 (ma_change u2).toNatClampNeg)) 0))) else (if ma_change u2 < 0 then (ma_change u2, (ms_wanted (ms_here (ms_active (ms_places (ms_posts u2 0) (upd (ma_places u2) (ma_active u2).toNatClampNeg (ma_here u2))) (ma_change u2)) 0) 0)) else (ma_change u2, (ms_wanted (ms_here (ms_active (ms_places (ms_posts u2 0) (upd (ma_places u2) (ma_active u2).toNatClampNeg (ma_here u2))) (ma_change u2)) ((upd (ma_places u2) (ma_active u2).toNatClampNeg (ma_here u2)) (ma_change u2).toNatClampNeg)) 0))))) else (ml_step  n (mf_give u2 (ma_posted u2 x1.toNatClampNeg)) (x1 + 1)))
def mf_step (u : MS)  : Int32 × MS := (ml_step  41 u 0)
def mf_work (u : MS) (p1 : Int32) : Int32 × MS := (if p1 < 1 then (0, u) else (if 1000 < p1 then (0, u) else (if ma_active u < 0 then (0, u) else (if ma_wanted u = 0 then (1, (ms_here u ((ma_here u) + p1))) else (0, u)))))
def mf_take (u : MS) (p1 : Int32) : Int32 × MS := (if (mf_isMade u p1) = 0 then (0, u) else (if ma_rows u p1.toNatClampNeg = 0 then (0, u) else (1, (ms_rows u (upd (ma_rows u) p1.toNatClampNeg 0)))))
def mf_rate (u : MS) (p1 : Int32) (p2 : Int32) : Int32 × MS := (if (mf_isMade u p1) = 0 then ((-1), u) else (if (mf_isPriority p2) = 0 then ((-1), u) else (ma_priorities u p1.toNatClampNeg, (ms_priorities u (upd (ma_priorities u) p1.toNatClampNeg p2)))))
def mf_yield (u : MS)  : Int32 × MS := (if (mf_presentOne u) < 0 then (0, u) else (if 0 ≤ (mf_find u (ma_priorities u (mf_presentOne u).toNatClampNeg) 0) then (1, (mf_putAside (mf_enter u (mf_presentOne u) (ma_priorities u (mf_presentOne u).toNatClampNeg)))) else (0, u)))
