/-! a town that became as another agrees with it -/
theorem kBm_sim (s s2 : Nat → Int32) (n2 : Nat) : sim n2 (kBm s s2 n2) s2 := fun _ hk => if_pos hk
theorem sim_tr {n : Nat} {a b c : Nat → Int32} (h : sim n a b) (h2 : sim n b c) : sim n a c := fun k hk => (h k hk).trans (h2 k hk)
theorem kBm_of {n : Nat} {s a b : Nat → Int32} (h : sim n a b) : sim n (kBm s a n) b := sim_tr (kBm_sim s a n) h

