/-! the class: fault, run -/
theorem zPd_t {h : zhp} {q : Nat → Int32} {m : Nat} (hP : zPd h q m) {t : Nat} (ht : t < 10) (s : Nat → Int32) (p pi : Nat → Nat) : zPd (zt h (zbs t) s p pi) q m := by
  have rg := zbs_rg ht
  obtain ⟨⟨h1, h2, h3, h4⟩, h5, h6, h7⟩ := hP
  exact ⟨⟨h1, (zt_R (by omega)).trans h2, h3, h4⟩, (zt_I (by omega)).trans h5, h6, fun k hk => (zt_I (by omega)).trans (h7 k hk)⟩
