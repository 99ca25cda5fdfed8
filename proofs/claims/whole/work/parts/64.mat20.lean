/-! sixty orders are enough -/
theorem kGo_fuel {q : Nat → Int32} {m : Nat} : ∀ (r e d : Nat) (s : Nat → Int32), (gE q m (r + 1) e).2 = false → m ≤ e + r → (e ≠ 0 ∨ r ≠ 0) → kGo q m (r + 1) e d s = kGo q m r e d s
  | 0, e, d, s, _, hm, h0 => by
    rw [kGo_e ⟨by omega, by omega⟩]
    rfl
  | r + 1, e, d, s, hg, hm, h0 => by
    by_cases he : e ≠ 0 ∧ m ≤ e
    · rw [kGo_e he, kGo_e he]
    · have hk : ∃ k, nK q m e k := by
        by_cases e0 : e = 0
        · exact ⟨0, Or.inl ⟨e0, rfl⟩⟩
        · rcases Bool.eq_false_or_eq_true (tk q m (nI 59) (nI 59) e false).2.2 with z | z
          · unfold gE at hg
            rw [if_neg he, if_pos ⟨e0, z⟩] at hg
            cases hg
          · exact ⟨e + 1, Or.inr ⟨e0, by omega, z, rfl⟩⟩
      obtain ⟨k, hk⟩ := hk
      obtain ⟨g1, g2⟩ := gE_k (r := r + 1 + 1) hk
      rw [g1, gf_E] at hg
      have hf : (rdO q m k).2.2.2 = false := by
        rcases Bool.eq_false_or_eq_true (rdO q m k).2.2.2 with z | z
        · rw [if_pos z] at hg; cases hg
        · exact z
      rw [if_neg (by rw [hf]; decide)] at hg
      have hgt := rdO_gt hf
      rw [kGo_k hk, kGo_k hk]
      exact kGo_fuel r _ _ _ hg (by omega) (Or.inl (by omega))
