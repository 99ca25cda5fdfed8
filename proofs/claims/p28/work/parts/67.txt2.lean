/-! a text: the class's signs and the reference's -/
theorem zlp_set {b : Nat} {g : Nat → Int32} : ∀ (r k : Nat) (x : Nat → Int32) (i : Nat), zlp (fun w x => upd x (b + w) (g w)) r k x i = if b + k ≤ i ∧ i < b + k + r then g (i - b) else x i
  | 0, k, x, i => by rw [if_neg (by omega)]; rfl
  | r + 1, k, x, i => by
    show zlp (fun w x => upd x (b + w) (g w)) r (k + 1) (upd x (b + k) (g k)) i = _
    rw [zlp_set r (k + 1) _ i]
    by_cases q : b + (k + 1) ≤ i ∧ i < b + (k + 1) + r
    · rw [if_pos q, if_pos (by omega)]
    · rw [if_neg q]
      by_cases e : i = b + k
      · subst e
        rw [pk_us, if_pos (by omega), Nat.add_sub_cancel_left]
      · rw [pk_un e, if_neg (by omega)]
