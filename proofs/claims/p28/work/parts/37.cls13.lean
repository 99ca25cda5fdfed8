/-! the class: an order is done; a reader is made; fault -/
/-- cells below 187 stand as they were -/
def zSm (h h1 : zhp) : Prop := zN h ≤ zN h1 ∧ ∀ x, x < 187 → zT h1 x = zT h x ∧ zL h1 x = zL h x ∧ ∀ k, zI h1 x k = zI h x k ∧ zR h1 x k = zR h x k
theorem zSm.trans {a b c : zhp} (h : zSm a b) (h2 : zSm b c) : zSm a c := ⟨Nat.le_trans h.1 h2.1, fun x hx => ⟨((h2.2 x hx).1).trans (h.2 x hx).1, ((h2.2 x hx).2.1).trans (h.2 x hx).2.1, fun k => ⟨(((h2.2 x hx).2.2 k).1).trans ((h.2 x hx).2.2 k).1, (((h2.2 x hx).2.2 k).2).trans ((h.2 x hx).2.2 k).2⟩⟩⟩
