/-! the reference: cost, the best swap, wipe, undo, save, restore -/
theorem zlp_fst2 {α β : Type} (g : Nat → α → α) (u : Nat → α → β) : ∀ (r k : Nat) (x : α × β), (zlp (fun j (x : α × β) => (g j x.1, u j x.1)) r k x).1 = zlp g r k x.1
  | 0, _, _ => rfl
  | r + 1, k, x => zlp_fst2 g u r (k + 1) (g k x.1, u k x.1)
