/-! the relation of both sides: slots -/
/-! the invariant of the law; X: the script, N long -/
def zSc (h : zhp) (N : Nat) (X : Nat → Int32) : Prop := zT h 3 = 7 ∧ zL h 3 = N ∧ ∀ k, zI h 3 k = X k
theorem zSc.rs {h h1 : zhp} {N : Nat} {X : Nat → Int32} (x : zSc h N X) (hs : zRs h h1) : zSc h1 N X := ⟨(hs.2 3 (by omega) (by omega)).1.trans x.1, (hs.2 3 (by omega) (by omega)).2.1.trans x.2.1, fun k => ((hs.2 3 (by omega) (by omega)).2.2 k).1.trans (x.2.2 k)⟩
theorem zSc.lo {h h1 : zhp} {N : Nat} {X : Nat → Int32} (x : zSc h N X) (hs : zLo h h1) : zSc h1 N X := ⟨(hs.2 3 (by omega)).1.trans x.1, (hs.2 3 (by omega)).2.1.trans x.2.1, fun k => ((hs.2 3 (by omega)).2.2 k).1.trans (x.2.2 k)⟩
theorem MM_post {j : zmi} {av : List Value} {h : zhp} {Q Q2 : Option Value → zhp → Prop} (hM : MM j av h Q) (f : ∀ r h1, Q r h1 → Q2 r h1) : MM j av h Q2 := fun G l => MetFree.mono (hM G l) (fun _ _ x => x) (fun _ _ _ _ _ x => x) (fun a s o t _ x => by
  obtain ⟨⟨r, h1, e, q, z⟩, y⟩ := x
  exact ⟨⟨r, h1, e, f r h1 q, z⟩, y⟩)
