/-! the row behind D j days of each skip j -/
def cH (b : Nat → Int32) (n : Nat) (D : Nat → Nat) (c : Nat) : Int32 := zS n (fun j => if cuN b j = c then kHi b j (nI (D j)) + kFi b j (nI (D j)) else nI 0)
def cF (b : Nat → Int32) (n : Nat) (D : Nat → Nat) (c : Nat) : Int32 := zS n (fun j => if cuN b j = c then kFi b j (nI (D j)) else nI 0)
def cB (b : Nat → Int32) (n : Nat) (D : Nat → Nat) : Int32 := zS n (fun j => kBe b j (nI (D j)) (b (34 + 10 * j + 3)))
def cR (b : Nat → Int32) (j d f : Nat) : Int32 :=
  if f = 3 then b (34 + 10 * j + 3) + (b (34 + 10 * j + 4) * nI d - kBe b j (nI d) (b (34 + 10 * j + 3)))
  else if f = 7 then b (34 + 10 * j + 7) + kBe b j (nI d) (b (34 + 10 * j + 3))
  else if f = 5 then (if b (34 + 10 * j + 2) = nI 5 then b (34 + 10 * j + 5) else mx0 (b (34 + 10 * j + 5) - nI d))
  else if f = 9 then b (34 + 10 * j + 9) + (kHi b j (nI d) + kFi b j (nI d))
  else b (34 + 10 * j + f)
def cE (b : Nat → Int32) (n : Nat) (D : Nat → Nat) (y8 y9 : Int32) : Nat → Int32 := fun i =>
  if i < 15 then (if i = 8 then y8 else if i = 9 then y9 else b i)
  else if i < 33 then (if (i - 15) % 3 = 0 then b i + cH b n D ((i - 15) / 3) else if (i - 15) % 3 = 2 then b i + cF b n D ((i - 15) / 3) else b i)
  else if i = 134 then b i + cB b n D
  else if 34 ≤ i ∧ i < 34 + 10 * n then cR b ((i - 34) / 10) (D ((i - 34) / 10)) ((i - 34) % 10)
  else b i
theorem zcase {n : Nat} (hn : n ≤ 10) (i : Nat) : i < 15 ∨ (∃ c, c < 6 ∧ i = 15 + 3 * c + 0) ∨ (∃ c, c < 6 ∧ i = 15 + 3 * c + 1) ∨ (∃ c, c < 6 ∧ i = 15 + 3 * c + 2) ∨ i = 134 ∨ (∃ j f, j < n ∧ f < 10 ∧ i = 34 + 10 * j + f) ∨ (i = 33 ∨ (34 + 10 * n ≤ i ∧ i ≠ 134)) := by
  by_cases h1 : i < 15
  · exact Or.inl h1
  · by_cases h2 : i < 33
    · rcases (show (i - 15) % 3 = 0 ∨ (i - 15) % 3 = 1 ∨ (i - 15) % 3 = 2 by omega) with q | q | q
      · exact Or.inr (Or.inl ⟨(i - 15) / 3, by omega, by omega⟩)
      · exact Or.inr (Or.inr (Or.inl ⟨(i - 15) / 3, by omega, by omega⟩))
      · exact Or.inr (Or.inr (Or.inr (Or.inl ⟨(i - 15) / 3, by omega, by omega⟩)))
    · by_cases h3 : i = 134
      · exact Or.inr (Or.inr (Or.inr (Or.inr (Or.inl h3))))
      · by_cases h4 : 34 ≤ i ∧ i < 34 + 10 * n
        · exact Or.inr (Or.inr (Or.inr (Or.inr (Or.inr (Or.inl ⟨(i - 34) / 10, (i - 34) % 10, by omega, by omega, by omega⟩)))))
        · exact Or.inr (Or.inr (Or.inr (Or.inr (Or.inr (Or.inr (by omega))))))
section
variable {b : Nat → Int32} {n : Nat} {D : Nat → Nat} {y8 y9 : Int32}
theorem cE_lo {k : Nat} (hk : k < 15) : cE b n D y8 y9 k = if k = 8 then y8 else if k = 9 then y9 else b k := if_pos hk
theorem cE_h {c : Nat} (hc : c < 6) : cE b n D y8 y9 (15 + 3 * c + 0) = b (15 + 3 * c + 0) + cH b n D c := by
  unfold cE
  rw [if_neg (by omega), if_pos (by omega), if_pos (by omega), show (15 + 3 * c + 0 - 15) / 3 = c by omega]
theorem cE_t {c : Nat} (hc : c < 6) : cE b n D y8 y9 (15 + 3 * c + 1) = b (15 + 3 * c + 1) := by
  unfold cE
  rw [if_neg (by omega), if_pos (by omega), if_neg (by omega), if_neg (by omega)]
theorem cE_f {c : Nat} (hc : c < 6) : cE b n D y8 y9 (15 + 3 * c + 2) = b (15 + 3 * c + 2) + cF b n D c := by
  unfold cE
  rw [if_neg (by omega), if_pos (by omega), if_neg (by omega), if_pos (by omega), show (15 + 3 * c + 2 - 15) / 3 = c by omega]
theorem cE_b : cE b n D y8 y9 134 = b 134 + cB b n D := by
  unfold cE
  rw [if_neg (by omega), if_neg (by omega), if_pos rfl]
theorem cE_r (hn : n ≤ 10) {j f : Nat} (hj : j < n) (hf : f < 10) : cE b n D y8 y9 (34 + 10 * j + f) = cR b j (D j) f := by
  unfold cE
  rw [if_neg (by omega), if_neg (by omega), if_neg (by omega), if_pos (by omega), show (34 + 10 * j + f - 34) / 10 = j by omega, show (34 + 10 * j + f - 34) % 10 = f by omega]
theorem cE_o {i : Nat} (hi : i = 33 ∨ (34 + 10 * n ≤ i ∧ i ≠ 134)) : cE b n D y8 y9 i = b i := by
  unfold cE
  rw [if_neg (by omega), if_neg (by omega), if_neg (by omega), if_neg (by omega)]
end
theorem cR_0 {b : Nat → Int32} {j t z st g l v P : Nat} (h : zNm b j t z st g l v P) (h8 : b 8 = nI t) (f : Nat) : cR b j 0 f = b (34 + 10 * j + f) := by
  have e := kBe_NN h (d := 0) (by omega)
  have e2 := kFi_0 h h8
  obtain ⟨a1, a2, a3, a4, a5, b1, b2, b3, b4, b5, b6, b7, b8⟩ := h
  have e3 : l + g * 0 - (20 + 20 * z) = 0 := by omega
  rw [e3] at e
  unfold cR
  rw [e, kHi_0, e2]
  by_cases q3 : f = 3
  · rw [if_pos q3, q3, show nI 0 = 0 from rfl, Int32.mul_zero]
    exact Int32.add_zero _
  · rw [if_neg q3]
    by_cases q7 : f = 7
    · rw [if_pos q7, q7]
      exact Int32.add_zero _
    · rw [if_neg q7]
      by_cases q5 : f = 5
      · rw [if_pos q5, q5, b5, mx0_N (by omega) (by omega), Nat.sub_zero, ite_self]
      · rw [if_neg q5]
        by_cases q9 : f = 9
        · rw [if_pos q9, q9]
          exact Int32.add_zero _
        · rw [if_neg q9]
theorem zS_0 {n : Nat} {g : Nat → Int32} (h : ∀ j, j < n → g j = nI 0) : zS n g = nI 0 := by
  unfold zS
  have : ∀ (r k : Nat), k + r = n → zlp (fun j x => x + g j) r k (nI 0) = nI 0 := by
    intro r
    induction r with
    | zero => intro k _; rfl
    | succ r ih =>
      intro k hk
      show zlp (fun j x => x + g j) r (k + 1) (nI 0 + g k) = nI 0
      rw [h k (by omega)]
      exact ih (k + 1) (by omega)
  exact this n 0 (by omega)
/-- every skip's numbers are in range -/
def zNs (b : Nat → Int32) (n t : Nat) : Prop := b 8 = nI t ∧ ∀ j, j < n → ∃ z st g l v P, zNm b j t z st g l v P
theorem cE_0 {b : Nat → Int32} {n t : Nat} (hn : n ≤ 10) (h : zNs b n t) : cE b n (fun _ => 0) (b 8) (b 9) = b := by
  have eH : ∀ c, cH b n (fun _ => 0) c = nI 0 := fun c => zS_0 (fun j hj => by
    obtain ⟨z, st, g, l, v, P, hz⟩ := h.2 j hj
    rw [kHi_0, kFi_0 hz h.1]
    split <;> rfl)
  have eF : ∀ c, cF b n (fun _ => 0) c = nI 0 := fun c => zS_0 (fun j hj => by
    obtain ⟨z, st, g, l, v, P, hz⟩ := h.2 j hj
    rw [kFi_0 hz h.1]
    split <;> rfl)
  have eB : cB b n (fun _ => 0) = nI 0 := zS_0 (fun j hj => by
    obtain ⟨z, st, g, l, v, P, hz⟩ := h.2 j hj
    show kBe b j (nI 0) (b (34 + 10 * j + 3)) = nI 0
    rw [kBe_NN hz (by omega)]
    obtain ⟨a1, a2, a3, a4, -⟩ := hz
    rw [show l + g * 0 - (20 + 20 * z) = 0 by omega])
  funext i
  rcases zcase hn i with q | ⟨c, hc, rfl⟩ | ⟨c, hc, rfl⟩ | ⟨c, hc, rfl⟩ | rfl | ⟨j, f, hj, hf, rfl⟩ | q
  · rw [cE_lo q]
    by_cases q8 : i = 8
    · rw [if_pos q8, q8]
    · rw [if_neg q8]
      by_cases q9 : i = 9
      · rw [if_pos q9, q9]
      · rw [if_neg q9]
  · rw [cE_h hc, eH]; exact Int32.add_zero _
  · rw [cE_t hc]
  · rw [cE_f hc, eF]; exact Int32.add_zero _
  · rw [cE_b, eB]; exact Int32.add_zero _
  · obtain ⟨z, st, g, l, v, P, hz⟩ := h.2 j hj
    rw [cE_r hn hj hf]
    exact cR_0 hz h.1 f
  · rw [cE_o q]
/-- D's sums, one more charge for skip j -/
theorem cH_up {b : Nat → Int32} {n : Nat} {D : Nat → Nat} {j d : Nat} (hj : j < n) {x : Int32} (hx : kHi b j (nI d) + kFi b j (nI d) = kHi b j (nI (D j)) + kFi b j (nI (D j)) + x) (c : Nat) : cH b n (up D j d) c = if cuN b j = c then cH b n D c + x else cH b n D c := by
  unfold cH
  by_cases q : cuN b j = c
  · rw [if_pos q]
    refine zS_upd hj (fun i hi => ?_) ?_
    · rw [up_n hi]
    · rw [up_s, if_pos q, if_pos q, hx]
  · rw [if_neg q]
    refine zlp_cong (N := n) n 0 _ (by omega) (fun i y _ hi => ?_)
    dsimp only
    by_cases q2 : i = j
    · subst q2; rw [if_neg q, if_neg q]
    · rw [up_n q2]
theorem cF_up {b : Nat → Int32} {n : Nat} {D : Nat → Nat} {j d : Nat} (hj : j < n) {x : Int32} (hx : kFi b j (nI d) = kFi b j (nI (D j)) + x) (c : Nat) : cF b n (up D j d) c = if cuN b j = c then cF b n D c + x else cF b n D c := by
  unfold cF
  by_cases q : cuN b j = c
  · rw [if_pos q]
    refine zS_upd hj (fun i hi => ?_) ?_
    · rw [up_n hi]
    · rw [up_s, if_pos q, if_pos q, hx]
  · rw [if_neg q]
    refine zlp_cong (N := n) n 0 _ (by omega) (fun i y _ hi => ?_)
    dsimp only
    by_cases q2 : i = j
    · subst q2; rw [if_neg q, if_neg q]
    · rw [up_n q2]
theorem cB_up {b : Nat → Int32} {n : Nat} {D : Nat → Nat} {j d : Nat} (hj : j < n) {x : Int32} (hx : kBe b j (nI d) (b (34 + 10 * j + 3)) = kBe b j (nI (D j)) (b (34 + 10 * j + 3)) + x) : cB b n (up D j d) = cB b n D + x := by
  unfold cB
  refine zS_upd hj (fun i hi => ?_) ?_
  · rw [up_n hi]
  · rw [up_s, hx]

