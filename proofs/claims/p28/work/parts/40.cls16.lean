/-! new objects: a town -/
theorem znmT (t : Nat) (h1 : t = 7 ∨ t = 8 ∨ t = 9) : ∀ (G : zcx) (U : State), zKK G U → U.vm.findClass ("[" ++ (zaT t).toString) = some (zK G t) := fun G U hK => by
  rcases h1 with rfl | rfl | rfl
  · exact (hK.2 7 (by omega) (by omega)).2
  · exact (hK.2 8 (by omega) (by omega)).2
  · exact (hK.2 9 (by omega) (by omega)).2
/-- cells below a stand as they were -/
def zSb (a : Nat) (h h1 : zhp) : Prop := ∀ x, x < a → zT h1 x = zT h x ∧ zL h1 x = zL h x ∧ ∀ k, zI h1 x k = zI h x k ∧ zR h1 x k = zR h x k
theorem zSb.refl (a : Nat) (h : zhp) : zSb a h h := fun _ _ => ⟨rfl, rfl, fun _ => ⟨rfl, rfl⟩⟩
theorem zSb.trans {a a2 : Nat} {h h1 h2 : zhp} (x : zSb a h h1) (y : zSb a2 h1 h2) (hl : a ≤ a2) : zSb a h h2 := fun q hq => ⟨(y q (by omega)).1.trans (x q hq).1, (y q (by omega)).2.1.trans (x q hq).2.1, fun k => ⟨((y q (by omega)).2.2 k).1.trans ((x q hq).2.2 k).1, ((y q (by omega)).2.2 k).2.trans ((x q hq).2.2 k).2⟩⟩
def ztg (c : Nat) : Nat := if c = 6 then 11 else 7
def ztl2 (c : Nat) : Nat := match c with
  | 1 => 8
  | 2 => 5
  | 6 => 10
  | _ => 6
def Vk (h : zhp) (K c k : Nat) : Int32 := if c = 1 then zI h 0 k else if c = 2 ∧ k < K then nI 2 else 0
/-- a town on its way: j of its rows, m of its skips, K of its places -/
def PX (h h1 : zhp) (a j m K : Nat) : Prop := zN h1 = a + 1 + j + m ∧ zSb a h h1 ∧ zT h1 a = 4 ∧ (∀ k, k < j → zR h1 a k = some (a + (1 + k))) ∧ (∀ c, 1 ≤ c → c < 1 + j → zT h1 (a + c) = ztg c ∧ zL h1 (a + c) = ztl2 c) ∧ (∀ c k, c < 1 + j → zI h1 (a + c) k = Vk h K c k) ∧ (∀ i, i < m → zT h1 (a + (7 + i)) = 3 ∧ ∀ k, zI h1 (a + (7 + i)) k = 0) ∧ ∀ i, i < m → zR h1 (a + 6) i = some (a + (7 + i))
theorem PX_0 {h : zhp} {a : Nat} (hN : zN h = a + 1) (hT : zT h a = 4) (hI : ∀ k, zI h a k = 0) : PX h h a 0 0 0 := by
  refine ⟨by omega, zSb.refl a h, hT, fun k hk => by omega, fun c h1 h2 => by omega, fun c k hc => ?_, fun i hi => by omega, fun i hi => by omega⟩
  have : c = 0 := by omega
  subst this
  exact hI k
def zpF (x : zhp) (a j t n : Nat) (f : Nat → Int32) : zhp := zsR (znw x t n f) a j (some (zN x))
theorem zpF_T {x : zhp} {a j t n : Nat} {f : Nat → Int32} {y : Nat} : zT (zpF x a j t n f) y = if y = zN x then t else zT x y := rfl
theorem zpF_L {x : zhp} {a j t n : Nat} {f : Nat → Int32} {y : Nat} : zL (zpF x a j t n f) y = if y = zN x then n else zL x y := rfl
theorem zpF_I {x : zhp} {a j t n : Nat} {f : Nat → Int32} {y k : Nat} : zI (zpF x a j t n f) y k = if y = zN x then f k else zI x y k := rfl
theorem zpF_R {x : zhp} {a j t n : Nat} {f : Nat → Int32} {y k : Nat} : zR (zpF x a j t n f) y k = if y = a ∧ k = j then some (zN x) else if y = zN x then none else zR x y k := rfl
theorem PX_a {h h1 : zhp} {a j : Nat} (hp : PX h h1 a j 0 0) (hj : j < 6) {f : Nat → Int32} (hf : ∀ k, f k = Vk h 0 (1 + j) k) : PX h (zpF h1 a j (ztg (1 + j)) (ztl2 (1 + j)) f) a (j + 1) 0 0 := by
  obtain ⟨p1, p2, p3, p4, p5, p6, p7, p8⟩ := hp
  refine ⟨by show zN h1 + 1 = _; omega, fun x hx => ⟨by rw [zpF_T, if_neg (by omega)]; exact (p2 x hx).1, by rw [zpF_L, if_neg (by omega)]; exact (p2 x hx).2.1, fun k => ⟨by rw [zpF_I, if_neg (by omega)]; exact ((p2 x hx).2.2 k).1, by rw [zpF_R, if_neg (by omega), if_neg (by omega)]; exact ((p2 x hx).2.2 k).2⟩⟩, by rw [zpF_T, if_neg (by omega)]; exact p3, fun k hk => ?_, fun c h1 h2 => ?_, fun c k hc => ?_, fun i hi => by omega, fun i hi => by omega⟩
  · rw [zpF_R]
    by_cases q : k = j
    · rw [if_pos ⟨rfl, q⟩, p1, q]
      congr 1
      omega
    · rw [if_neg (fun z => q z.2), if_neg (by omega)]
      exact p4 k (by omega)
  · rw [zpF_T, zpF_L]
    by_cases q : c = 1 + j
    · rw [if_pos (by omega), if_pos (by omega), q]
      exact ⟨rfl, rfl⟩
    · rw [if_neg (by omega), if_neg (by omega)]
      exact p5 c h1 (by omega)
  · rw [zpF_I]
    by_cases q : c = 1 + j
    · rw [if_pos (by omega), hf, q]
    · rw [if_neg (by omega)]
      exact p6 c k (by omega)
theorem PX_p {h h1 : zhp} {a K : Nat} (hp : PX h h1 a 6 0 K) : PX h (zsI h1 (a + 2) K (nI 2)) a 6 0 (K + 1) := by
  obtain ⟨p1, p2, p3, p4, p5, p6, p7, p8⟩ := hp
  refine ⟨p1, fun x hx => ⟨(p2 x hx).1, (p2 x hx).2.1, fun k => ⟨(zsI_ne (Or.inl (by omega))).trans ((p2 x hx).2.2 k).1, ((p2 x hx).2.2 k).2⟩⟩, p3, p4, p5, fun c k hc => ?_, fun i hi => by omega, fun i hi => by omega⟩
  show (if a + c = a + 2 ∧ k = K then nI 2 else zI h1 (a + c) k) = _
  rw [p6 c k hc]
  unfold Vk
  by_cases q : c = 2
  · subst q
    rw [if_neg (show ¬ (2 : Nat) = 1 by omega), if_neg (show ¬ (2 : Nat) = 1 by omega)]
    by_cases q2 : k = K
    · rw [if_pos ⟨rfl, q2⟩, if_pos ⟨rfl, by omega⟩]
    · rw [if_neg (fun z => q2 z.2)]
      by_cases q3 : k < K
      · rw [if_pos ⟨rfl, q3⟩, if_pos ⟨rfl, by omega⟩]
      · rw [if_neg (fun z => q3 z.2), if_neg (by omega)]
  · rw [if_neg (show ¬ (a + c = a + 2 ∧ k = K) by omega), if_neg (show ¬ (c = 2 ∧ k < K) from fun z => q z.1), if_neg (show ¬ (c = 2 ∧ k < K + 1) from fun z => q z.1)]
theorem PX_s {h h1 : zhp} {a m K : Nat} (hp : PX h h1 a 6 m K) : PX h (zpF h1 (a + 6) m 3 0 (fun _ => 0)) a 6 (m + 1) K := by
  obtain ⟨p1, p2, p3, p4, p5, p6, p7, p8⟩ := hp
  refine ⟨by show zN h1 + 1 = _; omega, fun x hx => ⟨by rw [zpF_T, if_neg (by omega)]; exact (p2 x hx).1, by rw [zpF_L, if_neg (by omega)]; exact (p2 x hx).2.1, fun k => ⟨by rw [zpF_I, if_neg (by omega)]; exact ((p2 x hx).2.2 k).1, by rw [zpF_R, if_neg (by omega), if_neg (by omega)]; exact ((p2 x hx).2.2 k).2⟩⟩, by rw [zpF_T, if_neg (by omega)]; exact p3, fun k hk => by rw [zpF_R, if_neg (by omega), if_neg (by omega)]; exact p4 k hk, fun c h1 h2 => by rw [zpF_T, zpF_L, if_neg (by omega), if_neg (by omega)]; exact p5 c h1 h2, fun c k hc => by rw [zpF_I, if_neg (by omega)]; exact p6 c k hc, fun i hi => ?_, fun i hi => ?_⟩
  · by_cases q : i = m
    · rw [zpF_T, if_pos (by omega)]
      exact ⟨rfl, fun k => by rw [zpF_I, if_pos (by omega)]⟩
    · rw [zpF_T, if_neg (by omega)]
      exact ⟨(p7 i (by omega)).1, fun k => by rw [zpF_I, if_neg (by omega)]; exact (p7 i (by omega)).2 k⟩
  · rw [zpF_R]
    by_cases q : i = m
    · rw [if_pos ⟨rfl, q⟩, p1, q]
      congr 1
      omega
    · rw [if_neg (fun z => q z.2), if_neg (by omega)]
      exact p8 i (by omega)
/-- the rows of a new town -/
def zs0 (h : zhp) : Nat → Int32 := fun i => if i < 8 then zI h 0 i else if 10 ≤ i ∧ i < 15 then nI 2 else 0
theorem PX_w {h h1 : zhp} {a : Nat} (ha : 4 ≤ a) (hp : PX h h1 a 6 10 5) : zTw h1 a (zs0 h) id id := by
  obtain ⟨p1, p2, p3, p4, p5, p6, p7, p8⟩ := hp
  have hpm : zPm id id := fun j hj => ⟨hj, hj, rfl, rfl⟩
  refine ⟨⟨ha, p3, p4, fun c h1 h2 => ?_, p5 6 (by omega) (by omega), fun i hi => (p7 i hi).1⟩, hpm, ?_⟩
  · have := p5 c h1 (by omega)
    rcases (show c = 1 ∨ c = 2 ∨ c = 3 ∨ c = 4 ∨ c = 5 by omega) with rfl | rfl | rfl | rfl | rfl <;> exact this
  · obtain ⟨n1, t1, l1, i1, r1⟩ := h1
    unfold zt
    congr 4
    · funext x k
      dsimp only
      by_cases hr : a ≤ x ∧ x < a + 17
      · rw [if_pos hr]
        cases e : zix id (x - a) k with
        | none => rfl
        | some i =>
          show zs0 h i = i1 x k
          have hx : x = a + (x - a) := by omega
          generalize x - a = c at e hx
          subst hx
          by_cases hc : c < 7
          · have h6 : i1 (a + c) k = Vk h 5 c k := p6 c k hc
            rw [h6]
            unfold zix at e
            unfold Vk zs0
            rcases (show c = 0 ∨ c = 1 ∨ c = 2 ∨ c = 3 ∨ c = 4 ∨ c = 5 ∨ c = 6 by omega) with rfl | rfl | rfl | rfl | rfl | rfl | rfl
            · rw [if_pos rfl] at e
              rw [if_neg (show ¬ (0 : Nat) = 1 by omega), if_neg (show ¬ ((0 : Nat) = 2 ∧ k < 5) by omega)]
              repeat' split at e
              all_goals first | (cases e; rfl) | cases e
            · rw [if_neg (by omega), if_pos rfl] at e
              rw [if_pos rfl]
              split at e
              · next q => cases e; rw [if_pos q]
              · cases e
            · rw [if_neg (by omega), if_neg (by omega), if_pos rfl] at e
              rw [if_neg (show ¬ (2 : Nat) = 1 by omega)]
              split at e
              · next q => cases e; rw [if_neg (by omega), if_pos (by omega), if_pos ⟨rfl, q⟩]
              · cases e
            · rw [if_neg (by omega), if_neg (by omega), if_neg (by omega), if_pos rfl] at e
              rw [if_neg (show ¬ (3 : Nat) = 1 by omega), if_neg (show ¬ ((3 : Nat) = 2 ∧ k < 5) by omega)]
              split at e
              · next q => cases e; rw [if_neg (by omega), if_neg (by omega)]
              · cases e
            · rw [if_neg (by omega), if_neg (by omega), if_neg (by omega), if_neg (by omega), if_pos rfl] at e
              rw [if_neg (show ¬ (4 : Nat) = 1 by omega), if_neg (show ¬ ((4 : Nat) = 2 ∧ k < 5) by omega)]
              split at e
              · next q => cases e; rw [if_neg (by omega), if_neg (by omega)]
              · cases e
            · rw [if_neg (by omega), if_neg (by omega), if_neg (by omega), if_neg (by omega), if_neg (by omega), if_pos rfl] at e
              rw [if_neg (show ¬ (5 : Nat) = 1 by omega), if_neg (show ¬ ((5 : Nat) = 2 ∧ k < 5) by omega)]
              split at e
              · next q => cases e; rw [if_neg (by omega), if_neg (by omega)]
              · cases e
            · rw [if_neg (by omega), if_neg (by omega), if_neg (by omega), if_neg (by omega), if_neg (by omega), if_neg (by omega), if_neg (by omega)] at e
              cases e
          · have h7 : i1 (a + c) k = 0 := by
              have := (p7 (c - 7) (by omega)).2 k
              rw [show 7 + (c - 7) = c by omega] at this
              exact this
            rw [h7]
            unfold zix at e
            rw [if_neg (by omega), if_neg (by omega), if_neg (by omega), if_neg (by omega), if_neg (by omega), if_neg (by omega), if_pos (by omega)] at e
            split at e
            · cases e
              unfold zs0
              rw [if_neg (by omega), if_neg (by omega)]
            · cases e
      · rw [if_neg hr]
    · funext x k
      dsimp only
      by_cases hr : x = a + 6 ∧ k < 10
      · rw [if_pos hr, hr.1]
        exact (p8 k hr.2).symm
      · rw [if_neg hr]
section
variable {i j : zmi} {pc : Nat} {L : List (Option Value)} {st stk : List Value} {h h0 : zhp} {cc sc : Nat} {Q : Option Value → zhp → Prop} {av : List Value}
theorem tt_loopC {α : Type} (f : Nat → α → α) (N : Nat) (I : Nat → α → Prop) (Lf : Nat → α → List (Option Value)) (hf : Nat → α → zhp) (cf sf : Nat → Nat) (x0 : α) (h0 : I 0 x0) (hI : ∀ k x, k < N → I k x → I (k + 1) (f k x))
    (ex : I N (zlp f N 0 x0) → TT i pc (Lf N (zlp f N 0 x0)) st (hf N (zlp f N 0 x0)) (cf N) (sf N) Q)
    (bd : ∀ k x, k < N → I k x → TT i pc (Lf (k + 1) (f k x)) st (hf (k + 1) (f k x)) (cf (k + 1)) (sf (k + 1)) Q → TT i pc (Lf k x) st (hf k x) (cf k) (sf k) Q) : TT i pc (Lf 0 x0) st (hf 0 x0) (cf 0) (sf 0) Q := by
  have key : ∀ (r k : Nat) (x : α), k + r = N → I k x → zlp f r k x = zlp f N 0 x0 → TT i pc (Lf k x) st (hf k x) (cf k) (sf k) Q := by
    intro r
    induction r with
    | zero =>
      intro k x hk hx he
      have hk : k = N := hk
      subst hk
      have he : x = zlp f k 0 x0 := he
      rw [he] at hx ⊢
      exact ex hx
    | succ r ih =>
      intro k x hk hx he
      exact bd k x (by omega) hx (ih (k + 1) (f k x) (by omega) (hI k x (by omega) hx) he)
  exact key N 0 x0 (by omega) h0 rfl
end
