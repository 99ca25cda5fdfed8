/-! sums of Nats over skips, over customers -/
def tn (x : Int32) : Nat := x.toNatClampNeg
theorem tn_N {v : Nat} (h : v < 2 ^ 31) : tn (nI v) = v := nI_clamp h
def qS : Nat → (Nat → Nat) → Nat
  | 0, _ => 0
  | n + 1, g => qS n g + g n
theorem qS_cong : ∀ {n : Nat} {f g : Nat → Nat}, (∀ j, j < n → f j = g j) → qS n f = qS n g
  | 0, _, _, _ => rfl
  | n + 1, f, g, h => by
    show qS n f + f n = qS n g + g n
    rw [qS_cong (fun j hj => h j (by omega)), h n (by omega)]
theorem qS_le : ∀ {n : Nat} {f g : Nat → Nat}, (∀ j, j < n → f j ≤ g j) → qS n f ≤ qS n g
  | 0, _, _, _ => Nat.le_refl _
  | n + 1, f, g, h => Nat.add_le_add (qS_le (fun j hj => h j (by omega))) (h n (by omega))
theorem qS_one : ∀ {n : Nat} {g : Nat → Nat} {j : Nat}, j < n → g j ≤ qS n g
  | n + 1, g, j, hj => by
    show g j ≤ qS n g + g n
    by_cases q : j = n
    · subst q; omega
    · have := qS_one (g := g) (show j < n by omega)
      omega
theorem qS_up : ∀ {n : Nat} {f g : Nat → Nat} {j d : Nat}, j < n → (∀ i, i < n → i ≠ j → g i = f i) → g j = f j + d → qS n g = qS n f + d
  | n + 1, f, g, j, d, hj, h1, h2 => by
    show qS n g + g n = qS n f + f n + d
    by_cases q : j = n
    · subst q
      rw [h2, qS_cong (f := g) (g := f) (fun i hi => h1 i (by omega) (by omega))]
      omega
    · rw [qS_up (f := f) (show j < n by omega) (fun i hi hne => h1 i (by omega) hne) h2, h1 n (by omega) (fun z => q z.symm)]
      omega
theorem qS_skip : ∀ {n : Nat} {g : Nat → Nat} {j : Nat}, j < n → qS (n - 1) (fun i => if i < j then g i else g (i + 1)) + g j = qS n g
  | n + 1, g, j, hj => by
    show qS n (fun i => if i < j then g i else g (i + 1)) + g j = qS n g + g n
    by_cases q : j = n
    · subst q
      rw [qS_cong (g := g) (fun i hi => if_pos hi)]
    · have ih := qS_skip (g := g) (show j < n by omega)
      match n, q, hj, ih with
      | 0, q, hj, ih => exact absurd (show j = 0 by omega) q
      | m + 1, q, hj, ih =>
        show qS m (fun i => if i < j then g i else g (i + 1)) + (if m < j then g m else g (m + 1)) + g j = qS (m + 1) g + g (m + 1)
        rw [← ih, if_neg (by omega)]
        show _ = qS m (fun i => if i < j then g i else g (i + 1)) + g j + g (m + 1)
        omega
theorem qS_add : ∀ (n : Nat) (f g : Nat → Nat), qS n (fun j => f j + g j) = qS n f + qS n g
  | 0, _, _ => rfl
  | n + 1, f, g => by
    show qS n (fun j => f j + g j) + (f n + g n) = qS n f + f n + (qS n g + g n)
    rw [qS_add n f g]
    omega
theorem qS_bd : ∀ {n : Nat} {g : Nat → Nat} {b : Nat}, (∀ j, j < n → g j ≤ b) → qS n g ≤ n * b
  | 0, _, _, _ => Nat.zero_le _
  | n + 1, g, b, h => by
    show qS n g + g n ≤ (n + 1) * b
    have h1 := qS_bd (n := n) (g := g) (b := b) (fun j hj => h j (by omega))
    have h2 := h n (by omega)
    rw [Nat.succ_mul]
    omega
theorem qS_0 : ∀ {n : Nat} {g : Nat → Nat}, (∀ j, j < n → g j = 0) → qS n g = 0
  | 0, _, _ => rfl
  | n + 1, g, h => by
    show qS n g + g n = 0
    rw [qS_0 (fun j hj => h j (by omega)), h n (by omega)]
theorem qS_at {n c x : Nat} (hc : c < n) : qS n (fun i => if c = i then x else 0) = x := by
  have h := qS_up (n := n) (f := fun _ => 0) (g := fun i => if c = i then x else 0) (j := c) (d := x) hc (fun i _ hne => if_neg (fun z => hne z.symm)) (by rw [if_pos rfl]; omega)
  rw [qS_0 (fun _ _ => rfl)] at h
  omega
/-- by groups, or all -/
theorem qS_grp {m : Nat} {u : Nat → Nat} : ∀ {n : Nat} {g : Nat → Nat}, (∀ j, j < n → u j < m) → qS m (fun c => qS n (fun j => if u j = c then g j else 0)) = qS n g
  | 0, _, _ => qS_0 (fun _ _ => rfl)
  | n + 1, g, h => by
    show qS m (fun c => qS n (fun j => if u j = c then g j else 0) + (if u n = c then g n else 0)) = qS n g + g n
    rw [qS_add m (fun c => qS n (fun j => if u j = c then g j else 0)) (fun c => if u n = c then g n else 0), qS_grp (fun j hj => h j (by omega)), qS_at (h n (by omega))]
theorem zlp_last {α : Type} (f : Nat → α → α) : ∀ (r k : Nat) (x : α), zlp f (r + 1) k x = f (k + r) (zlp f r k x)
  | 0, _, _ => rfl
  | r + 1, k, x => by
    show zlp f (r + 1) (k + 1) (f k x) = f (k + (r + 1)) (zlp f r (k + 1) (f k x))
    rw [zlp_last f r (k + 1) (f k x), show k + 1 + r = k + (r + 1) by omega]
theorem qS_zlp : ∀ (n : Nat) (g : Nat → Nat), zlp (fun j x => x + g j) n 0 0 = qS n g
  | 0, _ => rfl
  | n + 1, g => by
    rw [zlp_last, qS_zlp n g, Nat.zero_add]
    rfl
theorem qS_I : ∀ {n : Nat} {f : Nat → Int32} {g : Nat → Nat}, (∀ j, j < n → f j = nI (g j)) → zlp (fun j (x : Int32) => x + f j) n 0 (nI 0) = nI (qS n g)
  | 0, _, _, _ => rfl
  | n + 1, f, g, h => by
    rw [zlp_last, qS_I (fun j hj => h j (by omega)), Nat.zero_add, h n (by omega), nI_add]
    rfl
theorem qS_cnt {P : Nat → Prop} [∀ j, Decidable (P j)] : ∀ (n : Nat), zlp (fun j x => if P j then x + 1 else x) n 0 0 = qS n (fun j => if P j then 1 else 0)
  | 0 => rfl
  | n + 1 => by
    rw [zlp_last, qS_cnt n, Nat.zero_add]
    show (if P n then _ else _) = qS n (fun j => if P j then 1 else 0) + (if P n then 1 else 0)
    by_cases q : P n
    · rw [if_pos q, if_pos q]
    · rw [if_neg q, if_neg q]
      omega
theorem zS_I {n : Nat} {f : Nat → Int32} {g : Nat → Nat} (h : ∀ j, j < n → f j = nI (g j)) : zS n f = nI (qS n g) := qS_I h
theorem kCs_q (s : Nat → Int32) (n : Nat) (v : Int32) : kCs s n v = qS n (fun j => if s (34 + 10 * j + 2) = v then 1 else 0) := qS_cnt (P := fun j => s (34 + 10 * j + 2) = v) n
theorem kCc_q (s : Nat → Int32) (n : Nat) (v : Int32) : kCc s n v = qS n (fun j => if s (34 + 10 * j + 0) = v then 1 else 0) := qS_cnt (P := fun j => s (34 + 10 * j + 0) = v) n
theorem kCn_q (s : Nat → Int32) (n : Nat) (v : Int32) : kCn s n v = qS n (fun j => if s (34 + 10 * j + 2) = v ∧ ¬ s 8 ≤ s (34 + 10 * j + 6) then 1 else 0) := qS_cnt (P := fun j => s (34 + 10 * j + 2) = v ∧ ¬ s 8 ≤ s (34 + 10 * j + 6)) n
theorem kCf_q (s : Nat → Int32) (n : Nat) : kCf s n = qS n (fun j => if kHo s j ≤ s (34 + 10 * j + 3) then 1 else 0) := qS_cnt (P := fun j => kHo s j ≤ s (34 + 10 * j + 3)) n
/-! the sums of a row: coins, tipped, fines of customers; coins and units of skips; skips in streets -/
def zJ (s : Nat → Int32) (n B : Nat) : Prop :=
  (∀ k, k < 6 → ∃ v, v ≤ 90 ∧ s k = nI v) ∧ (∀ k, k < 5 → ∃ v, v ≤ 4 ∧ s (10 + k) = nI v) ∧
  (∀ c, c < 6 → ∃ C T F, F ≤ C ∧ C ≤ B ∧ T ≤ B ∧ s (15 + 3 * c + 0) = nI C ∧ s (15 + 3 * c + 1) = nI T ∧ s (15 + 3 * c + 2) = nI F) ∧
  (∃ b, b ≤ B ∧ s 134 = nI b) ∧
  (∀ j, j < n → ∃ b p x, b ≤ B ∧ x ≤ 6 * B ∧ p ≤ 9999 ∧ nI p ≤ s 8 ∧ s (34 + 10 * j + 7) = nI b ∧ s (34 + 10 * j + 8) = nI p ∧ s (34 + 10 * j + 9) = nI x) ∧
  qS n (fun j => tn (s (34 + 10 * j + 9))) ≤ qS 6 (fun c => tn (s (15 + 3 * c + 0))) ∧
  qS n (fun j => tn (s (34 + 10 * j + 7))) ≤ tn (s 134) ∧
  ∀ st, st < 5 → qS n (fun j => if s (34 + 10 * j + 2) = nI st then 1 else 0) ≤ 4
theorem zJ_mono {s : Nat → Int32} {n B B2 : Nat} (hB : B ≤ B2) (h : zJ s n B) : zJ s n B2 := by
  obtain ⟨h1, h2, h3, ⟨b, hb, e⟩, h5, h6⟩ := h
  refine ⟨h1, h2, fun c hc => ?_, ⟨b, by omega, e⟩, fun j hj => ?_, h6⟩
  · obtain ⟨C, T, F, q1, q2, q3, q4⟩ := h3 c hc
    exact ⟨C, T, F, q1, by omega, by omega, q4⟩
  · obtain ⟨b, p, x, q1, q2, q3⟩ := h5 j hj
    exact ⟨b, p, x, by omega, by omega, q3⟩
theorem zJ_fr {s s' : Nat → Int32} {n B : Nat} (h : zJ s n B) (e : ∀ k, k < 6 ∨ k = 8 ∨ (10 ≤ k ∧ k < 33) ∨ k = 134 → s' k = s k) (ej : ∀ j, j < n → ∀ f, f = 2 ∨ f = 7 ∨ f = 8 ∨ f = 9 → s' (34 + 10 * j + f) = s (34 + 10 * j + f)) : zJ s' n B := by
  obtain ⟨h1, h2, h3, h4, h5, h6, h7, h8⟩ := h
  refine ⟨fun k hk => by rw [e k (by omega)]; exact h1 k hk, fun k hk => by rw [e _ (by omega)]; exact h2 k hk, fun c hc => by rw [e _ (by omega), e _ (by omega), e _ (by omega)]; exact h3 c hc, by rw [e 134 (by omega)]; exact h4, fun j hj => by rw [ej j hj 7 (by omega), ej j hj 8 (by omega), ej j hj 9 (by omega), e 8 (by omega)]; exact h5 j hj, ?_, ?_, fun st hst => ?_⟩
  · rw [qS_cong (g := fun j => tn (s (34 + 10 * j + 9))) (fun j hj => by rw [ej j hj 9 (by omega)]), qS_cong (f := fun c => tn (s' (15 + 3 * c + 0))) (g := fun c => tn (s (15 + 3 * c + 0))) (fun c hc => by rw [e _ (by omega)])]
    exact h6
  · rw [qS_cong (g := fun j => tn (s (34 + 10 * j + 7))) (fun j hj => by rw [ej j hj 7 (by omega)]), e 134 (by omega)]
    exact h7
  · rw [qS_cong (g := fun j => if s (34 + 10 * j + 2) = nI st then 1 else 0) (fun j hj => by rw [ej j hj 2 (by omega)])]
    exact h8 st hst
theorem zJ_sim {a b : Nat → Int32} {n B : Nat} (hs : sim n a b) (h : zJ b n B) : zJ a n B := zJ_fr h (fun k hk => hs k (by omega)) (fun j hj f hf => hs _ (by omega))
/-- a charge for skip j to its customer -/
theorem zJ_ch {s : Nat → Int32} {n B j c X : Nat} (h : zJ s n B) (hj : j < n) (hc : c < 6) (hB : B + X ≤ 2 ^ 28) : zJ (sCh s j c (nI X)) n (B + X) := by
  obtain ⟨h1, h2, h3, ⟨b0, hb0, e0⟩, h5, h6, h7, h8⟩ := h
  have ec : sCh s j c (nI X) (15 + 3 * c + 0) = s (15 + 3 * c + 0) + nI X := sCh_c hc
  have e9 : sCh s j c (nI X) (34 + 10 * j + 9) = s (34 + 10 * j + 9) + nI X := sCh_9 hc
  obtain ⟨C, T, F, q1, q2, q3, q4, q5, q6⟩ := h3 c hc
  obtain ⟨b, p, x, r1, r2, r3, r4, r5, r6, r7⟩ := h5 j hj
  refine ⟨fun k hk => by rw [sCh_ne (by omega) (by omega)]; exact h1 k hk, fun k hk => by rw [sCh_ne (by omega) (by omega)]; exact h2 k hk, fun i hi => ?_, ⟨b0, by omega, by rw [sCh_ne (by omega) (by omega)]; exact e0⟩, fun i hi => ?_, ?_, ?_, fun st hst => ?_⟩
  · by_cases q : i = c
    · subst q
      exact ⟨C + X, T, F, by omega, by omega, by omega, by rw [ec, q4, nI_add], by rw [sCh_ne (by omega) (by omega)]; exact q5, by rw [sCh_ne (by omega) (by omega)]; exact q6⟩
    · obtain ⟨C, T, F, q1, q2, q3, q4, q5, q6⟩ := h3 i hi
      exact ⟨C, T, F, q1, by omega, by omega, by rw [sCh_ne (by omega) (by omega)]; exact q4, by rw [sCh_ne (by omega) (by omega)]; exact q5, by rw [sCh_ne (by omega) (by omega)]; exact q6⟩
  · by_cases q : i = j
    · subst q
      exact ⟨b, p, x + X, by omega, by omega, r3, by rw [sCh_ne (by omega) (by omega)]; exact r4, by rw [sCh_ne (by omega) (by omega)]; exact r5, by rw [sCh_ne (by omega) (by omega)]; exact r6, by rw [e9, r7, nI_add]⟩
    · obtain ⟨b, p, x, r1, r2, r3, r4, r5, r6, r7⟩ := h5 i hi
      exact ⟨b, p, x, by omega, by omega, r3, by rw [sCh_ne (by omega) (by omega)]; exact r4, by rw [sCh_ne (by omega) (by omega)]; exact r5, by rw [sCh_ne (by omega) (by omega)]; exact r6, by rw [sCh_ne (by omega) (by omega)]; exact r7⟩
  · rw [qS_up (f := fun i => tn (s (34 + 10 * i + 9))) (d := X) hj (fun i hi hne => by rw [sCh_ne (by omega) (by omega)]) (by rw [e9, r7, nI_add, tn_N (by omega), tn_N (by omega)]), qS_up (f := fun i => tn (s (15 + 3 * i + 0))) (d := X) hc (fun i hi hne => by rw [sCh_ne (by omega) (by omega)]) (by rw [ec, q4, nI_add, tn_N (by omega), tn_N (by omega)])]
    omega
  · rw [qS_cong (g := fun j => tn (s (34 + 10 * j + 7))) (fun i hi => by rw [sCh_ne (by omega) (by omega)]), sCh_ne (by omega) (by omega)]
    exact h7
  · rw [qS_cong (g := fun j => if s (34 + 10 * j + 2) = nI st then 1 else 0) (fun i hi => by rw [sCh_ne (by omega) (by omega)])]
    exact h8 st hst
/-- units of customer c are tipped -/
theorem zJ_tp {s : Nat → Int32} {n B c X : Nat} (h : zJ s n B) (hc : c < 6) : zJ (upd s (15 + 3 * c + 1) (s (15 + 3 * c + 1) + nI X)) n (B + X) := by
  obtain ⟨h1, h2, h3, ⟨b0, hb0, e0⟩, h5, h6, h7, h8⟩ := h
  obtain ⟨C, T, F, q1, q2, q3, q4, q5, q6⟩ := h3 c hc
  refine ⟨fun k hk => by rw [pk_un (by omega)]; exact h1 k hk, fun k hk => by rw [pk_un (by omega)]; exact h2 k hk, fun i hi => ?_, ⟨b0, by omega, by rw [pk_un (by omega)]; exact e0⟩, fun i hi => ?_, ?_, ?_, fun st hst => ?_⟩
  · by_cases q : i = c
    · subst q
      exact ⟨C, T + X, F, by omega, by omega, by omega, by rw [pk_un (by omega)]; exact q4, by rw [pk_us, q5, nI_add], by rw [pk_un (by omega)]; exact q6⟩
    · obtain ⟨C, T, F, q1, q2, q3, q4, q5, q6⟩ := h3 i hi
      exact ⟨C, T, F, q1, by omega, by omega, by rw [pk_un (by omega)]; exact q4, by rw [pk_un (by omega)]; exact q5, by rw [pk_un (by omega)]; exact q6⟩
  · obtain ⟨b, p, x, r1, r2, r3, r4, r5, r6, r7⟩ := h5 i hi
    exact ⟨b, p, x, by omega, by omega, r3, by rw [pk_un (by omega)]; exact r4, by rw [pk_un (by omega)]; exact r5, by rw [pk_un (by omega)]; exact r6, by rw [pk_un (by omega)]; exact r7⟩
  · rw [qS_cong (g := fun j => tn (s (34 + 10 * j + 9))) (fun i hi => by rw [pk_un (by omega)]), qS_cong (f := fun c_1 => tn (upd s (15 + 3 * c + 1) (s (15 + 3 * c + 1) + nI X) (15 + 3 * c_1 + 0))) (g := fun c => tn (s (15 + 3 * c + 0))) (fun i hi => by rw [pk_un (by omega)])]
    exact h6
  · rw [qS_cong (g := fun j => tn (s (34 + 10 * j + 7))) (fun i hi => by rw [pk_un (by omega)]), pk_un (by omega)]
    exact h7
  · rw [qS_cong (g := fun j => if s (34 + 10 * j + 2) = nI st then 1 else 0) (fun i hi => by rw [pk_un (by omega)])]
    exact h8 st hst
