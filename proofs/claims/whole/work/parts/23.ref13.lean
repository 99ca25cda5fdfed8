/-! the reference: a text is gone through; fault, run -/
theorem tk_gt {p : Nat → Int32} {n : Nat} {lo hi : Int32} {k : Nat} {f : Bool} (h : (tk p n lo hi k f).2.2 = false) : f = false ∧ k < n ∧ (tk p n lo hi k f).2.1 = k + 1 := by
  obtain ⟨a1, a2, -, a4⟩ := tk_ok h
  exact ⟨a1, a2, by rw [a4]⟩
theorem nu_gt {p : Nat → Int32} {n l m : Nat} {k : Nat} {f : Bool} (h : (nu p n l m k f).2.2 = false) : f = false ∧ k < (nu p n l m k f).2.1 ∧ (nu p n l m k f).2.1 ≤ n := by
  unfold nu at h ⊢
  dsimp only at h ⊢
  split at h
  · next q =>
    rw [if_pos q]
    obtain ⟨a1, a2, a3⟩ := tk_gt q.2.1.1
    have := q.2.1.2.1
    exact ⟨a1, by dsimp only; omega, by dsimp only; omega⟩
  · next q =>
    rw [if_neg q]
    obtain ⟨a1, a2, a3⟩ := tk_gt h
    exact ⟨a1, by dsimp only; omega, by dsimp only; omega⟩
theorem rdO_gt {p : Nat → Int32} {n k : Nat} (h : (rdO p n k).2.2.2 = false) : k < (rdO p n k).2.2.1 ∧ (rdO p n k).2.2.1 ≤ n := by
  have r43 : (rd43 p n k).2.2 = false → k < (rd43 p n k).2.1 ∧ (rd43 p n k).2.1 ≤ n := fun q => by
    obtain ⟨a1, a2, a3⟩ := nu_gt q
    obtain ⟨b1, b2, b3⟩ := tk_gt a1
    obtain ⟨c1, c2, c3⟩ := tk_gt b1
    obtain ⟨d1, d2, d3⟩ := tk_gt c1
    obtain ⟨e1, e2, e3⟩ := tk_gt d1
    refine ⟨?_, a3⟩
    have a2' := a2
    rw [b3, c3, d3, e3] at a2'
    unfold rd43
    dsimp only
    omega
  have r1 : (rd1 p n k).2.2 = false → k < (rd1 p n k).2.1 ∧ (rd1 p n k).2.1 ≤ n := fun q => by
    obtain ⟨a1, a2, a3⟩ := tk_gt q
    unfold rd1
    dsimp only
    omega
  have r112 : (rd112 p n k).2.2 = false → k < (rd112 p n k).2.1 ∧ (rd112 p n k).2.1 ≤ n := fun q => by
    obtain ⟨a1, a2, a3⟩ := nu_gt q
    obtain ⟨b1, b2, b3⟩ := tk_gt a1
    obtain ⟨c1, c2, c3⟩ := tk_gt b1
    refine ⟨?_, a3⟩
    have a2' := a2
    rw [b3, c3] at a2'
    unfold rd112
    dsimp only
    omega
  have r46 : (rd46 p n k).2.2 = false → k < (rd46 p n k).2.1 ∧ (rd46 p n k).2.1 ≤ n := fun q => by
    obtain ⟨a1, a2, a3⟩ := nu_gt q
    refine ⟨?_, a3⟩
    unfold rd46
    dsimp only
    omega
  unfold rdO at h ⊢
  split at h
  · next h1 =>
    rw [if_pos h1]
    split at h
    · next h2 => rw [if_pos h2]; exact r43 h
    · next h2 =>
      rw [if_neg h2]
      split at h
      · next h3 => rw [if_pos h3]; exact r1 h
      · next h3 =>
        rw [if_neg h3]
        split at h
        · next h4 => rw [if_pos h4]; exact r1 h
        · next h4 =>
          rw [if_neg h4]
          split at h
          · next h5 => rw [if_pos h5]; exact r112 h
          · next h5 =>
            rw [if_neg h5]
            split at h
            · next h6 => rw [if_pos h6]; exact r1 h
            · next h6 =>
              rw [if_neg h6]
              split at h
              · next h7 => rw [if_pos h7]; exact r46 h
              · cases h
  · cases h
def gf (p : Nat → Int32) (n : Nat) : Nat → Nat → Nat × Bool
  | 0, k => (k, false)
  | r + 1, k => if (rdO p n k).2.2.2 = true then ((rdO p n k).2.2.1, true) else if (rdO p n k).2.2.1 < n then (if (tk p n (nI 59) (nI 59) (rdO p n k).2.2.1 false).2.2 = true then ((tk p n (nI 59) (nI 59) (rdO p n k).2.2.1 false).2.1, true) else gf p n r ((rdO p n k).2.2.1 + 1)) else ((rdO p n k).2.2.1, false)
theorem tk_le2 {p : Nat → Int32} {n : Nat} {lo hi : Int32} {k : Nat} {f : Bool} (h : k ≤ n) : (tk p n lo hi k f).2.1 ≤ n := by
  unfold tk
  by_cases q : f = false ∧ k < n ∧ (lo ≤ p k ∧ p k ≤ hi)
  · rw [if_pos q]
    show k + 1 ≤ n
    have := q.2.1
    omega
  · rw [if_neg q]
    exact h
theorem nu_le2 {p : Nat → Int32} {n l m : Nat} {k : Nat} {f : Bool} (h : k ≤ n) : (nu p n l m k f).2.1 ≤ n := by
  unfold nu
  dsimp only
  split
  · next q =>
    have := q.2.1.2.1
    dsimp only
    omega
  · exact tk_le2 h
theorem rdO_le {p : Nat → Int32} {n k : Nat} (hk : k ≤ n) : (rdO p n k).2.2.1 ≤ n := by
  unfold rdO
  split
  · next h1 =>
    have e : k + 1 ≤ n := by omega
    split
    · exact nu_le2 (tk_le2 (tk_le2 (tk_le2 (tk_le2 e))))
    · split
      · exact tk_le2 e
      · split
        · exact tk_le2 e
        · split
          · exact nu_le2 (tk_le2 (tk_le2 e))
          · split
            · exact tk_le2 e
            · split
              · exact nu_le2 e
              · exact hk
  · exact hk
theorem gf_le {p : Nat → Int32} {n : Nat} : ∀ (r k : Nat), k ≤ n → (gf p n r k).1 ≤ n
  | 0, _, h => h
  | r + 1, k, h => by
    unfold gf
    split
    · exact rdO_le h
    · split
      · split
        · exact tk_le2 (by omega)
        · exact gf_le r _ (by omega)
      · exact rdO_le h
/-- what the fields tell behind a text that was gone through -/
def zgQ (h : zhp) (s a t l p : Nat → Int32) (v3 v5 : Int32) (n : Nat) (c : Int32) (g : Nat × Bool) : Option Value → zhp → Prop := fun r h1 => r = some (.int c) ∧ ∃ F1, h1 = zm h F1 s a t l p ∧ F1 3 = v3 ∧ F1 5 = v5 ∧ F1 7 = nI n ∧ F1 8 = nI g.1 ∧ F1 9 = zb (g.2 = true)
/-- the orders of a text without a fault, done one after another: how many gave no error, and the row -/
def sGo (p : Nat → Int32) (n : Nat) : Nat → Nat → Nat → (Nat → Int32) → Nat × (Nat → Int32)
  | 0, _, c, s => (c, s)
  | r + 1, k, c, s => if (rdO p n k).2.2.1 < n then sGo p n r ((rdO p n k).2.2.1 + 1) (if (sEx s (rdO p n k)).1 < 0 then c else c + 1) (sEx s (rdO p n k)).2 else (if (sEx s (rdO p n k)).1 < 0 then c else c + 1, (sEx s (rdO p n k)).2)
theorem sGo_WF {p : Nat → Int32} {n : Nat} : ∀ (r k c : Nat) (s : Nat → Int32), sWF s (nS s) → sWF (sGo p n r k c s).2 (nS (sGo p n r k c s).2)
  | 0, _, _, _, h => h
  | r + 1, k, c, s, h => by
    unfold sGo
    split
    · exact sGo_WF r _ _ _ (sEx_WF h)
    · exact sEx_WF h
set_option maxRecDepth 100000 in
set_option maxHeartbeats 4000000 in
theorem g_X6_goesThrough_0s {h : zhp} (hM : zMo h) (s a t l p : Nat → Int32) (v3 v5 : Int32) (n : Nat) (ht : pOK p n) (r : Nat) (ih : ∀ (F : Nat → Int32) (h3 : F 3 = v3) (h5 : F 5 = v5) (h7 : F 7 = nI n) (k : Nat) (hk : k ≤ n) (hr : n < k + r) (h8 : F 8 = nI k) (h9 : F 9 = nI 0) (x4 : Option Value), TT iX6_goesThrough 14 [some (.ref 181), some (.int (nI 0)), some (.int (nI 0)), some (.int (nI 1)), x4] [] (zm h F s a t l p) 0 0 (zgQ h s a t l p v3 v5 n (nI 0) (gf p n r k))) (F : Nat → Int32) (h3 : F 3 = v3) (h5 : F 5 = v5) (h7 : F 7 = nI n) (k : Nat) (hk : k ≤ n) (hr : n < k + (r + 1)) (h8 : F 8 = nI k) (h9 : F 9 = nI 0) (x4 : Option Value) : TT iX6_goesThrough 14 [some (.ref 181), some (.int (nI 0)), some (.int (nI 0)), some (.int (nI 1)), x4] [] (zm h F s a t l p) 0 0 (zgQ h s a t l p v3 v5 n (nI 0) (gf p n (r + 1) k)) := by
  refine tt_iload_n dX6_goesThrough_14 rfl ?_
  refine tt_if_eq (tgt := 95) dX6_goesThrough_15 (by decide) (fun q => absurd q (by decide)) (fun _ => ?_)
  refine tt_aload_n dX6_goesThrough_18 rfl ?_
  refine tt_callV (c_X6_readOrder hM _ _ _ _ _ _ n ht h7 k (by have := ht.1; omega) h8 h9) dX6_goesThrough_19 vX6_178 rfl rfl hM.1 (by decide) rfl (by decide) (Nat.le_of_ble_eq_true rfl) (Nat.le_of_ble_eq_true rfl) (Nat.le_of_ble_eq_true rfl) (fun r1 h1 q1 => ?_)
  obtain ⟨rfl, F1, rfl, hz⟩ := q1
  obtain ⟨z3, z5, z7, z8, z9, zz⟩ := hz
  refine (show TT iX6_goesThrough 22 _ _ _ 0 0 _ from ?_)
  refine tt_iload_n dX6_goesThrough_22 rfl ?_
  refine tt_iload_n dX6_goesThrough_23 rfl ?_
  refine tt_if_eq (tgt := 38) dX6_goesThrough_24 (by decide) (fun _ => ?_) (fun q => absurd (by decide) q)
  refine tt_iconst (nI 0) dX6_goesThrough_38 rfl ?_
  refine tt_iaddN dX6_goesThrough_39 ?_
  refine tt_istore_n dX6_goesThrough_40 rfl (Nat.le_of_ble_eq_true rfl) rfl ?_
  refine tt_aload_n dX6_goesThrough_41 rfl ?_
  refine tt_mI dX6_goesThrough_42 fX6_146 rfl hM ?_
  refine tt_eq z9 ?_
  refine tt_if_neB (tgt := 63) dX6_goesThrough_45 (by decide) (fun c_45 => ?_) (fun c_45 => ?_)
  · refine tt_iconst (nI 0) dX6_goesThrough_63 rfl ?_
    refine tt_istore_n dX6_goesThrough_64 rfl (Nat.le_of_ble_eq_true rfl) rfl ?_
    refine tt_iload_n dX6_goesThrough_65 rfl ?_
    refine tt_if_eq (tgt := 14) dX6_goesThrough_66 (by decide) (fun _ => ?_) (fun q => absurd (by decide) q)
    refine tt_iload_n dX6_goesThrough_14 rfl ?_
    refine tt_if_eq (tgt := 95) dX6_goesThrough_15 (by decide) (fun _ => ?_) (fun q => absurd (by decide) q)
    refine tt_iload_n dX6_goesThrough_95 rfl ?_
    exact tt_ireturn dX6_goesThrough_96 rfl rfl (Nat.zero_le _) (Nat.zero_le _) (by
  first
  | rw [show gf p n (r + 1) k = ((rdO p n k).2.2.1, true) from if_pos c_45]
    exact ⟨rfl, F1, rfl, z3.trans h3, z5.trans h5, z7.trans h7, z8, z9.trans (zb_cg (by rw [c_45]))⟩
  | rw [show gf p n (r + 1) k = ((tk p n (nI 59) (nI 59) (rdO p n k).2.2.1 false).2.1, true) from (if_neg c_45).trans ((if_pos (by omega)).trans (if_pos c_83))]
    exact ⟨rfl, _, rfl, z3.trans h3, z5.trans h5, z7.trans h7, rfl, zb_cg (by rw [c_83])⟩
  | rw [show gf p n (r + 1) k = ((rdO p n k).2.2.1, false) from (if_neg c_45).trans (if_neg (by omega))]
    exact ⟨rfl, F1, rfl, z3.trans h3, z5.trans h5, z7.trans h7, z8, z9.trans (zb_cg (by rw [Bool.not_eq_true _ |>.mp c_45]))⟩)
  · refine tt_aload_n dX6_goesThrough_48 rfl ?_
    refine tt_mI dX6_goesThrough_49 fX6_150 rfl hM ?_
    refine tt_eq z8 ?_
    refine tt_aload_n dX6_goesThrough_52 rfl ?_
    refine tt_mI dX6_goesThrough_53 fX6_134 rfl hM ?_
    refine tt_eq (z7.trans h7) ?_
    have hO := rdO_le (p := p) hk
    have hn60 := ht.1
    refine tt_icmp_geN (tgt := 63) dX6_goesThrough_56 (by decide) (by omega) (by omega) (fun c_56 => ?_) (fun c_56 => ?_)
    · refine tt_iconst (nI 0) dX6_goesThrough_63 rfl ?_
      refine tt_istore_n dX6_goesThrough_64 rfl (Nat.le_of_ble_eq_true rfl) rfl ?_
      refine tt_iload_n dX6_goesThrough_65 rfl ?_
      refine tt_if_eq (tgt := 14) dX6_goesThrough_66 (by decide) (fun _ => ?_) (fun q => absurd (by decide) q)
      refine tt_iload_n dX6_goesThrough_14 rfl ?_
      refine tt_if_eq (tgt := 95) dX6_goesThrough_15 (by decide) (fun _ => ?_) (fun q => absurd (by decide) q)
      refine tt_iload_n dX6_goesThrough_95 rfl ?_
      exact tt_ireturn dX6_goesThrough_96 rfl rfl (Nat.zero_le _) (Nat.zero_le _) (by
  first
  | rw [show gf p n (r + 1) k = ((rdO p n k).2.2.1, true) from if_pos c_45]
    exact ⟨rfl, F1, rfl, z3.trans h3, z5.trans h5, z7.trans h7, z8, z9.trans (zb_cg (by rw [c_45]))⟩
  | rw [show gf p n (r + 1) k = ((tk p n (nI 59) (nI 59) (rdO p n k).2.2.1 false).2.1, true) from (if_neg c_45).trans ((if_pos (by omega)).trans (if_pos c_83))]
    exact ⟨rfl, _, rfl, z3.trans h3, z5.trans h5, z7.trans h7, rfl, zb_cg (by rw [c_83])⟩
  | rw [show gf p n (r + 1) k = ((rdO p n k).2.2.1, false) from (if_neg c_45).trans (if_neg (by omega))]
    exact ⟨rfl, F1, rfl, z3.trans h3, z5.trans h5, z7.trans h7, z8, z9.trans (zb_cg (by rw [Bool.not_eq_true _ |>.mp c_45]))⟩)
    · refine tt_iconst (nI 1) dX6_goesThrough_59 rfl ?_
      refine tt_goto (tgt := 64) dX6_goesThrough_60 (by decide) ?_
      refine tt_istore_n dX6_goesThrough_64 rfl (Nat.le_of_ble_eq_true rfl) rfl ?_
      refine tt_iload_n dX6_goesThrough_65 rfl ?_
      refine tt_if_eq (tgt := 14) dX6_goesThrough_66 (by decide) (fun q => absurd q (by decide)) (fun _ => ?_)
      refine tt_aload_n dX6_goesThrough_69 rfl ?_
      refine tt_bipush (nI 59) dX6_goesThrough_70 rfl ?_
      refine tt_bipush (nI 59) dX6_goesThrough_72 rfl ?_
      refine tt_fVi (c_X6_takesOne hM _ _ _ _ _ _ n ht.1 (z7.trans h7) (rdO p n k).2.2.1 false (by have := ht.1; have := rdO_le (p := p) hk; omega) z8 (by rw [z9, Bool.not_eq_true _ |>.mp c_45]) _ _) dX6_goesThrough_74 vX6_157 rfl rfl hM.1 (by decide) rfl (by decide) ⟨rfl, rfl⟩ (Nat.zero_le _) (Nat.zero_le _) (Nat.le_of_ble_eq_true rfl) ?_
      refine tt_istore dX6_goesThrough_77 rfl (Nat.le_of_ble_eq_true rfl) rfl ?_
      refine tt_aload_n dX6_goesThrough_79 rfl ?_
      refine tt_mI dX6_goesThrough_80 fX6_146 rfl hM ?_
      refine tt_eq (show _ = zb ((tk p n (nI 59) (nI 59) (rdO p n k).2.2.1 false).2.2 = true) from rfl) ?_
      refine tt_if_neB (tgt := 90) dX6_goesThrough_83 (by decide) (fun c_83 => ?_) (fun c_83 => ?_)
      · refine tt_iconst (nI 0) dX6_goesThrough_90 rfl ?_
        refine tt_istore_n dX6_goesThrough_91 rfl (Nat.le_of_ble_eq_true rfl) rfl ?_
        refine tt_goto (tgt := 14) dX6_goesThrough_92 (by decide) ?_
        refine tt_iload_n dX6_goesThrough_14 rfl ?_
        refine tt_if_eq (tgt := 95) dX6_goesThrough_15 (by decide) (fun _ => ?_) (fun q => absurd (by decide) q)
        refine tt_iload_n dX6_goesThrough_95 rfl ?_
        exact tt_ireturn dX6_goesThrough_96 rfl rfl (Nat.zero_le _) (Nat.zero_le _) (by
  first
  | rw [show gf p n (r + 1) k = ((rdO p n k).2.2.1, true) from if_pos c_45]
    exact ⟨rfl, F1, rfl, z3.trans h3, z5.trans h5, z7.trans h7, z8, z9.trans (zb_cg (by rw [c_45]))⟩
  | rw [show gf p n (r + 1) k = ((tk p n (nI 59) (nI 59) (rdO p n k).2.2.1 false).2.1, true) from (if_neg c_45).trans ((if_pos (by omega)).trans (if_pos c_83))]
    exact ⟨rfl, _, rfl, z3.trans h3, z5.trans h5, z7.trans h7, rfl, zb_cg (by rw [c_83])⟩
  | rw [show gf p n (r + 1) k = ((rdO p n k).2.2.1, false) from (if_neg c_45).trans (if_neg (by omega))]
    exact ⟨rfl, F1, rfl, z3.trans h3, z5.trans h5, z7.trans h7, z8, z9.trans (zb_cg (by rw [Bool.not_eq_true _ |>.mp c_45]))⟩)
      · refine tt_iconst (nI 1) dX6_goesThrough_86 rfl ?_
        refine tt_goto (tgt := 91) dX6_goesThrough_87 (by decide) ?_
        refine tt_istore_n dX6_goesThrough_91 rfl (Nat.le_of_ble_eq_true rfl) rfl ?_
        refine tt_goto (tgt := 14) dX6_goesThrough_92 (by decide) ?_
        obtain ⟨-, g2, g3⟩ := tk_gt (Bool.not_eq_true _ |>.mp c_83)
        have g4 := rdO_gt (Bool.not_eq_true _ |>.mp c_45)
        rw [show gf p n (r + 1) k = gf p n r ((rdO p n k).2.2.1 + 1) from (if_neg c_45).trans ((if_pos g2).trans (if_neg c_83))]
        exact ih (upd (upd F1 8 (nI (tk p n (nI 59) (nI 59) (rdO p n k).2.2.1 false).2.1)) 9 (zb ((tk p n (nI 59) (nI 59) (rdO p n k).2.2.1 false).2.2 = true))) (z3.trans h3) (z5.trans h5) (z7.trans h7) _ (by omega) (by omega) (show nI (tk p n (nI 59) (nI 59) (rdO p n k).2.2.1 false).2.1 = _ by rw [g3]) (show zb ((tk p n (nI 59) (nI 59) (rdO p n k).2.2.1 false).2.2 = true) = nI 0 from if_neg c_83) _
theorem g_X6_goesThrough_0 {h : zhp} (hM : zMo h) (s a t l p : Nat → Int32) (v3 v5 : Int32) (n : Nat) (ht : pOK p n) : ∀ (r : Nat) (F : Nat → Int32) (h3 : F 3 = v3) (h5 : F 5 = v5) (h7 : F 7 = nI n) (k : Nat) (hk : k ≤ n) (hr : n < k + r) (h8 : F 8 = nI k) (h9 : F 9 = nI 0) (x4 : Option Value), TT iX6_goesThrough 14 [some (.ref 181), some (.int (nI 0)), some (.int (nI 0)), some (.int (nI 1)), x4] [] (zm h F s a t l p) 0 0 (zgQ h s a t l p v3 v5 n (nI 0) (gf p n r k))
  | 0, _, _, _, _, _, _, hr, _, _, _ => by omega
  | r + 1, F, h3, h5, h7, k, hk, hr, h8, h9, x4 => g_X6_goesThrough_0s hM s a t l p v3 v5 n ht r (g_X6_goesThrough_0 hM s a t l p v3 v5 n ht r) F h3 h5 h7 k hk hr h8 h9 x4
set_option maxRecDepth 100000 in
set_option maxHeartbeats 4000000 in
theorem c_X6_goesThrough_0 {h : zhp} (hM : zMo h) (F s a t l p : Nat → Int32) (n : Nat) (ht : pOK p n) (h7 : F 7 = nI n) : MM iX6_goesThrough [.ref 181, .int (nI 0)] (zm h F s a t l p) (zgQ h s a t l p (F 3) (F 5) n (nI 0) (gf p n 61 0)) := by
  refine MM_of (by decide +kernel) (Nat.le_of_ble_eq_true rfl) ?_
  refine tt_aload_n dX6_goesThrough_0 rfl ?_
  refine tt_iconst (nI 0) dX6_goesThrough_1 rfl ?_
  refine tt_mp dX6_goesThrough_2 fX6_150 rfl rfl hM ?_
  refine tt_aload_n dX6_goesThrough_5 rfl ?_
  refine tt_iconst (nI 0) dX6_goesThrough_6 rfl ?_
  refine tt_mpZ dX6_goesThrough_7 fX6_146 rfl (by decide) rfl hM ?_
  refine tt_iconst (nI 0) dX6_goesThrough_10 rfl ?_
  refine tt_istore_n dX6_goesThrough_11 rfl (Nat.le_of_ble_eq_true rfl) rfl ?_
  refine tt_iconst (nI 1) dX6_goesThrough_12 rfl ?_
  refine tt_istore_n dX6_goesThrough_13 rfl (Nat.le_of_ble_eq_true rfl) rfl ?_
  have hn60 := ht.1
  exact g_X6_goesThrough_0 hM s a t l p _ _ n ht 61 (upd (upd F 8 (nI 0)) 9 (nI 0)) rfl rfl h7 0 (by omega) (by omega) rfl rfl none
set_option maxRecDepth 100000 in
set_option maxHeartbeats 4000000 in
theorem g_X6_goesThrough_1s {h : zhp} (hM : zMo h) (a t l p : Nat → Int32) (v3 v5 : Int32) (n : Nat) (ht : pOK p n) (r : Nat) (ih : ∀ (c : Nat) (s F : Nat → Int32) (h3 : F 3 = v3) (h5 : F 5 = v5) (h7 : F 7 = nI n) (k : Nat) (hk : k ≤ n) (hr : n < k + r) (h8 : F 8 = nI k) (h9 : F 9 = nI 0) (x4 : Option Value) (hw : sWF s (nS s)) (hg : (gf p n r k).2 = false), TT iX6_goesThrough 14 [some (.ref 181), some (.int (nI 1)), some (.int (nI c)), some (.int (nI 1)), x4] [] (zm h F s a t l p) 0 0 (zgQ h (sGo p n r k c s).2 a t l p v3 v5 n (nI (sGo p n r k c s).1) (gf p n r k))) (c : Nat) (s F : Nat → Int32) (h3 : F 3 = v3) (h5 : F 5 = v5) (h7 : F 7 = nI n) (k : Nat) (hk : k ≤ n) (hr : n < k + (r + 1)) (h8 : F 8 = nI k) (h9 : F 9 = nI 0) (x4 : Option Value) (hw : sWF s (nS s)) (hg : (gf p n (r + 1) k).2 = false) : TT iX6_goesThrough 14 [some (.ref 181), some (.int (nI 1)), some (.int (nI c)), some (.int (nI 1)), x4] [] (zm h F s a t l p) 0 0 (zgQ h (sGo p n (r + 1) k c s).2 a t l p v3 v5 n (nI (sGo p n (r + 1) k c s).1) (gf p n (r + 1) k)) := by
  refine tt_iload_n dX6_goesThrough_14 rfl ?_
  refine tt_if_eq (tgt := 95) dX6_goesThrough_15 (by decide) (fun q => absurd q (by decide)) (fun _ => ?_)
  refine tt_aload_n dX6_goesThrough_18 rfl ?_
  refine tt_callV (c_X6_readOrder hM _ _ _ _ _ _ n ht h7 k (by have := ht.1; omega) h8 h9) dX6_goesThrough_19 vX6_178 rfl rfl hM.1 (by decide) rfl (by decide) (Nat.le_of_ble_eq_true rfl) (Nat.le_of_ble_eq_true rfl) (Nat.le_of_ble_eq_true rfl) (fun r1 h1 q1 => ?_)
  obtain ⟨rfl, F1, rfl, hz⟩ := q1
  obtain ⟨z3, z5, z7, z8, z9, zz⟩ := hz
  refine (show TT iX6_goesThrough 22 _ _ _ 0 0 _ from ?_)
  refine tt_iload_n dX6_goesThrough_22 rfl ?_
  refine tt_iload_n dX6_goesThrough_23 rfl ?_
  have hf : (rdO p n k).2.2.2 = false := by
    rcases Bool.eq_false_or_eq_true (rdO p n k).2.2.2 with q | q
    · rw [show gf p n (r + 1) k = ((rdO p n k).2.2.1, true) from if_pos q] at hg
      cases hg
    · exact q
  have hgf : (rdO p n k).2.2.1 < n → (tk p n (nI 59) (nI 59) (rdO p n k).2.2.1 false).2.2 = false ∧ (gf p n r ((rdO p n k).2.2.1 + 1)).2 = false := fun q => by
    have e : gf p n (r + 1) k = if (tk p n (nI 59) (nI 59) (rdO p n k).2.2.1 false).2.2 = true then ((tk p n (nI 59) (nI 59) (rdO p n k).2.2.1 false).2.1, true) else gf p n r ((rdO p n k).2.2.1 + 1) := (if_neg (by rw [hf]; decide)).trans (if_pos q)
    rw [e] at hg
    rcases Bool.eq_false_or_eq_true (tk p n (nI 59) (nI 59) (rdO p n k).2.2.1 false).2.2 with z | z
    · rw [if_pos z] at hg
      cases hg
    · rw [if_neg (by rw [z]; decide)] at hg
      exact ⟨z, hg⟩
  refine tt_if_eq (tgt := 38) dX6_goesThrough_24 (by decide) (fun q => absurd q (by decide)) (fun _ => ?_)
  refine tt_aload_n dX6_goesThrough_27 rfl ?_
  refine tt_fVi (c_X6_does hM F F1 _ _ _ _ _ (nS s) hw n k ⟨z3, z5, z7, z8, z9, zz⟩ hf) dX6_goesThrough_28 vX6_181 rfl rfl hM.1 (by decide) rfl (by decide) ⟨rfl, rfl⟩ (Nat.zero_le _) (Nat.zero_le _) (Nat.le_of_ble_eq_true rfl) ?_
  refine tt_if_lt (tgt := 38) dX6_goesThrough_31 (by decide) (fun c_31 => ?_) (fun c_31 => ?_)
  · refine tt_iconst (nI 0) dX6_goesThrough_38 rfl ?_
    refine tt_iaddN dX6_goesThrough_39 ?_
    refine tt_istore_n dX6_goesThrough_40 rfl (Nat.le_of_ble_eq_true rfl) rfl ?_
    refine tt_aload_n dX6_goesThrough_41 rfl ?_
    refine tt_mI dX6_goesThrough_42 fX6_146 rfl hM ?_
    refine tt_eq z9 ?_
    refine tt_if_neB (tgt := 63) dX6_goesThrough_45 (by decide) (fun c_45 => ?_) (fun c_45 => ?_)
    · exact absurd c_45 (by rw [hf]; decide)
    · refine tt_aload_n dX6_goesThrough_48 rfl ?_
      refine tt_mI dX6_goesThrough_49 fX6_150 rfl hM ?_
      refine tt_eq z8 ?_
      refine tt_aload_n dX6_goesThrough_52 rfl ?_
      refine tt_mI dX6_goesThrough_53 fX6_134 rfl hM ?_
      refine tt_eq (z7.trans h7) ?_
      have hO := rdO_le (p := p) hk
      have hn60 := ht.1
      refine tt_icmp_geN (tgt := 63) dX6_goesThrough_56 (by decide) (by omega) (by omega) (fun c_56 => ?_) (fun c_56 => ?_)
      · refine tt_iconst (nI 0) dX6_goesThrough_63 rfl ?_
        refine tt_istore_n dX6_goesThrough_64 rfl (Nat.le_of_ble_eq_true rfl) rfl ?_
        refine tt_iload_n dX6_goesThrough_65 rfl ?_
        refine tt_if_eq (tgt := 14) dX6_goesThrough_66 (by decide) (fun _ => ?_) (fun q => absurd (by decide) q)
        refine tt_iload_n dX6_goesThrough_14 rfl ?_
        refine tt_if_eq (tgt := 95) dX6_goesThrough_15 (by decide) (fun _ => ?_) (fun q => absurd (by decide) q)
        refine tt_iload_n dX6_goesThrough_95 rfl ?_
        exact tt_ireturn dX6_goesThrough_96 rfl rfl (Nat.zero_le _) (Nat.zero_le _) (by
  rw [show gf p n (r + 1) k = ((rdO p n k).2.2.1, false) from (if_neg c_45).trans (if_neg (by omega)), show sGo p n (r + 1) k c s = (if (sEx s (rdO p n k)).1 < 0 then c else c + 1, (sEx s (rdO p n k)).2) from if_neg (by omega)]
  refine ⟨?_, F1, rfl, z3.trans h3, z5.trans h5, z7.trans h7, z8, z9.trans (zb_cg (by rw [hf]))⟩
  first
  | (rw [if_pos c_31] <;> rfl)
  | (rw [if_neg c_31] <;> rfl))
      · refine tt_iconst (nI 1) dX6_goesThrough_59 rfl ?_
        refine tt_goto (tgt := 64) dX6_goesThrough_60 (by decide) ?_
        refine tt_istore_n dX6_goesThrough_64 rfl (Nat.le_of_ble_eq_true rfl) rfl ?_
        refine tt_iload_n dX6_goesThrough_65 rfl ?_
        refine tt_if_eq (tgt := 14) dX6_goesThrough_66 (by decide) (fun q => absurd q (by decide)) (fun _ => ?_)
        refine tt_aload_n dX6_goesThrough_69 rfl ?_
        refine tt_bipush (nI 59) dX6_goesThrough_70 rfl ?_
        refine tt_bipush (nI 59) dX6_goesThrough_72 rfl ?_
        refine tt_fVi (c_X6_takesOne hM _ _ _ _ _ _ n ht.1 (z7.trans h7) (rdO p n k).2.2.1 false (by have := ht.1; have := rdO_le (p := p) hk; omega) z8 (by rw [z9, Bool.not_eq_true _ |>.mp c_45]) _ _) dX6_goesThrough_74 vX6_157 rfl rfl hM.1 (by decide) rfl (by decide) ⟨rfl, rfl⟩ (Nat.zero_le _) (Nat.zero_le _) (Nat.le_of_ble_eq_true rfl) ?_
        refine tt_istore dX6_goesThrough_77 rfl (Nat.le_of_ble_eq_true rfl) rfl ?_
        refine tt_aload_n dX6_goesThrough_79 rfl ?_
        refine tt_mI dX6_goesThrough_80 fX6_146 rfl hM ?_
        refine tt_eq (show _ = zb ((tk p n (nI 59) (nI 59) (rdO p n k).2.2.1 false).2.2 = true) from rfl) ?_
        refine tt_if_neB (tgt := 90) dX6_goesThrough_83 (by decide) (fun c_83 => ?_) (fun c_83 => ?_)
        · exact absurd c_83 (by rw [(hgf (by omega)).1]; decide)
        · refine tt_iconst (nI 1) dX6_goesThrough_86 rfl ?_
          refine tt_goto (tgt := 91) dX6_goesThrough_87 (by decide) ?_
          refine tt_istore_n dX6_goesThrough_91 rfl (Nat.le_of_ble_eq_true rfl) rfl ?_
          refine tt_goto (tgt := 14) dX6_goesThrough_92 (by decide) ?_
          obtain ⟨-, g2, g3⟩ := tk_gt (Bool.not_eq_true _ |>.mp c_83)
          have g4 := rdO_gt hf
          rw [show gf p n (r + 1) k = gf p n r ((rdO p n k).2.2.1 + 1) from (if_neg c_45).trans ((if_pos g2).trans (if_neg c_83)), show sGo p n (r + 1) k c s = sGo p n r ((rdO p n k).2.2.1 + 1) (if (sEx s (rdO p n k)).1 < 0 then c else c + 1) (sEx s (rdO p n k)).2 from if_pos g2]
          first | rw [if_pos c_31] | rw [if_neg c_31]
          exact ih _ _ (upd (upd F1 8 (nI (tk p n (nI 59) (nI 59) (rdO p n k).2.2.1 false).2.1)) 9 (zb ((tk p n (nI 59) (nI 59) (rdO p n k).2.2.1 false).2.2 = true))) (z3.trans h3) (z5.trans h5) (z7.trans h7) _ (by omega) (by omega) (show nI (tk p n (nI 59) (nI 59) (rdO p n k).2.2.1 false).2.1 = _ by rw [g3]) (show zb ((tk p n (nI 59) (nI 59) (rdO p n k).2.2.1 false).2.2 = true) = nI 0 from if_neg c_83) _ (sEx_WF hw) (hgf g2).2
  · refine tt_iconst (nI 1) dX6_goesThrough_34 rfl ?_
    refine tt_goto (tgt := 39) dX6_goesThrough_35 (by decide) ?_
    refine tt_iaddN dX6_goesThrough_39 ?_
    refine tt_istore_n dX6_goesThrough_40 rfl (Nat.le_of_ble_eq_true rfl) rfl ?_
    refine tt_aload_n dX6_goesThrough_41 rfl ?_
    refine tt_mI dX6_goesThrough_42 fX6_146 rfl hM ?_
    refine tt_eq z9 ?_
    refine tt_if_neB (tgt := 63) dX6_goesThrough_45 (by decide) (fun c_45 => ?_) (fun c_45 => ?_)
    · exact absurd c_45 (by rw [hf]; decide)
    · refine tt_aload_n dX6_goesThrough_48 rfl ?_
      refine tt_mI dX6_goesThrough_49 fX6_150 rfl hM ?_
      refine tt_eq z8 ?_
      refine tt_aload_n dX6_goesThrough_52 rfl ?_
      refine tt_mI dX6_goesThrough_53 fX6_134 rfl hM ?_
      refine tt_eq (z7.trans h7) ?_
      have hO := rdO_le (p := p) hk
      have hn60 := ht.1
      refine tt_icmp_geN (tgt := 63) dX6_goesThrough_56 (by decide) (by omega) (by omega) (fun c_56 => ?_) (fun c_56 => ?_)
      · refine tt_iconst (nI 0) dX6_goesThrough_63 rfl ?_
        refine tt_istore_n dX6_goesThrough_64 rfl (Nat.le_of_ble_eq_true rfl) rfl ?_
        refine tt_iload_n dX6_goesThrough_65 rfl ?_
        refine tt_if_eq (tgt := 14) dX6_goesThrough_66 (by decide) (fun _ => ?_) (fun q => absurd (by decide) q)
        refine tt_iload_n dX6_goesThrough_14 rfl ?_
        refine tt_if_eq (tgt := 95) dX6_goesThrough_15 (by decide) (fun _ => ?_) (fun q => absurd (by decide) q)
        refine tt_iload_n dX6_goesThrough_95 rfl ?_
        exact tt_ireturn dX6_goesThrough_96 rfl rfl (Nat.zero_le _) (Nat.zero_le _) (by
  rw [show gf p n (r + 1) k = ((rdO p n k).2.2.1, false) from (if_neg c_45).trans (if_neg (by omega)), show sGo p n (r + 1) k c s = (if (sEx s (rdO p n k)).1 < 0 then c else c + 1, (sEx s (rdO p n k)).2) from if_neg (by omega)]
  refine ⟨?_, F1, rfl, z3.trans h3, z5.trans h5, z7.trans h7, z8, z9.trans (zb_cg (by rw [hf]))⟩
  first
  | (rw [if_pos c_31] <;> rfl)
  | (rw [if_neg c_31] <;> rfl))
      · refine tt_iconst (nI 1) dX6_goesThrough_59 rfl ?_
        refine tt_goto (tgt := 64) dX6_goesThrough_60 (by decide) ?_
        refine tt_istore_n dX6_goesThrough_64 rfl (Nat.le_of_ble_eq_true rfl) rfl ?_
        refine tt_iload_n dX6_goesThrough_65 rfl ?_
        refine tt_if_eq (tgt := 14) dX6_goesThrough_66 (by decide) (fun q => absurd q (by decide)) (fun _ => ?_)
        refine tt_aload_n dX6_goesThrough_69 rfl ?_
        refine tt_bipush (nI 59) dX6_goesThrough_70 rfl ?_
        refine tt_bipush (nI 59) dX6_goesThrough_72 rfl ?_
        refine tt_fVi (c_X6_takesOne hM _ _ _ _ _ _ n ht.1 (z7.trans h7) (rdO p n k).2.2.1 false (by have := ht.1; have := rdO_le (p := p) hk; omega) z8 (by rw [z9, Bool.not_eq_true _ |>.mp c_45]) _ _) dX6_goesThrough_74 vX6_157 rfl rfl hM.1 (by decide) rfl (by decide) ⟨rfl, rfl⟩ (Nat.zero_le _) (Nat.zero_le _) (Nat.le_of_ble_eq_true rfl) ?_
        refine tt_istore dX6_goesThrough_77 rfl (Nat.le_of_ble_eq_true rfl) rfl ?_
        refine tt_aload_n dX6_goesThrough_79 rfl ?_
        refine tt_mI dX6_goesThrough_80 fX6_146 rfl hM ?_
        refine tt_eq (show _ = zb ((tk p n (nI 59) (nI 59) (rdO p n k).2.2.1 false).2.2 = true) from rfl) ?_
        refine tt_if_neB (tgt := 90) dX6_goesThrough_83 (by decide) (fun c_83 => ?_) (fun c_83 => ?_)
        · exact absurd c_83 (by rw [(hgf (by omega)).1]; decide)
        · refine tt_iconst (nI 1) dX6_goesThrough_86 rfl ?_
          refine tt_goto (tgt := 91) dX6_goesThrough_87 (by decide) ?_
          refine tt_istore_n dX6_goesThrough_91 rfl (Nat.le_of_ble_eq_true rfl) rfl ?_
          refine tt_goto (tgt := 14) dX6_goesThrough_92 (by decide) ?_
          obtain ⟨-, g2, g3⟩ := tk_gt (Bool.not_eq_true _ |>.mp c_83)
          have g4 := rdO_gt hf
          rw [show gf p n (r + 1) k = gf p n r ((rdO p n k).2.2.1 + 1) from (if_neg c_45).trans ((if_pos g2).trans (if_neg c_83)), show sGo p n (r + 1) k c s = sGo p n r ((rdO p n k).2.2.1 + 1) (if (sEx s (rdO p n k)).1 < 0 then c else c + 1) (sEx s (rdO p n k)).2 from if_pos g2]
          first | rw [if_pos c_31] | rw [if_neg c_31]
          exact ih _ _ (upd (upd F1 8 (nI (tk p n (nI 59) (nI 59) (rdO p n k).2.2.1 false).2.1)) 9 (zb ((tk p n (nI 59) (nI 59) (rdO p n k).2.2.1 false).2.2 = true))) (z3.trans h3) (z5.trans h5) (z7.trans h7) _ (by omega) (by omega) (show nI (tk p n (nI 59) (nI 59) (rdO p n k).2.2.1 false).2.1 = _ by rw [g3]) (show zb ((tk p n (nI 59) (nI 59) (rdO p n k).2.2.1 false).2.2 = true) = nI 0 from if_neg c_83) _ (sEx_WF hw) (hgf g2).2
theorem g_X6_goesThrough_1 {h : zhp} (hM : zMo h) (a t l p : Nat → Int32) (v3 v5 : Int32) (n : Nat) (ht : pOK p n) : ∀ (r : Nat) (c : Nat) (s F : Nat → Int32) (h3 : F 3 = v3) (h5 : F 5 = v5) (h7 : F 7 = nI n) (k : Nat) (hk : k ≤ n) (hr : n < k + r) (h8 : F 8 = nI k) (h9 : F 9 = nI 0) (x4 : Option Value) (hw : sWF s (nS s)) (hg : (gf p n r k).2 = false), TT iX6_goesThrough 14 [some (.ref 181), some (.int (nI 1)), some (.int (nI c)), some (.int (nI 1)), x4] [] (zm h F s a t l p) 0 0 (zgQ h (sGo p n r k c s).2 a t l p v3 v5 n (nI (sGo p n r k c s).1) (gf p n r k))
  | 0, _, _, _, _, _, _, _, _, hr, _, _, _, _, _ => by omega
  | r + 1, c, s, F, h3, h5, h7, k, hk, hr, h8, h9, x4, hw, hg => g_X6_goesThrough_1s hM a t l p v3 v5 n ht r (g_X6_goesThrough_1 hM a t l p v3 v5 n ht r) c s F h3 h5 h7 k hk hr h8 h9 x4 hw hg
set_option maxRecDepth 100000 in
set_option maxHeartbeats 4000000 in
theorem c_X6_goesThrough_1 {h : zhp} (hM : zMo h) (F s a t l p : Nat → Int32) (n : Nat) (ht : pOK p n) (h7 : F 7 = nI n) (hw : sWF s (nS s)) (hg : (gf p n 61 0).2 = false) : MM iX6_goesThrough [.ref 181, .int (nI 1)] (zm h F s a t l p) (zgQ h (sGo p n 61 0 0 s).2 a t l p (F 3) (F 5) n (nI (sGo p n 61 0 0 s).1) (gf p n 61 0)) := by
  refine MM_of (by decide +kernel) (Nat.le_of_ble_eq_true rfl) ?_
  refine tt_aload_n dX6_goesThrough_0 rfl ?_
  refine tt_iconst (nI 0) dX6_goesThrough_1 rfl ?_
  refine tt_mp dX6_goesThrough_2 fX6_150 rfl rfl hM ?_
  refine tt_aload_n dX6_goesThrough_5 rfl ?_
  refine tt_iconst (nI 0) dX6_goesThrough_6 rfl ?_
  refine tt_mpZ dX6_goesThrough_7 fX6_146 rfl (by decide) rfl hM ?_
  refine tt_iconst (nI 0) dX6_goesThrough_10 rfl ?_
  refine tt_istore_n dX6_goesThrough_11 rfl (Nat.le_of_ble_eq_true rfl) rfl ?_
  refine tt_iconst (nI 1) dX6_goesThrough_12 rfl ?_
  refine tt_istore_n dX6_goesThrough_13 rfl (Nat.le_of_ble_eq_true rfl) rfl ?_
  have hn60 := ht.1
  exact g_X6_goesThrough_1 hM a t l p _ _ n ht 61 0 s (upd (upd F 8 (nI 0)) 9 (nI 0)) rfl rfl h7 0 (by omega) (by omega) rfl rfl none hw hg
def fT (p : Nat → Int32) (n : Nat) : Int32 := if (gf p n 61 0).2 = true then nI (gf p n 61 0).1 else -6
theorem fT_iff {p : Nat → Int32} {n : Nat} (hn : n ≤ 60) : fT p n = -6 ↔ (gf p n 61 0).2 = false := by
  unfold fT
  have := gf_le (p := p) (n := n) 61 0 (by omega)
  rcases Bool.eq_false_or_eq_true (gf p n 61 0).2 with q | q
  · rw [if_pos q, q]
    refine ⟨fun z => ?_, fun z => by cases z⟩
    have h1 := congrArg Int32.toInt z
    rw [nI_toInt (by omega)] at h1
    have h2 : (-6 : Int32).toInt = -6 := by decide
    omega
  · rw [if_neg (by rw [q]; decide), q]
    exact ⟨fun _ => rfl, fun _ => rfl⟩
def zfQ (h : zhp) (s a t l p : Nat → Int32) (v3 v5 : Int32) (n : Nat) (c : Int32) : Option Value → zhp → Prop := fun r h1 => r = some (.int c) ∧ ∃ F1, h1 = zm h F1 s a t l p ∧ F1 3 = v3 ∧ F1 5 = v5 ∧ F1 7 = nI n
set_option maxRecDepth 100000 in
set_option maxHeartbeats 4000000 in
theorem c_X6_fault {h : zhp} (hM : zMo h) (F s a t l p : Nat → Int32) (n : Nat) (ht : pOK p n) (h7 : F 7 = nI n) : MM iX6_fault [.ref 181] (zm h F s a t l p) (zfQ h s a t l p (F 3) (F 5) n (fT p n)) := by
  refine MM_of (by decide +kernel) (Nat.le_of_ble_eq_true rfl) ?_
  refine tt_aload_n dX6_fault_0 rfl ?_
  refine tt_iconst (nI 0) dX6_fault_1 rfl ?_
  refine tt_callV (c_X6_goesThrough_0 hM _ _ _ _ _ _ n ht h7) dX6_fault_2 vX6_184 rfl rfl hM.1 (by decide) rfl (by decide) (Nat.le_of_ble_eq_true rfl) (Nat.le_of_ble_eq_true rfl) (Nat.le_of_ble_eq_true rfl) (fun r1 h1 q1 => ?_)
  obtain ⟨rfl, F1, rfl, z3, z5, z7, z8, z9⟩ := q1
  refine (show TT iX6_fault 5 _ _ _ 0 0 _ from ?_)
  refine tt_istore_n dX6_fault_5 rfl (Nat.le_of_ble_eq_true rfl) rfl ?_
  refine tt_aload_n dX6_fault_6 rfl ?_
  refine tt_mI dX6_fault_7 fX6_146 rfl hM ?_
  refine tt_eq z9 ?_
  refine tt_if_eqB (tgt := 20) dX6_fault_10 (by decide) (fun c_10 => ?_) (fun c_10 => ?_)
  · refine tt_bipush (-6) dX6_fault_20 rfl ?_
    exact tt_ireturn dX6_fault_22 rfl rfl (Nat.zero_le _) (Nat.zero_le _) (by
  first
  | exact ⟨by unfold fT; rw [if_pos c_10]; exact congrArg (fun x => some (Value.int x)) z8, F1, rfl, z3, z5, z7⟩
  | exact ⟨by unfold fT; rw [if_neg c_10], F1, rfl, z3, z5, z7⟩)
  · refine tt_aload_n dX6_fault_13 rfl ?_
    refine tt_mI dX6_fault_14 fX6_150 rfl hM ?_
    refine tt_goto (tgt := 22) dX6_fault_17 (by decide) ?_
    exact tt_ireturn dX6_fault_22 rfl rfl (Nat.zero_le _) (Nat.zero_le _) (by
  first
  | exact ⟨by unfold fT; rw [if_pos c_10]; exact congrArg (fun x => some (Value.int x)) z8, F1, rfl, z3, z5, z7⟩
  | exact ⟨by unfold fT; rw [if_neg c_10], F1, rfl, z3, z5, z7⟩)
set_option maxRecDepth 100000 in
set_option maxHeartbeats 4000000 in
theorem c_X6_run_b {h : zhp} (hM : zMo h) (F s a t l p : Nat → Int32) (n : Nat) (ht : pOK p n) (h7 : F 7 = nI n) (hg : ¬ fT p n = -6) : MM iX6_run [.ref 181] (zm h F s a t l p) (zfQ h s a t l p (F 3) (F 5) n (-3)) := by
  refine MM_of (by decide +kernel) (Nat.le_of_ble_eq_true rfl) ?_
  refine tt_aload_n dX6_run_0 rfl ?_
  refine tt_callV (c_X6_fault hM _ _ _ _ _ _ n ht h7) dX6_run_1 vX6_187 rfl rfl hM.1 (by decide) rfl (by decide) (Nat.le_of_ble_eq_true rfl) (Nat.le_of_ble_eq_true rfl) (Nat.le_of_ble_eq_true rfl) (fun r1 h1 q1 => ?_)
  obtain ⟨rfl, F1, rfl, z3, z5, z7⟩ := q1
  refine (show TT iX6_run 4 _ _ _ 0 0 _ from ?_)
  refine tt_bipush (-6) dX6_run_4 rfl ?_
  refine tt_icmp_eq (tgt := 12) dX6_run_6 (by decide) (fun c_6 => ?_) (fun c_6 => ?_)
  · exact absurd c_6 hg
  · refine tt_bipush (-3) dX6_run_9 rfl ?_
    exact tt_ireturn dX6_run_11 rfl rfl (Nat.zero_le _) (Nat.zero_le _) ⟨rfl, F1, rfl, z3, z5, z7⟩
set_option maxRecDepth 100000 in
set_option maxHeartbeats 4000000 in
theorem c_X6_run_g {h : zhp} (hM : zMo h) (F s a t l p : Nat → Int32) (n : Nat) (ht : pOK p n) (h7 : F 7 = nI n) (hg : fT p n = -6) (hw : sWF s (nS s)) (kn : Nat) (hkn : kn ≤ 6) (h3 : F 3 = nI kn) : MM iX6_run [.ref 181] (zm h F s a t l p) (fun r h1 => r = some (.int (nI (sGo p n 61 0 0 s).1)) ∧ ∃ F1, h1 = zch h (upd F1 7 (nI 0)) (sGo p n 61 0 0 s).2 (cpA s a) t l p kn (nI (sGo p n 61 0 0 s).1) ∧ F1 3 = F 3 ∧ F1 5 = F 5) := by
  have hg2 := (fT_iff ht.1).mp hg
  refine MM_of (by decide +kernel) (Nat.le_of_ble_eq_true rfl) ?_
  refine tt_aload_n dX6_run_0 rfl ?_
  refine tt_callV (c_X6_fault hM _ _ _ _ _ _ n ht h7) dX6_run_1 vX6_187 rfl rfl hM.1 (by decide) rfl (by decide) (Nat.le_of_ble_eq_true rfl) (Nat.le_of_ble_eq_true rfl) (Nat.le_of_ble_eq_true rfl) (fun r1 h1 q1 => ?_)
  obtain ⟨rfl, F1, rfl, z3, z5, z7⟩ := q1
  refine (show TT iX6_run 4 _ _ _ 0 0 _ from ?_)
  refine tt_bipush (-6) dX6_run_4 rfl ?_
  refine tt_icmp_eq (tgt := 12) dX6_run_6 (by decide) (fun c_6 => ?_) (fun c_6 => ?_)
  · refine tt_aload_n dX6_run_12 rfl ?_
    refine tt_fVv (c_X6_putAside hM _ _ _ _ _ _) dX6_run_13 vX6_93 rfl rfl hM.1 (by decide) rfl (by decide) ⟨rfl, rfl⟩ (Nat.zero_le _) (Nat.zero_le _) (Nat.le_of_ble_eq_true rfl) ?_
    refine tt_aload_n dX6_run_16 rfl ?_
    refine tt_iconst (nI 1) dX6_run_17 rfl ?_
    refine tt_callV (c_X6_goesThrough_1 hM _ _ _ _ _ _ n ht z7 hw hg2) dX6_run_18 vX6_184 rfl rfl hM.1 (by decide) rfl (by decide) (Nat.le_of_ble_eq_true rfl) (Nat.le_of_ble_eq_true rfl) (Nat.le_of_ble_eq_true rfl) (fun r1 h1 q1 => ?_)
    obtain ⟨rfl, F2, rfl, y3, y5, y7, y8, y9⟩ := q1
    refine (show TT iX6_run 21 _ _ _ 0 0 _ from ?_)
    refine tt_istore_n dX6_run_21 rfl (Nat.le_of_ble_eq_true rfl) rfl ?_
    refine tt_aload_n dX6_run_22 rfl ?_
    refine tt_iconst (nI 0) dX6_run_23 rfl ?_
    refine tt_mp dX6_run_24 fX6_134 rfl rfl hM ?_
    refine tt_aload_n dX6_run_27 rfl ?_
    refine tt_iload_n dX6_run_28 rfl ?_
    refine tt_fVi (c_X6_changed hM (upd F2 7 (nI 0)) _ _ _ _ _ kn hkn (y3.trans (z3.trans h3)) _) dX6_run_29 vX6_102 rfl rfl hM.1 (by decide) rfl (by decide) ⟨rfl, rfl⟩ (Nat.zero_le _) (Nat.zero_le _) (Nat.le_of_ble_eq_true rfl) ?_
    exact tt_ireturn dX6_run_32 rfl rfl (Nat.zero_le _) (Nat.zero_le _) ⟨rfl, F2, rfl, y3.trans z3, y5.trans z5⟩
  · exact absurd hg c_6
