/-! the class: the reader goes through a text -/
theorem zlk : ∀ c, c < 127 → ¬ (c = 43 ∨ c = 119 ∨ c = 45 ∨ c = 112 ∨ c = 111 ∨ c = 46) → Op.lookupswitch.offset [((43 : Int), (57 : Int)), (45, 117), (46, 182), (111, 117), (112, 141), (119, 117)] 206 (nI c).toInt = 206 := by decide +kernel
set_option maxRecDepth 100000 in
set_option maxHeartbeats 4000000 in
theorem c_X2_readOrder_x {h : zhp} {r : Nat} {q : Nat → Int32} {m : Nat} (hR : zRd h r q m) (R : Nat → Int32) (k : Nat) (hk : k ≤ 60) (h1 : R 1 = nI k) (h8 : R 8 = nI 0) (hx : ∀ c, zat2 q m k = nI c → ¬ (c = 43 ∨ c = 119 ∨ c = 45 ∨ c = 112 ∨ c = 111 ∨ c = 46)) (o : Int32 × (Int32 × Int32 × Int32 × Int32) × Nat × Bool) (hok : o.2.2.1 = k) (hob : o.2.2.2 = true) : MM iX2_readOrder [.ref r] (zr h r R) (fun r0 h1 => r0 = none ∧ ∃ R1, h1 = zr h r R1 ∧ zoR R1 o) := by
  have ho := hR.2.2.2.2.2.1
  obtain ⟨c, hc, hce⟩ := zat2_c ho k
  refine MM_of (by decide +kernel) (Nat.le_of_ble_eq_true rfl) ?_
  refine tt_aload_n dX2_readOrder_0 rfl ?_
  refine tt_aload_n dX2_readOrder_1 rfl ?_
  refine tt_getR dX2_readOrder_2 fX2_9 rfl hR.2.1 hR.2.2.1 ?_
  refine tt_aload_n dX2_readOrder_5 rfl ?_
  refine tt_rI dX2_readOrder_6 fX2_23 rfl hR ?_
  refine tt_eq (h1) ?_
  refine tt_fVi (c_X1_signAt (zr_Pd hR) _ (by omega)) dX2_readOrder_9 vX2_39 rfl rfl (zr_Pd hR).1.1 (by decide) rfl (by decide) ⟨rfl, rfl⟩ (Nat.zero_le _) (Nat.zero_le _) (Nat.le_of_ble_eq_true rfl) ?_
  refine tt_rp dX2_readOrder_12 fX2_43 rfl rfl hR ?_
  refine tt_aload_n dX2_readOrder_15 rfl ?_
  refine tt_rI dX2_readOrder_16 fX2_43 rfl hR ?_
  refine tt_eq (y := nI c) (show zat2 q m k = _ from hce) ?_
  refine tt_lookup (off := 206) (tgt := 225) dX2_readOrder_19 (by decide) (zlk c hc (hx c hce)) (by decide) ?_
  refine tt_aload_n dX2_readOrder_225 rfl ?_
  refine tt_iconst (nI 1) dX2_readOrder_226 rfl ?_
  refine tt_rpZ dX2_readOrder_227 fX2_19 rfl (Or.inr rfl) rfl hR ?_
  exact tt_return dX2_readOrder_230 rfl (Nat.zero_le _) (Nat.zero_le _) ⟨rfl, _, rfl, (show _ = nI k from h1).trans (by rw [hok]), (zb_t hob).symm, fun z => absurd z (by rw [hob]; decide)⟩
theorem zat2_at {q : Nat → Int32} {m k ch : Nat} (hk : k < m) (h : ¬ q k = nI ch) {c : Nat} (e : zat2 q m k = nI c) : c ≠ ch := fun z => by
  unfold zat2 at e
  rw [if_pos hk, z] at e
  exact h e
theorem c_X2_readOrder {h : zhp} {r : Nat} {q : Nat → Int32} {m : Nat} (hR : zRd h r q m) (R : Nat → Int32) (k : Nat) (hk : k ≤ 60) (h1 : R 1 = nI k) (h8 : R 8 = nI 0) : MM iX2_readOrder [.ref r] (zr h r R) (fun r0 h1 => r0 = none ∧ ∃ R1, h1 = zr h r R1 ∧ zoR R1 (rdO q m k)) := by
  unfold rdO
  by_cases hkn : k < m
  · rw [if_pos hkn]
    by_cases h43 : q k = nI 43
    · rw [if_pos h43]; exact c_X2_readOrder_43 hR R k hk h1 h8 hkn h43
    · rw [if_neg h43]
      by_cases h119 : q k = nI 119
      · rw [if_pos h119]; exact c_X2_readOrder_119 hR R k hk h1 h8 hkn h119
      · rw [if_neg h119]
        by_cases h45 : q k = nI 45
        · rw [if_pos h45]; exact c_X2_readOrder_45 hR R k hk h1 h8 hkn h45
        · rw [if_neg h45]
          by_cases h112 : q k = nI 112
          · rw [if_pos h112]; exact c_X2_readOrder_112 hR R k hk h1 h8 hkn h112
          · rw [if_neg h112]
            by_cases h111 : q k = nI 111
            · rw [if_pos h111]; exact c_X2_readOrder_111 hR R k hk h1 h8 hkn h111
            · rw [if_neg h111]
              by_cases h46 : q k = nI 46
              · rw [if_pos h46]; exact c_X2_readOrder_46 hR R k hk h1 h8 hkn h46
              · rw [if_neg h46]
                refine c_X2_readOrder_x hR R k hk h1 h8 (fun c e z => ?_) _ rfl rfl
                have g43 := zat2_at hkn h43 e
                have g119 := zat2_at hkn h119 e
                have g45 := zat2_at hkn h45 e
                have g112 := zat2_at hkn h112 e
                have g111 := zat2_at hkn h111 e
                have g46 := zat2_at hkn h46 e
                omega
  · rw [if_neg hkn]
    refine c_X2_readOrder_x hR R k hk h1 h8 (fun c e z => ?_) _ rfl rfl
    unfold zat2 at e
    rw [if_neg hkn] at e
    rcases (show c = 43 ∨ c = 119 ∨ c = 45 ∨ c = 112 ∨ c = 111 ∨ c = 46 from z) with y | y | y | y | y | y <;> (rw [y] at e; exact absurd e (by decide))
set_option maxRecDepth 100000 in
set_option maxHeartbeats 4000000 in
theorem c_X2_readNext_e {h : zhp} {r : Nat} {q : Nat → Int32} {m : Nat} (hR : zRd h r q m) (R : Nat → Int32) (e : Nat) (he : e ≤ 60) (h1 : R 1 = nI e) (h8 : R 8 = nI 0) (h0 : e ≠ 0) (hm : m ≤ e) : MM iX2_readNext [.ref r] (zr h r R) (zfi (nI 0) (zr h r R)) := by
  have ho := hR.2.2.2.2.2.1
  have hm60 := ho.1
  refine MM_of (by decide +kernel) (Nat.le_of_ble_eq_true rfl) ?_
  refine tt_aload_n dX2_readNext_0 rfl ?_
  refine tt_rI dX2_readNext_1 fX2_23 rfl hR ?_
  refine tt_eq (h1) ?_
  refine tt_if_le (tgt := 29) dX2_readNext_4 (by decide) (fun c_4 => ?_) (fun c_4 => ?_)
  · exact absurd c_4 (Int32.not_le.mpr ((nI_ltI (a := 0) (by omega) (by omega)).mpr (by omega)))
  · refine tt_aload_n dX2_readNext_7 rfl ?_
    refine tt_rI dX2_readNext_8 fX2_23 rfl hR ?_
    refine tt_eq (h1) ?_
    refine tt_aload_n dX2_readNext_11 rfl ?_
    refine tt_getR dX2_readNext_12 fX2_9 rfl hR.2.1 hR.2.2.1 ?_
    refine tt_getI dX2_readNext_15 fX2_27 rfl (zr_Pd hR).1.1 ?_
    refine tt_eq (zr_Pd hR).2.1 ?_
    refine tt_icmp_ltN (tgt := 23) dX2_readNext_18 (by decide) (by omega) (by omega) (fun c_18 => ?_) (fun c_18 => ?_)
    · exact absurd c_18 (by omega)
    · refine tt_iconst (nI 0) dX2_readNext_21 rfl ?_
      exact tt_ireturn dX2_readNext_22 rfl rfl (Nat.zero_le _) (Nat.zero_le _) ⟨rfl, rfl⟩
set_option maxRecDepth 100000 in
set_option maxHeartbeats 4000000 in
theorem c_X2_readNext_b {h : zhp} {r : Nat} {q : Nat → Int32} {m : Nat} (hR : zRd h r q m) (R : Nat → Int32) (e : Nat) (he : e ≤ 60) (h1 : R 1 = nI e) (h8 : R 8 = nI 0) (h0 : e ≠ 0) (hm : e < m) (hf : (tk q m (nI 59) (nI 59) e false).2.2 = true) : MM iX2_readNext [.ref r] (zr h r R) (zfi (nI 0) (zr h r (rS R (tk q m (nI 59) (nI 59) e false).2.1 true))) := by
  have ho := hR.2.2.2.2.2.1
  have hm60 := ho.1
  refine MM_of (by decide +kernel) (Nat.le_of_ble_eq_true rfl) ?_
  refine tt_aload_n dX2_readNext_0 rfl ?_
  refine tt_rI dX2_readNext_1 fX2_23 rfl hR ?_
  refine tt_eq (h1) ?_
  refine tt_if_le (tgt := 29) dX2_readNext_4 (by decide) (fun c_4 => ?_) (fun c_4 => ?_)
  · exact absurd c_4 (Int32.not_le.mpr ((nI_ltI (a := 0) (by omega) (by omega)).mpr (by omega)))
  · refine tt_aload_n dX2_readNext_7 rfl ?_
    refine tt_rI dX2_readNext_8 fX2_23 rfl hR ?_
    refine tt_eq (h1) ?_
    refine tt_aload_n dX2_readNext_11 rfl ?_
    refine tt_getR dX2_readNext_12 fX2_9 rfl hR.2.1 hR.2.2.1 ?_
    refine tt_getI dX2_readNext_15 fX2_27 rfl (zr_Pd hR).1.1 ?_
    refine tt_eq (zr_Pd hR).2.1 ?_
    refine tt_icmp_ltN (tgt := 23) dX2_readNext_18 (by decide) (by omega) (by omega) (fun c_18 => ?_) (fun c_18 => ?_)
    · refine tt_aload_n dX2_readNext_23 rfl ?_
      refine tt_bipush (nI 59) dX2_readNext_24 rfl ?_
      refine tt_fVv (c_X2_readSign hR R e false he h1 (show _ = nI 0 from h8) (nI 59) (by decide)) dX2_readNext_26 vX2_32 rfl rfl hR.2.1 (by decide) rfl (by decide) ⟨rfl, rfl⟩ (Nat.zero_le _) (Nat.zero_le _) (Nat.le_of_ble_eq_true rfl) ?_
      rw [hf]
      refine tt_aload_n dX2_readNext_29 rfl ?_
      refine tt_rI dX2_readNext_30 fX2_19 rfl hR ?_
      refine tt_eq (show _ = nI 1 from rfl) ?_
      refine tt_if_ne (tgt := 40) dX2_readNext_33 (by decide) (fun _ => ?_) (fun q => absurd q (by decide))
      refine tt_aload_n dX2_readNext_40 rfl ?_
      refine tt_rI dX2_readNext_41 fX2_19 rfl hR ?_
      refine tt_eq (show _ = nI 1 from rfl) ?_
      refine tt_if_ne (tgt := 51) dX2_readNext_44 (by decide) (fun _ => ?_) (fun q => absurd q (by decide))
      refine tt_iconst (nI 0) dX2_readNext_51 rfl ?_
      exact tt_ireturn dX2_readNext_52 rfl rfl (Nat.zero_le _) (Nat.zero_le _) ⟨rfl, rfl⟩
    · exact absurd c_18 (by omega)
set_option maxRecDepth 100000 in
set_option maxHeartbeats 4000000 in
theorem c_X2_readNext_0 {h : zhp} {r : Nat} {q : Nat → Int32} {m : Nat} (hR : zRd h r q m) (R : Nat → Int32) (e : Nat) (he : e ≤ 60) (h1 : R 1 = nI e) (h8 : R 8 = nI 0) (h0 : e = 0) : MM iX2_readNext [.ref r] (zr h r R) (fun r0 h1 => r0 = some (.int (zb (¬ (rdO q m 0).2.2.2 = true))) ∧ ∃ R1, h1 = zr h r R1 ∧ zoR R1 (rdO q m 0)) := by
  have ho := hR.2.2.2.2.2.1
  have hm60 := ho.1
  subst h0
  refine MM_of (by decide +kernel) (Nat.le_of_ble_eq_true rfl) ?_
  refine tt_aload_n dX2_readNext_0 rfl ?_
  refine tt_rI dX2_readNext_1 fX2_23 rfl hR ?_
  refine tt_eq (show _ = nI 0 from h1) ?_
  refine tt_if_le (tgt := 29) dX2_readNext_4 (by decide) (fun _ => ?_) (fun q => absurd (by decide) q)
  refine tt_aload_n dX2_readNext_29 rfl ?_
  refine tt_rI dX2_readNext_30 fX2_19 rfl hR ?_
  refine tt_eq (show _ = nI 0 from h8) ?_
  refine tt_if_ne (tgt := 40) dX2_readNext_33 (by decide) (fun q => absurd rfl q) (fun _ => ?_)
  refine tt_aload_n dX2_readNext_36 rfl ?_
  refine tt_callV (c_X2_readOrder hR R 0 (by omega) (h1) (h8)) dX2_readNext_37 vX2_36 rfl rfl hR.2.1 (by decide) rfl (by decide) (Nat.le_of_ble_eq_true rfl) (Nat.le_of_ble_eq_true rfl) (Nat.le_of_ble_eq_true rfl) (fun r1 h1x q1 => ?_)
  obtain ⟨rfl, R1, rfl, hz⟩ := q1
  refine (show TT iX2_readNext 40 _ _ _ 0 0 _ from ?_)
  refine tt_aload_n dX2_readNext_40 rfl ?_
  refine tt_rI dX2_readNext_41 fX2_19 rfl hR ?_
  refine tt_eq (hz.2.1) ?_
  refine tt_if_neB (tgt := 51) dX2_readNext_44 (by decide) (fun c_44 => ?_) (fun c_44 => ?_)
  · refine tt_iconst (nI 0) dX2_readNext_51 rfl ?_
    exact tt_ireturn dX2_readNext_52 rfl rfl (Nat.zero_le _) (Nat.zero_le _) ⟨congrArg (fun z => some (Value.int z)) (by first | exact (zb_t c_44).symm | exact (zb_f (fun z => z c_44)).symm), R1, rfl, hz⟩
  · refine tt_iconst (nI 1) dX2_readNext_47 rfl ?_
    refine tt_goto (tgt := 52) dX2_readNext_48 (by decide) ?_
    exact tt_ireturn dX2_readNext_52 rfl rfl (Nat.zero_le _) (Nat.zero_le _) ⟨congrArg (fun z => some (Value.int z)) (by first | exact (zb_t c_44).symm | exact (zb_f (fun z => z c_44)).symm), R1, rfl, hz⟩
set_option maxRecDepth 100000 in
set_option maxHeartbeats 4000000 in
theorem c_X2_readNext_s {h : zhp} {r : Nat} {q : Nat → Int32} {m : Nat} (hR : zRd h r q m) (R : Nat → Int32) (e : Nat) (he : e ≤ 60) (h1 : R 1 = nI e) (h8 : R 8 = nI 0) (h0 : e ≠ 0) (hm : e < m) (hf : (tk q m (nI 59) (nI 59) e false).2.2 = false) : MM iX2_readNext [.ref r] (zr h r R) (fun r0 h1 => r0 = some (.int (zb (¬ (rdO q m (e + 1)).2.2.2 = true))) ∧ ∃ R1, h1 = zr h r R1 ∧ zoR R1 (rdO q m (e + 1))) := by
  have ho := hR.2.2.2.2.2.1
  have hm60 := ho.1
  obtain ⟨-, -, hk1⟩ := tk_gt hf
  refine MM_of (by decide +kernel) (Nat.le_of_ble_eq_true rfl) ?_
  refine tt_aload_n dX2_readNext_0 rfl ?_
  refine tt_rI dX2_readNext_1 fX2_23 rfl hR ?_
  refine tt_eq (h1) ?_
  refine tt_if_le (tgt := 29) dX2_readNext_4 (by decide) (fun c_4 => ?_) (fun c_4 => ?_)
  · exact absurd c_4 (Int32.not_le.mpr ((nI_ltI (a := 0) (by omega) (by omega)).mpr (by omega)))
  · refine tt_aload_n dX2_readNext_7 rfl ?_
    refine tt_rI dX2_readNext_8 fX2_23 rfl hR ?_
    refine tt_eq (h1) ?_
    refine tt_aload_n dX2_readNext_11 rfl ?_
    refine tt_getR dX2_readNext_12 fX2_9 rfl hR.2.1 hR.2.2.1 ?_
    refine tt_getI dX2_readNext_15 fX2_27 rfl (zr_Pd hR).1.1 ?_
    refine tt_eq (zr_Pd hR).2.1 ?_
    refine tt_icmp_ltN (tgt := 23) dX2_readNext_18 (by decide) (by omega) (by omega) (fun c_18 => ?_) (fun c_18 => ?_)
    · refine tt_aload_n dX2_readNext_23 rfl ?_
      refine tt_bipush (nI 59) dX2_readNext_24 rfl ?_
      refine tt_fVv (c_X2_readSign hR R e false he h1 (show _ = nI 0 from h8) (nI 59) (by decide)) dX2_readNext_26 vX2_32 rfl rfl hR.2.1 (by decide) rfl (by decide) ⟨rfl, rfl⟩ (Nat.zero_le _) (Nat.zero_le _) (Nat.le_of_ble_eq_true rfl) ?_
      rw [hf, hk1]
      refine tt_aload_n dX2_readNext_29 rfl ?_
      refine tt_rI dX2_readNext_30 fX2_19 rfl hR ?_
      refine tt_eq (show _ = nI 0 from rfl) ?_
      refine tt_if_ne (tgt := 40) dX2_readNext_33 (by decide) (fun q => absurd rfl q) (fun _ => ?_)
      refine tt_aload_n dX2_readNext_36 rfl ?_
      refine tt_callV (c_X2_readOrder hR (rS R (e + 1) false) (e + 1) (by omega) (by rfl) (by rfl)) dX2_readNext_37 vX2_36 rfl rfl hR.2.1 (by decide) rfl (by decide) (Nat.le_of_ble_eq_true rfl) (Nat.le_of_ble_eq_true rfl) (Nat.le_of_ble_eq_true rfl) (fun r1 h1x q1 => ?_)
      obtain ⟨rfl, R1, rfl, hz⟩ := q1
      refine (show TT iX2_readNext 40 _ _ _ 0 0 _ from ?_)
      refine tt_aload_n dX2_readNext_40 rfl ?_
      refine tt_rI dX2_readNext_41 fX2_19 rfl hR ?_
      refine tt_eq (hz.2.1) ?_
      refine tt_if_neB (tgt := 51) dX2_readNext_44 (by decide) (fun c_44 => ?_) (fun c_44 => ?_)
      · refine tt_iconst (nI 0) dX2_readNext_51 rfl ?_
        exact tt_ireturn dX2_readNext_52 rfl rfl (Nat.zero_le _) (Nat.zero_le _) ⟨congrArg (fun z => some (Value.int z)) (by first | exact (zb_t c_44).symm | exact (zb_f (fun z => z c_44)).symm), R1, rfl, hz⟩
      · refine tt_iconst (nI 1) dX2_readNext_47 rfl ?_
        refine tt_goto (tgt := 52) dX2_readNext_48 (by decide) ?_
        exact tt_ireturn dX2_readNext_52 rfl rfl (Nat.zero_le _) (Nat.zero_le _) ⟨congrArg (fun z => some (Value.int z)) (by first | exact (zb_t c_44).symm | exact (zb_f (fun z => z c_44)).symm), R1, rfl, hz⟩
    · exact absurd c_18 (by omega)
/-- what is at fault in a text, from behind an order (or from its beginning) on -/
def gE (q : Nat → Int32) (m r e : Nat) : Nat × Bool := if e ≠ 0 ∧ m ≤ e then (e, false) else if e ≠ 0 ∧ (tk q m (nI 59) (nI 59) e false).2.2 = true then ((tk q m (nI 59) (nI 59) e false).2.1, true) else gf q m r (if e = 0 then 0 else e + 1)
theorem gf_E {q : Nat → Int32} {m r k : Nat} : gf q m (r + 1) k = if (rdO q m k).2.2.2 = true then ((rdO q m k).2.2.1, true) else gE q m r (rdO q m k).2.2.1 := by
  show (if (rdO q m k).2.2.2 = true then _ else _) = _
  by_cases hf : (rdO q m k).2.2.2 = true
  · rw [if_pos hf, if_pos hf]
  · rw [if_neg hf, if_neg hf]
    have hg := rdO_gt (Bool.not_eq_true _ |>.mp hf)
    unfold gE
    by_cases hl : (rdO q m k).2.2.1 < m
    · rw [if_pos hl, if_neg (show ¬ ((rdO q m k).2.2.1 ≠ 0 ∧ m ≤ (rdO q m k).2.2.1) by omega)]
      by_cases ht : (tk q m (nI 59) (nI 59) (rdO q m k).2.2.1 false).2.2 = true
      · rw [if_pos ht, if_pos ⟨by omega, ht⟩]
      · rw [if_neg ht, if_neg (fun z => ht z.2), if_neg (show ¬ (rdO q m k).2.2.1 = 0 by omega)]
    · rw [if_neg hl, if_pos ⟨by omega, by omega⟩]
/-- the next order's place, if there is one -/
def nK (q : Nat → Int32) (m e k : Nat) : Prop := (e = 0 ∧ k = 0) ∨ (e ≠ 0 ∧ e < m ∧ (tk q m (nI 59) (nI 59) e false).2.2 = false ∧ k = e + 1)
theorem gE_k {q : Nat → Int32} {m r e k : Nat} (h : nK q m e k) : gE q m r e = gf q m r k ∧ e ≤ k := by
  unfold gE
  rcases h with ⟨h1, h2⟩ | ⟨h1, h2, h3, h4⟩
  · rw [if_neg (fun z => z.1 h1), if_neg (fun z => z.1 h1), if_pos h1, h2]
    exact ⟨rfl, by omega⟩
  · rw [if_neg (by omega), if_neg (fun z => by rw [h3] at z; exact absurd z.2 (by decide)), if_neg h1, h4]
    exact ⟨rfl, by omega⟩
theorem c_X2_readNext_k {h : zhp} {r : Nat} {q : Nat → Int32} {m : Nat} (hR : zRd h r q m) (R : Nat → Int32) (e : Nat) (he : e ≤ 60) (h1 : R 1 = nI e) (h8 : R 8 = nI 0) {k : Nat} (hk : nK q m e k) : MM iX2_readNext [.ref r] (zr h r R) (fun r0 h1 => r0 = some (.int (zb (¬ (rdO q m k).2.2.2 = true))) ∧ ∃ R1, h1 = zr h r R1 ∧ zoR R1 (rdO q m k)) := by
  rcases hk with ⟨a1, a2⟩ | ⟨a1, a2, a3, a4⟩
  · rw [a2]; exact c_X2_readNext_0 hR R e he h1 h8 a1
  · rw [a4]; exact c_X2_readNext_s hR R e he h1 h8 a1 a2 a3
def zrQ (h : zhp) (r : Nat) (v : Int32) : Option Value → zhp → Prop := fun r0 h1 => r0 = some (.int v) ∧ ∃ R1, h1 = zr h r R1
def gT (g : Nat × Bool) : Int32 := if g.2 = true then nI g.1 else -6
set_option maxRecDepth 100000 in
set_option maxHeartbeats 4000000 in
theorem g_X2_findFault_e {h : zhp} {r : Nat} {q : Nat → Int32} {m : Nat} (hR : zRd h r q m) (i e : Nat) (R : Nat → Int32) (hi : i + 0 = 60) (hie : i ≤ e) (he : e ≤ m) (h1 : R 1 = nI e) (h8 : R 8 = nI 0) : TT iX2_findFault 2 [some (.ref r), some (.int (nI i))] [] (zr h r R) 0 0 (zrQ h r (gT (gE q m (0 + 1) e))) := by
  have ho := hR.2.2.2.2.2.1
  have hm60 := ho.1
  refine tt_iload_n dX2_findFault_2 rfl ?_
  refine tt_bipush (nI 60) dX2_findFault_3 rfl ?_
  refine tt_icmp_geN (tgt := 21) dX2_findFault_5 (by decide) (by omega) (by omega) (fun c_5 => ?_) (fun c_5 => ?_)
  · refine tt_aload_n dX2_findFault_21 rfl ?_
    refine tt_rI dX2_findFault_22 fX2_19 rfl hR ?_
    refine tt_eq (show _ = nI 0 from h8) ?_
    refine tt_if_eq (tgt := 35) dX2_findFault_25 (by decide) (fun _ => ?_) (fun q => absurd (by decide) q)
    refine tt_bipush (-6) dX2_findFault_35 rfl ?_
    exact tt_ireturn dX2_findFault_37 rfl rfl (Nat.zero_le _) (Nat.zero_le _) ⟨congrArg (fun z => some (Value.int z)) (by unfold gE; rw [if_pos ⟨by omega, by omega⟩]; rfl), R, rfl⟩
  · exact absurd c_5 (by omega)
set_option maxRecDepth 100000 in
set_option maxHeartbeats 4000000 in
theorem g_X2_findFault_b {h : zhp} {r : Nat} {q : Nat → Int32} {m : Nat} (hR : zRd h r q m) (rr : Nat) (i e : Nat) (R : Nat → Int32) (hi : i + (rr + 1) = 60) (hie : i ≤ e) (he : e ≤ m) (h1 : R 1 = nI e) (h8 : R 8 = nI 0) (h0 : e ≠ 0) (hm : m ≤ e) : TT iX2_findFault 2 [some (.ref r), some (.int (nI i))] [] (zr h r R) 0 0 (zrQ h r (gT (gE q m ((rr + 1) + 1) e))) := by
  have ho := hR.2.2.2.2.2.1
  have hm60 := ho.1
  refine tt_iload_n dX2_findFault_2 rfl ?_
  refine tt_bipush (nI 60) dX2_findFault_3 rfl ?_
  refine tt_icmp_geN (tgt := 21) dX2_findFault_5 (by decide) (by omega) (by omega) (fun c_5 => ?_) (fun c_5 => ?_)
  · exact absurd c_5 (by omega)
  · refine tt_aload_n dX2_findFault_8 rfl ?_
    refine tt_fVi (c_X2_readNext_e hR R e (by omega) h1 h8 h0 hm) dX2_findFault_9 vX2_15 rfl rfl hR.2.1 (by decide) rfl (by decide) ⟨rfl, rfl⟩ (Nat.zero_le _) (Nat.zero_le _) (Nat.le_of_ble_eq_true rfl) ?_
    refine tt_if_eq (tgt := 21) dX2_findFault_12 (by decide) (fun _ => ?_) (fun q => absurd (by decide) q)
    refine tt_aload_n dX2_findFault_21 rfl ?_
    refine tt_rI dX2_findFault_22 fX2_19 rfl hR ?_
    refine tt_eq (show _ = nI 0 from h8) ?_
    refine tt_if_eq (tgt := 35) dX2_findFault_25 (by decide) (fun _ => ?_) (fun q => absurd (by decide) q)
    refine tt_bipush (-6) dX2_findFault_35 rfl ?_
    exact tt_ireturn dX2_findFault_37 rfl rfl (Nat.zero_le _) (Nat.zero_le _) ⟨congrArg (fun z => some (Value.int z)) (by unfold gE; rw [if_pos ⟨h0, hm⟩]; rfl), R, rfl⟩
set_option maxRecDepth 100000 in
set_option maxHeartbeats 4000000 in
theorem g_X2_findFault_c {h : zhp} {r : Nat} {q : Nat → Int32} {m : Nat} (hR : zRd h r q m) (rr : Nat) (i e : Nat) (R : Nat → Int32) (hi : i + (rr + 1) = 60) (hie : i ≤ e) (he : e ≤ m) (h1 : R 1 = nI e) (h8 : R 8 = nI 0) (h0 : e ≠ 0) (hm : e < m) (hf : (tk q m (nI 59) (nI 59) e false).2.2 = true) : TT iX2_findFault 2 [some (.ref r), some (.int (nI i))] [] (zr h r R) 0 0 (zrQ h r (gT (gE q m ((rr + 1) + 1) e))) := by
  have ho := hR.2.2.2.2.2.1
  have hm60 := ho.1
  refine tt_iload_n dX2_findFault_2 rfl ?_
  refine tt_bipush (nI 60) dX2_findFault_3 rfl ?_
  refine tt_icmp_geN (tgt := 21) dX2_findFault_5 (by decide) (by omega) (by omega) (fun c_5 => ?_) (fun c_5 => ?_)
  · exact absurd c_5 (by omega)
  · refine tt_aload_n dX2_findFault_8 rfl ?_
    refine tt_fVi (c_X2_readNext_b hR R e (by omega) h1 h8 h0 hm hf) dX2_findFault_9 vX2_15 rfl rfl hR.2.1 (by decide) rfl (by decide) ⟨rfl, rfl⟩ (Nat.zero_le _) (Nat.zero_le _) (Nat.le_of_ble_eq_true rfl) ?_
    refine tt_if_eq (tgt := 21) dX2_findFault_12 (by decide) (fun _ => ?_) (fun q => absurd (by decide) q)
    refine tt_aload_n dX2_findFault_21 rfl ?_
    refine tt_rI dX2_findFault_22 fX2_19 rfl hR ?_
    refine tt_eq (show _ = nI 1 from rfl) ?_
    refine tt_if_eq (tgt := 35) dX2_findFault_25 (by decide) (fun q => absurd q (by decide)) (fun _ => ?_)
    refine tt_aload_n dX2_findFault_28 rfl ?_
    refine tt_rI dX2_findFault_29 fX2_23 rfl hR ?_
    refine tt_goto (tgt := 37) dX2_findFault_32 (by decide) ?_
    exact tt_ireturn dX2_findFault_37 rfl rfl (Nat.zero_le _) (Nat.zero_le _) ⟨congrArg (fun z => some (Value.int z)) (by unfold gE; rw [if_neg (by omega), if_pos ⟨h0, hf⟩]; rfl), _, rfl⟩
set_option maxRecDepth 100000 in
set_option maxHeartbeats 4000000 in
theorem g_X2_findFault_s {h : zhp} {r : Nat} {q : Nat → Int32} {m : Nat} (hR : zRd h r q m) (rr : Nat) (ih : ∀ (i e : Nat) (R : Nat → Int32) (hi : i + rr = 60) (hie : i ≤ e) (he : e ≤ m) (h1 : R 1 = nI e) (h8 : R 8 = nI 0), TT iX2_findFault 2 [some (.ref r), some (.int (nI i))] [] (zr h r R) 0 0 (zrQ h r (gT (gE q m (rr + 1) e)))) (i e : Nat) (R : Nat → Int32) (hi : i + (rr + 1) = 60) (hie : i ≤ e) (he : e ≤ m) (h1 : R 1 = nI e) (h8 : R 8 = nI 0) {k : Nat} (hk : nK q m e k) : TT iX2_findFault 2 [some (.ref r), some (.int (nI i))] [] (zr h r R) 0 0 (zrQ h r (gT (gE q m ((rr + 1) + 1) e))) := by
  have ho := hR.2.2.2.2.2.1
  have hm60 := ho.1
  obtain ⟨hgk, hek⟩ := gE_k (r := rr + 1 + 1) hk
  rw [hgk, gf_E]
  refine tt_iload_n dX2_findFault_2 rfl ?_
  refine tt_bipush (nI 60) dX2_findFault_3 rfl ?_
  refine tt_icmp_geN (tgt := 21) dX2_findFault_5 (by decide) (by omega) (by omega) (fun c_5 => ?_) (fun c_5 => ?_)
  · exact absurd c_5 (by omega)
  · refine tt_aload_n dX2_findFault_8 rfl ?_
    refine tt_callV (c_X2_readNext_k hR R e (by omega) h1 h8 hk) dX2_findFault_9 vX2_15 rfl rfl hR.2.1 (by decide) rfl (by decide) (Nat.le_of_ble_eq_true rfl) (Nat.le_of_ble_eq_true rfl) (Nat.le_of_ble_eq_true rfl) (fun r1 h1x q1 => ?_)
    obtain ⟨rfl, R1, rfl, hz⟩ := q1
    refine (show TT iX2_findFault 12 _ _ _ 0 0 _ from ?_)
    refine tt_if_eqB (tgt := 21) dX2_findFault_12 (by decide) (fun c_12 => ?_) (fun c_12 => ?_)
    · have c_12b := Decidable.not_not.mp c_12
      refine tt_aload_n dX2_findFault_21 rfl ?_
      refine tt_rI dX2_findFault_22 fX2_19 rfl hR ?_
      refine tt_eq (hz.2.1.trans (zb_t c_12b)) ?_
      refine tt_if_eq (tgt := 35) dX2_findFault_25 (by decide) (fun q => absurd q (by decide)) (fun _ => ?_)
      refine tt_aload_n dX2_findFault_28 rfl ?_
      refine tt_rI dX2_findFault_29 fX2_23 rfl hR ?_
      refine tt_goto (tgt := 37) dX2_findFault_32 (by decide) ?_
      exact tt_ireturn dX2_findFault_37 rfl rfl (Nat.zero_le _) (Nat.zero_le _) ⟨congrArg (fun z => some (Value.int z)) (by rw [hz.1, if_pos c_12b]; rfl), R1, rfl⟩
    · rw [if_neg c_12]
      have hgt := rdO_gt (Bool.not_eq_true _ |>.mp c_12)
      refine tt_iincN dX2_findFault_15 rfl rfl (Nat.le_of_ble_eq_true rfl) rfl ?_
      refine tt_goto (tgt := 2) dX2_findFault_18 (by decide) ?_
      exact ih (i + 1) (rdO q m k).2.2.1 R1 (by omega) (by omega) hgt.2 hz.1 (hz.2.1.trans (zb_f c_12))
theorem g_X2_findFault {h : zhp} {r : Nat} {q : Nat → Int32} {m : Nat} (hR : zRd h r q m) : ∀ (rr : Nat) (i e : Nat) (R : Nat → Int32) (hi : i + rr = 60) (hie : i ≤ e) (he : e ≤ m) (h1 : R 1 = nI e) (h8 : R 8 = nI 0), TT iX2_findFault 2 [some (.ref r), some (.int (nI i))] [] (zr h r R) 0 0 (zrQ h r (gT (gE q m (rr + 1) e)))
  | 0, i, e, R, hi, hie, he, h1, h8 => g_X2_findFault_e hR i e R hi hie he h1 h8
  | rr + 1, i, e, R, hi, hie, he, h1, h8 => by
    by_cases h0 : e = 0
    · exact g_X2_findFault_s hR rr (g_X2_findFault hR rr) i e R hi hie he h1 h8 (Or.inl ⟨h0, rfl⟩)
    · by_cases hm : m ≤ e
      · exact g_X2_findFault_b hR rr i e R hi hie he h1 h8 h0 hm
      · rcases Bool.eq_false_or_eq_true (tk q m (nI 59) (nI 59) e false).2.2 with z | z
        · exact g_X2_findFault_c hR rr i e R hi hie he h1 h8 h0 (by omega) z
        · exact g_X2_findFault_s hR rr (g_X2_findFault hR rr) i e R hi hie he h1 h8 (Or.inr ⟨h0, by omega, z, rfl⟩)
set_option maxRecDepth 100000 in
set_option maxHeartbeats 4000000 in
theorem c_X2_findFault {h : zhp} {r : Nat} {q : Nat → Int32} {m : Nat} (hR : zRd h r q m) (R : Nat → Int32) (h1 : R 1 = nI 0) (h8 : R 8 = nI 0) : MM iX2_findFault [.ref r] (zr h r R) (zrQ h r (fT q m)) := by
  refine MM_of (by decide +kernel) (Nat.le_of_ble_eq_true rfl) ?_
  refine tt_iconst (nI 0) dX2_findFault_0 rfl ?_
  refine tt_istore_n dX2_findFault_1 rfl (Nat.le_of_ble_eq_true rfl) rfl ?_
  exact g_X2_findFault hR 60 0 0 R rfl (by omega) (by omega) h1 h8
