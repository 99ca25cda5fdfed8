/-! the class: the reader, a number, an order -/
theorem rS_at {R : Nat → Int32} {k k2 : Nat} {f : Bool} : upd (rS R k f) 1 (nI k2) = rS R k2 f := by
  funext i
  unfold rS
  by_cases h : i = 1
  · subst h
    rw [pk_us, pk_un (by omega), pk_us]
  · rw [pk_un h]
    by_cases h2 : i = 8
    · subst h2; rw [pk_us, pk_us]
    · rw [pk_un h2, pk_un h, pk_un h2, pk_un h]
theorem nu2_in {q : Nat → Int32} {m k : Nat} (ho : pOK q m) : (nI 0 ≤ zat2 q m k - nI 48 ∧ zat2 q m k - nI 48 ≤ nI 9) ↔ k < m ∧ nI 48 ≤ q k ∧ q k ≤ nI 57 := by
  obtain ⟨c, hc, hce⟩ := zat2_c ho k
  rw [hce, zdig hc (by omega)]
  by_cases hk : k < m
  · have hq : q k = nI c := by
      unfold zat2 at hce
      rw [if_pos hk] at hce
      exact hce
    rw [hq, nI_leI (by omega) (by omega), nI_leI (by omega) (by omega)]
    exact ⟨fun h => ⟨hk, by omega⟩, fun h => Or.inl (by omega)⟩
  · have : c = 0 := by
      unfold zat2 at hce
      rw [if_neg hk] at hce
      exact znz hce.symm (by omega)
    exact ⟨fun h => by omega, fun h => absurd h.1 hk⟩
theorem nu2_val {q : Nat → Int32} {m k v : Nat} (ho : pOK q m) (hk : k < m) (h48 : nI 48 ≤ q k) : nI v * nI 10 + (zat2 q m k - nI 48) = nI 10 * nI v + q k - nI 48 := by
  obtain ⟨c, h1, h2, hce⟩ := ho.2 k hk
  have hz : zat2 q m k = nI c := (if_pos hk).trans hce
  rw [hce, nI_leI (by omega) (by omega)] at h48
  rw [hz, hce, pk_sub h48, pk_mul, pk_mul, nI_add, nI_add, pk_sub (by omega), show v * 10 + (c - 48) = 10 * v + c - 48 by omega]
def zoR (R1 : Nat → Int32) (o : Int32 × (Int32 × Int32 × Int32 × Int32) × Nat × Bool) : Prop := R1 1 = nI o.2.2.1 ∧ R1 8 = zb (o.2.2.2 = true) ∧ (o.2.2.2 = false → R1 2 = o.1 ∧ (o.1 = nI 43 → R1 3 = o.2.1.1 ∧ R1 4 = o.2.1.2.1 ∧ R1 5 = o.2.1.2.2.1) ∧ (o.1 ≠ nI 43 → o.1 ≠ nI 46 → R1 6 = o.2.1.1) ∧ (o.1 = nI 43 ∨ o.1 = nI 112 ∨ o.1 = nI 46 → R1 7 = o.2.1.2.2.2))
theorem zdv {x : Int32} {f : Bool} (hf : f = false) : (if f = true then nI 0 else x + nI 0) = x := by
  rw [if_neg (by rw [hf]; decide)]
  exact Int32.add_zero x
theorem znv {x : Int32} {f : Bool} (hf : f = false) : (if f = true then nI 0 else x) = x := if_neg (by rw [hf]; decide)
set_option maxRecDepth 100000 in
set_option maxHeartbeats 4000000 in
theorem c_X2_readNumber {h : zhp} {r : Nat} {q : Nat → Int32} {m : Nat} (hR : zRd h r q m) (R : Nat → Int32) (k : Nat) (f : Bool) (hk : k ≤ 60) (h1 : R 1 = nI k) (h8 : R 8 = zb (f = true)) (lo hi : Nat) (hl : lo ≤ 1) (hh : hi ≤ 99) : MM iX2_readNumber [.ref r, .int (nI lo), .int (nI hi)] (zr h r R) (zfi (if (nu q m lo hi k f).2.2 = true then nI 0 else (nu q m lo hi k f).1) (zr h r (rS R (nu q m lo hi k f).2.1 (nu q m lo hi k f).2.2))) := by
  have ho := hR.2.2.2.2.2.1
  obtain ⟨a, ha⟩ : ∃ a, tk q m (nI (48 + lo)) (nI 57) k f = a := ⟨_, rfl⟩
  have ha60 : a.2.1 ≤ 60 := by rw [← ha]; exact tk_le ho.1 hk
  have hnu : nu q m lo hi k f = if 0 < a.1 + nI lo ∧ (a.2.2 = false ∧ a.2.1 < m ∧ (nI 48 ≤ q a.2.1 ∧ q a.2.1 ≤ nI 57)) ∧ nI 10 * (a.1 + nI lo) + q a.2.1 - nI 48 ≤ nI hi then (nI 10 * (a.1 + nI lo) + q a.2.1 - nI 48, a.2.1 + 1, false) else (a.1 + nI lo, a.2.1, a.2.2) := by rw [← ha]; rfl
  have hv : a.2.2 = false → ∃ v, v ≤ 9 ∧ a.1 + nI lo = nI v := fun q0 => by
    rw [← ha] at q0 ⊢
    obtain ⟨g1, g2, g3, g4⟩ := tk_ok q0
    obtain ⟨c, hc1, hc2, hce⟩ := ho.2 k g2
    rw [hce, nI_leI (by omega) (by omega), nI_leI (by omega) (by omega)] at g3
    refine ⟨c - 48, by omega, ?_⟩
    rw [g4]
    show q k - nI (48 + lo) + nI lo = _
    rw [hce, pk_sub (by omega), nI_add, show c - (48 + lo) + lo = c - 48 by omega]
  refine MM_of (by decide +kernel) (Nat.le_of_ble_eq_true rfl) ?_
  refine tt_aload_n dX2_readNumber_0 rfl ?_
  refine tt_iload_n dX2_readNumber_1 rfl ?_
  refine tt_bipush (nI 9) dX2_readNumber_2 rfl ?_
  refine tt_fVi (c_X2_readDigit hR R k f hk h1 h8 lo 9 (by omega) (by omega)) dX2_readNumber_4 vX2_46 rfl rfl hR.2.1 (by decide) rfl (by decide) ⟨rfl, rfl⟩ (Nat.zero_le _) (Nat.zero_le _) (Nat.le_of_ble_eq_true rfl) ?_
  rw [show tk q m (nI (48 + lo)) (nI (48 + 9)) k f = a from ha]
  refine tt_istore_n dX2_readNumber_7 rfl (Nat.le_of_ble_eq_true rfl) rfl ?_
  refine tt_aload_n dX2_readNumber_8 rfl ?_
  refine tt_getR dX2_readNumber_9 fX2_9 rfl hR.2.1 hR.2.2.1 ?_
  refine tt_aload_n dX2_readNumber_12 rfl ?_
  refine tt_rI dX2_readNumber_13 fX2_23 rfl hR ?_
  refine tt_eq (show _ = nI a.2.1 from rfl) ?_
  refine tt_fVi (c_X1_signAt (zr_Pd hR) _ (by omega)) dX2_readNumber_16 vX2_39 rfl rfl (zr_Pd hR).1.1 (by decide) rfl (by decide) ⟨rfl, rfl⟩ (Nat.zero_le _) (Nat.zero_le _) (Nat.le_of_ble_eq_true rfl) ?_
  refine tt_bipush (nI 48) dX2_readNumber_19 rfl ?_
  refine tt_isub dX2_readNumber_21 ?_
  refine tt_istore dX2_readNumber_22 rfl (Nat.le_of_ble_eq_true rfl) rfl ?_
  refine tt_aload_n dX2_readNumber_24 rfl ?_
  refine tt_rI dX2_readNumber_25 fX2_19 rfl hR ?_
  refine tt_eq (show _ = zb (a.2.2 = true) from rfl) ?_
  refine tt_if_neB (tgt := 57) dX2_readNumber_28 (by decide) (fun c_28 => ?_) (fun c_28 => ?_)
  · refine tt_iload_n dX2_readNumber_57 rfl ?_
    exact tt_ireturn dX2_readNumber_58 rfl rfl (Nat.zero_le _) (Nat.zero_le _) (by
      first
      | (have hC : 0 < a.1 + nI lo ∧ (a.2.2 = false ∧ a.2.1 < m ∧ (nI 48 ≤ q a.2.1 ∧ q a.2.1 ≤ nI 57)) ∧ nI 10 * (a.1 + nI lo) + q a.2.1 - nI 48 ≤ nI hi := ⟨by rw [hve]; exact (nI_ltI (a := 0) (by omega) (by omega)).mpr (Nat.pos_of_ne_zero (fun z => c_32 (by rw [z]; rfl))), ⟨Bool.not_eq_true _ |>.mp c_28, (nu2_in ho).mp c_43⟩, by rw [hve, ← nu2_val ho ((nu2_in ho).mp c_43).1 ((nu2_in ho).mp c_43).2.1]; exact c_54⟩
         rw [hnu, if_pos hC]
         dsimp only
         rw [if_neg (show ¬ (false = true) by decide), hve, ← nu2_val ho hC.2.1.2.1 hC.2.1.2.2.1, rS_at, hC.2.1.1]
         exact ⟨rfl, rfl⟩)
      | (rw [hnu, if_neg (show ¬ (0 < a.1 + nI lo ∧ (a.2.2 = false ∧ a.2.1 < m ∧ (nI 48 ≤ q a.2.1 ∧ q a.2.1 ≤ nI 57)) ∧ nI 10 * (a.1 + nI lo) + q a.2.1 - nI 48 ≤ nI hi) from fun z => by
           first
           | exact absurd z.2.1.1 (by rw [c_28]; decide)
           | exact absurd z.1 (by rw [hve, c_32]; decide)
           | exact c_43 ((nu2_in ho).mpr z.2.1.2)
           | exact c_54 (by rw [nu2_val ho z.2.1.2.1 z.2.1.2.2.1, ← hve]; exact z.2.2))]
         exact ⟨rfl, rfl⟩))
  · obtain ⟨v, hv9, hve⟩ := hv (Bool.not_eq_true _ |>.mp c_28)
    refine tt_iload_n dX2_readNumber_31 rfl ?_
    refine tt_eq (show _ = nI v from (if_neg c_28).trans hve) ?_
    refine tt_if_eq (tgt := 57) dX2_readNumber_32 (by decide) (fun c_32 => ?_) (fun c_32 => ?_)
    · refine tt_iload_n dX2_readNumber_57 rfl ?_
      exact tt_ireturn dX2_readNumber_58 rfl rfl (Nat.zero_le _) (Nat.zero_le _) (by
        first
        | (have hC : 0 < a.1 + nI lo ∧ (a.2.2 = false ∧ a.2.1 < m ∧ (nI 48 ≤ q a.2.1 ∧ q a.2.1 ≤ nI 57)) ∧ nI 10 * (a.1 + nI lo) + q a.2.1 - nI 48 ≤ nI hi := ⟨by rw [hve]; exact (nI_ltI (a := 0) (by omega) (by omega)).mpr (Nat.pos_of_ne_zero (fun z => c_32 (by rw [z]; rfl))), ⟨Bool.not_eq_true _ |>.mp c_28, (nu2_in ho).mp c_43⟩, by rw [hve, ← nu2_val ho ((nu2_in ho).mp c_43).1 ((nu2_in ho).mp c_43).2.1]; exact c_54⟩
           rw [hnu, if_pos hC]
           dsimp only
           rw [if_neg (show ¬ (false = true) by decide), hve, ← nu2_val ho hC.2.1.2.1 hC.2.1.2.2.1, rS_at, hC.2.1.1]
           exact ⟨rfl, rfl⟩)
        | (rw [hnu, if_neg (show ¬ (0 < a.1 + nI lo ∧ (a.2.2 = false ∧ a.2.1 < m ∧ (nI 48 ≤ q a.2.1 ∧ q a.2.1 ≤ nI 57)) ∧ nI 10 * (a.1 + nI lo) + q a.2.1 - nI 48 ≤ nI hi) from fun z => by
             first
             | exact absurd z.2.1.1 (by rw [c_28]; decide)
             | exact absurd z.1 (by rw [hve, c_32]; decide)
             | exact c_43 ((nu2_in ho).mpr z.2.1.2)
             | exact c_54 (by rw [nu2_val ho z.2.1.2.1 z.2.1.2.2.1, ← hve]; exact z.2.2))]
           exact ⟨rfl, rfl⟩))
    · refine tt_iload dX2_readNumber_35 rfl ?_
      refine tt_iconst (nI 0) dX2_readNumber_37 rfl ?_
      refine tt_bipush (nI 9) dX2_readNumber_38 rfl ?_
      refine tt_fSNi (c_X5_isWithin _ _ _ _) dX2_readNumber_40 sX2_68 rfl rfl (by decide) ⟨rfl, rfl⟩ (Nat.zero_le _) (Nat.zero_le _) (Nat.le_of_ble_eq_true rfl) ?_
      refine tt_if_eqB (tgt := 57) dX2_readNumber_43 (by decide) (fun c_43 => ?_) (fun c_43 => ?_)
      · refine tt_iload_n dX2_readNumber_57 rfl ?_
        exact tt_ireturn dX2_readNumber_58 rfl rfl (Nat.zero_le _) (Nat.zero_le _) (by
          first
          | (have hC : 0 < a.1 + nI lo ∧ (a.2.2 = false ∧ a.2.1 < m ∧ (nI 48 ≤ q a.2.1 ∧ q a.2.1 ≤ nI 57)) ∧ nI 10 * (a.1 + nI lo) + q a.2.1 - nI 48 ≤ nI hi := ⟨by rw [hve]; exact (nI_ltI (a := 0) (by omega) (by omega)).mpr (Nat.pos_of_ne_zero (fun z => c_32 (by rw [z]; rfl))), ⟨Bool.not_eq_true _ |>.mp c_28, (nu2_in ho).mp c_43⟩, by rw [hve, ← nu2_val ho ((nu2_in ho).mp c_43).1 ((nu2_in ho).mp c_43).2.1]; exact c_54⟩
             rw [hnu, if_pos hC]
             dsimp only
             rw [if_neg (show ¬ (false = true) by decide), hve, ← nu2_val ho hC.2.1.2.1 hC.2.1.2.2.1, rS_at, hC.2.1.1]
             exact ⟨rfl, rfl⟩)
          | (rw [hnu, if_neg (show ¬ (0 < a.1 + nI lo ∧ (a.2.2 = false ∧ a.2.1 < m ∧ (nI 48 ≤ q a.2.1 ∧ q a.2.1 ≤ nI 57)) ∧ nI 10 * (a.1 + nI lo) + q a.2.1 - nI 48 ≤ nI hi) from fun z => by
               first
               | exact absurd z.2.1.1 (by rw [c_28]; decide)
               | exact absurd z.1 (by rw [hve, c_32]; decide)
               | exact c_43 ((nu2_in ho).mpr z.2.1.2)
               | exact c_54 (by rw [nu2_val ho z.2.1.2.1 z.2.1.2.2.1, ← hve]; exact z.2.2))]
             exact ⟨rfl, rfl⟩))
      · refine tt_iload_n dX2_readNumber_46 rfl ?_
        refine tt_eq (show _ = nI v from (if_neg c_28).trans hve) ?_
        refine tt_bipush (nI 10) dX2_readNumber_47 rfl ?_
        refine tt_imul dX2_readNumber_49 ?_
        refine tt_iload dX2_readNumber_50 rfl ?_
        refine tt_iadd dX2_readNumber_52 ?_
        refine tt_iload_n dX2_readNumber_53 rfl ?_
        refine tt_icmp_le (tgt := 59) dX2_readNumber_54 (by decide) (fun c_54 => ?_) (fun c_54 => ?_)
        · refine tt_aload_n dX2_readNumber_59 rfl ?_
          refine tt_dup dX2_readNumber_60 rfl ?_
          refine tt_rI dX2_readNumber_61 fX2_23 rfl hR ?_
          refine tt_eq (show _ = nI a.2.1 from rfl) ?_
          refine tt_iconst (nI 1) dX2_readNumber_64 rfl ?_
          refine tt_iaddN dX2_readNumber_65 ?_
          refine tt_rp dX2_readNumber_66 fX2_23 rfl rfl hR ?_
          refine tt_iload_n dX2_readNumber_69 rfl ?_
          refine tt_eq (show _ = nI v from (if_neg c_28).trans hve) ?_
          refine tt_bipush (nI 10) dX2_readNumber_70 rfl ?_
          refine tt_imul dX2_readNumber_72 ?_
          refine tt_iload dX2_readNumber_73 rfl ?_
          refine tt_iadd dX2_readNumber_75 ?_
          exact tt_ireturn dX2_readNumber_76 rfl rfl (Nat.zero_le _) (Nat.zero_le _) (by
            first
            | (have hC : 0 < a.1 + nI lo ∧ (a.2.2 = false ∧ a.2.1 < m ∧ (nI 48 ≤ q a.2.1 ∧ q a.2.1 ≤ nI 57)) ∧ nI 10 * (a.1 + nI lo) + q a.2.1 - nI 48 ≤ nI hi := ⟨by rw [hve]; exact (nI_ltI (a := 0) (by omega) (by omega)).mpr (Nat.pos_of_ne_zero (fun z => c_32 (by rw [z]; rfl))), ⟨Bool.not_eq_true _ |>.mp c_28, (nu2_in ho).mp c_43⟩, by rw [hve, ← nu2_val ho ((nu2_in ho).mp c_43).1 ((nu2_in ho).mp c_43).2.1]; exact c_54⟩
               rw [hnu, if_pos hC]
               dsimp only
               rw [if_neg (show ¬ (false = true) by decide), hve, ← nu2_val ho hC.2.1.2.1 hC.2.1.2.2.1, rS_at, hC.2.1.1]
               exact ⟨rfl, rfl⟩)
            | (rw [hnu, if_neg (show ¬ (0 < a.1 + nI lo ∧ (a.2.2 = false ∧ a.2.1 < m ∧ (nI 48 ≤ q a.2.1 ∧ q a.2.1 ≤ nI 57)) ∧ nI 10 * (a.1 + nI lo) + q a.2.1 - nI 48 ≤ nI hi) from fun z => by
                 first
                 | exact absurd z.2.1.1 (by rw [c_28]; decide)
                 | exact absurd z.1 (by rw [hve, c_32]; decide)
                 | exact c_43 ((nu2_in ho).mpr z.2.1.2)
                 | exact c_54 (by rw [nu2_val ho z.2.1.2.1 z.2.1.2.2.1, ← hve]; exact z.2.2))]
               exact ⟨rfl, rfl⟩))
        · refine tt_iload_n dX2_readNumber_57 rfl ?_
          exact tt_ireturn dX2_readNumber_58 rfl rfl (Nat.zero_le _) (Nat.zero_le _) (by
            first
            | (have hC : 0 < a.1 + nI lo ∧ (a.2.2 = false ∧ a.2.1 < m ∧ (nI 48 ≤ q a.2.1 ∧ q a.2.1 ≤ nI 57)) ∧ nI 10 * (a.1 + nI lo) + q a.2.1 - nI 48 ≤ nI hi := ⟨by rw [hve]; exact (nI_ltI (a := 0) (by omega) (by omega)).mpr (Nat.pos_of_ne_zero (fun z => c_32 (by rw [z]; rfl))), ⟨Bool.not_eq_true _ |>.mp c_28, (nu2_in ho).mp c_43⟩, by rw [hve, ← nu2_val ho ((nu2_in ho).mp c_43).1 ((nu2_in ho).mp c_43).2.1]; exact c_54⟩
               rw [hnu, if_pos hC]
               dsimp only
               rw [if_neg (show ¬ (false = true) by decide), hve, ← nu2_val ho hC.2.1.2.1 hC.2.1.2.2.1, rS_at, hC.2.1.1]
               exact ⟨rfl, rfl⟩)
            | (rw [hnu, if_neg (show ¬ (0 < a.1 + nI lo ∧ (a.2.2 = false ∧ a.2.1 < m ∧ (nI 48 ≤ q a.2.1 ∧ q a.2.1 ≤ nI 57)) ∧ nI 10 * (a.1 + nI lo) + q a.2.1 - nI 48 ≤ nI hi) from fun z => by
                 first
                 | exact absurd z.2.1.1 (by rw [c_28]; decide)
                 | exact absurd z.1 (by rw [hve, c_32]; decide)
                 | exact c_43 ((nu2_in ho).mpr z.2.1.2)
                 | exact c_54 (by rw [nu2_val ho z.2.1.2.1 z.2.1.2.2.1, ← hve]; exact z.2.2))]
               exact ⟨rfl, rfl⟩))
set_option maxRecDepth 100000 in
set_option maxHeartbeats 4000000 in
theorem c_X2_readOrder_43 {h : zhp} {r : Nat} {q : Nat → Int32} {m : Nat} (hR : zRd h r q m) (R : Nat → Int32) (k : Nat) (hk : k ≤ 60) (h1 : R 1 = nI k) (h8 : R 8 = nI 0) (hkn : k < m) (hsg : q k = nI 43) : MM iX2_readOrder [.ref r] (zr h r R) (fun r0 h1 => r0 = none ∧ ∃ R1, h1 = zr h r R1 ∧ zoR R1 (nI 43, rd43 q m k)) := by
  have ho := hR.2.2.2.2.2.1
  have hm60 := ho.1
  refine MM_of (by decide +kernel) (Nat.le_of_ble_eq_true rfl) ?_
  refine tt_aload_n dX2_readOrder_0 rfl ?_
  refine tt_aload_n dX2_readOrder_1 rfl ?_
  refine tt_getR dX2_readOrder_2 fX2_9 rfl hR.2.1 hR.2.2.1 ?_
  refine tt_aload_n dX2_readOrder_5 rfl ?_
  refine tt_rI dX2_readOrder_6 fX2_23 rfl hR ?_
  refine tt_eq (h1) ?_
  refine tt_fVi (c_X1_signAt (zr_Pd hR) _ (by omega)) dX2_readOrder_9 vX2_39 rfl rfl (zr_Pd hR).1.1 (by decide) rfl (by decide) ⟨rfl, rfl⟩ (Nat.zero_le _) (Nat.zero_le _) (Nat.le_of_ble_eq_true rfl) ?_
  refine tt_rp dX2_readOrder_12 fX2_43 rfl rfl hR ?_
  refine tt_aload_n dX2_readOrder_15 rfl ?_
  refine tt_rI dX2_readOrder_16 fX2_43 rfl hR ?_
  refine tt_eq (show zat2 q m k = nI 43 from (if_pos hkn).trans hsg) ?_
  refine tt_lookup (off := 57) (tgt := 76) dX2_readOrder_19 (by decide) (by decide) (by decide) ?_
  refine tt_aload_n dX2_readOrder_76 rfl ?_
  refine tt_dup dX2_readOrder_77 rfl ?_
  refine tt_rI dX2_readOrder_78 fX2_23 rfl hR ?_
  refine tt_eq (show _ = nI k from h1) ?_
  refine tt_iconst (nI 1) dX2_readOrder_81 rfl ?_
  refine tt_iaddN dX2_readOrder_82 ?_
  refine tt_rp dX2_readOrder_83 fX2_23 rfl rfl hR ?_
  refine tt_aload_n dX2_readOrder_86 rfl ?_
  refine tt_aload_n dX2_readOrder_87 rfl ?_
  refine tt_iconst (nI 0) dX2_readOrder_88 rfl ?_
  refine tt_iconst (nI 5) dX2_readOrder_89 rfl ?_
  refine tt_fVi (c_X2_readDigit hR _ (k + 1) (false) (by omega) (by rfl) (by first | rfl | exact h8) 0 5 (by omega) (by omega)) dX2_readOrder_90 vX2_46 rfl rfl hR.2.1 (by decide) rfl (by decide) ⟨rfl, rfl⟩ (Nat.zero_le _) (Nat.zero_le _) (Nat.le_of_ble_eq_true rfl) ?_
  refine tt_rp dX2_readOrder_93 fX2_50 rfl rfl hR ?_
  refine tt_aload_n dX2_readOrder_96 rfl ?_
  refine tt_aload_n dX2_readOrder_97 rfl ?_
  refine tt_iconst (nI 0) dX2_readOrder_98 rfl ?_
  refine tt_iconst (nI 3) dX2_readOrder_99 rfl ?_
  refine tt_fVi (c_X2_readDigit hR _ ((tk q m (nI 48) (nI 53) (k + 1) (false)).2.1) ((tk q m (nI 48) (nI 53) (k + 1) (false)).2.2) (tk_le ho.1 (by omega)) (by rfl) (by first | rfl | exact h8) 0 3 (by omega) (by omega)) dX2_readOrder_100 vX2_46 rfl rfl hR.2.1 (by decide) rfl (by decide) ⟨rfl, rfl⟩ (Nat.zero_le _) (Nat.zero_le _) (Nat.le_of_ble_eq_true rfl) ?_
  refine tt_rp dX2_readOrder_103 fX2_53 rfl rfl hR ?_
  refine tt_aload_n dX2_readOrder_106 rfl ?_
  refine tt_aload_n dX2_readOrder_107 rfl ?_
  refine tt_iconst (nI 0) dX2_readOrder_108 rfl ?_
  refine tt_iconst (nI 5) dX2_readOrder_109 rfl ?_
  refine tt_fVi (c_X2_readDigit hR _ ((tk q m (nI 48) (nI 51) ((tk q m (nI 48) (nI 53) (k + 1) (false)).2.1) ((tk q m (nI 48) (nI 53) (k + 1) (false)).2.2)).2.1) ((tk q m (nI 48) (nI 51) ((tk q m (nI 48) (nI 53) (k + 1) (false)).2.1) ((tk q m (nI 48) (nI 53) (k + 1) (false)).2.2)).2.2) (tk_le ho.1 (tk_le ho.1 (by omega))) (by rfl) (by first | rfl | exact h8) 0 5 (by omega) (by omega)) dX2_readOrder_110 vX2_46 rfl rfl hR.2.1 (by decide) rfl (by decide) ⟨rfl, rfl⟩ (Nat.zero_le _) (Nat.zero_le _) (Nat.le_of_ble_eq_true rfl) ?_
  refine tt_rp dX2_readOrder_113 fX2_56 rfl rfl hR ?_
  refine tt_aload_n dX2_readOrder_116 rfl ?_
  refine tt_bipush (nI 58) dX2_readOrder_117 rfl ?_
  refine tt_fVv (c_X2_readSign hR _ ((tk q m (nI 48) (nI 53) ((tk q m (nI 48) (nI 51) ((tk q m (nI 48) (nI 53) (k + 1) (false)).2.1) ((tk q m (nI 48) (nI 53) (k + 1) (false)).2.2)).2.1) ((tk q m (nI 48) (nI 51) ((tk q m (nI 48) (nI 53) (k + 1) (false)).2.1) ((tk q m (nI 48) (nI 53) (k + 1) (false)).2.2)).2.2)).2.1) ((tk q m (nI 48) (nI 53) ((tk q m (nI 48) (nI 51) ((tk q m (nI 48) (nI 53) (k + 1) (false)).2.1) ((tk q m (nI 48) (nI 53) (k + 1) (false)).2.2)).2.1) ((tk q m (nI 48) (nI 51) ((tk q m (nI 48) (nI 53) (k + 1) (false)).2.1) ((tk q m (nI 48) (nI 53) (k + 1) (false)).2.2)).2.2)).2.2) (tk_le ho.1 (tk_le ho.1 (tk_le ho.1 (by omega)))) (by rfl) (by rfl) (nI 58) (by decide)) dX2_readOrder_119 vX2_32 rfl rfl hR.2.1 (by decide) rfl (by decide) ⟨rfl, rfl⟩ (Nat.zero_le _) (Nat.zero_le _) (Nat.le_of_ble_eq_true rfl) ?_
  refine tt_aload_n dX2_readOrder_122 rfl ?_
  refine tt_aload_n dX2_readOrder_123 rfl ?_
  refine tt_iconst (nI 0) dX2_readOrder_124 rfl ?_
  refine tt_bipush (nI 30) dX2_readOrder_125 rfl ?_
  refine tt_fVi (c_X2_readNumber hR _ ((tk q m (nI 58) (nI 58) (tk q m (nI 48) (nI 53) ((tk q m (nI 48) (nI 51) ((tk q m (nI 48) (nI 53) (k + 1) (false)).2.1) ((tk q m (nI 48) (nI 53) (k + 1) (false)).2.2)).2.1) ((tk q m (nI 48) (nI 51) ((tk q m (nI 48) (nI 53) (k + 1) (false)).2.1) ((tk q m (nI 48) (nI 53) (k + 1) (false)).2.2)).2.2)).2.1 (tk q m (nI 48) (nI 53) ((tk q m (nI 48) (nI 51) ((tk q m (nI 48) (nI 53) (k + 1) (false)).2.1) ((tk q m (nI 48) (nI 53) (k + 1) (false)).2.2)).2.1) ((tk q m (nI 48) (nI 51) ((tk q m (nI 48) (nI 53) (k + 1) (false)).2.1) ((tk q m (nI 48) (nI 53) (k + 1) (false)).2.2)).2.2)).2.2).2.1) ((tk q m (nI 58) (nI 58) (tk q m (nI 48) (nI 53) ((tk q m (nI 48) (nI 51) ((tk q m (nI 48) (nI 53) (k + 1) (false)).2.1) ((tk q m (nI 48) (nI 53) (k + 1) (false)).2.2)).2.1) ((tk q m (nI 48) (nI 51) ((tk q m (nI 48) (nI 53) (k + 1) (false)).2.1) ((tk q m (nI 48) (nI 53) (k + 1) (false)).2.2)).2.2)).2.1 (tk q m (nI 48) (nI 53) ((tk q m (nI 48) (nI 51) ((tk q m (nI 48) (nI 53) (k + 1) (false)).2.1) ((tk q m (nI 48) (nI 53) (k + 1) (false)).2.2)).2.1) ((tk q m (nI 48) (nI 51) ((tk q m (nI 48) (nI 53) (k + 1) (false)).2.1) ((tk q m (nI 48) (nI 53) (k + 1) (false)).2.2)).2.2)).2.2).2.2) (tk_le ho.1 (tk_le ho.1 (tk_le ho.1 (tk_le ho.1 (by omega))))) (by rfl) (by first | rfl | exact h8) 0 30 (by omega) (by omega)) dX2_readOrder_127 vX2_59 rfl rfl hR.2.1 (by decide) rfl (by decide) ⟨rfl, rfl⟩ (Nat.zero_le _) (Nat.zero_le _) (Nat.le_of_ble_eq_true rfl) ?_
  refine tt_rp dX2_readOrder_130 fX2_62 rfl rfl hR ?_
  refine tt_goto (tgt := 230) dX2_readOrder_133 (by decide) ?_
  exact tt_return dX2_readOrder_230 rfl (Nat.zero_le _) (Nat.zero_le _) ⟨rfl, _, rfl, rfl, rfl, fun hf => by
    have f4 := (nu_gt hf).1
    have f3 := (tk_gt f4).1
    have f2 := (tk_gt f3).1
    have f1 := (tk_gt f2).1
    exact ⟨(show zat2 q m k = _ from (if_pos hkn).trans hsg), fun _ => ⟨zdv f1, zdv f2, zdv f3⟩, fun z => absurd rfl z, fun _ => znv hf⟩⟩
set_option maxRecDepth 100000 in
set_option maxHeartbeats 4000000 in
theorem c_X2_readOrder_119 {h : zhp} {r : Nat} {q : Nat → Int32} {m : Nat} (hR : zRd h r q m) (R : Nat → Int32) (k : Nat) (hk : k ≤ 60) (h1 : R 1 = nI k) (h8 : R 8 = nI 0) (hkn : k < m) (hsg : q k = nI 119) : MM iX2_readOrder [.ref r] (zr h r R) (fun r0 h1 => r0 = none ∧ ∃ R1, h1 = zr h r R1 ∧ zoR R1 (nI 119, rd1 q m k)) := by
  have ho := hR.2.2.2.2.2.1
  have hm60 := ho.1
  refine MM_of (by decide +kernel) (Nat.le_of_ble_eq_true rfl) ?_
  refine tt_aload_n dX2_readOrder_0 rfl ?_
  refine tt_aload_n dX2_readOrder_1 rfl ?_
  refine tt_getR dX2_readOrder_2 fX2_9 rfl hR.2.1 hR.2.2.1 ?_
  refine tt_aload_n dX2_readOrder_5 rfl ?_
  refine tt_rI dX2_readOrder_6 fX2_23 rfl hR ?_
  refine tt_eq (h1) ?_
  refine tt_fVi (c_X1_signAt (zr_Pd hR) _ (by omega)) dX2_readOrder_9 vX2_39 rfl rfl (zr_Pd hR).1.1 (by decide) rfl (by decide) ⟨rfl, rfl⟩ (Nat.zero_le _) (Nat.zero_le _) (Nat.le_of_ble_eq_true rfl) ?_
  refine tt_rp dX2_readOrder_12 fX2_43 rfl rfl hR ?_
  refine tt_aload_n dX2_readOrder_15 rfl ?_
  refine tt_rI dX2_readOrder_16 fX2_43 rfl hR ?_
  refine tt_eq (show zat2 q m k = nI 119 from (if_pos hkn).trans hsg) ?_
  refine tt_lookup (off := 117) (tgt := 136) dX2_readOrder_19 (by decide) (by decide) (by decide) ?_
  refine tt_aload_n dX2_readOrder_136 rfl ?_
  refine tt_dup dX2_readOrder_137 rfl ?_
  refine tt_rI dX2_readOrder_138 fX2_23 rfl hR ?_
  refine tt_eq (show _ = nI k from h1) ?_
  refine tt_iconst (nI 1) dX2_readOrder_141 rfl ?_
  refine tt_iaddN dX2_readOrder_142 ?_
  refine tt_rp dX2_readOrder_143 fX2_23 rfl rfl hR ?_
  refine tt_aload_n dX2_readOrder_146 rfl ?_
  refine tt_aload_n dX2_readOrder_147 rfl ?_
  refine tt_iconst (nI 0) dX2_readOrder_148 rfl ?_
  refine tt_bipush (nI 9) dX2_readOrder_149 rfl ?_
  refine tt_fVi (c_X2_readDigit hR _ (k + 1) (false) (by omega) (by rfl) (by first | rfl | exact h8) 0 9 (by omega) (by omega)) dX2_readOrder_151 vX2_46 rfl rfl hR.2.1 (by decide) rfl (by decide) ⟨rfl, rfl⟩ (Nat.zero_le _) (Nat.zero_le _) (Nat.le_of_ble_eq_true rfl) ?_
  refine tt_rp dX2_readOrder_154 fX2_65 rfl rfl hR ?_
  refine tt_goto (tgt := 230) dX2_readOrder_157 (by decide) ?_
  exact tt_return dX2_readOrder_230 rfl (Nat.zero_le _) (Nat.zero_le _) ⟨rfl, _, rfl, rfl, rfl, fun hf => by
    exact ⟨(show zat2 q m k = _ from (if_pos hkn).trans hsg), fun z => absurd z (show ¬ nI 119 = nI 43 by decide), fun _ _ => zdv hf, fun z => absurd z (show ¬ (nI 119 = nI 43 ∨ nI 119 = nI 112 ∨ nI 119 = nI 46) by decide)⟩⟩
set_option maxRecDepth 100000 in
set_option maxHeartbeats 4000000 in
theorem c_X2_readOrder_45 {h : zhp} {r : Nat} {q : Nat → Int32} {m : Nat} (hR : zRd h r q m) (R : Nat → Int32) (k : Nat) (hk : k ≤ 60) (h1 : R 1 = nI k) (h8 : R 8 = nI 0) (hkn : k < m) (hsg : q k = nI 45) : MM iX2_readOrder [.ref r] (zr h r R) (fun r0 h1 => r0 = none ∧ ∃ R1, h1 = zr h r R1 ∧ zoR R1 (nI 45, rd1 q m k)) := by
  have ho := hR.2.2.2.2.2.1
  have hm60 := ho.1
  refine MM_of (by decide +kernel) (Nat.le_of_ble_eq_true rfl) ?_
  refine tt_aload_n dX2_readOrder_0 rfl ?_
  refine tt_aload_n dX2_readOrder_1 rfl ?_
  refine tt_getR dX2_readOrder_2 fX2_9 rfl hR.2.1 hR.2.2.1 ?_
  refine tt_aload_n dX2_readOrder_5 rfl ?_
  refine tt_rI dX2_readOrder_6 fX2_23 rfl hR ?_
  refine tt_eq (h1) ?_
  refine tt_fVi (c_X1_signAt (zr_Pd hR) _ (by omega)) dX2_readOrder_9 vX2_39 rfl rfl (zr_Pd hR).1.1 (by decide) rfl (by decide) ⟨rfl, rfl⟩ (Nat.zero_le _) (Nat.zero_le _) (Nat.le_of_ble_eq_true rfl) ?_
  refine tt_rp dX2_readOrder_12 fX2_43 rfl rfl hR ?_
  refine tt_aload_n dX2_readOrder_15 rfl ?_
  refine tt_rI dX2_readOrder_16 fX2_43 rfl hR ?_
  refine tt_eq (show zat2 q m k = nI 45 from (if_pos hkn).trans hsg) ?_
  refine tt_lookup (off := 117) (tgt := 136) dX2_readOrder_19 (by decide) (by decide) (by decide) ?_
  refine tt_aload_n dX2_readOrder_136 rfl ?_
  refine tt_dup dX2_readOrder_137 rfl ?_
  refine tt_rI dX2_readOrder_138 fX2_23 rfl hR ?_
  refine tt_eq (show _ = nI k from h1) ?_
  refine tt_iconst (nI 1) dX2_readOrder_141 rfl ?_
  refine tt_iaddN dX2_readOrder_142 ?_
  refine tt_rp dX2_readOrder_143 fX2_23 rfl rfl hR ?_
  refine tt_aload_n dX2_readOrder_146 rfl ?_
  refine tt_aload_n dX2_readOrder_147 rfl ?_
  refine tt_iconst (nI 0) dX2_readOrder_148 rfl ?_
  refine tt_bipush (nI 9) dX2_readOrder_149 rfl ?_
  refine tt_fVi (c_X2_readDigit hR _ (k + 1) (false) (by omega) (by rfl) (by first | rfl | exact h8) 0 9 (by omega) (by omega)) dX2_readOrder_151 vX2_46 rfl rfl hR.2.1 (by decide) rfl (by decide) ⟨rfl, rfl⟩ (Nat.zero_le _) (Nat.zero_le _) (Nat.le_of_ble_eq_true rfl) ?_
  refine tt_rp dX2_readOrder_154 fX2_65 rfl rfl hR ?_
  refine tt_goto (tgt := 230) dX2_readOrder_157 (by decide) ?_
  exact tt_return dX2_readOrder_230 rfl (Nat.zero_le _) (Nat.zero_le _) ⟨rfl, _, rfl, rfl, rfl, fun hf => by
    exact ⟨(show zat2 q m k = _ from (if_pos hkn).trans hsg), fun z => absurd z (show ¬ nI 45 = nI 43 by decide), fun _ _ => zdv hf, fun z => absurd z (show ¬ (nI 45 = nI 43 ∨ nI 45 = nI 112 ∨ nI 45 = nI 46) by decide)⟩⟩
set_option maxRecDepth 100000 in
set_option maxHeartbeats 4000000 in
theorem c_X2_readOrder_111 {h : zhp} {r : Nat} {q : Nat → Int32} {m : Nat} (hR : zRd h r q m) (R : Nat → Int32) (k : Nat) (hk : k ≤ 60) (h1 : R 1 = nI k) (h8 : R 8 = nI 0) (hkn : k < m) (hsg : q k = nI 111) : MM iX2_readOrder [.ref r] (zr h r R) (fun r0 h1 => r0 = none ∧ ∃ R1, h1 = zr h r R1 ∧ zoR R1 (nI 111, rd1 q m k)) := by
  have ho := hR.2.2.2.2.2.1
  have hm60 := ho.1
  refine MM_of (by decide +kernel) (Nat.le_of_ble_eq_true rfl) ?_
  refine tt_aload_n dX2_readOrder_0 rfl ?_
  refine tt_aload_n dX2_readOrder_1 rfl ?_
  refine tt_getR dX2_readOrder_2 fX2_9 rfl hR.2.1 hR.2.2.1 ?_
  refine tt_aload_n dX2_readOrder_5 rfl ?_
  refine tt_rI dX2_readOrder_6 fX2_23 rfl hR ?_
  refine tt_eq (h1) ?_
  refine tt_fVi (c_X1_signAt (zr_Pd hR) _ (by omega)) dX2_readOrder_9 vX2_39 rfl rfl (zr_Pd hR).1.1 (by decide) rfl (by decide) ⟨rfl, rfl⟩ (Nat.zero_le _) (Nat.zero_le _) (Nat.le_of_ble_eq_true rfl) ?_
  refine tt_rp dX2_readOrder_12 fX2_43 rfl rfl hR ?_
  refine tt_aload_n dX2_readOrder_15 rfl ?_
  refine tt_rI dX2_readOrder_16 fX2_43 rfl hR ?_
  refine tt_eq (show zat2 q m k = nI 111 from (if_pos hkn).trans hsg) ?_
  refine tt_lookup (off := 117) (tgt := 136) dX2_readOrder_19 (by decide) (by decide) (by decide) ?_
  refine tt_aload_n dX2_readOrder_136 rfl ?_
  refine tt_dup dX2_readOrder_137 rfl ?_
  refine tt_rI dX2_readOrder_138 fX2_23 rfl hR ?_
  refine tt_eq (show _ = nI k from h1) ?_
  refine tt_iconst (nI 1) dX2_readOrder_141 rfl ?_
  refine tt_iaddN dX2_readOrder_142 ?_
  refine tt_rp dX2_readOrder_143 fX2_23 rfl rfl hR ?_
  refine tt_aload_n dX2_readOrder_146 rfl ?_
  refine tt_aload_n dX2_readOrder_147 rfl ?_
  refine tt_iconst (nI 0) dX2_readOrder_148 rfl ?_
  refine tt_bipush (nI 9) dX2_readOrder_149 rfl ?_
  refine tt_fVi (c_X2_readDigit hR _ (k + 1) (false) (by omega) (by rfl) (by first | rfl | exact h8) 0 9 (by omega) (by omega)) dX2_readOrder_151 vX2_46 rfl rfl hR.2.1 (by decide) rfl (by decide) ⟨rfl, rfl⟩ (Nat.zero_le _) (Nat.zero_le _) (Nat.le_of_ble_eq_true rfl) ?_
  refine tt_rp dX2_readOrder_154 fX2_65 rfl rfl hR ?_
  refine tt_goto (tgt := 230) dX2_readOrder_157 (by decide) ?_
  exact tt_return dX2_readOrder_230 rfl (Nat.zero_le _) (Nat.zero_le _) ⟨rfl, _, rfl, rfl, rfl, fun hf => by
    exact ⟨(show zat2 q m k = _ from (if_pos hkn).trans hsg), fun z => absurd z (show ¬ nI 111 = nI 43 by decide), fun _ _ => zdv hf, fun z => absurd z (show ¬ (nI 111 = nI 43 ∨ nI 111 = nI 112 ∨ nI 111 = nI 46) by decide)⟩⟩
set_option maxRecDepth 100000 in
set_option maxHeartbeats 4000000 in
theorem c_X2_readOrder_112 {h : zhp} {r : Nat} {q : Nat → Int32} {m : Nat} (hR : zRd h r q m) (R : Nat → Int32) (k : Nat) (hk : k ≤ 60) (h1 : R 1 = nI k) (h8 : R 8 = nI 0) (hkn : k < m) (hsg : q k = nI 112) : MM iX2_readOrder [.ref r] (zr h r R) (fun r0 h1 => r0 = none ∧ ∃ R1, h1 = zr h r R1 ∧ zoR R1 (nI 112, rd112 q m k)) := by
  have ho := hR.2.2.2.2.2.1
  have hm60 := ho.1
  refine MM_of (by decide +kernel) (Nat.le_of_ble_eq_true rfl) ?_
  refine tt_aload_n dX2_readOrder_0 rfl ?_
  refine tt_aload_n dX2_readOrder_1 rfl ?_
  refine tt_getR dX2_readOrder_2 fX2_9 rfl hR.2.1 hR.2.2.1 ?_
  refine tt_aload_n dX2_readOrder_5 rfl ?_
  refine tt_rI dX2_readOrder_6 fX2_23 rfl hR ?_
  refine tt_eq (h1) ?_
  refine tt_fVi (c_X1_signAt (zr_Pd hR) _ (by omega)) dX2_readOrder_9 vX2_39 rfl rfl (zr_Pd hR).1.1 (by decide) rfl (by decide) ⟨rfl, rfl⟩ (Nat.zero_le _) (Nat.zero_le _) (Nat.le_of_ble_eq_true rfl) ?_
  refine tt_rp dX2_readOrder_12 fX2_43 rfl rfl hR ?_
  refine tt_aload_n dX2_readOrder_15 rfl ?_
  refine tt_rI dX2_readOrder_16 fX2_43 rfl hR ?_
  refine tt_eq (show zat2 q m k = nI 112 from (if_pos hkn).trans hsg) ?_
  refine tt_lookup (off := 141) (tgt := 160) dX2_readOrder_19 (by decide) (by decide) (by decide) ?_
  refine tt_aload_n dX2_readOrder_160 rfl ?_
  refine tt_dup dX2_readOrder_161 rfl ?_
  refine tt_rI dX2_readOrder_162 fX2_23 rfl hR ?_
  refine tt_eq (show _ = nI k from h1) ?_
  refine tt_iconst (nI 1) dX2_readOrder_165 rfl ?_
  refine tt_iaddN dX2_readOrder_166 ?_
  refine tt_rp dX2_readOrder_167 fX2_23 rfl rfl hR ?_
  refine tt_aload_n dX2_readOrder_170 rfl ?_
  refine tt_aload_n dX2_readOrder_171 rfl ?_
  refine tt_iconst (nI 0) dX2_readOrder_172 rfl ?_
  refine tt_bipush (nI 9) dX2_readOrder_173 rfl ?_
  refine tt_fVi (c_X2_readDigit hR _ (k + 1) (false) (by omega) (by rfl) (by first | rfl | exact h8) 0 9 (by omega) (by omega)) dX2_readOrder_175 vX2_46 rfl rfl hR.2.1 (by decide) rfl (by decide) ⟨rfl, rfl⟩ (Nat.zero_le _) (Nat.zero_le _) (Nat.le_of_ble_eq_true rfl) ?_
  refine tt_rp dX2_readOrder_178 fX2_65 rfl rfl hR ?_
  refine tt_aload_n dX2_readOrder_181 rfl ?_
  refine tt_bipush (nI 58) dX2_readOrder_182 rfl ?_
  refine tt_fVv (c_X2_readSign hR _ ((tk q m (nI 48) (nI 57) (k + 1) (false)).2.1) ((tk q m (nI 48) (nI 57) (k + 1) (false)).2.2) (tk_le ho.1 (by omega)) (by rfl) (by rfl) (nI 58) (by decide)) dX2_readOrder_184 vX2_32 rfl rfl hR.2.1 (by decide) rfl (by decide) ⟨rfl, rfl⟩ (Nat.zero_le _) (Nat.zero_le _) (Nat.le_of_ble_eq_true rfl) ?_
  refine tt_aload_n dX2_readOrder_187 rfl ?_
  refine tt_aload_n dX2_readOrder_188 rfl ?_
  refine tt_iconst (nI 1) dX2_readOrder_189 rfl ?_
  refine tt_bipush (nI 99) dX2_readOrder_190 rfl ?_
  refine tt_fVi (c_X2_readNumber hR _ ((tk q m (nI 58) (nI 58) (tk q m (nI 48) (nI 57) (k + 1) (false)).2.1 (tk q m (nI 48) (nI 57) (k + 1) (false)).2.2).2.1) ((tk q m (nI 58) (nI 58) (tk q m (nI 48) (nI 57) (k + 1) (false)).2.1 (tk q m (nI 48) (nI 57) (k + 1) (false)).2.2).2.2) (tk_le ho.1 (tk_le ho.1 (by omega))) (by rfl) (by first | rfl | exact h8) 1 99 (by omega) (by omega)) dX2_readOrder_192 vX2_59 rfl rfl hR.2.1 (by decide) rfl (by decide) ⟨rfl, rfl⟩ (Nat.zero_le _) (Nat.zero_le _) (Nat.le_of_ble_eq_true rfl) ?_
  refine tt_rp dX2_readOrder_195 fX2_62 rfl rfl hR ?_
  refine tt_goto (tgt := 230) dX2_readOrder_198 (by decide) ?_
  exact tt_return dX2_readOrder_230 rfl (Nat.zero_le _) (Nat.zero_le _) ⟨rfl, _, rfl, rfl, rfl, fun hf => by
    have f4 := (nu_gt hf).1
    have f1 := (tk_gt f4).1
    exact ⟨(show zat2 q m k = _ from (if_pos hkn).trans hsg), fun z => absurd z (show ¬ nI 112 = nI 43 by decide), fun _ _ => zdv f1, fun _ => znv hf⟩⟩
set_option maxRecDepth 100000 in
set_option maxHeartbeats 4000000 in
theorem c_X2_readOrder_46 {h : zhp} {r : Nat} {q : Nat → Int32} {m : Nat} (hR : zRd h r q m) (R : Nat → Int32) (k : Nat) (hk : k ≤ 60) (h1 : R 1 = nI k) (h8 : R 8 = nI 0) (hkn : k < m) (hsg : q k = nI 46) : MM iX2_readOrder [.ref r] (zr h r R) (fun r0 h1 => r0 = none ∧ ∃ R1, h1 = zr h r R1 ∧ zoR R1 (nI 46, rd46 q m k)) := by
  have ho := hR.2.2.2.2.2.1
  have hm60 := ho.1
  refine MM_of (by decide +kernel) (Nat.le_of_ble_eq_true rfl) ?_
  refine tt_aload_n dX2_readOrder_0 rfl ?_
  refine tt_aload_n dX2_readOrder_1 rfl ?_
  refine tt_getR dX2_readOrder_2 fX2_9 rfl hR.2.1 hR.2.2.1 ?_
  refine tt_aload_n dX2_readOrder_5 rfl ?_
  refine tt_rI dX2_readOrder_6 fX2_23 rfl hR ?_
  refine tt_eq (h1) ?_
  refine tt_fVi (c_X1_signAt (zr_Pd hR) _ (by omega)) dX2_readOrder_9 vX2_39 rfl rfl (zr_Pd hR).1.1 (by decide) rfl (by decide) ⟨rfl, rfl⟩ (Nat.zero_le _) (Nat.zero_le _) (Nat.le_of_ble_eq_true rfl) ?_
  refine tt_rp dX2_readOrder_12 fX2_43 rfl rfl hR ?_
  refine tt_aload_n dX2_readOrder_15 rfl ?_
  refine tt_rI dX2_readOrder_16 fX2_43 rfl hR ?_
  refine tt_eq (show zat2 q m k = nI 46 from (if_pos hkn).trans hsg) ?_
  refine tt_lookup (off := 182) (tgt := 201) dX2_readOrder_19 (by decide) (by decide) (by decide) ?_
  refine tt_aload_n dX2_readOrder_201 rfl ?_
  refine tt_dup dX2_readOrder_202 rfl ?_
  refine tt_rI dX2_readOrder_203 fX2_23 rfl hR ?_
  refine tt_eq (show _ = nI k from h1) ?_
  refine tt_iconst (nI 1) dX2_readOrder_206 rfl ?_
  refine tt_iaddN dX2_readOrder_207 ?_
  refine tt_rp dX2_readOrder_208 fX2_23 rfl rfl hR ?_
  refine tt_aload_n dX2_readOrder_211 rfl ?_
  refine tt_aload_n dX2_readOrder_212 rfl ?_
  refine tt_iconst (nI 1) dX2_readOrder_213 rfl ?_
  refine tt_bipush (nI 99) dX2_readOrder_214 rfl ?_
  refine tt_fVi (c_X2_readNumber hR _ (k + 1) (false) (by omega) (by rfl) (by first | rfl | exact h8) 1 99 (by omega) (by omega)) dX2_readOrder_216 vX2_59 rfl rfl hR.2.1 (by decide) rfl (by decide) ⟨rfl, rfl⟩ (Nat.zero_le _) (Nat.zero_le _) (Nat.le_of_ble_eq_true rfl) ?_
  refine tt_rp dX2_readOrder_219 fX2_62 rfl rfl hR ?_
  refine tt_goto (tgt := 230) dX2_readOrder_222 (by decide) ?_
  exact tt_return dX2_readOrder_230 rfl (Nat.zero_le _) (Nat.zero_le _) ⟨rfl, _, rfl, rfl, rfl, fun hf => by
    exact ⟨(show zat2 q m k = _ from (if_pos hkn).trans hsg), fun z => absurd z (show ¬ nI 46 = nI 43 by decide), fun _ z => absurd rfl z, fun _ => znv hf⟩⟩
