/-! the best day for a swap; the law's isSwapSo -/
/-- units beside with a swap behind b of d days -/
def bw (l g H b d : Nat) : Nat := (l + g * b - H) + (g * (d - b) - H)
def kl (s : Nat → Int32) (j b d : Nat) : Nat := bw (fld s j 3) (fld s j 4) (20 + 20 * fld s j 1) b d
theorem kBe_l {s : Nat → Int32} {n B0 B j l d : Nat} (hI : zIv s n B0) (hJ : zJ s n B) (hB : B ≤ 2 ^ 28) (hj : j < n) (hl : l ≤ 100) (hd : d ≤ 60) : kBe s j (nI d) (nI l) = nI (l + fld s j 4 * d - (20 + 20 * fld s j 1)) := by
  obtain ⟨⟨k0, k1, k2, k3, k4, k5, k7, k8, k9⟩, h⟩ := skN hI hJ hB hj
  have m : fld s j 4 * d ≤ 30 * 60 := Nat.mul_le_mul k4 hd
  unfold kBe kHo
  rw [h 4 (by omega) (by omega), h 1 (by omega) (by omega), pk_mul, pk_mul, nI_add, nI_add, mx0_N (by omega) (by omega)]
theorem kBs_N {s : Nat → Int32} {n B0 B j b d : Nat} (hI : zIv s n B0) (hJ : zJ s n B) (hB : B ≤ 2 ^ 28) (hj : j < n) (hd : d ≤ 60) (hb : b ≤ d) : kBs s j (nI b) (nI d) = nI (kl s j b d) := by
  obtain ⟨⟨k0, k1, k2, k3, k4, k5, k7, k8, k9⟩, h⟩ := skN hI hJ hB hj
  unfold kBs kl bw
  rw [pk_sub hb, h 3 (by omega) (by omega), kBe_l hI hJ hB hj (by omega) (by omega), kBe_l hI hJ hB hj (by omega) (by omega), nI_add, Nat.zero_add]
theorem kl_le {s : Nat → Int32} {n B0 B j b d : Nat} (hI : zIv s n B0) (hJ : zJ s n B) (hB : B ≤ 2 ^ 28) (hj : j < n) (hd : d ≤ 60) (hb : b ≤ d) : kl s j b d ≤ 4000 := by
  obtain ⟨⟨k0, k1, k2, k3, k4, k5, k7, k8, k9⟩, h⟩ := skN hI hJ hB hj
  have m : fld s j 4 * b ≤ 30 * 60 := Nat.mul_le_mul k4 (by omega)
  have m2 : fld s j 4 * (d - b) ≤ 30 * 60 := Nat.mul_le_mul k4 (by omega)
  unfold kl bw
  omega
theorem kBd_fold {s : Nat → Int32} {n B0 B j d : Nat} (hI : zIv s n B0) (hJ : zJ s n B) (hB : B ≤ 2 ^ 28) (hj : j < n) (hd : d ≤ 60) : ∀ (r k x : Nat), x ≤ k → k + r ≤ d → (∀ i, i ≤ k → kl s j x d ≤ kl s j i d) → (∀ i, x < i → i ≤ k → kl s j x d < kl s j i d) →
    zlp (fun k x => if kBs s j (nI x) (nI d) < kBs s j (nI (k + 1)) (nI d) then x else k + 1) r k x ≤ k + r ∧ (∀ i, i ≤ k + r → kl s j (zlp (fun k x => if kBs s j (nI x) (nI d) < kBs s j (nI (k + 1)) (nI d) then x else k + 1) r k x) d ≤ kl s j i d) ∧ ∀ i, zlp (fun k x => if kBs s j (nI x) (nI d) < kBs s j (nI (k + 1)) (nI d) then x else k + 1) r k x < i → i ≤ k + r → kl s j (zlp (fun k x => if kBs s j (nI x) (nI d) < kBs s j (nI (k + 1)) (nI d) then x else k + 1) r k x) d < kl s j i d
  | 0, k, x, hx, hk, h1, h2 => ⟨hx, h1, h2⟩
  | r + 1, k, x, hx, hk, h1, h2 => by
    have l1 := kl_le (b := x) hI hJ hB hj hd (by omega)
    have l2 := kl_le (b := k + 1) hI hJ hB hj hd (by omega)
    have e : (if kBs s j (nI x) (nI d) < kBs s j (nI (k + 1)) (nI d) then x else k + 1) = if kl s j x d < kl s j (k + 1) d then x else k + 1 := by
      rw [kBs_N hI hJ hB hj hd (show x ≤ d by omega), kBs_N hI hJ hB hj hd (show k + 1 ≤ d by omega)]
      by_cases q : kl s j x d < kl s j (k + 1) d
      · rw [if_pos q, if_pos ((nI_ltI (by omega) (by omega)).mpr q)]
      · rw [if_neg q, if_neg (fun z => q ((nI_ltI (by omega) (by omega)).mp z))]
    show zlp _ r (k + 1) (if kBs s j (nI x) (nI d) < kBs s j (nI (k + 1)) (nI d) then x else k + 1) ≤ _ ∧ (∀ i, i ≤ _ → kl s j (zlp _ r (k + 1) (if kBs s j (nI x) (nI d) < kBs s j (nI (k + 1)) (nI d) then x else k + 1)) d ≤ kl s j i d) ∧ ∀ i, zlp _ r (k + 1) (if kBs s j (nI x) (nI d) < kBs s j (nI (k + 1)) (nI d) then x else k + 1) < i → i ≤ _ → kl s j (zlp _ r (k + 1) (if kBs s j (nI x) (nI d) < kBs s j (nI (k + 1)) (nI d) then x else k + 1)) d < kl s j i d
    rw [e, show k + (r + 1) = k + 1 + r by omega]
    by_cases q : kl s j x d < kl s j (k + 1) d
    · rw [if_pos q]
      refine kBd_fold hI hJ hB hj hd r (k + 1) x (by omega) (by omega) (fun i hi => ?_) (fun i hi1 hi2 => ?_)
      · rcases Nat.lt_or_ge k i with y | y
        · rw [show i = k + 1 by omega]; omega
        · exact h1 i y
      · rcases Nat.lt_or_ge k i with y | y
        · rw [show i = k + 1 by omega]; exact q
        · exact h2 i hi1 y
    · rw [if_neg q]
      refine kBd_fold hI hJ hB hj hd r (k + 1) (k + 1) (Nat.le_refl _) (by omega) (fun i hi => ?_) (fun i hi1 hi2 => absurd hi1 (by omega))
      rcases Nat.lt_or_ge k i with y | y
      · rw [show i = k + 1 by omega]; exact Nat.le_refl _
      · have := h1 i y
        omega
theorem kBd_min {s : Nat → Int32} {n B0 B j d : Nat} (hI : zIv s n B0) (hJ : zJ s n B) (hB : B ≤ 2 ^ 28) (hj : j < n) (hd : d ≤ 60) : kBd s j d ≤ d ∧ (∀ i, i ≤ d → kl s j (kBd s j d) d ≤ kl s j i d) ∧ ∀ i, kBd s j d < i → i ≤ d → kl s j (kBd s j d) d < kl s j i d := by
  have k := kBd_fold hI hJ hB hj hd d 0 0 (Nat.le_refl _) (by omega) (fun i hi => by rw [show i = 0 by omega]; exact Nat.le_refl _) (fun i h1 h2 => absurd h1 (by omega))
  rw [Nat.zero_add] at k
  exact k
theorem kl_end {s : Nat → Int32} {j d : Nat} : kl s j d d = fld s j 3 + fld s j 4 * d - (20 + 20 * fld s j 1) := by
  unfold kl bw
  rw [Nat.sub_self, Nat.mul_zero, Nat.zero_sub, Nat.add_zero]
theorem kl_0 {s : Nat → Int32} {j d : Nat} (h : fld s j 3 ≤ 20 + 20 * fld s j 1) : kl s j 0 d = fld s j 4 * d - (20 + 20 * fld s j 1) := by
  unfold kl bw
  rw [Nat.mul_zero, Nat.sub_zero]
  omega
theorem kl_up {s : Nat → Int32} {j b d : Nat} (hb : b ≤ d) : kl s j b d ≤ kl s j b (d + 1) := by
  unfold kl bw
  have m : fld s j 4 * (d - b) ≤ fld s j 4 * (d + 1 - b) := Nat.mul_le_mul_left _ (by omega)
  omega
theorem kl_up2 {s : Nat → Int32} {j d : Nat} : kl s j d d ≤ kl s j (d + 1) (d + 1) := by
  rw [kl_end, kl_end]
  have m : fld s j 4 * d ≤ fld s j 4 * (d + 1) := Nat.mul_le_mul_left _ (by omega)
  omega
theorem kl_g0 {s : Nat → Int32} {j b d : Nat} (h : fld s j 3 ≤ 20 + 20 * fld s j 1) (hg : fld s j 4 = 0) : kl s j b d = 0 := by
  unfold kl bw
  rw [hg, Nat.zero_mul, Nat.zero_mul]
  omega
/-- what isSwapSo asks -/
theorem swap_f {s : Nat → Int32} {n B0 B j d : Nat} (hI : zIv s n B0) (hJ : zJ s n B) (hB : B ≤ 2 ^ 28) (hj : j < n) (hd : d ≤ 40) : kBd s j d ≤ d ∧ kl s j (kBd s j d) d ≤ fld s j 3 + fld s j 4 * d - (20 + 20 * fld s j 1) ∧ kl s j (kBd s j d) d ≤ fld s j 4 * d - (20 + 20 * fld s j 1) ∧ kl s j (kBd s j d) d ≤ kl s j (kBd s j (d + 1)) (d + 1) ∧ (fld s j 4 = 0 → kBd s j d = d ∧ kl s j (kBd s j d) d = 0) := by
  obtain ⟨⟨k0, k1, k2, k3, k4, k5, k7, k8, k9⟩, h⟩ := skN hI hJ hB hj
  obtain ⟨a1, a2, a3⟩ := kBd_min hI hJ hB hj (show d ≤ 60 by omega)
  obtain ⟨b1, b2, b3⟩ := kBd_min hI hJ hB hj (show d + 1 ≤ 60 by omega)
  refine ⟨a1, by rw [← kl_end]; exact a2 d (Nat.le_refl _), by rw [← kl_0 k3]; exact a2 0 (Nat.zero_le _), ?_, fun hg => ⟨?_, kl_g0 k3 hg⟩⟩
  · rcases Nat.lt_or_ge (kBd s j (d + 1)) (d + 1) with y | y
    · exact Nat.le_trans (a2 _ (by omega)) (kl_up (by omega))
    · rw [show kBd s j (d + 1) = d + 1 by omega]
      exact Nat.le_trans (a2 d (Nat.le_refl _)) kl_up2
  · rcases Nat.lt_or_ge (kBd s j d) d with y | y
    · have := a3 d y (Nat.le_refl _)
      rw [kl_g0 k3 hg, kl_g0 k3 hg] at this
      omega
    · omega
theorem r_bs0 {h : zhp} {S : Nat → Nat → Int32} {P PI : Nat → Nat → Nat} {o c : Nat} (hC : CJ h S P PI o c) {n B0 B : Nat} (hI : zIv (S 0) n B0) (hJ : zJ (S 0) n B) (hB : B ≤ 2 ^ 28) {j : Nat} (hj : j < n) {d : Nat} (h1 : 1 ≤ d) (hd : d ≤ 60) : MM iX5_bestSwap [.ref 4, .int (nI j), .int (nI d), .int (nI 0)] h (zfi (nI (kBd (S 0) j d)) h) := by
  have k := c_X5_bestSwap_y hC.1 hI.1 j hj (nI d) (nI 0)
  unfold kBw at k
  rw [if_pos ⟨⟨(nI_leI (by omega) (by omega)).mpr h1, (nI_leI (by omega) (by omega)).mpr hd⟩, by decide, by decide⟩, if_pos (show nI 0 = 0 by decide), nI_clamp (by omega)] at k
  exact k
theorem r_bs1 {h : zhp} {S : Nat → Nat → Int32} {P PI : Nat → Nat → Nat} {o c : Nat} (hC : CJ h S P PI o c) {n B0 B : Nat} (hI : zIv (S 0) n B0) (hJ : zJ (S 0) n B) (hB : B ≤ 2 ^ 28) {j : Nat} (hj : j < n) {d : Nat} (h1 : 1 ≤ d) (hd : d ≤ 60) : MM iX5_bestSwap [.ref 4, .int (nI j), .int (nI d), .int (nI 1)] h (zfi (nI (kl (S 0) j (kBd (S 0) j d) d)) h) := by
  have k := c_X5_bestSwap_y hC.1 hI.1 j hj (nI d) (nI 1)
  unfold kBw at k
  rw [if_pos ⟨⟨(nI_leI (by omega) (by omega)).mpr h1, (nI_leI (by omega) (by omega)).mpr hd⟩, by decide, by decide⟩, if_neg (show ¬ nI 1 = 0 by decide), nI_clamp (by omega), kBs_N hI hJ hB hj hd (kBd_min hI hJ hB hj hd).1] at k
  exact k
set_option maxRecDepth 100000 in
set_option maxHeartbeats 4000000 in
theorem c_L_isSwapSo {h : zhp} {S : Nat → Nat → Int32} {P PI : Nat → Nat → Nat} {o c : Nat} (hC : CJ h S P PI o c) {n B0 B : Nat} (hI : zIv (S 0) n B0) (hJ : zJ (S 0) n B) (hB : B ≤ 2 ^ 28) {j : Nat} (hj : j < n) {d : Nat} (h1 : 1 ≤ d) (hd : d ≤ 40) : MM iL_isSwapSo [.ref 4, .int (nI j), .int (nI d)] h (zfi (nI 1) h) := by
  have hn := hI.1.1
  have hT4 : zT h 4 = 5 := hC.1.1.2.2.1.1
  obtain ⟨⟨k0, k1, k2, k3, k4, k5, k7, k8, k9⟩, -⟩ := skN hI hJ hB hj
  obtain ⟨f1, f2, f3, f4, f5⟩ := swap_f hI hJ hB hj hd
  have m1 : fld (S 0) j 4 * d ≤ 30 * 60 := Nat.mul_le_mul k4 (by omega)
  have m2 : fld (S 0) j 4 * kBd (S 0) j d ≤ 30 * 60 := Nat.mul_le_mul k4 (by omega)
  have m3 : fld (S 0) j 4 * (d - kBd (S 0) j d) ≤ 30 * 60 := Nat.mul_le_mul k4 (by omega)
  have m4 := kl_le hI hJ hB hj (show d ≤ 60 by omega) f1
  have m5 := kl_le hI hJ hB hj (show d + 1 ≤ 60 by omega) (kBd_min hI hJ hB hj (show d + 1 ≤ 60 by omega)).1
  have g0 : ¬ 0 < nI (fld (S 0) j 4) → fld (S 0) j 4 = 0 := fun z => by
    rcases Nat.eq_zero_or_pos (fld (S 0) j 4) with y | y
    · exact y
    · exact absurd ((nI_ltI (a := 0) (by omega) (by omega)).mpr y) z
  refine MM_of (by decide +kernel) (Nat.le_of_ble_eq_true rfl) ?_
  refine tt_aload_n dL_isSwapSo_0 rfl ?_
  refine tt_iload_n dL_isSwapSo_1 rfl ?_
  refine tt_iload_n dL_isSwapSo_2 rfl ?_
  refine tt_iconst (nI 0) dL_isSwapSo_3 rfl ?_
  refine tt_fVi (r_bs0 hC hI hJ hB hj h1 (by omega)) dL_isSwapSo_4 vL_73 rfl rfl hT4 (by decide) rfl (by decide) ⟨rfl, rfl⟩ (Nat.zero_le _) (Nat.zero_le _) (Nat.le_of_ble_eq_true rfl) ?_
  refine tt_istore_n (L1 := [_, _, _, _, _, _, _, _, _, _, _, _]) dL_isSwapSo_7 rfl (Nat.le_of_ble_eq_true rfl) rfl ?_
  refine tt_aload_n dL_isSwapSo_8 rfl ?_
  refine tt_iload_n dL_isSwapSo_9 rfl ?_
  refine tt_iload_n dL_isSwapSo_10 rfl ?_
  refine tt_iconst (nI 1) dL_isSwapSo_11 rfl ?_
  refine tt_fVi (r_bs1 hC hI hJ hB hj h1 (by omega)) dL_isSwapSo_12 vL_73 rfl rfl hT4 (by decide) rfl (by decide) ⟨rfl, rfl⟩ (Nat.zero_le _) (Nat.zero_le _) (Nat.le_of_ble_eq_true rfl) ?_
  refine tt_istore (L1 := [_, _, _, _, _, _, _, _, _, _, _, _]) dL_isSwapSo_15 rfl (Nat.le_of_ble_eq_true rfl) rfl ?_
  refine tt_aload_n dL_isSwapSo_17 rfl ?_
  refine tt_iload_n dL_isSwapSo_18 rfl ?_
  refine tt_iconst (nI 3) dL_isSwapSo_19 rfl ?_
  refine tt_fVi (r_sk3 hC hI hJ hB hj) dL_isSwapSo_20 vL_52 rfl rfl hT4 (by decide) rfl (by decide) ⟨rfl, rfl⟩ (Nat.zero_le _) (Nat.zero_le _) (Nat.le_of_ble_eq_true rfl) ?_
  refine tt_istore (L1 := [_, _, _, _, _, _, _, _, _, _, _, _]) dL_isSwapSo_23 rfl (Nat.le_of_ble_eq_true rfl) rfl ?_
  refine tt_aload_n dL_isSwapSo_25 rfl ?_
  refine tt_iload_n dL_isSwapSo_26 rfl ?_
  refine tt_iconst (nI 4) dL_isSwapSo_27 rfl ?_
  refine tt_fVi (r_sk4 hC hI hJ hB hj) dL_isSwapSo_28 vL_52 rfl rfl hT4 (by decide) rfl (by decide) ⟨rfl, rfl⟩ (Nat.zero_le _) (Nat.zero_le _) (Nat.le_of_ble_eq_true rfl) ?_
  refine tt_istore (L1 := [_, _, _, _, _, _, _, _, _, _, _, _]) dL_isSwapSo_31 rfl (Nat.le_of_ble_eq_true rfl) rfl ?_
  refine tt_aload_n dL_isSwapSo_33 rfl ?_
  refine tt_iload_n dL_isSwapSo_34 rfl ?_
  refine tt_iconst (nI 5) dL_isSwapSo_35 rfl ?_
  refine tt_fVi (r_sk5 hC hI hJ hB hj) dL_isSwapSo_36 vL_52 rfl rfl hT4 (by decide) rfl (by decide) ⟨rfl, rfl⟩ (Nat.zero_le _) (Nat.zero_le _) (Nat.le_of_ble_eq_true rfl) ?_
  refine tt_istore (L1 := [_, _, _, _, _, _, _, _, _, _, _, _]) dL_isSwapSo_39 rfl (Nat.le_of_ble_eq_true rfl) rfl ?_
  refine tt_iload dL_isSwapSo_41 rfl ?_
  refine tt_iload dL_isSwapSo_43 rfl ?_
  refine tt_iload_n dL_isSwapSo_45 rfl ?_
  refine tt_imulN dL_isSwapSo_46 ?_
  refine tt_iaddN dL_isSwapSo_47 ?_
  refine tt_iload dL_isSwapSo_48 rfl ?_
  refine tt_c2 (tgt := 67) (x := nI (fld (S 0) j 3 + fld (S 0) j 4 * d - (20 + 20 * fld (S 0) j 1))) ?_ (fun key_67 => ?_)
  · refine tt_istore (L1 := [_, _, _, _, _, _, _, _, _, _, _, _]) dL_isSwapSo_67 rfl (Nat.le_of_ble_eq_true rfl) rfl ?_
    refine tt_iload dL_isSwapSo_69 rfl ?_
    refine tt_iload dL_isSwapSo_71 rfl ?_
    refine tt_iload_n dL_isSwapSo_73 rfl ?_
    refine tt_imulN dL_isSwapSo_74 ?_
    refine tt_iaddN dL_isSwapSo_75 ?_
    refine tt_iload dL_isSwapSo_76 rfl ?_
    refine tt_c2 (tgt := 95) (x := nI (fld (S 0) j 3 + fld (S 0) j 4 * kBd (S 0) j d - (20 + 20 * fld (S 0) j 1))) ?_ (fun key_95 => ?_)
    · refine tt_istore (L1 := [_, _, _, _, _, _, _, _, _, _, _, _]) dL_isSwapSo_95 rfl (Nat.le_of_ble_eq_true rfl) rfl ?_
      refine tt_iload dL_isSwapSo_97 rfl ?_
      refine tt_iload_n dL_isSwapSo_99 rfl ?_
      refine tt_iload_n dL_isSwapSo_100 rfl ?_
      refine tt_isubN dL_isSwapSo_101 (by omega) ?_
      refine tt_imulN dL_isSwapSo_102 ?_
      refine tt_iload dL_isSwapSo_103 rfl ?_
      refine tt_c2 (tgt := 121) (x := nI (fld (S 0) j 4 * (d - kBd (S 0) j d) - (20 + 20 * fld (S 0) j 1))) ?_ (fun key_121 => ?_)
      · refine tt_istore (L1 := [_, _, _, _, _, _, _, _, _, _, _, _]) dL_isSwapSo_121 rfl (Nat.le_of_ble_eq_true rfl) rfl ?_
        refine tt_iload dL_isSwapSo_123 rfl ?_
        refine tt_iload_n dL_isSwapSo_125 rfl ?_
        refine tt_imulN dL_isSwapSo_126 ?_
        refine tt_iload dL_isSwapSo_127 rfl ?_
        refine tt_c2 (tgt := 143) (x := nI (fld (S 0) j 4 * d - (20 + 20 * fld (S 0) j 1))) ?_ (fun key_143 => ?_)
        · refine tt_istore (L1 := [_, _, _, _, _, _, _, _, _, _, _, _]) dL_isSwapSo_143 rfl (Nat.le_of_ble_eq_true rfl) rfl ?_
          refine tt_iload_n dL_isSwapSo_145 rfl ?_
          refine tt_if_lt (tgt := 211) dL_isSwapSo_146 (by decide) (fun q => absurd q (nI_nn (by omega))) (fun _ => ?_)
          refine tt_iload_n dL_isSwapSo_149 rfl ?_
          refine tt_iload_n dL_isSwapSo_150 rfl ?_
          refine tt_icmp_gtN (tgt := 211) dL_isSwapSo_151 (by decide) (by omega) (by omega) (fun q => absurd q (by omega)) (fun _ => ?_)
          refine tt_iload dL_isSwapSo_154 rfl ?_
          refine tt_iload dL_isSwapSo_156 rfl ?_
          refine tt_iload dL_isSwapSo_158 rfl ?_
          refine tt_iaddN dL_isSwapSo_160 ?_
          refine tt_icmp_ne (tgt := 211) dL_isSwapSo_161 (by decide) (fun q => absurd rfl q) (fun _ => ?_)
          refine tt_iload dL_isSwapSo_164 rfl ?_
          refine tt_iload dL_isSwapSo_166 rfl ?_
          refine tt_icmp_gtN (tgt := 211) dL_isSwapSo_168 (by decide) (by omega) (by omega) (fun q => absurd q (by omega)) (fun _ => ?_)
          refine tt_iload dL_isSwapSo_171 rfl ?_
          refine tt_iload dL_isSwapSo_173 rfl ?_
          refine tt_icmp_gtN (tgt := 211) dL_isSwapSo_175 (by decide) (by omega) (by omega) (fun q => absurd q (by omega)) (fun _ => ?_)
          refine tt_iload dL_isSwapSo_178 rfl ?_
          refine tt_aload_n dL_isSwapSo_180 rfl ?_
          refine tt_iload_n dL_isSwapSo_181 rfl ?_
          refine tt_iload_n dL_isSwapSo_182 rfl ?_
          refine tt_iconst (nI 1) dL_isSwapSo_183 rfl ?_
          refine tt_iaddN dL_isSwapSo_184 ?_
          refine tt_iconst (nI 1) dL_isSwapSo_185 rfl ?_
          refine tt_fVi (r_bs1 hC hI hJ hB hj (by omega) (by omega)) dL_isSwapSo_186 vL_73 rfl rfl hT4 (by decide) rfl (by decide) ⟨rfl, rfl⟩ (Nat.zero_le _) (Nat.zero_le _) (Nat.le_of_ble_eq_true rfl) ?_
          refine tt_icmp_gtN (tgt := 211) dL_isSwapSo_189 (by decide) (by omega) (by omega) (fun q => absurd q (by omega)) (fun _ => ?_)
          refine tt_iload dL_isSwapSo_192 rfl ?_
          refine tt_if_gt (tgt := 207) dL_isSwapSo_194 (by decide) (fun q194 => ?_) (fun q194 => ?_)
          · refine tt_iconst (nI 1) dL_isSwapSo_207 rfl ?_
            refine tt_goto (tgt := 212) dL_isSwapSo_208 (by decide) ?_
            exact tt_ireturn dL_isSwapSo_212 rfl rfl (Nat.zero_le _) (Nat.zero_le _) ⟨rfl, rfl⟩
          · refine tt_iload_n dL_isSwapSo_197 rfl ?_
            refine tt_iload_n dL_isSwapSo_198 rfl ?_
            refine tt_icmp_ne (tgt := 211) dL_isSwapSo_199 (by decide) (fun q => absurd (nIE (f5 (g0 q194)).1) q) (fun _ => ?_)
            refine tt_iload dL_isSwapSo_202 rfl ?_
            refine tt_if_ne (tgt := 211) dL_isSwapSo_204 (by decide) (fun q => absurd (by rw [(f5 (g0 q194)).2]; rfl) q) (fun _ => ?_)
            refine tt_iconst (nI 1) dL_isSwapSo_207 rfl ?_
            refine tt_goto (tgt := 212) dL_isSwapSo_208 (by decide) ?_
            exact tt_ireturn dL_isSwapSo_212 rfl rfl (Nat.zero_le _) (Nat.zero_le _) ⟨rfl, rfl⟩
        · refine tt_icmp_leN (tgt := 142) dL_isSwapSo_129 (by decide) (by omega) (by omega) (fun q129 => ?_) (fun q129 => ?_)
          · refine tt_iconst (nI 0) dL_isSwapSo_142 rfl ?_
            exact key_143 _ (nIE (by omega))
          · refine tt_iload dL_isSwapSo_132 rfl ?_
            refine tt_iload_n dL_isSwapSo_134 rfl ?_
            refine tt_imulN dL_isSwapSo_135 ?_
            refine tt_iload dL_isSwapSo_136 rfl ?_
            refine tt_isubN dL_isSwapSo_138 (by omega) ?_
            refine tt_goto (tgt := 143) dL_isSwapSo_139 (by decide) ?_
            exact key_143 _ (nIE (by omega))
      · refine tt_icmp_leN (tgt := 120) dL_isSwapSo_105 (by decide) (by omega) (by omega) (fun q105 => ?_) (fun q105 => ?_)
        · refine tt_iconst (nI 0) dL_isSwapSo_120 rfl ?_
          exact key_121 _ (nIE (by omega))
        · refine tt_iload dL_isSwapSo_108 rfl ?_
          refine tt_iload_n dL_isSwapSo_110 rfl ?_
          refine tt_iload_n dL_isSwapSo_111 rfl ?_
          refine tt_isubN dL_isSwapSo_112 (by omega) ?_
          refine tt_imulN dL_isSwapSo_113 ?_
          refine tt_iload dL_isSwapSo_114 rfl ?_
          refine tt_isubN dL_isSwapSo_116 (by omega) ?_
          refine tt_goto (tgt := 121) dL_isSwapSo_117 (by decide) ?_
          exact key_121 _ (nIE (by omega))
    · refine tt_icmp_leN (tgt := 94) dL_isSwapSo_78 (by decide) (by omega) (by omega) (fun q78 => ?_) (fun q78 => ?_)
      · refine tt_iconst (nI 0) dL_isSwapSo_94 rfl ?_
        exact key_95 _ (nIE (by omega))
      · refine tt_iload dL_isSwapSo_81 rfl ?_
        refine tt_iload dL_isSwapSo_83 rfl ?_
        refine tt_iload_n dL_isSwapSo_85 rfl ?_
        refine tt_imulN dL_isSwapSo_86 ?_
        refine tt_iaddN dL_isSwapSo_87 ?_
        refine tt_iload dL_isSwapSo_88 rfl ?_
        refine tt_isubN dL_isSwapSo_90 (by omega) ?_
        refine tt_goto (tgt := 95) dL_isSwapSo_91 (by decide) ?_
        exact key_95 _ (nIE (by omega))
  · refine tt_icmp_leN (tgt := 66) dL_isSwapSo_50 (by decide) (by omega) (by omega) (fun q50 => ?_) (fun q50 => ?_)
    · refine tt_iconst (nI 0) dL_isSwapSo_66 rfl ?_
      exact key_67 _ (nIE (by omega))
    · refine tt_iload dL_isSwapSo_53 rfl ?_
      refine tt_iload dL_isSwapSo_55 rfl ?_
      refine tt_iload_n dL_isSwapSo_57 rfl ?_
      refine tt_imulN dL_isSwapSo_58 ?_
      refine tt_iaddN dL_isSwapSo_59 ?_
      refine tt_iload dL_isSwapSo_60 rfl ?_
      refine tt_isubN dL_isSwapSo_62 (by omega) ?_
      refine tt_goto (tgt := 67) dL_isSwapSo_63 (by decide) ?_
      exact key_67 _ (nIE (by omega))
