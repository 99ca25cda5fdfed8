/-! what is told of o, in few words; the law's act -/
theorem kNum_8 (s : Nat → Int32) (n : Nat) : kNum s n (nI 8) = s 8 := by
  unfold kNum
  rw [if_neg (by decide), if_pos rfl]
theorem kNum_9 (s : Nat → Int32) (n : Nat) : kNum s n (nI 9) = s 33 := by
  unfold kNum
  rw [if_neg (by decide), if_neg (by decide), if_pos rfl]
theorem kNum_10 (s : Nat → Int32) (n : Nat) : kNum s n (nI 10) = kTl s := by
  unfold kNum
  rw [if_neg (by decide), if_neg (by decide), if_neg (by decide), if_pos rfl]
theorem kNum_11 (s : Nat → Int32) (n : Nat) : kNum s n (nI 11) = sSum s 0 := by
  unfold kNum
  rw [if_neg (by decide), if_neg (by decide), if_neg (by decide), if_neg (by decide), if_pos rfl]
theorem kNum_12 (s : Nat → Int32) (n : Nat) : kNum s n (nI 12) = sSum s 1 := by
  unfold kNum
  rw [if_neg (by decide), if_neg (by decide), if_neg (by decide), if_neg (by decide), if_neg (by decide), if_pos rfl]
theorem kNum_13 (s : Nat → Int32) (n : Nat) : kNum s n (nI 13) = s 134 := by
  unfold kNum
  rw [if_neg (by decide), if_neg (by decide), if_neg (by decide), if_neg (by decide), if_neg (by decide), if_neg (by decide), if_pos rfl]
theorem kNum_14 (s : Nat → Int32) (n : Nat) : kNum s n (nI 14) = sSum s 2 := by
  unfold kNum
  rw [if_neg (by decide), if_neg (by decide), if_neg (by decide), if_neg (by decide), if_neg (by decide), if_neg (by decide), if_neg (by decide), if_pos rfl]
theorem kNum_15 (s : Nat → Int32) (n : Nat) : kNum s n (nI 15) = kLo s n := by
  unfold kNum
  rw [if_neg (by decide), if_neg (by decide), if_neg (by decide), if_neg (by decide), if_neg (by decide), if_neg (by decide), if_neg (by decide), if_neg (by decide), if_pos rfl]
theorem kNum_16 (s : Nat → Int32) (n : Nat) : kNum s n (nI 16) = nI (kCf s n) := by
  unfold kNum
  rw [if_neg (by decide), if_neg (by decide), if_neg (by decide), if_neg (by decide), if_neg (by decide), if_neg (by decide), if_neg (by decide), if_neg (by decide), if_neg (by decide), if_pos rfl]
theorem kNum_s (s : Nat → Int32) (n : Nat) {k : Nat} (hk : k < 8) : kNum s n (nI k) = s k := by
  unfold kNum
  rw [if_pos ⟨(nI_leI (by omega) (by omega)).mpr (by omega), (nI_leI (by omega) (by omega)).mpr (by omega)⟩, nI_clamp (by omega)]
theorem r_cnt {h : zhp} {S : Nat → Nat → Int32} {P PI : Nat → Nat → Nat} {o c : Nat} (hC : CJ h S P PI o c) {n : Nat} (hw : sWF (S 0) n) {w e : Int32} (h7 : ¬ w = nI 17) (h8 : ¬ w = nI 18) (he : kNum (S 0) n w = e) : MM iX5_count [.ref 4, .int w] h (zfi e h) := by
  have k := c_X5_count hC.1 hC.2.1 hw hC.2.2.1 w
  rw [if_neg h7, if_neg h8, he] at k
  exact k
theorem r_cnt18 {h : zhp} {S : Nat → Nat → Int32} {P PI : Nat → Nat → Nat} {o c : Nat} (hC : CJ h S P PI o c) {n : Nat} (hw : sWF (S 0) n) : MM iX5_count [.ref 4, .int (nI 18)] h (zfi (nI c) h) := by
  have k := c_X5_count hC.1 hC.2.1 hw hC.2.2.1 (nI 18)
  rw [if_neg (by decide), if_pos rfl] at k
  exact k
theorem r_cnt17 {h : zhp} {S : Nat → Nat → Int32} {P PI : Nat → Nat → Nat} {o c : Nat} (hC : CJ h S P PI o c) {n : Nat} (hw : sWF (S 0) n) : MM iX5_count [.ref 4, .int (nI 17)] h (zfi (nI 0) h) := by
  have k := c_X5_count hC.1 hC.2.1 hw hC.2.2.1 (nI 17)
  rw [if_pos rfl] at k
  exact k
theorem aG_0 (x : Int32) (m : Nat → Int32) (s : Nat → Int32) (n : Nat) : aG (nI 0) x m s n = kPuts s n (lo x (m 0)) (lo (x >>> (nI 3 &&& 31)) (m 1)) (lo (x >>> (nI 5 &&& 31)) (m 2)) (lo (x >>> (nI 7 &&& 31)) (m 3)) := by
  unfold aG
  rw [if_pos (by decide)]
theorem aG_1 (x : Int32) (m : Nat → Int32) (s : Nat → Int32) (n : Nat) : aG (nI 1) x m s n = kPuts s n (lo x (m 0)) (lo (x >>> (nI 3 &&& 31)) (m 1)) (lo (x >>> (nI 5 &&& 31)) (m 2)) (lo (x >>> (nI 7 &&& 31)) (m 3)) := by
  unfold aG
  rw [if_pos (by decide)]
theorem aG_2 (x : Int32) (m : Nat → Int32) (s : Nat → Int32) (n : Nat) : aG (nI 2) x m s n = kPuts s n (lo x (m 0)) (lo (x >>> (nI 3 &&& 31)) (m 1)) (lo (x >>> (nI 5 &&& 31)) (m 2)) (lo (x >>> (nI 7 &&& 31)) (m 3)) := by
  unfold aG
  rw [if_pos (by decide)]
theorem aG_3 (x : Int32) (m : Nat → Int32) (s : Nat → Int32) (n : Nat) : aG (nI 3) x m s n = kPuts s n (lo x (m 0)) (lo (x >>> (nI 3 &&& 31)) (m 1)) (lo (x >>> (nI 5 &&& 31)) (m 2)) (lo (x >>> (nI 7 &&& 31)) (m 3)) := by
  unfold aG
  rw [if_pos (by decide)]
theorem aG_4 (x : Int32) (m : Nat → Int32) (s : Nat → Int32) (n : Nat) : aG (nI 4) x m s n = kSw s (lo x (nI (n + 1))) := by
  unfold aG
  rw [if_neg (by decide), if_pos rfl]
theorem aG_5 (x : Int32) (m : Nat → Int32) (s : Nat → Int32) (n : Nat) : aG (nI 5) x m s n = kTk s n (lo x (nI (n + 1))) := by
  unfold aG
  rw [if_neg (by decide), if_neg (by decide), if_pos rfl]
theorem aG_6 (x : Int32) (m : Nat → Int32) (s : Nat → Int32) (n : Nat) : aG (nI 6) x m s n = kPe s (lo x (nI (n + 1))) (lo (x >>> (nI 4 &&& 31)) (m 4)) := by
  unfold aG
  rw [if_neg (by decide), if_neg (by decide), if_neg (by decide), if_pos (by decide)]
theorem aG_7 (x : Int32) (m : Nat → Int32) (s : Nat → Int32) (n : Nat) : aG (nI 7) x m s n = kPe s (lo x (nI (n + 1))) (lo (x >>> (nI 4 &&& 31)) (m 4)) := by
  unfold aG
  rw [if_neg (by decide), if_neg (by decide), if_neg (by decide), if_pos (by decide)]
theorem aG_8 (x : Int32) (m : Nat → Int32) (s : Nat → Int32) (n : Nat) : aG (nI 8) x m s n = sOi s (lo x (nI (n + 1))) := by
  unfold aG
  rw [if_neg (by decide), if_neg (by decide), if_neg (by decide), if_neg (by decide), if_pos rfl]
theorem aG_9 (x : Int32) (m : Nat → Int32) (s : Nat → Int32) (n : Nat) : aG (nI 9) x m s n = sGro s (lo x (nI (n + 1))) (lo (x >>> (nI 4 &&& 31)) (m 5)) := by
  unfold aG
  rw [if_neg (by decide), if_neg (by decide), if_neg (by decide), if_neg (by decide), if_neg (by decide), if_pos rfl]
theorem aG_10 (x : Int32) (m : Nat → Int32) (s : Nat → Int32) (n : Nat) : aG (nI 10) x m s n = sPlaces s (lo x (nI 6)) (lo (x >>> (nI 3 &&& 31)) (m 6)) := by
  unfold aG
  rw [if_neg (by decide), if_neg (by decide), if_neg (by decide), if_neg (by decide), if_neg (by decide), if_neg (by decide), if_pos rfl]
theorem aG_11 (x : Int32) (m : Nat → Int32) (s : Nat → Int32) (n : Nat) : aG (nI 11) x m s n = sSet s (lo x (nI 9)) (lo (x >>> (nI 4 &&& 31)) (m 7)) := by
  unfold aG
  rw [if_neg (by decide), if_neg (by decide), if_neg (by decide), if_neg (by decide), if_neg (by decide), if_neg (by decide), if_neg (by decide), if_pos rfl]
theorem aG_d (x : Int32) (m : Nat → Int32) (s : Nat → Int32) (n : Nat) {j : Nat} (h1 : 12 ≤ j) (h2 : j < 16) : aG (nI j) x m s n = kPas s n (lo x (m 8)) := by
  unfold aG
  have q : ∀ i, i < 12 → ¬ nI j = nI i := fun i hi z => by
    have := (nI_eqI (by omega) (by omega)).mp z
    omega
  rw [if_neg (fun z => z.elim (q 0 (by omega)) (fun z => z.elim (q 1 (by omega)) (fun z => z.elim (q 2 (by omega)) (q 3 (by omega))))), if_neg (q 4 (by omega)), if_neg (q 5 (by omega)), if_neg (fun z => z.elim (q 6 (by omega)) (q 7 (by omega))), if_neg (q 8 (by omega)), if_neg (q 9 (by omega)), if_neg (q 10 (by omega)), if_neg (q 11 (by omega))]
set_option maxRecDepth 100000 in
set_option maxHeartbeats 4000000 in
theorem c_L_act {h : zhp} {S : Nat → Nat → Int32} {P PI : Nat → Nat → Nat} {o c : Nat} (hC : CJ h S P PI o c) {n : Nat} (hw : sWF (S 0) n) (v : Int32) : MM iL_act [.ref 4, .int v] h (zcQ h S P PI n o c (aF v (S 0) n).1 (aF v (S 0) n).2) := by
  have hT4 : zT h 4 = 5 := hC.1.1.2.2.1.1
  have hn := hw.1
  have hn1 : ¬ nI (n + 1) = 0 := fun z => by
    have := znz z (by omega)
    omega
  obtain ⟨j, hj16, hj⟩ := lo_N v (m := 16) (by omega) (by omega)
  refine MM_of (by decide +kernel) (Nat.le_of_ble_eq_true rfl) ?_
  refine tt_iload_n dL_act_0 rfl ?_
  refine tt_iconst (nI 4) dL_act_1 rfl ?_
  refine tt_ishr dL_act_2 ?_
  refine tt_istore_n dL_act_3 rfl (Nat.le_of_ble_eq_true rfl) rfl ?_
  refine tt_iload_n dL_act_4 rfl ?_
  refine tt_bipush (nI 21) dL_act_5 rfl ?_
  refine tt_ishr dL_act_7 ?_
  refine tt_bipush (nI 6) dL_act_8 rfl ?_
  refine tt_fSi (c_L_low _ _ (by decide) _) dL_act_10 sL_8 rfl rfl (by decide) ⟨rfl, rfl⟩ (Nat.zero_le _) (Nat.zero_le _) (Nat.le_of_ble_eq_true rfl) ?_
  refine tt_if_le (tgt := 20) dL_act_13 (by decide) (fun q13 => ?_) (fun q13 => ?_)
  · have hb : decide (nI 0 < lo (v >>> (nI 21 &&& 31)) (nI 6)) = false := decide_eq_false (Int32.not_lt.mpr q13)
    refine tt_iconst (nI 0) dL_act_20 rfl ?_
    refine tt_istore_n dL_act_21 rfl (Nat.le_of_ble_eq_true rfl) rfl ?_
    refine tt_iload_n dL_act_22 rfl ?_
    refine tt_aload_n dL_act_23 rfl ?_
    refine tt_bipush (nI 9) dL_act_24 rfl ?_
    refine tt_fVi (r_cnt hC hw (by decide) (by decide) ((kNum_9 _ _).trans hw.2.1)) dL_act_26 vL_14 rfl rfl hT4 (by decide) rfl (by decide) ⟨rfl, rfl⟩ (Nat.zero_le _) (Nat.zero_le _) (Nat.le_of_ble_eq_true rfl) ?_
    refine tt_iconst (nI 1) dL_act_29 rfl ?_
    refine tt_iaddN dL_act_30 ?_
    refine tt_fSi (c_L_low _ _ hn1 _) dL_act_31 sL_8 rfl rfl (by decide) ⟨rfl, rfl⟩ (Nat.zero_le _) (Nat.zero_le _) (Nat.le_of_ble_eq_true rfl) ?_
    refine tt_istore dL_act_34 rfl (Nat.le_of_ble_eq_true rfl) rfl ?_
    refine tt_iload_n dL_act_36 rfl ?_
    refine tt_bipush (nI 16) dL_act_37 rfl ?_
    refine tt_fSi (c_L_low _ _ (by decide) _) dL_act_39 sL_8 rfl rfl (by decide) ⟨rfl, rfl⟩ (Nat.zero_le _) (Nat.zero_le _) (Nat.le_of_ble_eq_true rfl) ?_
    refine tt_eq hj ?_
    rcases (show j = 0 ∨ j = 1 ∨ j = 2 ∨ j = 3 ∨ j = 4 ∨ j = 5 ∨ j = 6 ∨ j = 7 ∨ j = 8 ∨ j = 9 ∨ j = 10 ∨ j = 11 ∨ 12 ≤ j by omega) with rfl | rfl | rfl | rfl | rfl | rfl | rfl | rfl | rfl | rfl | rfl | rfl | hj12
    · refine tt_tableIn (off := 62) (tgt := 104) dL_act_42 (by decide) (by decide) rfl (by decide) ?_
      refine tt_aload_n dL_act_104 rfl ?_
      refine tt_iload_n dL_act_105 rfl ?_
      refine tt_iload_n dL_act_106 rfl ?_
      refine tt_if_eq (tgt := 115) dL_act_107 (by decide) (fun _ => ?_) (fun q => absurd rfl q)
      refine tt_bipush (nI 7) dL_act_115 rfl ?_
      refine tt_fSi (c_L_low _ _ (by decide) _) dL_act_117 sL_8 rfl rfl (by decide) ⟨rfl, rfl⟩ (Nat.zero_le _) (Nat.zero_le _) (Nat.le_of_ble_eq_true rfl) ?_
      refine tt_iload_n dL_act_120 rfl ?_
      refine tt_iconst (nI 3) dL_act_121 rfl ?_
      refine tt_ishr dL_act_122 ?_
      refine tt_iload_n dL_act_123 rfl ?_
      refine tt_if_eq (tgt := 131) dL_act_124 (by decide) (fun _ => ?_) (fun q => absurd rfl q)
      refine tt_iconst (nI 5) dL_act_131 rfl ?_
      refine tt_fSi (c_L_low _ _ (by decide) _) dL_act_132 sL_8 rfl rfl (by decide) ⟨rfl, rfl⟩ (Nat.zero_le _) (Nat.zero_le _) (Nat.le_of_ble_eq_true rfl) ?_
      refine tt_iload_n dL_act_135 rfl ?_
      refine tt_iconst (nI 5) dL_act_136 rfl ?_
      refine tt_ishr dL_act_137 ?_
      refine tt_iload_n dL_act_138 rfl ?_
      refine tt_if_eq (tgt := 147) dL_act_139 (by decide) (fun _ => ?_) (fun q => absurd rfl q)
      refine tt_bipush (nI 8) dL_act_147 rfl ?_
      refine tt_fSi (c_L_low _ _ (by decide) _) dL_act_149 sL_8 rfl rfl (by decide) ⟨rfl, rfl⟩ (Nat.zero_le _) (Nat.zero_le _) (Nat.le_of_ble_eq_true rfl) ?_
      refine tt_iload_n dL_act_152 rfl ?_
      refine tt_bipush (nI 7) dL_act_153 rfl ?_
      refine tt_ishr dL_act_155 ?_
      refine tt_iload_n dL_act_156 rfl ?_
      refine tt_if_eq (tgt := 165) dL_act_157 (by decide) (fun _ => ?_) (fun q => absurd rfl q)
      refine tt_bipush (nI 40) dL_act_165 rfl ?_
      refine tt_fSi (c_L_low _ _ (by decide) _) dL_act_167 sL_8 rfl rfl (by decide) ⟨rfl, rfl⟩ (Nat.zero_le _) (Nat.zero_le _) (Nat.le_of_ble_eq_true rfl) ?_
      refine tt_callV (c_X5_put hC.1 hC.2.1 hw _ _ _ _) dL_act_170 vL_20 rfl rfl hT4 (by decide) rfl (by decide) (Nat.le_of_ble_eq_true rfl) (Nat.le_of_ble_eq_true rfl) (Nat.le_of_ble_eq_true rfl) (fun r1 h1 q1 => ?_)
      obtain ⟨rfl, q2⟩ := q1
      exact tt_ireturn dL_act_173 rfl rfl (Nat.le_of_ble_eq_true rfl) (Nat.le_of_ble_eq_true rfl) (by rw [aF_eq hj hb, aG_0]; exact ⟨rfl, q2⟩)
    · refine tt_tableIn (off := 62) (tgt := 104) dL_act_42 (by decide) (by decide) rfl (by decide) ?_
      refine tt_aload_n dL_act_104 rfl ?_
      refine tt_iload_n dL_act_105 rfl ?_
      refine tt_iload_n dL_act_106 rfl ?_
      refine tt_if_eq (tgt := 115) dL_act_107 (by decide) (fun _ => ?_) (fun q => absurd rfl q)
      refine tt_bipush (nI 7) dL_act_115 rfl ?_
      refine tt_fSi (c_L_low _ _ (by decide) _) dL_act_117 sL_8 rfl rfl (by decide) ⟨rfl, rfl⟩ (Nat.zero_le _) (Nat.zero_le _) (Nat.le_of_ble_eq_true rfl) ?_
      refine tt_iload_n dL_act_120 rfl ?_
      refine tt_iconst (nI 3) dL_act_121 rfl ?_
      refine tt_ishr dL_act_122 ?_
      refine tt_iload_n dL_act_123 rfl ?_
      refine tt_if_eq (tgt := 131) dL_act_124 (by decide) (fun _ => ?_) (fun q => absurd rfl q)
      refine tt_iconst (nI 5) dL_act_131 rfl ?_
      refine tt_fSi (c_L_low _ _ (by decide) _) dL_act_132 sL_8 rfl rfl (by decide) ⟨rfl, rfl⟩ (Nat.zero_le _) (Nat.zero_le _) (Nat.le_of_ble_eq_true rfl) ?_
      refine tt_iload_n dL_act_135 rfl ?_
      refine tt_iconst (nI 5) dL_act_136 rfl ?_
      refine tt_ishr dL_act_137 ?_
      refine tt_iload_n dL_act_138 rfl ?_
      refine tt_if_eq (tgt := 147) dL_act_139 (by decide) (fun _ => ?_) (fun q => absurd rfl q)
      refine tt_bipush (nI 8) dL_act_147 rfl ?_
      refine tt_fSi (c_L_low _ _ (by decide) _) dL_act_149 sL_8 rfl rfl (by decide) ⟨rfl, rfl⟩ (Nat.zero_le _) (Nat.zero_le _) (Nat.le_of_ble_eq_true rfl) ?_
      refine tt_iload_n dL_act_152 rfl ?_
      refine tt_bipush (nI 7) dL_act_153 rfl ?_
      refine tt_ishr dL_act_155 ?_
      refine tt_iload_n dL_act_156 rfl ?_
      refine tt_if_eq (tgt := 165) dL_act_157 (by decide) (fun _ => ?_) (fun q => absurd rfl q)
      refine tt_bipush (nI 40) dL_act_165 rfl ?_
      refine tt_fSi (c_L_low _ _ (by decide) _) dL_act_167 sL_8 rfl rfl (by decide) ⟨rfl, rfl⟩ (Nat.zero_le _) (Nat.zero_le _) (Nat.le_of_ble_eq_true rfl) ?_
      refine tt_callV (c_X5_put hC.1 hC.2.1 hw _ _ _ _) dL_act_170 vL_20 rfl rfl hT4 (by decide) rfl (by decide) (Nat.le_of_ble_eq_true rfl) (Nat.le_of_ble_eq_true rfl) (Nat.le_of_ble_eq_true rfl) (fun r1 h1 q1 => ?_)
      obtain ⟨rfl, q2⟩ := q1
      exact tt_ireturn dL_act_173 rfl rfl (Nat.le_of_ble_eq_true rfl) (Nat.le_of_ble_eq_true rfl) (by rw [aF_eq hj hb, aG_1]; exact ⟨rfl, q2⟩)
    · refine tt_tableIn (off := 62) (tgt := 104) dL_act_42 (by decide) (by decide) rfl (by decide) ?_
      refine tt_aload_n dL_act_104 rfl ?_
      refine tt_iload_n dL_act_105 rfl ?_
      refine tt_iload_n dL_act_106 rfl ?_
      refine tt_if_eq (tgt := 115) dL_act_107 (by decide) (fun _ => ?_) (fun q => absurd rfl q)
      refine tt_bipush (nI 7) dL_act_115 rfl ?_
      refine tt_fSi (c_L_low _ _ (by decide) _) dL_act_117 sL_8 rfl rfl (by decide) ⟨rfl, rfl⟩ (Nat.zero_le _) (Nat.zero_le _) (Nat.le_of_ble_eq_true rfl) ?_
      refine tt_iload_n dL_act_120 rfl ?_
      refine tt_iconst (nI 3) dL_act_121 rfl ?_
      refine tt_ishr dL_act_122 ?_
      refine tt_iload_n dL_act_123 rfl ?_
      refine tt_if_eq (tgt := 131) dL_act_124 (by decide) (fun _ => ?_) (fun q => absurd rfl q)
      refine tt_iconst (nI 5) dL_act_131 rfl ?_
      refine tt_fSi (c_L_low _ _ (by decide) _) dL_act_132 sL_8 rfl rfl (by decide) ⟨rfl, rfl⟩ (Nat.zero_le _) (Nat.zero_le _) (Nat.le_of_ble_eq_true rfl) ?_
      refine tt_iload_n dL_act_135 rfl ?_
      refine tt_iconst (nI 5) dL_act_136 rfl ?_
      refine tt_ishr dL_act_137 ?_
      refine tt_iload_n dL_act_138 rfl ?_
      refine tt_if_eq (tgt := 147) dL_act_139 (by decide) (fun _ => ?_) (fun q => absurd rfl q)
      refine tt_bipush (nI 8) dL_act_147 rfl ?_
      refine tt_fSi (c_L_low _ _ (by decide) _) dL_act_149 sL_8 rfl rfl (by decide) ⟨rfl, rfl⟩ (Nat.zero_le _) (Nat.zero_le _) (Nat.le_of_ble_eq_true rfl) ?_
      refine tt_iload_n dL_act_152 rfl ?_
      refine tt_bipush (nI 7) dL_act_153 rfl ?_
      refine tt_ishr dL_act_155 ?_
      refine tt_iload_n dL_act_156 rfl ?_
      refine tt_if_eq (tgt := 165) dL_act_157 (by decide) (fun _ => ?_) (fun q => absurd rfl q)
      refine tt_bipush (nI 40) dL_act_165 rfl ?_
      refine tt_fSi (c_L_low _ _ (by decide) _) dL_act_167 sL_8 rfl rfl (by decide) ⟨rfl, rfl⟩ (Nat.zero_le _) (Nat.zero_le _) (Nat.le_of_ble_eq_true rfl) ?_
      refine tt_callV (c_X5_put hC.1 hC.2.1 hw _ _ _ _) dL_act_170 vL_20 rfl rfl hT4 (by decide) rfl (by decide) (Nat.le_of_ble_eq_true rfl) (Nat.le_of_ble_eq_true rfl) (Nat.le_of_ble_eq_true rfl) (fun r1 h1 q1 => ?_)
      obtain ⟨rfl, q2⟩ := q1
      exact tt_ireturn dL_act_173 rfl rfl (Nat.le_of_ble_eq_true rfl) (Nat.le_of_ble_eq_true rfl) (by rw [aF_eq hj hb, aG_2]; exact ⟨rfl, q2⟩)
    · refine tt_tableIn (off := 62) (tgt := 104) dL_act_42 (by decide) (by decide) rfl (by decide) ?_
      refine tt_aload_n dL_act_104 rfl ?_
      refine tt_iload_n dL_act_105 rfl ?_
      refine tt_iload_n dL_act_106 rfl ?_
      refine tt_if_eq (tgt := 115) dL_act_107 (by decide) (fun _ => ?_) (fun q => absurd rfl q)
      refine tt_bipush (nI 7) dL_act_115 rfl ?_
      refine tt_fSi (c_L_low _ _ (by decide) _) dL_act_117 sL_8 rfl rfl (by decide) ⟨rfl, rfl⟩ (Nat.zero_le _) (Nat.zero_le _) (Nat.le_of_ble_eq_true rfl) ?_
      refine tt_iload_n dL_act_120 rfl ?_
      refine tt_iconst (nI 3) dL_act_121 rfl ?_
      refine tt_ishr dL_act_122 ?_
      refine tt_iload_n dL_act_123 rfl ?_
      refine tt_if_eq (tgt := 131) dL_act_124 (by decide) (fun _ => ?_) (fun q => absurd rfl q)
      refine tt_iconst (nI 5) dL_act_131 rfl ?_
      refine tt_fSi (c_L_low _ _ (by decide) _) dL_act_132 sL_8 rfl rfl (by decide) ⟨rfl, rfl⟩ (Nat.zero_le _) (Nat.zero_le _) (Nat.le_of_ble_eq_true rfl) ?_
      refine tt_iload_n dL_act_135 rfl ?_
      refine tt_iconst (nI 5) dL_act_136 rfl ?_
      refine tt_ishr dL_act_137 ?_
      refine tt_iload_n dL_act_138 rfl ?_
      refine tt_if_eq (tgt := 147) dL_act_139 (by decide) (fun _ => ?_) (fun q => absurd rfl q)
      refine tt_bipush (nI 8) dL_act_147 rfl ?_
      refine tt_fSi (c_L_low _ _ (by decide) _) dL_act_149 sL_8 rfl rfl (by decide) ⟨rfl, rfl⟩ (Nat.zero_le _) (Nat.zero_le _) (Nat.le_of_ble_eq_true rfl) ?_
      refine tt_iload_n dL_act_152 rfl ?_
      refine tt_bipush (nI 7) dL_act_153 rfl ?_
      refine tt_ishr dL_act_155 ?_
      refine tt_iload_n dL_act_156 rfl ?_
      refine tt_if_eq (tgt := 165) dL_act_157 (by decide) (fun _ => ?_) (fun q => absurd rfl q)
      refine tt_bipush (nI 40) dL_act_165 rfl ?_
      refine tt_fSi (c_L_low _ _ (by decide) _) dL_act_167 sL_8 rfl rfl (by decide) ⟨rfl, rfl⟩ (Nat.zero_le _) (Nat.zero_le _) (Nat.le_of_ble_eq_true rfl) ?_
      refine tt_callV (c_X5_put hC.1 hC.2.1 hw _ _ _ _) dL_act_170 vL_20 rfl rfl hT4 (by decide) rfl (by decide) (Nat.le_of_ble_eq_true rfl) (Nat.le_of_ble_eq_true rfl) (Nat.le_of_ble_eq_true rfl) (fun r1 h1 q1 => ?_)
      obtain ⟨rfl, q2⟩ := q1
      exact tt_ireturn dL_act_173 rfl rfl (Nat.le_of_ble_eq_true rfl) (Nat.le_of_ble_eq_true rfl) (by rw [aF_eq hj hb, aG_3]; exact ⟨rfl, q2⟩)
    · refine tt_tableIn (off := 132) (tgt := 174) dL_act_42 (by decide) (by decide) rfl (by decide) ?_
      refine tt_aload_n dL_act_174 rfl ?_
      refine tt_iload dL_act_175 rfl ?_
      refine tt_callV (c_X5_swap hC.1 hC.2.1 hw _) dL_act_177 vL_24 rfl rfl hT4 (by decide) rfl (by decide) (Nat.le_of_ble_eq_true rfl) (Nat.le_of_ble_eq_true rfl) (Nat.le_of_ble_eq_true rfl) (fun r1 h1 q1 => ?_)
      obtain ⟨rfl, q2⟩ := q1
      exact tt_ireturn dL_act_180 rfl rfl (Nat.le_of_ble_eq_true rfl) (Nat.le_of_ble_eq_true rfl) (by rw [aF_eq hj hb, aG_4]; exact ⟨rfl, q2⟩)
    · refine tt_tableIn (off := 139) (tgt := 181) dL_act_42 (by decide) (by decide) rfl (by decide) ?_
      refine tt_aload_n dL_act_181 rfl ?_
      refine tt_iload dL_act_182 rfl ?_
      refine tt_callV (c_X5_take hC.1 hC.2.1 hw _) dL_act_184 vL_27 rfl rfl hT4 (by decide) rfl (by decide) (Nat.le_of_ble_eq_true rfl) (Nat.le_of_ble_eq_true rfl) (Nat.le_of_ble_eq_true rfl) (fun r1 h1 q1 => ?_)
      obtain ⟨rfl, q2⟩ := q1
      exact tt_ireturn dL_act_187 rfl rfl (Nat.le_of_ble_eq_true rfl) (Nat.le_of_ble_eq_true rfl) (by rw [aF_eq hj hb, aG_5]; exact ⟨rfl, q2⟩)
    · refine tt_tableIn (off := 146) (tgt := 188) dL_act_42 (by decide) (by decide) rfl (by decide) ?_
      refine tt_aload_n dL_act_188 rfl ?_
      refine tt_iload dL_act_189 rfl ?_
      refine tt_iload_n dL_act_191 rfl ?_
      refine tt_iconst (nI 4) dL_act_192 rfl ?_
      refine tt_ishr dL_act_193 ?_
      refine tt_iload_n dL_act_194 rfl ?_
      refine tt_if_eq (tgt := 203) dL_act_195 (by decide) (fun _ => ?_) (fun q => absurd rfl q)
      refine tt_bipush (nI 110) dL_act_203 rfl ?_
      refine tt_fSi (c_L_low _ _ (by decide) _) dL_act_205 sL_8 rfl rfl (by decide) ⟨rfl, rfl⟩ (Nat.zero_le _) (Nat.zero_le _) (Nat.le_of_ble_eq_true rfl) ?_
      refine tt_callV (c_X5_permit hC.1 hC.2.1 hw _ _) dL_act_208 vL_30 rfl rfl hT4 (by decide) rfl (by decide) (Nat.le_of_ble_eq_true rfl) (Nat.le_of_ble_eq_true rfl) (Nat.le_of_ble_eq_true rfl) (fun r1 h1 q1 => ?_)
      obtain ⟨rfl, q2⟩ := q1
      exact tt_ireturn dL_act_211 rfl rfl (Nat.le_of_ble_eq_true rfl) (Nat.le_of_ble_eq_true rfl) (by rw [aF_eq hj hb, aG_6]; exact ⟨rfl, q2⟩)
    · refine tt_tableIn (off := 146) (tgt := 188) dL_act_42 (by decide) (by decide) rfl (by decide) ?_
      refine tt_aload_n dL_act_188 rfl ?_
      refine tt_iload dL_act_189 rfl ?_
      refine tt_iload_n dL_act_191 rfl ?_
      refine tt_iconst (nI 4) dL_act_192 rfl ?_
      refine tt_ishr dL_act_193 ?_
      refine tt_iload_n dL_act_194 rfl ?_
      refine tt_if_eq (tgt := 203) dL_act_195 (by decide) (fun _ => ?_) (fun q => absurd rfl q)
      refine tt_bipush (nI 110) dL_act_203 rfl ?_
      refine tt_fSi (c_L_low _ _ (by decide) _) dL_act_205 sL_8 rfl rfl (by decide) ⟨rfl, rfl⟩ (Nat.zero_le _) (Nat.zero_le _) (Nat.le_of_ble_eq_true rfl) ?_
      refine tt_callV (c_X5_permit hC.1 hC.2.1 hw _ _) dL_act_208 vL_30 rfl rfl hT4 (by decide) rfl (by decide) (Nat.le_of_ble_eq_true rfl) (Nat.le_of_ble_eq_true rfl) (Nat.le_of_ble_eq_true rfl) (fun r1 h1 q1 => ?_)
      obtain ⟨rfl, q2⟩ := q1
      exact tt_ireturn dL_act_211 rfl rfl (Nat.le_of_ble_eq_true rfl) (Nat.le_of_ble_eq_true rfl) (by rw [aF_eq hj hb, aG_7]; exact ⟨rfl, q2⟩)
    · refine tt_tableIn (off := 170) (tgt := 212) dL_act_42 (by decide) (by decide) rfl (by decide) ?_
      refine tt_aload_n dL_act_212 rfl ?_
      refine tt_iload dL_act_213 rfl ?_
      refine tt_callV (c_X5_oil hC.1 hC.2.1 hw _) dL_act_215 vL_33 rfl rfl hT4 (by decide) rfl (by decide) (Nat.le_of_ble_eq_true rfl) (Nat.le_of_ble_eq_true rfl) (Nat.le_of_ble_eq_true rfl) (fun r1 h1 q1 => ?_)
      obtain ⟨rfl, q2⟩ := q1
      exact tt_ireturn dL_act_218 rfl rfl (Nat.le_of_ble_eq_true rfl) (Nat.le_of_ble_eq_true rfl) (by rw [aF_eq hj hb, aG_8]; exact ⟨rfl, q2⟩)
    · refine tt_tableIn (off := 177) (tgt := 219) dL_act_42 (by decide) (by decide) rfl (by decide) ?_
      refine tt_aload_n dL_act_219 rfl ?_
      refine tt_iload dL_act_220 rfl ?_
      refine tt_iload_n dL_act_222 rfl ?_
      refine tt_iconst (nI 4) dL_act_223 rfl ?_
      refine tt_ishr dL_act_224 ?_
      refine tt_iload_n dL_act_225 rfl ?_
      refine tt_if_eq (tgt := 234) dL_act_226 (by decide) (fun _ => ?_) (fun q => absurd rfl q)
      refine tt_bipush (nI 40) dL_act_234 rfl ?_
      refine tt_fSi (c_L_low _ _ (by decide) _) dL_act_236 sL_8 rfl rfl (by decide) ⟨rfl, rfl⟩ (Nat.zero_le _) (Nat.zero_le _) (Nat.le_of_ble_eq_true rfl) ?_
      refine tt_callV (c_X5_growth hC.1 hC.2.1 hw _ _) dL_act_239 vL_36 rfl rfl hT4 (by decide) rfl (by decide) (Nat.le_of_ble_eq_true rfl) (Nat.le_of_ble_eq_true rfl) (Nat.le_of_ble_eq_true rfl) (fun r1 h1 q1 => ?_)
      obtain ⟨rfl, q2⟩ := q1
      exact tt_ireturn dL_act_242 rfl rfl (Nat.le_of_ble_eq_true rfl) (Nat.le_of_ble_eq_true rfl) (by rw [aF_eq hj hb, aG_9]; exact ⟨rfl, q2⟩)
    · refine tt_tableIn (off := 201) (tgt := 243) dL_act_42 (by decide) (by decide) rfl (by decide) ?_
      refine tt_aload_n dL_act_243 rfl ?_
      refine tt_iload_n dL_act_244 rfl ?_
      refine tt_bipush (nI 6) dL_act_245 rfl ?_
      refine tt_fSi (c_L_low _ _ (by decide) _) dL_act_247 sL_8 rfl rfl (by decide) ⟨rfl, rfl⟩ (Nat.zero_le _) (Nat.zero_le _) (Nat.le_of_ble_eq_true rfl) ?_
      refine tt_iload_n dL_act_250 rfl ?_
      refine tt_iconst (nI 3) dL_act_251 rfl ?_
      refine tt_ishr dL_act_252 ?_
      refine tt_iload_n dL_act_253 rfl ?_
      refine tt_if_eq (tgt := 261) dL_act_254 (by decide) (fun _ => ?_) (fun q => absurd rfl q)
      refine tt_bipush (nI 7) dL_act_261 rfl ?_
      refine tt_fSi (c_L_low _ _ (by decide) _) dL_act_263 sL_8 rfl rfl (by decide) ⟨rfl, rfl⟩ (Nat.zero_le _) (Nat.zero_le _) (Nat.le_of_ble_eq_true rfl) ?_
      refine tt_callV (c_X5_places hC.1 hC.2.1 hw _ _) dL_act_266 vL_39 rfl rfl hT4 (by decide) rfl (by decide) (Nat.le_of_ble_eq_true rfl) (Nat.le_of_ble_eq_true rfl) (Nat.le_of_ble_eq_true rfl) (fun r1 h1 q1 => ?_)
      obtain ⟨rfl, q2⟩ := q1
      exact tt_ireturn dL_act_269 rfl rfl (Nat.le_of_ble_eq_true rfl) (Nat.le_of_ble_eq_true rfl) (by rw [aF_eq hj hb, aG_10]; exact ⟨rfl, q2⟩)
    · refine tt_tableIn (off := 228) (tgt := 270) dL_act_42 (by decide) (by decide) rfl (by decide) ?_
      refine tt_aload_n dL_act_270 rfl ?_
      refine tt_iload_n dL_act_271 rfl ?_
      refine tt_bipush (nI 9) dL_act_272 rfl ?_
      refine tt_fSi (c_L_low _ _ (by decide) _) dL_act_274 sL_8 rfl rfl (by decide) ⟨rfl, rfl⟩ (Nat.zero_le _) (Nat.zero_le _) (Nat.le_of_ble_eq_true rfl) ?_
      refine tt_iload_n dL_act_277 rfl ?_
      refine tt_iconst (nI 4) dL_act_278 rfl ?_
      refine tt_ishr dL_act_279 ?_
      refine tt_iload_n dL_act_280 rfl ?_
      refine tt_if_eq (tgt := 289) dL_act_281 (by decide) (fun _ => ?_) (fun q => absurd rfl q)
      refine tt_bipush (nI 100) dL_act_289 rfl ?_
      refine tt_fSi (c_L_low _ _ (by decide) _) dL_act_291 sL_8 rfl rfl (by decide) ⟨rfl, rfl⟩ (Nat.zero_le _) (Nat.zero_le _) (Nat.le_of_ble_eq_true rfl) ?_
      refine tt_callV (c_X5_set hC.1 hC.2.1 hw _ _) dL_act_294 vL_42 rfl rfl hT4 (by decide) rfl (by decide) (Nat.le_of_ble_eq_true rfl) (Nat.le_of_ble_eq_true rfl) (Nat.le_of_ble_eq_true rfl) (fun r1 h1 q1 => ?_)
      obtain ⟨rfl, q2⟩ := q1
      exact tt_ireturn dL_act_297 rfl rfl (Nat.le_of_ble_eq_true rfl) (Nat.le_of_ble_eq_true rfl) (by rw [aF_eq hj hb, aG_11]; exact ⟨rfl, q2⟩)
    · refine tt_tableOut (tgt := 298) dL_act_42 (Or.inr (by rw [nI_toInt (by omega)]; omega)) (by decide) ?_
      refine tt_aload_n dL_act_298 rfl ?_
      refine tt_iload_n dL_act_299 rfl ?_
      refine tt_iload_n dL_act_300 rfl ?_
      refine tt_if_eq (tgt := 309) dL_act_301 (by decide) (fun _ => ?_) (fun q => absurd rfl q)
      refine tt_bipush (nI 110) dL_act_309 rfl ?_
      refine tt_fSi (c_L_low _ _ (by decide) _) dL_act_311 sL_8 rfl rfl (by decide) ⟨rfl, rfl⟩ (Nat.zero_le _) (Nat.zero_le _) (Nat.le_of_ble_eq_true rfl) ?_
      refine tt_callV (c_X5_pass hC.1 hC.2.1 hw _) dL_act_314 vL_45 rfl rfl hT4 (by decide) rfl (by decide) (Nat.le_of_ble_eq_true rfl) (Nat.le_of_ble_eq_true rfl) (Nat.le_of_ble_eq_true rfl) (fun r1 h1 q1 => ?_)
      obtain ⟨rfl, q2⟩ := q1
      exact tt_ireturn dL_act_317 rfl rfl (Nat.le_of_ble_eq_true rfl) (Nat.le_of_ble_eq_true rfl) (by rw [aF_eq hj hb, aG_d _ _ _ _ hj12 hj16]; exact ⟨rfl, q2⟩)
  · have hb : decide (nI 0 < lo (v >>> (nI 21 &&& 31)) (nI 6)) = true := decide_eq_true (Int32.not_le.mp q13)
    refine tt_iconst (nI 1) dL_act_16 rfl ?_
    refine tt_goto (tgt := 21) dL_act_17 (by decide) ?_
    refine tt_istore_n dL_act_21 rfl (Nat.le_of_ble_eq_true rfl) rfl ?_
    refine tt_iload_n dL_act_22 rfl ?_
    refine tt_aload_n dL_act_23 rfl ?_
    refine tt_bipush (nI 9) dL_act_24 rfl ?_
    refine tt_fVi (r_cnt hC hw (by decide) (by decide) ((kNum_9 _ _).trans hw.2.1)) dL_act_26 vL_14 rfl rfl hT4 (by decide) rfl (by decide) ⟨rfl, rfl⟩ (Nat.zero_le _) (Nat.zero_le _) (Nat.le_of_ble_eq_true rfl) ?_
    refine tt_iconst (nI 1) dL_act_29 rfl ?_
    refine tt_iaddN dL_act_30 ?_
    refine tt_fSi (c_L_low _ _ hn1 _) dL_act_31 sL_8 rfl rfl (by decide) ⟨rfl, rfl⟩ (Nat.zero_le _) (Nat.zero_le _) (Nat.le_of_ble_eq_true rfl) ?_
    refine tt_istore dL_act_34 rfl (Nat.le_of_ble_eq_true rfl) rfl ?_
    refine tt_iload_n dL_act_36 rfl ?_
    refine tt_bipush (nI 16) dL_act_37 rfl ?_
    refine tt_fSi (c_L_low _ _ (by decide) _) dL_act_39 sL_8 rfl rfl (by decide) ⟨rfl, rfl⟩ (Nat.zero_le _) (Nat.zero_le _) (Nat.le_of_ble_eq_true rfl) ?_
    refine tt_eq hj ?_
    rcases (show j = 0 ∨ j = 1 ∨ j = 2 ∨ j = 3 ∨ j = 4 ∨ j = 5 ∨ j = 6 ∨ j = 7 ∨ j = 8 ∨ j = 9 ∨ j = 10 ∨ j = 11 ∨ 12 ≤ j by omega) with rfl | rfl | rfl | rfl | rfl | rfl | rfl | rfl | rfl | rfl | rfl | rfl | hj12
    · refine tt_tableIn (off := 62) (tgt := 104) dL_act_42 (by decide) (by decide) rfl (by decide) ?_
      refine tt_aload_n dL_act_104 rfl ?_
      refine tt_iload_n dL_act_105 rfl ?_
      refine tt_iload_n dL_act_106 rfl ?_
      refine tt_if_eq (tgt := 115) dL_act_107 (by decide) (fun q => absurd q (by decide)) (fun _ => ?_)
      refine tt_bipush (nI 6) dL_act_110 rfl ?_
      refine tt_goto (tgt := 117) dL_act_112 (by decide) ?_
      refine tt_fSi (c_L_low _ _ (by decide) _) dL_act_117 sL_8 rfl rfl (by decide) ⟨rfl, rfl⟩ (Nat.zero_le _) (Nat.zero_le _) (Nat.le_of_ble_eq_true rfl) ?_
      refine tt_iload_n dL_act_120 rfl ?_
      refine tt_iconst (nI 3) dL_act_121 rfl ?_
      refine tt_ishr dL_act_122 ?_
      refine tt_iload_n dL_act_123 rfl ?_
      refine tt_if_eq (tgt := 131) dL_act_124 (by decide) (fun q => absurd q (by decide)) (fun _ => ?_)
      refine tt_iconst (nI 4) dL_act_127 rfl ?_
      refine tt_goto (tgt := 132) dL_act_128 (by decide) ?_
      refine tt_fSi (c_L_low _ _ (by decide) _) dL_act_132 sL_8 rfl rfl (by decide) ⟨rfl, rfl⟩ (Nat.zero_le _) (Nat.zero_le _) (Nat.le_of_ble_eq_true rfl) ?_
      refine tt_iload_n dL_act_135 rfl ?_
      refine tt_iconst (nI 5) dL_act_136 rfl ?_
      refine tt_ishr dL_act_137 ?_
      refine tt_iload_n dL_act_138 rfl ?_
      refine tt_if_eq (tgt := 147) dL_act_139 (by decide) (fun q => absurd q (by decide)) (fun _ => ?_)
      refine tt_bipush (nI 6) dL_act_142 rfl ?_
      refine tt_goto (tgt := 149) dL_act_144 (by decide) ?_
      refine tt_fSi (c_L_low _ _ (by decide) _) dL_act_149 sL_8 rfl rfl (by decide) ⟨rfl, rfl⟩ (Nat.zero_le _) (Nat.zero_le _) (Nat.le_of_ble_eq_true rfl) ?_
      refine tt_iload_n dL_act_152 rfl ?_
      refine tt_bipush (nI 7) dL_act_153 rfl ?_
      refine tt_ishr dL_act_155 ?_
      refine tt_iload_n dL_act_156 rfl ?_
      refine tt_if_eq (tgt := 165) dL_act_157 (by decide) (fun q => absurd q (by decide)) (fun _ => ?_)
      refine tt_bipush (nI 31) dL_act_160 rfl ?_
      refine tt_goto (tgt := 167) dL_act_162 (by decide) ?_
      refine tt_fSi (c_L_low _ _ (by decide) _) dL_act_167 sL_8 rfl rfl (by decide) ⟨rfl, rfl⟩ (Nat.zero_le _) (Nat.zero_le _) (Nat.le_of_ble_eq_true rfl) ?_
      refine tt_callV (c_X5_put hC.1 hC.2.1 hw _ _ _ _) dL_act_170 vL_20 rfl rfl hT4 (by decide) rfl (by decide) (Nat.le_of_ble_eq_true rfl) (Nat.le_of_ble_eq_true rfl) (Nat.le_of_ble_eq_true rfl) (fun r1 h1 q1 => ?_)
      obtain ⟨rfl, q2⟩ := q1
      exact tt_ireturn dL_act_173 rfl rfl (Nat.le_of_ble_eq_true rfl) (Nat.le_of_ble_eq_true rfl) (by rw [aF_eq hj hb, aG_0]; exact ⟨rfl, q2⟩)
    · refine tt_tableIn (off := 62) (tgt := 104) dL_act_42 (by decide) (by decide) rfl (by decide) ?_
      refine tt_aload_n dL_act_104 rfl ?_
      refine tt_iload_n dL_act_105 rfl ?_
      refine tt_iload_n dL_act_106 rfl ?_
      refine tt_if_eq (tgt := 115) dL_act_107 (by decide) (fun q => absurd q (by decide)) (fun _ => ?_)
      refine tt_bipush (nI 6) dL_act_110 rfl ?_
      refine tt_goto (tgt := 117) dL_act_112 (by decide) ?_
      refine tt_fSi (c_L_low _ _ (by decide) _) dL_act_117 sL_8 rfl rfl (by decide) ⟨rfl, rfl⟩ (Nat.zero_le _) (Nat.zero_le _) (Nat.le_of_ble_eq_true rfl) ?_
      refine tt_iload_n dL_act_120 rfl ?_
      refine tt_iconst (nI 3) dL_act_121 rfl ?_
      refine tt_ishr dL_act_122 ?_
      refine tt_iload_n dL_act_123 rfl ?_
      refine tt_if_eq (tgt := 131) dL_act_124 (by decide) (fun q => absurd q (by decide)) (fun _ => ?_)
      refine tt_iconst (nI 4) dL_act_127 rfl ?_
      refine tt_goto (tgt := 132) dL_act_128 (by decide) ?_
      refine tt_fSi (c_L_low _ _ (by decide) _) dL_act_132 sL_8 rfl rfl (by decide) ⟨rfl, rfl⟩ (Nat.zero_le _) (Nat.zero_le _) (Nat.le_of_ble_eq_true rfl) ?_
      refine tt_iload_n dL_act_135 rfl ?_
      refine tt_iconst (nI 5) dL_act_136 rfl ?_
      refine tt_ishr dL_act_137 ?_
      refine tt_iload_n dL_act_138 rfl ?_
      refine tt_if_eq (tgt := 147) dL_act_139 (by decide) (fun q => absurd q (by decide)) (fun _ => ?_)
      refine tt_bipush (nI 6) dL_act_142 rfl ?_
      refine tt_goto (tgt := 149) dL_act_144 (by decide) ?_
      refine tt_fSi (c_L_low _ _ (by decide) _) dL_act_149 sL_8 rfl rfl (by decide) ⟨rfl, rfl⟩ (Nat.zero_le _) (Nat.zero_le _) (Nat.le_of_ble_eq_true rfl) ?_
      refine tt_iload_n dL_act_152 rfl ?_
      refine tt_bipush (nI 7) dL_act_153 rfl ?_
      refine tt_ishr dL_act_155 ?_
      refine tt_iload_n dL_act_156 rfl ?_
      refine tt_if_eq (tgt := 165) dL_act_157 (by decide) (fun q => absurd q (by decide)) (fun _ => ?_)
      refine tt_bipush (nI 31) dL_act_160 rfl ?_
      refine tt_goto (tgt := 167) dL_act_162 (by decide) ?_
      refine tt_fSi (c_L_low _ _ (by decide) _) dL_act_167 sL_8 rfl rfl (by decide) ⟨rfl, rfl⟩ (Nat.zero_le _) (Nat.zero_le _) (Nat.le_of_ble_eq_true rfl) ?_
      refine tt_callV (c_X5_put hC.1 hC.2.1 hw _ _ _ _) dL_act_170 vL_20 rfl rfl hT4 (by decide) rfl (by decide) (Nat.le_of_ble_eq_true rfl) (Nat.le_of_ble_eq_true rfl) (Nat.le_of_ble_eq_true rfl) (fun r1 h1 q1 => ?_)
      obtain ⟨rfl, q2⟩ := q1
      exact tt_ireturn dL_act_173 rfl rfl (Nat.le_of_ble_eq_true rfl) (Nat.le_of_ble_eq_true rfl) (by rw [aF_eq hj hb, aG_1]; exact ⟨rfl, q2⟩)
    · refine tt_tableIn (off := 62) (tgt := 104) dL_act_42 (by decide) (by decide) rfl (by decide) ?_
      refine tt_aload_n dL_act_104 rfl ?_
      refine tt_iload_n dL_act_105 rfl ?_
      refine tt_iload_n dL_act_106 rfl ?_
      refine tt_if_eq (tgt := 115) dL_act_107 (by decide) (fun q => absurd q (by decide)) (fun _ => ?_)
      refine tt_bipush (nI 6) dL_act_110 rfl ?_
      refine tt_goto (tgt := 117) dL_act_112 (by decide) ?_
      refine tt_fSi (c_L_low _ _ (by decide) _) dL_act_117 sL_8 rfl rfl (by decide) ⟨rfl, rfl⟩ (Nat.zero_le _) (Nat.zero_le _) (Nat.le_of_ble_eq_true rfl) ?_
      refine tt_iload_n dL_act_120 rfl ?_
      refine tt_iconst (nI 3) dL_act_121 rfl ?_
      refine tt_ishr dL_act_122 ?_
      refine tt_iload_n dL_act_123 rfl ?_
      refine tt_if_eq (tgt := 131) dL_act_124 (by decide) (fun q => absurd q (by decide)) (fun _ => ?_)
      refine tt_iconst (nI 4) dL_act_127 rfl ?_
      refine tt_goto (tgt := 132) dL_act_128 (by decide) ?_
      refine tt_fSi (c_L_low _ _ (by decide) _) dL_act_132 sL_8 rfl rfl (by decide) ⟨rfl, rfl⟩ (Nat.zero_le _) (Nat.zero_le _) (Nat.le_of_ble_eq_true rfl) ?_
      refine tt_iload_n dL_act_135 rfl ?_
      refine tt_iconst (nI 5) dL_act_136 rfl ?_
      refine tt_ishr dL_act_137 ?_
      refine tt_iload_n dL_act_138 rfl ?_
      refine tt_if_eq (tgt := 147) dL_act_139 (by decide) (fun q => absurd q (by decide)) (fun _ => ?_)
      refine tt_bipush (nI 6) dL_act_142 rfl ?_
      refine tt_goto (tgt := 149) dL_act_144 (by decide) ?_
      refine tt_fSi (c_L_low _ _ (by decide) _) dL_act_149 sL_8 rfl rfl (by decide) ⟨rfl, rfl⟩ (Nat.zero_le _) (Nat.zero_le _) (Nat.le_of_ble_eq_true rfl) ?_
      refine tt_iload_n dL_act_152 rfl ?_
      refine tt_bipush (nI 7) dL_act_153 rfl ?_
      refine tt_ishr dL_act_155 ?_
      refine tt_iload_n dL_act_156 rfl ?_
      refine tt_if_eq (tgt := 165) dL_act_157 (by decide) (fun q => absurd q (by decide)) (fun _ => ?_)
      refine tt_bipush (nI 31) dL_act_160 rfl ?_
      refine tt_goto (tgt := 167) dL_act_162 (by decide) ?_
      refine tt_fSi (c_L_low _ _ (by decide) _) dL_act_167 sL_8 rfl rfl (by decide) ⟨rfl, rfl⟩ (Nat.zero_le _) (Nat.zero_le _) (Nat.le_of_ble_eq_true rfl) ?_
      refine tt_callV (c_X5_put hC.1 hC.2.1 hw _ _ _ _) dL_act_170 vL_20 rfl rfl hT4 (by decide) rfl (by decide) (Nat.le_of_ble_eq_true rfl) (Nat.le_of_ble_eq_true rfl) (Nat.le_of_ble_eq_true rfl) (fun r1 h1 q1 => ?_)
      obtain ⟨rfl, q2⟩ := q1
      exact tt_ireturn dL_act_173 rfl rfl (Nat.le_of_ble_eq_true rfl) (Nat.le_of_ble_eq_true rfl) (by rw [aF_eq hj hb, aG_2]; exact ⟨rfl, q2⟩)
    · refine tt_tableIn (off := 62) (tgt := 104) dL_act_42 (by decide) (by decide) rfl (by decide) ?_
      refine tt_aload_n dL_act_104 rfl ?_
      refine tt_iload_n dL_act_105 rfl ?_
      refine tt_iload_n dL_act_106 rfl ?_
      refine tt_if_eq (tgt := 115) dL_act_107 (by decide) (fun q => absurd q (by decide)) (fun _ => ?_)
      refine tt_bipush (nI 6) dL_act_110 rfl ?_
      refine tt_goto (tgt := 117) dL_act_112 (by decide) ?_
      refine tt_fSi (c_L_low _ _ (by decide) _) dL_act_117 sL_8 rfl rfl (by decide) ⟨rfl, rfl⟩ (Nat.zero_le _) (Nat.zero_le _) (Nat.le_of_ble_eq_true rfl) ?_
      refine tt_iload_n dL_act_120 rfl ?_
      refine tt_iconst (nI 3) dL_act_121 rfl ?_
      refine tt_ishr dL_act_122 ?_
      refine tt_iload_n dL_act_123 rfl ?_
      refine tt_if_eq (tgt := 131) dL_act_124 (by decide) (fun q => absurd q (by decide)) (fun _ => ?_)
      refine tt_iconst (nI 4) dL_act_127 rfl ?_
      refine tt_goto (tgt := 132) dL_act_128 (by decide) ?_
      refine tt_fSi (c_L_low _ _ (by decide) _) dL_act_132 sL_8 rfl rfl (by decide) ⟨rfl, rfl⟩ (Nat.zero_le _) (Nat.zero_le _) (Nat.le_of_ble_eq_true rfl) ?_
      refine tt_iload_n dL_act_135 rfl ?_
      refine tt_iconst (nI 5) dL_act_136 rfl ?_
      refine tt_ishr dL_act_137 ?_
      refine tt_iload_n dL_act_138 rfl ?_
      refine tt_if_eq (tgt := 147) dL_act_139 (by decide) (fun q => absurd q (by decide)) (fun _ => ?_)
      refine tt_bipush (nI 6) dL_act_142 rfl ?_
      refine tt_goto (tgt := 149) dL_act_144 (by decide) ?_
      refine tt_fSi (c_L_low _ _ (by decide) _) dL_act_149 sL_8 rfl rfl (by decide) ⟨rfl, rfl⟩ (Nat.zero_le _) (Nat.zero_le _) (Nat.le_of_ble_eq_true rfl) ?_
      refine tt_iload_n dL_act_152 rfl ?_
      refine tt_bipush (nI 7) dL_act_153 rfl ?_
      refine tt_ishr dL_act_155 ?_
      refine tt_iload_n dL_act_156 rfl ?_
      refine tt_if_eq (tgt := 165) dL_act_157 (by decide) (fun q => absurd q (by decide)) (fun _ => ?_)
      refine tt_bipush (nI 31) dL_act_160 rfl ?_
      refine tt_goto (tgt := 167) dL_act_162 (by decide) ?_
      refine tt_fSi (c_L_low _ _ (by decide) _) dL_act_167 sL_8 rfl rfl (by decide) ⟨rfl, rfl⟩ (Nat.zero_le _) (Nat.zero_le _) (Nat.le_of_ble_eq_true rfl) ?_
      refine tt_callV (c_X5_put hC.1 hC.2.1 hw _ _ _ _) dL_act_170 vL_20 rfl rfl hT4 (by decide) rfl (by decide) (Nat.le_of_ble_eq_true rfl) (Nat.le_of_ble_eq_true rfl) (Nat.le_of_ble_eq_true rfl) (fun r1 h1 q1 => ?_)
      obtain ⟨rfl, q2⟩ := q1
      exact tt_ireturn dL_act_173 rfl rfl (Nat.le_of_ble_eq_true rfl) (Nat.le_of_ble_eq_true rfl) (by rw [aF_eq hj hb, aG_3]; exact ⟨rfl, q2⟩)
    · refine tt_tableIn (off := 132) (tgt := 174) dL_act_42 (by decide) (by decide) rfl (by decide) ?_
      refine tt_aload_n dL_act_174 rfl ?_
      refine tt_iload dL_act_175 rfl ?_
      refine tt_callV (c_X5_swap hC.1 hC.2.1 hw _) dL_act_177 vL_24 rfl rfl hT4 (by decide) rfl (by decide) (Nat.le_of_ble_eq_true rfl) (Nat.le_of_ble_eq_true rfl) (Nat.le_of_ble_eq_true rfl) (fun r1 h1 q1 => ?_)
      obtain ⟨rfl, q2⟩ := q1
      exact tt_ireturn dL_act_180 rfl rfl (Nat.le_of_ble_eq_true rfl) (Nat.le_of_ble_eq_true rfl) (by rw [aF_eq hj hb, aG_4]; exact ⟨rfl, q2⟩)
    · refine tt_tableIn (off := 139) (tgt := 181) dL_act_42 (by decide) (by decide) rfl (by decide) ?_
      refine tt_aload_n dL_act_181 rfl ?_
      refine tt_iload dL_act_182 rfl ?_
      refine tt_callV (c_X5_take hC.1 hC.2.1 hw _) dL_act_184 vL_27 rfl rfl hT4 (by decide) rfl (by decide) (Nat.le_of_ble_eq_true rfl) (Nat.le_of_ble_eq_true rfl) (Nat.le_of_ble_eq_true rfl) (fun r1 h1 q1 => ?_)
      obtain ⟨rfl, q2⟩ := q1
      exact tt_ireturn dL_act_187 rfl rfl (Nat.le_of_ble_eq_true rfl) (Nat.le_of_ble_eq_true rfl) (by rw [aF_eq hj hb, aG_5]; exact ⟨rfl, q2⟩)
    · refine tt_tableIn (off := 146) (tgt := 188) dL_act_42 (by decide) (by decide) rfl (by decide) ?_
      refine tt_aload_n dL_act_188 rfl ?_
      refine tt_iload dL_act_189 rfl ?_
      refine tt_iload_n dL_act_191 rfl ?_
      refine tt_iconst (nI 4) dL_act_192 rfl ?_
      refine tt_ishr dL_act_193 ?_
      refine tt_iload_n dL_act_194 rfl ?_
      refine tt_if_eq (tgt := 203) dL_act_195 (by decide) (fun q => absurd q (by decide)) (fun _ => ?_)
      refine tt_bipush (nI 9) dL_act_198 rfl ?_
      refine tt_goto (tgt := 205) dL_act_200 (by decide) ?_
      refine tt_fSi (c_L_low _ _ (by decide) _) dL_act_205 sL_8 rfl rfl (by decide) ⟨rfl, rfl⟩ (Nat.zero_le _) (Nat.zero_le _) (Nat.le_of_ble_eq_true rfl) ?_
      refine tt_callV (c_X5_permit hC.1 hC.2.1 hw _ _) dL_act_208 vL_30 rfl rfl hT4 (by decide) rfl (by decide) (Nat.le_of_ble_eq_true rfl) (Nat.le_of_ble_eq_true rfl) (Nat.le_of_ble_eq_true rfl) (fun r1 h1 q1 => ?_)
      obtain ⟨rfl, q2⟩ := q1
      exact tt_ireturn dL_act_211 rfl rfl (Nat.le_of_ble_eq_true rfl) (Nat.le_of_ble_eq_true rfl) (by rw [aF_eq hj hb, aG_6]; exact ⟨rfl, q2⟩)
    · refine tt_tableIn (off := 146) (tgt := 188) dL_act_42 (by decide) (by decide) rfl (by decide) ?_
      refine tt_aload_n dL_act_188 rfl ?_
      refine tt_iload dL_act_189 rfl ?_
      refine tt_iload_n dL_act_191 rfl ?_
      refine tt_iconst (nI 4) dL_act_192 rfl ?_
      refine tt_ishr dL_act_193 ?_
      refine tt_iload_n dL_act_194 rfl ?_
      refine tt_if_eq (tgt := 203) dL_act_195 (by decide) (fun q => absurd q (by decide)) (fun _ => ?_)
      refine tt_bipush (nI 9) dL_act_198 rfl ?_
      refine tt_goto (tgt := 205) dL_act_200 (by decide) ?_
      refine tt_fSi (c_L_low _ _ (by decide) _) dL_act_205 sL_8 rfl rfl (by decide) ⟨rfl, rfl⟩ (Nat.zero_le _) (Nat.zero_le _) (Nat.le_of_ble_eq_true rfl) ?_
      refine tt_callV (c_X5_permit hC.1 hC.2.1 hw _ _) dL_act_208 vL_30 rfl rfl hT4 (by decide) rfl (by decide) (Nat.le_of_ble_eq_true rfl) (Nat.le_of_ble_eq_true rfl) (Nat.le_of_ble_eq_true rfl) (fun r1 h1 q1 => ?_)
      obtain ⟨rfl, q2⟩ := q1
      exact tt_ireturn dL_act_211 rfl rfl (Nat.le_of_ble_eq_true rfl) (Nat.le_of_ble_eq_true rfl) (by rw [aF_eq hj hb, aG_7]; exact ⟨rfl, q2⟩)
    · refine tt_tableIn (off := 170) (tgt := 212) dL_act_42 (by decide) (by decide) rfl (by decide) ?_
      refine tt_aload_n dL_act_212 rfl ?_
      refine tt_iload dL_act_213 rfl ?_
      refine tt_callV (c_X5_oil hC.1 hC.2.1 hw _) dL_act_215 vL_33 rfl rfl hT4 (by decide) rfl (by decide) (Nat.le_of_ble_eq_true rfl) (Nat.le_of_ble_eq_true rfl) (Nat.le_of_ble_eq_true rfl) (fun r1 h1 q1 => ?_)
      obtain ⟨rfl, q2⟩ := q1
      exact tt_ireturn dL_act_218 rfl rfl (Nat.le_of_ble_eq_true rfl) (Nat.le_of_ble_eq_true rfl) (by rw [aF_eq hj hb, aG_8]; exact ⟨rfl, q2⟩)
    · refine tt_tableIn (off := 177) (tgt := 219) dL_act_42 (by decide) (by decide) rfl (by decide) ?_
      refine tt_aload_n dL_act_219 rfl ?_
      refine tt_iload dL_act_220 rfl ?_
      refine tt_iload_n dL_act_222 rfl ?_
      refine tt_iconst (nI 4) dL_act_223 rfl ?_
      refine tt_ishr dL_act_224 ?_
      refine tt_iload_n dL_act_225 rfl ?_
      refine tt_if_eq (tgt := 234) dL_act_226 (by decide) (fun q => absurd q (by decide)) (fun _ => ?_)
      refine tt_bipush (nI 31) dL_act_229 rfl ?_
      refine tt_goto (tgt := 236) dL_act_231 (by decide) ?_
      refine tt_fSi (c_L_low _ _ (by decide) _) dL_act_236 sL_8 rfl rfl (by decide) ⟨rfl, rfl⟩ (Nat.zero_le _) (Nat.zero_le _) (Nat.le_of_ble_eq_true rfl) ?_
      refine tt_callV (c_X5_growth hC.1 hC.2.1 hw _ _) dL_act_239 vL_36 rfl rfl hT4 (by decide) rfl (by decide) (Nat.le_of_ble_eq_true rfl) (Nat.le_of_ble_eq_true rfl) (Nat.le_of_ble_eq_true rfl) (fun r1 h1 q1 => ?_)
      obtain ⟨rfl, q2⟩ := q1
      exact tt_ireturn dL_act_242 rfl rfl (Nat.le_of_ble_eq_true rfl) (Nat.le_of_ble_eq_true rfl) (by rw [aF_eq hj hb, aG_9]; exact ⟨rfl, q2⟩)
    · refine tt_tableIn (off := 201) (tgt := 243) dL_act_42 (by decide) (by decide) rfl (by decide) ?_
      refine tt_aload_n dL_act_243 rfl ?_
      refine tt_iload_n dL_act_244 rfl ?_
      refine tt_bipush (nI 6) dL_act_245 rfl ?_
      refine tt_fSi (c_L_low _ _ (by decide) _) dL_act_247 sL_8 rfl rfl (by decide) ⟨rfl, rfl⟩ (Nat.zero_le _) (Nat.zero_le _) (Nat.le_of_ble_eq_true rfl) ?_
      refine tt_iload_n dL_act_250 rfl ?_
      refine tt_iconst (nI 3) dL_act_251 rfl ?_
      refine tt_ishr dL_act_252 ?_
      refine tt_iload_n dL_act_253 rfl ?_
      refine tt_if_eq (tgt := 261) dL_act_254 (by decide) (fun q => absurd q (by decide)) (fun _ => ?_)
      refine tt_iconst (nI 5) dL_act_257 rfl ?_
      refine tt_goto (tgt := 263) dL_act_258 (by decide) ?_
      refine tt_fSi (c_L_low _ _ (by decide) _) dL_act_263 sL_8 rfl rfl (by decide) ⟨rfl, rfl⟩ (Nat.zero_le _) (Nat.zero_le _) (Nat.le_of_ble_eq_true rfl) ?_
      refine tt_callV (c_X5_places hC.1 hC.2.1 hw _ _) dL_act_266 vL_39 rfl rfl hT4 (by decide) rfl (by decide) (Nat.le_of_ble_eq_true rfl) (Nat.le_of_ble_eq_true rfl) (Nat.le_of_ble_eq_true rfl) (fun r1 h1 q1 => ?_)
      obtain ⟨rfl, q2⟩ := q1
      exact tt_ireturn dL_act_269 rfl rfl (Nat.le_of_ble_eq_true rfl) (Nat.le_of_ble_eq_true rfl) (by rw [aF_eq hj hb, aG_10]; exact ⟨rfl, q2⟩)
    · refine tt_tableIn (off := 228) (tgt := 270) dL_act_42 (by decide) (by decide) rfl (by decide) ?_
      refine tt_aload_n dL_act_270 rfl ?_
      refine tt_iload_n dL_act_271 rfl ?_
      refine tt_bipush (nI 9) dL_act_272 rfl ?_
      refine tt_fSi (c_L_low _ _ (by decide) _) dL_act_274 sL_8 rfl rfl (by decide) ⟨rfl, rfl⟩ (Nat.zero_le _) (Nat.zero_le _) (Nat.le_of_ble_eq_true rfl) ?_
      refine tt_iload_n dL_act_277 rfl ?_
      refine tt_iconst (nI 4) dL_act_278 rfl ?_
      refine tt_ishr dL_act_279 ?_
      refine tt_iload_n dL_act_280 rfl ?_
      refine tt_if_eq (tgt := 289) dL_act_281 (by decide) (fun q => absurd q (by decide)) (fun _ => ?_)
      refine tt_bipush (nI 10) dL_act_284 rfl ?_
      refine tt_goto (tgt := 291) dL_act_286 (by decide) ?_
      refine tt_fSi (c_L_low _ _ (by decide) _) dL_act_291 sL_8 rfl rfl (by decide) ⟨rfl, rfl⟩ (Nat.zero_le _) (Nat.zero_le _) (Nat.le_of_ble_eq_true rfl) ?_
      refine tt_callV (c_X5_set hC.1 hC.2.1 hw _ _) dL_act_294 vL_42 rfl rfl hT4 (by decide) rfl (by decide) (Nat.le_of_ble_eq_true rfl) (Nat.le_of_ble_eq_true rfl) (Nat.le_of_ble_eq_true rfl) (fun r1 h1 q1 => ?_)
      obtain ⟨rfl, q2⟩ := q1
      exact tt_ireturn dL_act_297 rfl rfl (Nat.le_of_ble_eq_true rfl) (Nat.le_of_ble_eq_true rfl) (by rw [aF_eq hj hb, aG_11]; exact ⟨rfl, q2⟩)
    · refine tt_tableOut (tgt := 298) dL_act_42 (Or.inr (by rw [nI_toInt (by omega)]; omega)) (by decide) ?_
      refine tt_aload_n dL_act_298 rfl ?_
      refine tt_iload_n dL_act_299 rfl ?_
      refine tt_iload_n dL_act_300 rfl ?_
      refine tt_if_eq (tgt := 309) dL_act_301 (by decide) (fun q => absurd q (by decide)) (fun _ => ?_)
      refine tt_bipush (nI 6) dL_act_304 rfl ?_
      refine tt_goto (tgt := 311) dL_act_306 (by decide) ?_
      refine tt_fSi (c_L_low _ _ (by decide) _) dL_act_311 sL_8 rfl rfl (by decide) ⟨rfl, rfl⟩ (Nat.zero_le _) (Nat.zero_le _) (Nat.le_of_ble_eq_true rfl) ?_
      refine tt_callV (c_X5_pass hC.1 hC.2.1 hw _) dL_act_314 vL_45 rfl rfl hT4 (by decide) rfl (by decide) (Nat.le_of_ble_eq_true rfl) (Nat.le_of_ble_eq_true rfl) (Nat.le_of_ble_eq_true rfl) (fun r1 h1 q1 => ?_)
      obtain ⟨rfl, q2⟩ := q1
      exact tt_ireturn dL_act_317 rfl rfl (Nat.le_of_ble_eq_true rfl) (Nat.le_of_ble_eq_true rfl) (by rw [aF_eq hj hb, aG_d _ _ _ _ hj12 hj16]; exact ⟨rfl, q2⟩)
