/-! rows that agree tell the same; the law's areAlike -/
theorem kNum_sim {n : Nat} {a b : Nat → Int32} (h : sim n a b) (v : Int32) : kNum a n v = kNum b n v := by
  have e1 : kTl a = kTl b := by
    unfold kTl
    rw [h 7 (by omega), h 9 (by omega)]
  have e2 : kLo a n = kLo b n := zlp_cong (N := n) n 0 _ (by omega) (fun j y _ hj => by rw [h _ (by omega)])
  have e3 : kCf a n = kCf b n := zlp_cong (N := n) n 0 _ (by omega) (fun j y _ hj => by
    unfold kHo
    rw [h (34 + 10 * j + 1) (by omega), h (34 + 10 * j + 3) (by omega)])
  unfold kNum
  rw [e1, e2, e3, h 8 (by omega), h 33 (by omega), h 134 (by omega), sim_Sum h (show 0 < 3 by omega), sim_Sum h (show 1 < 3 by omega), sim_Sum h (show 2 < 3 by omega)]
  by_cases q : nI 0 ≤ v ∧ v ≤ nI 7
  · obtain ⟨j, hj, rfl⟩ := zrng (by omega) q
    rw [if_pos q, if_pos q, nI_clamp (by omega), h j (by omega)]
  · rw [if_neg q, if_neg q]
theorem kTe_sim {n : Nat} {a b : Nat → Int32} (h : sim n a b) (hw : sWF b n) {j : Nat} (hj : j < n) (w : Int32) : kTe a j w (a 8) = kTe b j w (b 8) := (rd_Te h hw hj w).trans (rd_Te (sim_refl n b) hw hj w).symm
theorem kCus_sim {n : Nat} {a b : Nat → Int32} (h : sim n a b) (v w : Int32) : kCus a n v w = kCus b n v w := (rd_Cus h v w).trans (rd_Cus (sim_refl n b) v w).symm
theorem kStr_sim {n B : Nat} {a b : Nat → Int32} (h : sim n a b) (hb : zIv b n B) (v w : Int32) : kStr a n v w = kStr b n v w := (rd_Str h hb v w).trans (rd_Str (sim_refl n b) hb v w).symm
theorem kDe_sim {n : Nat} {a b : Nat → Int32} (h : sim n a b) (hw : sWF b n) : (if a 33 = 0 then (-6 : Int32) else nI (kDe a n)) = (if b 33 = 0 then (-6 : Int32) else nI (kDe b n)) := (rd_De h hw).trans (rd_De (sim_refl n b) hw).symm
theorem nIE {a b : Nat} (h : a = b) : nI a = nI b := congrArg nI h
theorem nI7_ne {k m : Nat} (hk : k < 17) (h1 : 17 ≤ m) (h2 : m < 2 ^ 31) : ¬ nI k = nI m := fun z => by
  have := (nI_eqI (by omega) (by omega)).mp z
  omega
set_option maxRecDepth 100000 in
set_option maxHeartbeats 4000000 in
theorem c_L_areAlike {h : zhp} {S S2 : Nat → Nat → Int32} {P PI P2 PI2 : Nat → Nat → Nat} {o c o2 c2 : Nat} (hT : TW h S P PI o c S2 P2 PI2 o2 c2) {n B : Nat} (hs : sim n (S 0) (S2 0)) (hb : zIv (S2 0) n B) : MM iL_areAlike [.ref 4, .ref 181] h (zfi (nI 1) h) := by
  obtain ⟨hr, hC, hC2⟩ := hT
  have hw : sWF (S 0) n := sim_WF hs hb.1
  have hn := hw.1
  have hT4 : zT h 4 = 5 := hC.1.1.2.2.1.1
  have hT181 : zT h 181 = 5 := hC2.1.1.2.2.1.1
  refine MM_of (by decide +kernel) (Nat.le_of_ble_eq_true rfl) ?_
  refine tt_aload_n dL_areAlike_0 rfl ?_
  refine tt_fVi (c_X5_dearest hC.1 hw) dL_areAlike_1 vL_48 rfl rfl hT4 (by decide) rfl (by decide) ⟨rfl, rfl⟩ (Nat.zero_le _) (Nat.zero_le _) (Nat.le_of_ble_eq_true rfl) ?_
  refine tt_aload_n dL_areAlike_4 rfl ?_
  refine tt_fVi (MM_upf hr rfl (c_X5_dearest hC2.1 hb.1)) dL_areAlike_5 vL_48 rfl rfl hT181 (by decide) rfl (by decide) ⟨rfl, rfl⟩ (Nat.zero_le _) (Nat.zero_le _) (Nat.le_of_ble_eq_true rfl) ?_
  refine tt_icmp_ne (tgt := 15) dL_areAlike_8 (by decide) (fun q => absurd (kDe_sim hs hb.1) q) (fun _ => ?_)
  refine tt_iconst (nI 1) dL_areAlike_11 rfl ?_
  refine tt_goto (tgt := 16) dL_areAlike_12 (by decide) ?_
  refine tt_istore_n dL_areAlike_16 rfl (Nat.le_of_ble_eq_true rfl) rfl ?_
  refine tt_iconst (nI 0) dL_areAlike_17 rfl ?_
  refine tt_istore_n dL_areAlike_18 rfl (Nat.le_of_ble_eq_true rfl) rfl ?_
  refine tt_loop (fun _ (x : Unit) => x) 17 (fun _ _ => True) (fun k _ => [some (.ref 4), some (.ref 181), some (.int (nI 1)), some (.int (nI k))]) (fun _ _ => h) () trivial (fun _ _ _ _ => trivial) (fun _ => ?_) (fun k _ hk _ ih => ?_)
  · refine tt_iload_n dL_areAlike_19 rfl ?_
    refine tt_bipush (nI 17) dL_areAlike_20 rfl ?_
    refine tt_icmp_geN (tgt := 54) dL_areAlike_22 (by decide) (by omega) (by omega) (fun _ => ?_) (fun q => absurd q (Nat.lt_irrefl _))
    refine tt_iconst (nI 0) dL_areAlike_54 rfl ?_
    refine tt_istore_n dL_areAlike_55 rfl (Nat.le_of_ble_eq_true rfl) rfl ?_
    refine tt_loop (fun _ (x : Unit) => x) (11 * n) (fun _ _ => True) (fun k _ => [some (.ref 4), some (.ref 181), some (.int (nI 1)), some (.int (nI k))]) (fun _ _ => h) () trivial (fun _ _ _ _ => trivial) (fun _ => ?_) (fun k _ hk _ ih => ?_)
    · refine tt_iload_n dL_areAlike_56 rfl ?_
      refine tt_bipush (nI 11) dL_areAlike_57 rfl ?_
      refine tt_aload_n dL_areAlike_59 rfl ?_
      refine tt_bipush (nI 9) dL_areAlike_60 rfl ?_
      refine tt_fVi (r_cnt hC hw (by decide) (by decide) ((kNum_9 _ _).trans hw.2.1)) dL_areAlike_62 vL_14 rfl rfl hT4 (by decide) rfl (by decide) ⟨rfl, rfl⟩ (Nat.zero_le _) (Nat.zero_le _) (Nat.le_of_ble_eq_true rfl) ?_
      refine tt_imulN dL_areAlike_65 ?_
      refine tt_icmp_geN (tgt := 112) dL_areAlike_66 (by decide) (by omega) (by omega) (fun _ => ?_) (fun q => absurd q (Nat.lt_irrefl _))
      refine tt_iconst (nI 0) dL_areAlike_112 rfl ?_
      refine tt_istore_n dL_areAlike_113 rfl (Nat.le_of_ble_eq_true rfl) rfl ?_
      refine tt_loop (fun _ (x : Unit) => x) 24 (fun _ _ => True) (fun k _ => [some (.ref 4), some (.ref 181), some (.int (nI 1)), some (.int (nI k))]) (fun _ _ => h) () trivial (fun _ _ _ _ => trivial) (fun _ => ?_) (fun k _ hk _ ih => ?_)
      · refine tt_iload_n dL_areAlike_114 rfl ?_
        refine tt_bipush (nI 24) dL_areAlike_115 rfl ?_
        refine tt_icmp_geN (tgt := 182) dL_areAlike_117 (by decide) (by omega) (by omega) (fun _ => ?_) (fun q => absurd q (Nat.lt_irrefl _))
        refine tt_iload_n dL_areAlike_182 rfl ?_
        exact tt_ireturn dL_areAlike_183 rfl rfl (Nat.zero_le _) (Nat.zero_le _) ⟨rfl, rfl⟩
      · refine tt_iload_n dL_areAlike_114 rfl ?_
        refine tt_bipush (nI 24) dL_areAlike_115 rfl ?_
        refine tt_icmp_geN (tgt := 182) dL_areAlike_117 (by decide) (by omega) (by omega) (fun q => absurd q (by omega)) (fun _ => ?_)
        refine tt_iload_n dL_areAlike_120 rfl ?_
        refine tt_if_eq (tgt := 174) dL_areAlike_121 (by decide) (fun q => absurd q (by decide)) (fun _ => ?_)
        refine tt_aload_n dL_areAlike_124 rfl ?_
        refine tt_iload_n dL_areAlike_125 rfl ?_
        refine tt_iconst (nI 4) dL_areAlike_126 rfl ?_
        refine tt_idiv dL_areAlike_127 (by decide) ?_
        refine tt_eq (pk_div (by omega) (by omega) (by omega)) ?_
        refine tt_iload_n dL_areAlike_128 rfl ?_
        refine tt_iconst (nI 4) dL_areAlike_129 rfl ?_
        refine tt_irem dL_areAlike_130 (by decide) ?_
        refine tt_eq (pk_rem (by omega) (by omega) (by omega)) ?_
        refine tt_fVi (c_X5_customer hC.1 hw (nI (k / 4)) (nI (k % 4))) dL_areAlike_131 vL_55 rfl rfl hT4 (by decide) rfl (by decide) ⟨rfl, rfl⟩ (Nat.zero_le _) (Nat.zero_le _) (Nat.le_of_ble_eq_true rfl) ?_
        refine tt_aload_n dL_areAlike_134 rfl ?_
        refine tt_iload_n dL_areAlike_135 rfl ?_
        refine tt_iconst (nI 4) dL_areAlike_136 rfl ?_
        refine tt_idiv dL_areAlike_137 (by decide) ?_
        refine tt_eq (pk_div (by omega) (by omega) (by omega)) ?_
        refine tt_iload_n dL_areAlike_138 rfl ?_
        refine tt_iconst (nI 4) dL_areAlike_139 rfl ?_
        refine tt_irem dL_areAlike_140 (by decide) ?_
        refine tt_eq (pk_rem (by omega) (by omega) (by omega)) ?_
        refine tt_fVi (MM_upf hr rfl (c_X5_customer hC2.1 hb.1 (nI (k / 4)) (nI (k % 4)))) dL_areAlike_141 vL_55 rfl rfl hT181 (by decide) rfl (by decide) ⟨rfl, rfl⟩ (Nat.zero_le _) (Nat.zero_le _) (Nat.le_of_ble_eq_true rfl) ?_
        refine tt_icmp_ne (tgt := 174) dL_areAlike_144 (by decide) (fun q => absurd (kCus_sim hs _ _) q) (fun _ => ?_)
        refine tt_aload_n dL_areAlike_147 rfl ?_
        refine tt_iload_n dL_areAlike_148 rfl ?_
        refine tt_iconst (nI 5) dL_areAlike_149 rfl ?_
        refine tt_irem dL_areAlike_150 (by decide) ?_
        refine tt_eq (pk_rem (by omega) (by omega) (by omega)) ?_
        refine tt_iload_n dL_areAlike_151 rfl ?_
        refine tt_iconst (nI 3) dL_areAlike_152 rfl ?_
        refine tt_irem dL_areAlike_153 (by decide) ?_
        refine tt_eq (pk_rem (by omega) (by omega) (by omega)) ?_
        refine tt_fVi (c_X5_street hC.1 hw (nI (k % 5)) (nI (k % 3))) dL_areAlike_154 vL_58 rfl rfl hT4 (by decide) rfl (by decide) ⟨rfl, rfl⟩ (Nat.zero_le _) (Nat.zero_le _) (Nat.le_of_ble_eq_true rfl) ?_
        refine tt_aload_n dL_areAlike_157 rfl ?_
        refine tt_iload_n dL_areAlike_158 rfl ?_
        refine tt_iconst (nI 5) dL_areAlike_159 rfl ?_
        refine tt_irem dL_areAlike_160 (by decide) ?_
        refine tt_eq (pk_rem (by omega) (by omega) (by omega)) ?_
        refine tt_iload_n dL_areAlike_161 rfl ?_
        refine tt_iconst (nI 3) dL_areAlike_162 rfl ?_
        refine tt_irem dL_areAlike_163 (by decide) ?_
        refine tt_eq (pk_rem (by omega) (by omega) (by omega)) ?_
        refine tt_fVi (MM_upf hr rfl (c_X5_street hC2.1 hb.1 (nI (k % 5)) (nI (k % 3)))) dL_areAlike_164 vL_58 rfl rfl hT181 (by decide) rfl (by decide) ⟨rfl, rfl⟩ (Nat.zero_le _) (Nat.zero_le _) (Nat.le_of_ble_eq_true rfl) ?_
        refine tt_icmp_ne (tgt := 174) dL_areAlike_167 (by decide) (fun q => absurd (kStr_sim hs hb _ _) q) (fun _ => ?_)
        refine tt_iconst (nI 1) dL_areAlike_170 rfl ?_
        refine tt_goto (tgt := 175) dL_areAlike_171 (by decide) ?_
        refine tt_istore_n dL_areAlike_175 rfl (Nat.le_of_ble_eq_true rfl) rfl ?_
        refine tt_iincN dL_areAlike_176 rfl rfl (Nat.le_of_ble_eq_true rfl) rfl ?_
        refine tt_goto (tgt := 114) dL_areAlike_179 (by decide) ?_
        exact ih
    · refine tt_iload_n dL_areAlike_56 rfl ?_
      refine tt_bipush (nI 11) dL_areAlike_57 rfl ?_
      refine tt_aload_n dL_areAlike_59 rfl ?_
      refine tt_bipush (nI 9) dL_areAlike_60 rfl ?_
      refine tt_fVi (r_cnt hC hw (by decide) (by decide) ((kNum_9 _ _).trans hw.2.1)) dL_areAlike_62 vL_14 rfl rfl hT4 (by decide) rfl (by decide) ⟨rfl, rfl⟩ (Nat.zero_le _) (Nat.zero_le _) (Nat.le_of_ble_eq_true rfl) ?_
      refine tt_imulN dL_areAlike_65 ?_
      refine tt_icmp_geN (tgt := 112) dL_areAlike_66 (by decide) (by omega) (by omega) (fun q => absurd q (by omega)) (fun _ => ?_)
      refine tt_iload_n dL_areAlike_69 rfl ?_
      refine tt_if_eq (tgt := 104) dL_areAlike_70 (by decide) (fun q => absurd q (by decide)) (fun _ => ?_)
      refine tt_aload_n dL_areAlike_73 rfl ?_
      refine tt_iload_n dL_areAlike_74 rfl ?_
      refine tt_bipush (nI 11) dL_areAlike_75 rfl ?_
      refine tt_idiv dL_areAlike_77 (by decide) ?_
      refine tt_eq (pk_div (by omega) (by omega) (by omega)) ?_
      refine tt_iload_n dL_areAlike_78 rfl ?_
      refine tt_bipush (nI 11) dL_areAlike_79 rfl ?_
      refine tt_irem dL_areAlike_81 (by decide) ?_
      refine tt_eq (pk_rem (by omega) (by omega) (by omega)) ?_
      refine tt_fVi (c_X5_skip_y hC.1 hw (k / 11) (by omega) (nI (k % 11))) dL_areAlike_82 vL_52 rfl rfl hT4 (by decide) rfl (by decide) ⟨rfl, rfl⟩ (Nat.zero_le _) (Nat.zero_le _) (Nat.le_of_ble_eq_true rfl) ?_
      refine tt_aload_n dL_areAlike_85 rfl ?_
      refine tt_iload_n dL_areAlike_86 rfl ?_
      refine tt_bipush (nI 11) dL_areAlike_87 rfl ?_
      refine tt_idiv dL_areAlike_89 (by decide) ?_
      refine tt_eq (pk_div (by omega) (by omega) (by omega)) ?_
      refine tt_iload_n dL_areAlike_90 rfl ?_
      refine tt_bipush (nI 11) dL_areAlike_91 rfl ?_
      refine tt_irem dL_areAlike_93 (by decide) ?_
      refine tt_eq (pk_rem (by omega) (by omega) (by omega)) ?_
      refine tt_fVi (MM_upf hr rfl (c_X5_skip_y hC2.1 hb.1 (k / 11) (by omega) (nI (k % 11)))) dL_areAlike_94 vL_52 rfl rfl hT181 (by decide) rfl (by decide) ⟨rfl, rfl⟩ (Nat.zero_le _) (Nat.zero_le _) (Nat.le_of_ble_eq_true rfl) ?_
      refine tt_icmp_ne (tgt := 104) dL_areAlike_97 (by decide) (fun q => absurd (kTe_sim hs hb.1 (show k / 11 < n by omega) _) q) (fun _ => ?_)
      refine tt_iconst (nI 1) dL_areAlike_100 rfl ?_
      refine tt_goto (tgt := 105) dL_areAlike_101 (by decide) ?_
      refine tt_istore_n dL_areAlike_105 rfl (Nat.le_of_ble_eq_true rfl) rfl ?_
      refine tt_iincN dL_areAlike_106 rfl rfl (Nat.le_of_ble_eq_true rfl) rfl ?_
      refine tt_goto (tgt := 56) dL_areAlike_109 (by decide) ?_
      exact ih
  · refine tt_iload_n dL_areAlike_19 rfl ?_
    refine tt_bipush (nI 17) dL_areAlike_20 rfl ?_
    refine tt_icmp_geN (tgt := 54) dL_areAlike_22 (by decide) (by omega) (by omega) (fun q => absurd q (by omega)) (fun _ => ?_)
    refine tt_iload_n dL_areAlike_25 rfl ?_
    refine tt_if_eq (tgt := 46) dL_areAlike_26 (by decide) (fun q => absurd q (by decide)) (fun _ => ?_)
    refine tt_aload_n dL_areAlike_29 rfl ?_
    refine tt_iload_n dL_areAlike_30 rfl ?_
    refine tt_fVi (r_cnt hC hw (nI7_ne hk (by omega) (by omega)) (nI7_ne hk (by omega) (by omega)) rfl) dL_areAlike_31 vL_14 rfl rfl hT4 (by decide) rfl (by decide) ⟨rfl, rfl⟩ (Nat.zero_le _) (Nat.zero_le _) (Nat.le_of_ble_eq_true rfl) ?_
    refine tt_aload_n dL_areAlike_34 rfl ?_
    refine tt_iload_n dL_areAlike_35 rfl ?_
    refine tt_fVi (MM_upf hr rfl (r_cnt hC2 hb.1 (nI7_ne hk (by omega) (by omega)) (nI7_ne hk (by omega) (by omega)) rfl)) dL_areAlike_36 vL_14 rfl rfl hT181 (by decide) rfl (by decide) ⟨rfl, rfl⟩ (Nat.zero_le _) (Nat.zero_le _) (Nat.le_of_ble_eq_true rfl) ?_
    refine tt_icmp_ne (tgt := 46) dL_areAlike_39 (by decide) (fun q => absurd (kNum_sim hs _) q) (fun _ => ?_)
    refine tt_iconst (nI 1) dL_areAlike_42 rfl ?_
    refine tt_goto (tgt := 47) dL_areAlike_43 (by decide) ?_
    refine tt_istore_n dL_areAlike_47 rfl (Nat.le_of_ble_eq_true rfl) rfl ?_
    refine tt_iincN dL_areAlike_48 rfl rfl (Nat.le_of_ble_eq_true rfl) rfl ?_
    refine tt_goto (tgt := 19) dL_areAlike_51 (by decide) ?_
    exact ih
