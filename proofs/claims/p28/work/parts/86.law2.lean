/-! the law's acts, one after the other -/
set_option maxRecDepth 100000 in
set_option maxHeartbeats 4000000 in
theorem lw_149 {h : zhp} {N : Nat} {X : Nat → Int32} {e cc sc : Nat} (hcc : cc ≤ mA iL_law) (hsc : sc ≤ mS iL_law) (he : e < 48) {S : Nat → Nat → Int32} {P PI : Nat → Nat → Nat} {o c : Nat} {S2 : Nat → Nat → Int32} {P2 PI2 : Nat → Nat → Nat} {o2 c2 : Nat} (hX : zSc h N X) (hW : TW h S P PI o c S2 P2 PI2 o2 c2) {n n2 B0 B : Nat} {v : Int32} (hb : zIv (S2 0) n B0) (b1 : 9999 ≤ B0) (b2 : B0 ≤ 9999 + 99 * e) (b3 : B ≤ 600000 * e) (b4 : tn (S2 0 8) ≤ 99 * e) (hs : sim n2 (S 0) (aF v (S2 0) n).2) (hi : zIv (aF v (S2 0) n).2 n2 (B0 + 99)) (hj : zJ (aF v (S2 0) n).2 n2 (B + 600000)) (a5 a7 : Option Value) (K : ∀ (h2 : zhp) (a4 a5 a6 a7 : Option Value), LW h2 N X (e + 1) → TT iL_law 248 [some (.ref 3), some (.ref 4), some (.ref 181), some (.int (nI e)), a4, a5, a6, a7] [] h2 cc sc lwQ) : TT iL_law 149 [some (.ref 3), some (.ref 4), some (.ref 181), some (.int (nI e)), some (.int v), a5, some (.int (aF v (S2 0) n).1), a7] [] h cc sc lwQ := by
  refine tt_aload_n dL_law_149 rfl ?_
  refine tt_iload dL_law_150 rfl ?_
  refine tt_gS (c_L_actp hW.1 hW.2.2 hb.1 v) dL_law_152 sL_82 rfl rfl (by decide) ⟨rfl, rfl⟩ hcc hsc (Nat.le_of_ble_eq_true rfl) (fun r1 h1 q1 => ?_)
  obtain ⟨rfl, x, q2, rfl⟩ := q1
  have fx := zFx_cQ q2
  obtain ⟨-, ⟨P1, PI1, hC1⟩, -⟩ := CI_cQ hW.2.2 q2
  have hX1 := hX.mg hW.1 fx
  have hW1 := hW.p fx hC1
  obtain ⟨S1, hS1⟩ : ∃ S1, S1 = uS S2 n o2 c2 (aF v (S2 0) n).2 := ⟨_, rfl⟩
  rw [← hS1] at hW1
  have e0 : S1 0 = (aF v (S2 0) n).2 := by rw [hS1, uS_0]
  have h8 := AE_aF v (S2 0) n B0 hb
  rw [← e0] at hs hi hj h8
  have hT4 : zT (zmg h x) 4 = 5 := hW1.2.1.1.1.2.2.1.1
  have hIo := zIv_sim hs hi
  have hJo := zJ_sim hs hj
  have hto : tn (S 0 8) < 9999 := by
    rw [hs 8 (by omega)]
    omega
  refine tt_iload dL_law_155 rfl ?_
  refine tt_icmp_ne (tgt := 168) dL_law_157 (by decide) (fun q => absurd rfl q) (fun _ => ?_)
  refine tt_aload_n dL_law_160 rfl ?_
  refine tt_aload_n dL_law_161 rfl ?_
  refine tt_fSi (c_L_areAlike hW1 hs hi) dL_law_162 sL_86 rfl rfl (by decide) ⟨rfl, rfl⟩ hcc hsc (Nat.le_of_ble_eq_true rfl) ?_
  refine tt_if_ne (tgt := 170) dL_law_165 (by decide) (fun _ => ?_) (fun q => absurd q (by decide))
  refine tt_iload_n dL_law_170 rfl ?_
  refine tt_iconst (nI 3) dL_law_171 rfl ?_
  refine tt_irem dL_law_172 (by decide) ?_
  refine tt_eq (pk_rem (by omega) (by omega) (by omega)) ?_
  refine tt_iconst (nI 2) dL_law_173 rfl ?_
  refine tt_icmp_ne (tgt := 248) dL_law_174 (by decide) (fun q174 => ?_) (fun q174 => ?_)
  · exact K _ _ _ _ _ ⟨hX1, S, P, PI, o, c, S1, P1, PI1, _, _, n2, B0 + 99, B + 600000, hW1, hs, hi, hj, by omega, by omega, by omega, by omega⟩
  · refine tt_aload_n dL_law_177 rfl ?_
    refine tt_fSi (c_L_areSums hW1.2.1 hIo hJo (by omega)) dL_law_178 sL_90 rfl rfl (by decide) ⟨rfl, rfl⟩ hcc hsc (Nat.le_of_ble_eq_true rfl) ?_
    refine tt_if_eq (tgt := 246) dL_law_181 (by decide) (fun q => absurd q (by decide)) (fun _ => ?_)
    refine tt_aload_n dL_law_184 rfl ?_
    refine tt_bipush (nI 9) dL_law_185 rfl ?_
    refine tt_fVi (r_cnt hW1.2.1 hIo.1 (by decide) (by decide) ((kNum_9 _ _).trans hIo.1.2.1)) dL_law_187 vL_14 rfl rfl hT4 (by decide) rfl (by decide) ⟨rfl, rfl⟩ hcc hsc (Nat.le_of_ble_eq_true rfl) ?_
    refine tt_if_le (tgt := 248) dL_law_190 (by decide) (fun q190 => ?_) (fun q190 => ?_)
    · exact K _ _ _ _ _ ⟨hX1, S, P, PI, o, c, S1, P1, PI1, _, _, n2, B0 + 99, B + 600000, hW1, hs, hi, hj, by omega, by omega, by omega, by omega⟩
    · have hn2 : 0 < n2 := Nat.pos_of_ne_zero (fun z => q190 (by rw [z]; decide))
      have hn10 := hIo.1.1
      have hne : ¬ nI n2 = 0 := fun z => by
        have := znz z (by omega)
        omega
      obtain ⟨j1, hj1, ej1⟩ := lo_N (v >>> (nI 5 &&& 31)) (m := n2) hn2 (by omega)
      obtain ⟨j2, hj2, ej2⟩ := lo_N (v >>> (nI 6 &&& 31)) (m := n2) hn2 (by omega)
      obtain ⟨j3, hj3, ej3⟩ := lo_N (v >>> (nI 8 &&& 31)) (m := 40) (by omega) (by omega)
      refine tt_aload_n dL_law_193 rfl ?_
      refine tt_iload dL_law_194 rfl ?_
      refine tt_iconst (nI 5) dL_law_196 rfl ?_
      refine tt_ishr dL_law_197 ?_
      refine tt_aload_n dL_law_198 rfl ?_
      refine tt_bipush (nI 9) dL_law_199 rfl ?_
      refine tt_fVi (r_cnt hW1.2.1 hIo.1 (by decide) (by decide) ((kNum_9 _ _).trans hIo.1.2.1)) dL_law_201 vL_14 rfl rfl hT4 (by decide) rfl (by decide) ⟨rfl, rfl⟩ hcc hsc (Nat.le_of_ble_eq_true rfl) ?_
      refine tt_fSi (c_L_low _ _ hne _) dL_law_204 sL_8 rfl rfl (by decide) ⟨rfl, rfl⟩ hcc hsc (Nat.le_of_ble_eq_true rfl) ?_
      refine tt_eq ej1 ?_
      refine tt_gS (c_L_isDaySo hW1.2.1 hIo hJo (by omega) hto hj1) dL_law_207 sL_94 rfl rfl (by decide) ⟨rfl, rfl⟩ hcc hsc (Nat.le_of_ble_eq_true rfl) (fun r2 h3 q3 => ?_)
      obtain ⟨rfl, fx3, S3, P3, PI3, o3, c3, hC3, hs3⟩ := q3
      have hX3 := hX1.fx fx3
      have hW3 := hW1.o fx3 hC3
      have hT4 : zT h3 4 = 5 := hC3.1.1.2.2.1.1
      have hI3 := zIv_sim hs3 hIo
      have hJ3 := zJ_sim hs3 hJo
      refine tt_if_eq (tgt := 246) dL_law_210 (by decide) (fun q => absurd q (by decide)) (fun _ => ?_)
      refine tt_aload_n dL_law_213 rfl ?_
      refine tt_iload dL_law_214 rfl ?_
      refine tt_bipush (nI 6) dL_law_216 rfl ?_
      refine tt_ishr dL_law_218 ?_
      refine tt_aload_n dL_law_219 rfl ?_
      refine tt_bipush (nI 9) dL_law_220 rfl ?_
      refine tt_fVi (r_cnt hC3 hI3.1 (by decide) (by decide) ((kNum_9 _ _).trans hI3.1.2.1)) dL_law_222 vL_14 rfl rfl hT4 (by decide) rfl (by decide) ⟨rfl, rfl⟩ hcc hsc (Nat.le_of_ble_eq_true rfl) ?_
      refine tt_fSi (c_L_low _ _ hne _) dL_law_225 sL_8 rfl rfl (by decide) ⟨rfl, rfl⟩ hcc hsc (Nat.le_of_ble_eq_true rfl) ?_
      refine tt_eq ej2 ?_
      refine tt_iconst (nI 1) dL_law_228 rfl ?_
      refine tt_iload dL_law_229 rfl ?_
      refine tt_bipush (nI 8) dL_law_231 rfl ?_
      refine tt_ishr dL_law_233 ?_
      refine tt_bipush (nI 40) dL_law_234 rfl ?_
      refine tt_fSi (c_L_low _ _ (by decide) _) dL_law_236 sL_8 rfl rfl (by decide) ⟨rfl, rfl⟩ hcc hsc (Nat.le_of_ble_eq_true rfl) ?_
      refine tt_eq ej3 ?_
      refine tt_iaddN dL_law_239 ?_
      refine tt_fSi (c_L_isSwapSo hC3 hI3 hJ3 (by omega) hj2 (by omega) (by omega)) dL_law_240 sL_98 rfl rfl (by decide) ⟨rfl, rfl⟩ hcc hsc (Nat.le_of_ble_eq_true rfl) ?_
      refine tt_if_ne (tgt := 248) dL_law_243 (by decide) (fun _ => ?_) (fun q => absurd q (by decide))
      exact K _ _ _ _ _ ⟨hX3, S3, P3, PI3, o3, c3, S1, P1, PI1, _, _, n2, B0 + 99, B + 600000, hW3, sim_tr hs3 hs, hi, hj, by omega, by omega, by omega, by omega⟩
set_option maxRecDepth 100000 in
set_option maxHeartbeats 4000000 in
theorem lw_body {h : zhp} {N : Nat} {X : Nat → Int32} (hN : N ≤ 260) {e cc sc : Nat} (hcc : cc ≤ mA iL_law) (hsc : sc ≤ mS iL_law) (he : e < 48) (hL : LW h N X e) (a4 a5 a6 a7 : Option Value) (K : ∀ (h2 : zhp) (a4 a5 a6 a7 : Option Value), LW h2 N X (e + 1) → TT iL_law 248 [some (.ref 3), some (.ref 4), some (.ref 181), some (.int (nI e)), a4, a5, a6, a7] [] h2 cc sc lwQ) : TT iL_law 18 [some (.ref 3), some (.ref 4), some (.ref 181), some (.int (nI e)), a4, a5, a6, a7] [] h cc sc lwQ := by
  obtain ⟨hX, S, P, PI, o, c, S2, P2, PI2, o2, c2, n, B0, B, hW, hs, hb, hjb, b1, b2, b3, b4⟩ := hL
  have hw := sim_WF hs hb.1
  have hT4 : zT h 4 = 5 := hW.2.1.1.1.2.2.1.1
  have hc6 : c ≤ 6 := hW.2.1.2.1.2.2.2
  refine tt_iload_n dL_law_18 rfl ?_
  refine tt_bipush (nI 48) dL_law_19 rfl ?_
  refine tt_icmp_geN (tgt := 254) dL_law_21 (by decide) (by omega) (by omega) (fun q => absurd q (by omega)) (fun _ => ?_)
  refine tt_iload_n dL_law_24 rfl ?_
  refine tt_iconst (nI 2) dL_law_25 rfl ?_
  refine tt_c2 (tgt := 45) (x := lv N X e) ?_ (fun key_45 => ?_)
  · refine tt_istore (L1 := [_, _, _, _, _, _, _, _]) dL_law_45 rfl (Nat.le_of_ble_eq_true rfl) rfl ?_
    generalize lv N X e = v
    refine tt_aload_n dL_law_47 rfl ?_
    refine tt_bipush (nI 18) dL_law_48 rfl ?_
    refine tt_fVi (r_cnt18 hW.2.1 hw) dL_law_50 vL_14 rfl rfl hT4 (by decide) rfl (by decide) ⟨rfl, rfl⟩ hcc hsc (Nat.le_of_ble_eq_true rfl) ?_
    refine tt_istore (L1 := [_, _, _, _, _, _, _, _]) dL_law_53 rfl (Nat.le_of_ble_eq_true rfl) rfl ?_
    refine tt_aload_n dL_law_55 rfl ?_
    refine tt_iload dL_law_56 rfl ?_
    refine tt_gS (c_L_act hW.2.1 hw v) dL_law_58 sL_82 rfl rfl (by decide) ⟨rfl, rfl⟩ hcc hsc (Nat.le_of_ble_eq_true rfl) (fun r1 h1 q1 => ?_)
    have fx1 := zFx_cQ q1
    obtain ⟨rfl, ⟨P1, PI1, hCu⟩, -⟩ := CI_cQ hW.2.1 q1
    obtain ⟨eA, rf1, n2, hs2, hi2, hj2⟩ := AP_aF v (S 0) (S2 0) n B0 B hs hb hjb b1 (by omega) (by omega)
    rw [eA] at hCu
    refine tt_eq eA ?_
    have hX1 := hX.fx fx1
    have hW1 := hW.o fx1 hCu
    have e0 : uS S n o c (aF v (S 0) n).2 0 = (aF v (S 0) n).2 := uS_0
    have hT4 : zT h1 4 = 5 := hW1.2.1.1.1.2.2.1.1
    refine tt_istore (L1 := [_, _, _, _, _, _, _, _]) dL_law_61 rfl (Nat.le_of_ble_eq_true rfl) rfl ?_
    refine tt_iload dL_law_63 rfl ?_
    refine tt_if_ge (tgt := 89) dL_law_65 (by decide) (fun q65 => ?_) (fun q65 => ?_)
    · refine tt_iload dL_law_89 rfl ?_
      refine tt_if_lt (tgt := 149) dL_law_91 (by decide) (fun q => absurd q (Int32.not_lt.mpr q65)) (fun _ => ?_)
      refine tt_iload dL_law_94 rfl ?_
      refine tt_bipush (nI 9) dL_law_96 rfl ?_
      refine tt_ishr dL_law_98 ?_
      refine tt_iconst (nI 1) dL_law_99 rfl ?_
      refine tt_iand dL_law_100 ?_
      refine tt_if_ne (tgt := 149) dL_law_101 (by decide) (fun q101 => ?_) (fun q101 => ?_)
      · exact lw_149 hcc hsc he hX1 hW1 hb b1 b2 b3 b4 (by rw [e0]; exact hs2) hi2 hj2 _ _ K
      · refine tt_aload_n dL_law_104 rfl ?_
        refine tt_gV (r_undo hCu (Int32.not_lt.mpr q65) hW.2.1.2.1.2.2 hw) dL_law_105 vL_70 rfl rfl hT4 (by decide) rfl (by decide) ⟨rfl, rfl⟩ hcc hsc (Nat.le_of_ble_eq_true rfl) (fun r2 h2 q2 => ?_)
        obtain ⟨rfl, fx2, S3, P3, PI3, o3, c3, hC3, hs3⟩ := q2
        have hX3 := hX1.fx fx2
        have hW3 := hW1.o fx2 hC3
        have hs3' : sim n (S3 0) (S2 0) := sim_tr hs3 hs
        have hw3 := sim_WF hs3' hb.1
        obtain ⟨eA3, rf3, n3, hs4, hi4, hj4⟩ := AP_aF v (S3 0) (S2 0) n B0 B hs3' hb hjb b1 (by omega) (by omega)
        have e04 : uS S3 n o3 c3 (aF v (S3 0) n).2 0 = (aF v (S3 0) n).2 := uS_0
        refine tt_eq (nIE (hC_left (Int32.not_lt.mpr q65) hW.2.1.2.1.2.2.2)) ?_
        refine tt_istore (L1 := [_, _, _, _, _, _, _, _]) dL_law_108 rfl (Nat.le_of_ble_eq_true rfl) rfl ?_
        refine tt_iload dL_law_110 rfl ?_
        refine tt_iload dL_law_112 rfl ?_
        refine tt_bipush (nI 6) dL_law_114 rfl ?_
        refine tt_c2 (tgt := 125) (x := nI (if c = 6 then 5 else c)) ?_ (fun key_125 => ?_)
        · refine tt_icmp_ne (tgt := 147) dL_law_125 (by decide) (fun q => absurd rfl q) (fun _ => ?_)
          refine tt_aload_n dL_law_128 rfl ?_
          refine tt_aload_n dL_law_129 rfl ?_
          refine tt_fSi (c_L_areAlike hW3 hs3' hb) dL_law_130 sL_86 rfl rfl (by decide) ⟨rfl, rfl⟩ hcc hsc (Nat.le_of_ble_eq_true rfl) ?_
          refine tt_if_eq (tgt := 147) dL_law_133 (by decide) (fun q => absurd q (by decide)) (fun _ => ?_)
          refine tt_aload_n dL_law_136 rfl ?_
          refine tt_iload dL_law_137 rfl ?_
          refine tt_gS (c_L_act hC3 hw3 v) dL_law_139 sL_82 rfl rfl (by decide) ⟨rfl, rfl⟩ hcc hsc (Nat.le_of_ble_eq_true rfl) (fun r4 h4 q4 => ?_)
          have fx4 := zFx_cQ q4
          obtain ⟨rfl, ⟨P4, PI4, hC4⟩, -⟩ := CI_cQ hC3 q4
          have hX4 := hX3.fx fx4
          have hW4 := hW3.o fx4 hC4
          refine tt_eq eA3 ?_
          refine tt_iload dL_law_142 rfl ?_
          refine tt_icmp_eq (tgt := 149) dL_law_144 (by decide) (fun _ => ?_) (fun q => absurd rfl q)
          exact lw_149 hcc hsc he hX4 hW4 hb b1 b2 b3 b4 (by rw [e04]; exact hs4) hi4 hj4 _ _ K
        · refine tt_icmp_ne (tgt := 123) dL_law_116 (by decide) (fun q116 => ?_) (fun q116 => ?_)
          · refine tt_iload dL_law_123 rfl ?_
            exact key_125 _ (by first | (rw [if_neg (fun z => q116 (nIE z))]) | (rw [if_pos ((nI_eqI (by omega) (by omega)).mp q116)]))
          · refine tt_iconst (nI 5) dL_law_119 rfl ?_
            refine tt_goto (tgt := 125) dL_law_120 (by decide) ?_
            exact key_125 _ (by first | (rw [if_neg (fun z => q116 (nIE z))]) | (rw [if_pos ((nI_eqI (by omega) (by omega)).mp q116)]))
    · have hneg : (aF v (S2 0) n).1 < 0 := Int32.not_le.mp q65
      have hsn : sim n (uS S n o c (aF v (S 0) n).2 0) (S2 0) := by
        rw [e0, (rf1 hneg).1]
        exact hs
      refine tt_aload_n dL_law_68 rfl ?_
      refine tt_aload_n dL_law_69 rfl ?_
      refine tt_fSi (c_L_areAlike hW1 hsn hb) dL_law_70 sL_86 rfl rfl (by decide) ⟨rfl, rfl⟩ hcc hsc (Nat.le_of_ble_eq_true rfl) ?_
      refine tt_if_eq (tgt := 87) dL_law_73 (by decide) (fun q => absurd q (by decide)) (fun _ => ?_)
      refine tt_aload_n dL_law_76 rfl ?_
      refine tt_bipush (nI 18) dL_law_77 rfl ?_
      refine tt_fVi (r_cnt18 hW1.2.1 (sim_WF hsn hb.1)) dL_law_79 vL_14 rfl rfl hT4 (by decide) rfl (by decide) ⟨rfl, rfl⟩ hcc hsc (Nat.le_of_ble_eq_true rfl) ?_
      refine tt_eq (nIE (hC_neg hneg)) ?_
      refine tt_iload dL_law_82 rfl ?_
      refine tt_icmp_eq (tgt := 89) dL_law_84 (by decide) (fun _ => ?_) (fun q => absurd rfl q)
      refine tt_iload dL_law_89 rfl ?_
      refine tt_if_lt (tgt := 149) dL_law_91 (by decide) (fun _ => ?_) (fun q => absurd hneg q)
      exact lw_149 hcc hsc he hX1 hW1 hb b1 b2 b3 b4 (by rw [e0]; exact hs2) hi2 hj2 _ _ K
  · refine tt_icmp_geN (tgt := 40) dL_law_26 (by decide) (by omega) (by omega) (fun q26 => ?_) (fun q26 => ?_)
    · refine tt_aload_n dL_law_40 rfl ?_
      refine tt_iload_n dL_law_41 rfl ?_
      refine tt_fSi (c_L_cell hX hN he) dL_law_42 sL_78 rfl rfl (by decide) ⟨rfl, rfl⟩ hcc hsc (Nat.le_of_ble_eq_true rfl) ?_
      exact key_45 _ (by unfold lv; first | rw [if_pos q26] | rw [if_neg (by omega)])
    · refine tt_aload_n dL_law_29 rfl ?_
      refine tt_iload_n dL_law_30 rfl ?_
      refine tt_fSi (c_L_cell hX hN he) dL_law_31 sL_78 rfl rfl (by decide) ⟨rfl, rfl⟩ hcc hsc (Nat.le_of_ble_eq_true rfl) ?_
      refine tt_bipush (-16) dL_law_34 rfl ?_
      refine tt_iand dL_law_36 ?_
      refine tt_goto (tgt := 45) dL_law_37 (by decide) ?_
      exact key_45 _ (by unfold lv; first | rw [if_pos q26] | rw [if_neg (by omega)])
set_option maxRecDepth 100000 in
set_option maxHeartbeats 4000000 in
theorem lw_end {h : zhp} {N : Nat} {X : Nat → Int32} {cc sc : Nat} (hcc : cc ≤ mA iL_law) (hsc : sc ≤ mS iL_law) (hL : LW h N X 48) (a4 a5 a6 a7 : Option Value) : TT iL_law 18 [some (.ref 3), some (.ref 4), some (.ref 181), some (.int (nI 48)), a4, a5, a6, a7] [] h cc sc lwQ := by
  obtain ⟨hX, S, P, PI, o, c, S2, P2, PI2, o2, c2, n, B0, B, hW, hs, hb, hjb, b1, b2, b3, b4⟩ := hL
  refine tt_iload_n dL_law_18 rfl ?_
  refine tt_bipush (nI 48) dL_law_19 rfl ?_
  refine tt_icmp_geN (tgt := 254) dL_law_21 (by decide) (by omega) (by omega) (fun _ => ?_) (fun q => absurd q (Nat.lt_irrefl _))
  refine tt_aload_n dL_law_254 rfl ?_
  refine tt_fSi (c_L_areSums hW.2.1 (zIv_sim hs hb) (zJ_sim hs hjb) (by omega)) dL_law_255 sL_90 rfl rfl (by decide) ⟨rfl, rfl⟩ hcc hsc (Nat.le_of_ble_eq_true rfl) ?_
  exact tt_ireturn dL_law_258 rfl rfl hcc hsc rfl
theorem lw_loop {N : Nat} {X : Nat → Int32} (hN : N ≤ 260) {cc sc : Nat} (hcc : cc ≤ mA iL_law) (hsc : sc ≤ mS iL_law) : ∀ (r e : Nat) (h : zhp) (a4 a5 a6 a7 : Option Value), e + r = 48 → LW h N X e → TT iL_law 18 [some (.ref 3), some (.ref 4), some (.ref 181), some (.int (nI e)), a4, a5, a6, a7] [] h cc sc lwQ
  | 0, e, h, a4, a5, a6, a7, hk, hL => by
    have hk : e = 48 := hk
    subst hk
    exact lw_end hcc hsc hL a4 a5 a6 a7
  | r + 1, e, h, a4, a5, a6, a7, hk, hL => lw_body hN hcc hsc (by omega) hL a4 a5 a6 a7 (fun h2 b4 b5 b6 b7 hL2 => by
    refine tt_iincN (L1 := [_, _, _, _, _, _, _, _]) dL_law_248 rfl rfl (Nat.le_of_ble_eq_true rfl) rfl ?_
    refine tt_goto (tgt := 18) dL_law_251 (by decide) ?_
    exact lw_loop hN hcc hsc r (e + 1) h2 b4 b5 b6 b7 (by omega) hL2)
