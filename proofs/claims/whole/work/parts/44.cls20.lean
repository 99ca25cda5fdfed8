/-! new objects: the reference -/
abbrev Z0 : Nat → Int32 := fun _ => 0
def zsF : Nat → Int32 := zlp (fun k x => upd x (10 + k) (nI 2)) 5 0 (upd (upd (upd (upd (upd (upd (upd (upd Z0 0 (nI 3)) 1 (nI 2)) 2 (nI 15)) 3 (nI 10)) 4 (nI 1)) 5 (nI 25)) 6 (nI 7)) 7 (nI 2))
theorem zMo_0 {h : zhp} (hN : zN h = 182) (hT : zT h 181 = 6) (hI : ∀ j, zI h 181 j = 0) : ∃ x, x = (zpF (zpF (zpF (zpF (zpF h 181 0 7 135 (fun _ => 0)) 181 1 7 135 (fun _ => 0)) 181 2 7 810 (fun _ => 0)) 181 4 7 270 (fun _ => 0)) 181 6 7 60 (fun _ => 0)) ∧ zMo x ∧ zN x = 187 ∧ zSb 181 h x ∧ x = zm x Z0 Z0 Z0 Z0 Z0 Z0 := by
  obtain ⟨x, hx⟩ : ∃ x, x = (zpF (zpF (zpF (zpF (zpF h 181 0 7 135 (fun _ => 0)) 181 1 7 135 (fun _ => 0)) 181 2 7 810 (fun _ => 0)) 181 4 7 270 (fun _ => 0)) 181 6 7 60 (fun _ => 0)) := ⟨_, rfl⟩
  have T : ∀ y, zT x y = if y = 186 then 7 else if y = 185 then 7 else if y = 184 then 7 else if y = 183 then 7 else if y = 182 then 7 else zT h y := fun y => by
    rw [hx]
    show (if y = zN h + 1 + 1 + 1 + 1 then 7 else if y = zN h + 1 + 1 + 1 then 7 else if y = zN h + 1 + 1 then 7 else if y = zN h + 1 then 7 else if y = zN h then 7 else zT h y) = _
    rw [hN]
  have L : ∀ y, zL x y = if y = 186 then 60 else if y = 185 then 270 else if y = 184 then 810 else if y = 183 then 135 else if y = 182 then 135 else zL h y := fun y => by
    rw [hx]
    show (if y = zN h + 1 + 1 + 1 + 1 then 60 else if y = zN h + 1 + 1 + 1 then 270 else if y = zN h + 1 + 1 then 810 else if y = zN h + 1 then 135 else if y = zN h then 135 else zL h y) = _
    rw [hN]
  have I : ∀ y k, zI x y k = if y = 186 then 0 else if y = 185 then 0 else if y = 184 then 0 else if y = 183 then 0 else if y = 182 then 0 else zI h y k := fun y k => by
    rw [hx]
    show (if y = zN h + 1 + 1 + 1 + 1 then 0 else if y = zN h + 1 + 1 + 1 then 0 else if y = zN h + 1 + 1 then 0 else if y = zN h + 1 then 0 else if y = zN h then 0 else zI h y k) = _
    rw [hN]
  have R : ∀ y k, zR x y k = if y = 181 ∧ k = 6 then some 186 else if y = 186 then none else if y = 181 ∧ k = 4 then some 185 else if y = 185 then none else if y = 181 ∧ k = 2 then some 184 else if y = 184 then none else if y = 181 ∧ k = 1 then some 183 else if y = 183 then none else if y = 181 ∧ k = 0 then some 182 else if y = 182 then none else zR h y k := fun y k => by
    rw [hx]
    show (if y = 181 ∧ k = 6 then some (zN h + 1 + 1 + 1 + 1) else if y = zN h + 1 + 1 + 1 + 1 then none else if y = 181 ∧ k = 4 then some (zN h + 1 + 1 + 1) else if y = zN h + 1 + 1 + 1 then none else if y = 181 ∧ k = 2 then some (zN h + 1 + 1) else if y = zN h + 1 + 1 then none else if y = 181 ∧ k = 1 then some (zN h + 1) else if y = zN h + 1 then none else if y = 181 ∧ k = 0 then some (zN h) else if y = zN h then none else zR h y k) = _
    rw [hN]
  have N : zN x = 187 := by
    rw [hx]
    show zN h + 1 + 1 + 1 + 1 + 1 = 187
    omega
  refine ⟨x, hx, ⟨?_, ?_, ?_, ?_, ?_, ?_, fun c h1 h2 => ?_⟩, N, fun y hy => ⟨?_, ?_, fun k => ⟨?_, ?_⟩⟩, ?_⟩
  · rw [T, if_neg (by omega), if_neg (by omega), if_neg (by omega), if_neg (by omega), if_neg (by omega)]; exact hT
  · rw [R, if_neg (by omega), if_neg (by omega), if_neg (by omega), if_neg (by omega), if_neg (by omega), if_neg (by omega), if_neg (by omega), if_neg (by omega), if_pos ⟨rfl, rfl⟩]
  · rw [R, if_neg (by omega), if_neg (by omega), if_neg (by omega), if_neg (by omega), if_neg (by omega), if_neg (by omega), if_pos ⟨rfl, rfl⟩]
  · rw [R, if_neg (by omega), if_neg (by omega), if_neg (by omega), if_neg (by omega), if_pos ⟨rfl, rfl⟩]
  · rw [R, if_neg (by omega), if_neg (by omega), if_pos ⟨rfl, rfl⟩]
  · rw [R, if_pos ⟨rfl, rfl⟩]
  · rcases (show c = 1 ∨ c = 2 ∨ c = 3 ∨ c = 4 ∨ c = 5 by omega) with rfl | rfl | rfl | rfl | rfl <;> exact ⟨T _, L _⟩
  · rw [T, if_neg (by omega), if_neg (by omega), if_neg (by omega), if_neg (by omega), if_neg (by omega)]
  · rw [L, if_neg (by omega), if_neg (by omega), if_neg (by omega), if_neg (by omega), if_neg (by omega)]
  · rw [I, if_neg (by omega), if_neg (by omega), if_neg (by omega), if_neg (by omega), if_neg (by omega)]
  · rw [R, if_neg (by omega), if_neg (by omega), if_neg (by omega), if_neg (by omega), if_neg (by omega), if_neg (by omega), if_neg (by omega), if_neg (by omega), if_neg (by omega), if_neg (by omega)]
  · have e : ∀ y k, zI x y k = if y = 181 then 0 else if y = 182 then 0 else if y = 183 then 0 else if y = 184 then 0 else if y = 185 then 0 else if y = 186 then 0 else zI x y k := fun y k => by
      by_cases q1 : y = 181
      · rw [if_pos q1, q1, I, if_neg (by omega), if_neg (by omega), if_neg (by omega), if_neg (by omega), if_neg (by omega)]; exact hI k
      · rw [if_neg q1]
        by_cases q2 : y = 182
        · rw [if_pos q2, q2, I]; rfl
        · rw [if_neg q2]
          by_cases q3 : y = 183
          · rw [if_pos q3, q3, I]; rfl
          · rw [if_neg q3]
            by_cases q4 : y = 184
            · rw [if_pos q4, q4, I]; rfl
            · rw [if_neg q4]
              by_cases q5 : y = 185
              · rw [if_pos q5, q5, I]; rfl
              · rw [if_neg q5]
                by_cases q6 : y = 186
                · rw [if_pos q6, q6, I]; rfl
                · rw [if_neg q6]
    clear hx T L I R N
    obtain ⟨n1, t1, l1, i1, r1⟩ := x
    unfold zm
    congr 4
    funext y k
    exact e y k
set_option maxRecDepth 100000 in
set_option maxHeartbeats 4000000 in
theorem c_X6_init {h : zhp} (hN : zN h = 182) (hT : zT h 181 = 6) (hI : ∀ j, zI h 181 j = 0) : MM iX6_init [.ref 181] h (fun r0 h1 => r0 = none ∧ ∃ x, zMo x ∧ zN x = 187 ∧ zSb 181 h x ∧ h1 = zm x Z0 zsF Z0 Z0 Z0 Z0) := by
  refine MM_of (by decide +kernel) (Nat.le_of_ble_eq_true rfl) ?_
  refine tt_aload_n dX6_init_0 rfl ?_
  refine tt_objInit dX6_init_1 oX6_1 oInst oCode (Nat.le_of_ble_eq_true rfl) (Nat.le_of_ble_eq_true rfl) ?_
  refine tt_aload_n dX6_init_4 rfl ?_
  refine tt_sipush (nI 135) dX6_init_5 rfl ?_
  refine tt_newa (t := 7) dX6_init_8 (by decide) (by decide) rfl rfl (znmT 7 (by decide)) kA_int (by decide) (by decide) (Nat.le_of_ble_eq_true rfl) (Nat.le_of_ble_eq_true rfl) ?_
  refine tt_putRF dX6_init_10 fX6_7 rfl rfl rfl rfl ((zT_nw (by show 181 ≠ zN h; omega)).trans hT) ?_
  refine tt_aload_n dX6_init_13 rfl ?_
  refine tt_sipush (nI 135) dX6_init_14 rfl ?_
  refine tt_newa (t := 7) dX6_init_17 (by decide) (by decide) rfl rfl (znmT 7 (by decide)) kA_int (by decide) (by decide) (Nat.le_of_ble_eq_true rfl) (Nat.le_of_ble_eq_true rfl) ?_
  refine tt_putRF dX6_init_19 fX6_13 rfl rfl rfl rfl ((zT_nw (by show 181 ≠ zN h + 1; omega)).trans (zpF_T.trans ((if_neg (by show ¬ 181 = zN h; omega)).trans hT))) ?_
  refine tt_aload_n dX6_init_22 rfl ?_
  refine tt_sipush (nI 810) dX6_init_23 rfl ?_
  refine tt_newa (t := 7) dX6_init_26 (by decide) (by decide) rfl rfl (znmT 7 (by decide)) kA_int (by decide) (by decide) (Nat.le_of_ble_eq_true rfl) (Nat.le_of_ble_eq_true rfl) ?_
  refine tt_putRF dX6_init_28 fX6_16 rfl rfl rfl rfl ((zT_nw (by show 181 ≠ zN h + 1 + 1; omega)).trans (zpF_T.trans ((if_neg (by show ¬ 181 = zN h + 1; omega)).trans (zpF_T.trans ((if_neg (by show ¬ 181 = zN h; omega)).trans hT))))) ?_
  refine tt_aload_n dX6_init_31 rfl ?_
  refine tt_sipush (nI 270) dX6_init_32 rfl ?_
  refine tt_newa (t := 7) dX6_init_35 (by decide) (by decide) rfl rfl (znmT 7 (by decide)) kA_int (by decide) (by decide) (Nat.le_of_ble_eq_true rfl) (Nat.le_of_ble_eq_true rfl) ?_
  refine tt_putRF dX6_init_37 fX6_19 rfl rfl rfl rfl ((zT_nw (by show 181 ≠ zN h + 1 + 1 + 1; omega)).trans (zpF_T.trans ((if_neg (by show ¬ 181 = zN h + 1 + 1; omega)).trans (zpF_T.trans ((if_neg (by show ¬ 181 = zN h + 1; omega)).trans (zpF_T.trans ((if_neg (by show ¬ 181 = zN h; omega)).trans hT))))))) ?_
  refine tt_aload_n dX6_init_40 rfl ?_
  refine tt_bipush (nI 60) dX6_init_41 rfl ?_
  refine tt_newa (t := 7) dX6_init_43 (by decide) (by decide) rfl rfl (znmT 7 (by decide)) kA_int (by decide) (by decide) (Nat.le_of_ble_eq_true rfl) (Nat.le_of_ble_eq_true rfl) ?_
  refine tt_putRF dX6_init_45 fX6_22 rfl rfl rfl rfl ((zT_nw (by show 181 ≠ zN h + 1 + 1 + 1 + 1; omega)).trans (zpF_T.trans ((if_neg (by show ¬ 181 = zN h + 1 + 1 + 1; omega)).trans (zpF_T.trans ((if_neg (by show ¬ 181 = zN h + 1 + 1; omega)).trans (zpF_T.trans ((if_neg (by show ¬ 181 = zN h + 1; omega)).trans (zpF_T.trans ((if_neg (by show ¬ 181 = zN h; omega)).trans hT))))))))) ?_
  obtain ⟨x, hx, hM, hNx, hbx, hzm⟩ := zMo_0 hN hT hI
  refine tt_hp (hx.symm.trans hzm) ?_
  refine tt_aload_n dX6_init_48 rfl ?_
  refine tt_mA (b := 182) dX6_init_49 fX6_7 rfl hM hM.2.1 ?_
  refine tt_iconst (nI 0) dX6_init_52 rfl ?_
  refine tt_iconst (nI 3) dX6_init_53 rfl ?_
  refine tt_st1 dX6_init_54 hM (by omega) ?_
  refine tt_aload_n dX6_init_55 rfl ?_
  refine tt_mA (b := 182) dX6_init_56 fX6_7 rfl hM hM.2.1 ?_
  refine tt_iconst (nI 1) dX6_init_59 rfl ?_
  refine tt_iconst (nI 2) dX6_init_60 rfl ?_
  refine tt_st1 dX6_init_61 hM (by omega) ?_
  refine tt_aload_n dX6_init_62 rfl ?_
  refine tt_mA (b := 182) dX6_init_63 fX6_7 rfl hM hM.2.1 ?_
  refine tt_iconst (nI 2) dX6_init_66 rfl ?_
  refine tt_bipush (nI 15) dX6_init_67 rfl ?_
  refine tt_st1 dX6_init_69 hM (by omega) ?_
  refine tt_aload_n dX6_init_70 rfl ?_
  refine tt_mA (b := 182) dX6_init_71 fX6_7 rfl hM hM.2.1 ?_
  refine tt_iconst (nI 3) dX6_init_74 rfl ?_
  refine tt_bipush (nI 10) dX6_init_75 rfl ?_
  refine tt_st1 dX6_init_77 hM (by omega) ?_
  refine tt_aload_n dX6_init_78 rfl ?_
  refine tt_mA (b := 182) dX6_init_79 fX6_7 rfl hM hM.2.1 ?_
  refine tt_iconst (nI 4) dX6_init_82 rfl ?_
  refine tt_iconst (nI 1) dX6_init_83 rfl ?_
  refine tt_st1 dX6_init_84 hM (by omega) ?_
  refine tt_aload_n dX6_init_85 rfl ?_
  refine tt_mA (b := 182) dX6_init_86 fX6_7 rfl hM hM.2.1 ?_
  refine tt_iconst (nI 5) dX6_init_89 rfl ?_
  refine tt_bipush (nI 25) dX6_init_90 rfl ?_
  refine tt_st1 dX6_init_92 hM (by omega) ?_
  refine tt_aload_n dX6_init_93 rfl ?_
  refine tt_mA (b := 182) dX6_init_94 fX6_7 rfl hM hM.2.1 ?_
  refine tt_bipush (nI 6) dX6_init_97 rfl ?_
  refine tt_bipush (nI 7) dX6_init_99 rfl ?_
  refine tt_st1 dX6_init_101 hM (by omega) ?_
  refine tt_aload_n dX6_init_102 rfl ?_
  refine tt_mA (b := 182) dX6_init_103 fX6_7 rfl hM hM.2.1 ?_
  refine tt_bipush (nI 7) dX6_init_106 rfl ?_
  refine tt_iconst (nI 2) dX6_init_108 rfl ?_
  refine tt_st1 dX6_init_109 hM (by omega) ?_
  refine tt_iconst (nI 0) dX6_init_110 rfl ?_
  refine tt_istore_n dX6_init_111 rfl (Nat.le_of_ble_eq_true rfl) rfl ?_
  refine tt_loop (fun k x => upd x (10 + k) (nI 2)) 5 (fun _ _ => True) (fun k _ => [some (.ref 181), some (.int (nI k))]) (fun _ s => zm x Z0 s Z0 Z0 Z0 Z0) _ trivial (fun _ _ _ _ => trivial) (fun hx => ?_) (fun k x2 hk hI2 ih => ?_)
  · refine tt_iload_n dX6_init_112 rfl ?_
    refine tt_iconst (nI 5) dX6_init_113 rfl ?_
    refine tt_icmp_geN (tgt := 133) dX6_init_114 (by decide) (by omega) (by omega) (fun c_114 => ?_) (fun c_114 => ?_)
    · exact tt_return dX6_init_133 rfl (Nat.le_of_ble_eq_true rfl) (Nat.le_of_ble_eq_true rfl) ⟨rfl, x, hM, hNx, hbx, rfl⟩
    · exact absurd c_114 (by omega)
  · refine tt_iload_n dX6_init_112 rfl ?_
    refine tt_iconst (nI 5) dX6_init_113 rfl ?_
    refine tt_icmp_geN (tgt := 133) dX6_init_114 (by decide) (by omega) (by omega) (fun c_114 => ?_) (fun c_114 => ?_)
    · exact absurd c_114 (by omega)
    · refine tt_aload_n dX6_init_117 rfl ?_
      refine tt_mA (b := 182) dX6_init_118 fX6_7 rfl hM hM.2.1 ?_
      refine tt_bipush (nI 10) dX6_init_121 rfl ?_
      refine tt_iload_n dX6_init_123 rfl ?_
      refine tt_iaddN dX6_init_124 ?_
      refine tt_iconst (nI 2) dX6_init_125 rfl ?_
      refine tt_st1 dX6_init_126 hM (by omega) ?_
      refine tt_iincN dX6_init_127 rfl rfl (Nat.le_of_ble_eq_true rfl) rfl ?_
      refine tt_goto (tgt := 112) dX6_init_130 (by decide) ?_
      exact ih
