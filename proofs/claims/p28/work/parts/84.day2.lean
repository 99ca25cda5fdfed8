/-! undo behind a change; the law's isDaySo -/
theorem CJ_ud {h : zhp} {S : Nat → Nat → Int32} {P PI : Nat → Nat → Nat} {o c : Nat} (x : CJ h S P PI o c) (h0 : c ≠ 0) (s1 : Nat → Int32) : CJ (zt (zsI h 22 2 (nI (c - 1))) 5 s1 (P 0) (PI 0)) (up S 0 s1) (up P 0 (P 0)) (up PI 0 (PI 0)) o (c - 1) := by
  obtain ⟨hK, hH, hP, hV⟩ := x
  have hH3 := hH.2.2.1
  have hH4 := hH.2.2.2
  have y : CJ (zsI h 22 2 (nI (c - 1))) S P PI o (c - 1) := ⟨KK_sI hK _ (by omega), ⟨(zsI_ne (by omega)).trans hH.1, zsI_at, hH3, by omega⟩, ⟨hP.1, (zsI_ne (by omega)).trans hP.2.1, hP.2.2.1, fun k hk => (zsI_ne (by omega)).trans (hP.2.2.2 k hk)⟩, fun i hi => (zsI_ne (by omega)).trans (hV i hi)⟩
  exact CI_t y (t := 0) (by omega) s1 (hK.2 0 (by omega)).2.1
theorem hC_le {c : Nat} {e : Int32} (h : c ≤ 6) : hC c e ≤ 6 := by
  unfold hC
  split
  · exact h
  · split <;> omega
theorem r_undo {h1 : zhp} {S : Nat → Nat → Int32} {P1 PI1 : Nat → Nat → Nat} {o c n : Nat} {e : Int32} {s1 : Nat → Int32} (hX : CJ h1 (uS S n o c s1) P1 PI1 (hO o c e) (hC c e)) (he : ¬ e < 0) (hoc : o < 7 ∧ c ≤ 6) (hw : sWF (S 0) n) : MM iX5_undo [.ref 4] h1 (fun r h2 => r = some (.int (nI (hC c e - 1))) ∧ zFx h1 h2 ∧ ∃ S' P' PI' o' c', CJ h2 S' P' PI' o' c' ∧ sim n (S' 0) (S 0)) := by
  have ei : 1 + (hO o c e + (hC c e - 1)) % 7 = 1 + (o + c) % 7 ∧ hC c e ≠ 0 := by
    unfold hO hC
    rw [if_neg he, if_neg he]
    by_cases q : c < 6
    · rw [if_pos q, if_pos q]; omega
    · rw [if_neg q, if_neg q]; omega
  have hs : sim n (uS S n o c s1 (1 + (hO o c e + (hC c e - 1)) % 7)) (S 0) := by
    rw [ei.1, uS_r]
    exact kBm_sim _ _ _
  have k := c_X5_undo_s hX.1 hX.2.1 (sim_WF hs hw) ei.2
  refine MM_post k (fun r h2 q => ?_)
  obtain ⟨q1, q2⟩ := q
  subst q2
  exact ⟨q1, (zFx_I _ (by omega)).trans (zFx_t (t := 0) (by omega) _ _ _), _, _, _, _, _, CJ_ud hX ei.2 _, by rw [up_s]; exact sim_tr (kBm_sim _ _ _) hs⟩
theorem r_skv {h : zhp} {S : Nat → Nat → Int32} {P PI : Nat → Nat → Nat} {o c : Nat} (hX : CJ h S P PI o c) {n : Nat} (hw : sWF (S 0) n) {j : Nat} (hj : j < n) {w e : Int32} (he : kTe (S 0) j w (S 0 8) = e) : MM iX5_skip [.ref 4, .int (nI j), .int w] h (zfi e h) := by
  have k := c_X5_skip_y hX.1 hw j hj w
  rw [he] at k
  exact k
theorem r_cuv {h : zhp} {S : Nat → Nat → Int32} {P PI : Nat → Nat → Nat} {o c : Nat} (hX : CJ h S P PI o c) {n : Nat} (hw : sWF (S 0) n) {v w e : Int32} (he : kCus (S 0) n v w = e) : MM iX5_customer [.ref 4, .int v, .int w] h (zfi e h) := by
  have k := c_X5_customer hX.1 hw v w
  rw [he] at k
  exact k
theorem r_ufv {h : zhp} {S : Nat → Nat → Int32} {P PI : Nat → Nat → Nat} {o c : Nat} (hX : CJ h S P PI o c) {n : Nat} (hw : sWF (S 0) n) {j : Nat} (hj : j < n) {e : Int32} (he : kUf (S 0) j = e) : MM iX5_untilFull [.ref 4, .int (nI j)] h (zfi e h) := by
  have k := c_X5_untilFull_y hX.1 hw j hj
  rw [he] at k
  exact k
theorem r_unv {h : zhp} {S : Nat → Nat → Int32} {P PI : Nat → Nat → Nat} {o c : Nat} (hX : CJ h S P PI o c) {n : Nat} (hw : sWF (S 0) n) {j : Nat} (hj : j < n) {e : Int32} (he : kUn (S 0) j (S 0 8) = e) : MM iX5_untilFine [.ref 4, .int (nI j)] h (zfi e h) := by
  have k := c_X5_untilFine_y hX.1 hw j hj
  rw [he] at k
  exact k
theorem r_co {h : zhp} {S : Nat → Nat → Int32} {P PI : Nat → Nat → Nat} {o c : Nat} (hX : CJ h S P PI o c) {n B0 B : Nat} (hI : zIv (S 0) n B0) (hJ : zJ (S 0) n B) {k : Nat} (hk : k < 6) : MM iX5_cost [.ref 4, .int (nI k), .int (nI 1)] h (zfi (nI (qS n (fun i => if cuN (S 0) i = k then gH (S 0) 1 i else 0))) h) := by
  have q := c_X5_cost hX.1 hI.1 (nI k) (nI 1)
  rw [if_pos (kin5 (m := 5) (by omega) (by omega)), if_pos (by decide), kCo_cH hI.1 hk, cH_N hI hJ (by omega)] at q
  exact q
theorem tt_c0 {i : zmi} {pc : Nat} {L : List (Option Value)} {st : List Value} {h : zhp} {cc sc : Nat} {Q : Option Value → zhp → Prop} {tgt : Nat} {x : Int32} (k : TT i tgt L (.int x :: st) h cc sc Q) (b : (∀ y, y = x → TT i tgt L (.int y :: st) h cc sc Q) → TT i pc L st h cc sc Q) : TT i pc L st h cc sc Q := b (fun y e => by rw [e]; exact k)
theorem tt_cut {i : zmi} {pc : Nat} {L : List (Option Value)} {st : List Value} {h : zhp} {cc sc : Nat} {Q : Option Value → zhp → Prop} {tgt : Nat} (k : TT i tgt L st h cc sc Q) (b : TT i tgt L st h cc sc Q → TT i pc L st h cc sc Q) : TT i pc L st h cc sc Q := b k
theorem day_I {s : Nat → Int32} {n B0 B : Nat} (hI : zIv s n B0) (hJ : zJ s n B) (hB : B + 600000 ≤ 2 ^ 28) (ht : tn (s 8) < 9999) : zIv (cE s n (fun _ => 1) (s 8 + nI 1) (nI 0)) n B0 := by
  have k := sPas_Iv (v := nI 1) hI
  rw [← kPas_eq hI, day_1 hI hJ hB ht] at k
  exact k
theorem day_T {s : Nat → Int32} {n B0 B : Nat} (hI : zIv s n B0) (hJ : zJ s n B) {y8 : Int32} : kTl (cE s n (fun _ => 1) y8 (nI 0)) = nI (tn (s 7)) := by
  obtain ⟨h7, e7⟩ := seN hI hJ (show 7 < 8 by omega)
  have e9 : cE s n (fun _ => 1) y8 (nI 0) 9 = nI 0 := by rw [cE_lo (by omega), if_neg (by omega), if_pos rfl]
  have f7 : cE s n (fun _ => 1) y8 (nI 0) 7 = nI (tn (s 7)) := (day_lo (by omega) (by omega) (by omega)).trans e7
  unfold kTl
  rw [f7, e9, mx0_N (by omega) (by omega), Nat.sub_zero]
theorem m_f {v p : Nat} (h : (if v < p then v else p) ≠ 0) : 1 + (if v - 1 < p - 1 then v - 1 else p - 1) = 1 + (if v < p then v else p) - 1 := by
  by_cases q : v < p
  · rw [if_pos q] at h ⊢
    rw [if_pos (by omega)]
    omega
  · rw [if_neg q] at h ⊢
    rw [if_neg (by omega)]
    omega
theorem m_0 {v p : Nat} (h : (if v < p then v else p) = 0) (hp : p ≠ 0) : v = 0 := by
  by_cases q : v < p
  · rw [if_pos q] at h; exact h
  · rw [if_neg q] at h; exact absurd h hp
set_option maxRecDepth 100000 in
set_option maxHeartbeats 4000000 in
theorem c_L_isDaySo_y {h : zhp} {S : Nat → Nat → Int32} {P PI : Nat → Nat → Nat} {o c : Nat} (hX : CJ h S P PI o c) {n B0 B : Nat} (hI : zIv (S 0) n B0) (hJ : zJ (S 0) n B) (hB : B + 600000 ≤ 2 ^ 28) (ht : tn (S 0 8) < 9999) {j : Nat} (hj : j < n) (hdr : fld (S 0) j 2 = 5) : MM iL_isDaySo [.ref 4, .int (nI j)] h (fun r h2 => r = some (.int (nI 1)) ∧ zFx h h2 ∧ ∃ S' P' PI' o' c', CJ h2 S' P' PI' o' c' ∧ sim n (S' 0) (S 0)) := by
  have hn := hI.1.1
  have hB0 : B ≤ 2 ^ 28 := by omega
  have hT4 : zT h 4 = 5 := hX.1.1.2.2.1.1
  obtain ⟨⟨k0, k1, k2, k3, k4, k5, k7, k8, k9⟩, hk⟩ := skN hI hJ hB0 hj
  obtain ⟨pd, hpd, eP, eP0, eP1⟩ := day_P hI hj
  rw [(dyN hI).2] at eP0
  have hdue := day_due hI hJ hB0 hj hpd eP
  have gle := (gHF hI hJ hj (show 1 ≤ 99 by omega)).2.2.2
  have gall : gH (S 0) 1 j ≤ qS n (gH (S 0) 1) := qS_one hj
  have gbd := gH_le hI hJ (show 1 ≤ 99 by omega)
  obtain ⟨g1, g2, g3⟩ := gw_f k3
  have c1 := cH_le (c := (fld (S 0) j 0)) hI hJ (show 1 ≤ 99 by omega)
  obtain ⟨⟨c2, c3, c4⟩, -⟩ := cuN3 hJ hB0 k0
  obtain ⟨s0, -⟩ := seN hI hJ (show 0 < 8 by omega)
  obtain ⟨s2, -⟩ := seN hI hJ (show 2 < 8 by omega)
  obtain ⟨s3, -⟩ := seN hI hJ (show 3 < 8 by omega)
  have m0 : tn (S 0 0) * (1 + fld (S 0) j 1) ≤ 90 * 4 := Nat.mul_le_mul s0 (by omega)
  have eUn := day_fine hI hJ hB0 hj hpd eP
  rw [if_pos hdr] at eUn
  rw [if_pos hdr, if_pos hdr] at hdue
  refine MM_of (by decide +kernel) (Nat.le_of_ble_eq_true rfl) ?_
  refine tt_aload_n dL_isDaySo_0 rfl ?_
  refine tt_bipush (nI 8) dL_isDaySo_1 rfl ?_
  refine tt_fVi (r_cnt hX hI.1 (by decide) (by decide) ((kNum_8 _ _).trans (dyN hI).2)) dL_isDaySo_3 vL_14 rfl rfl hT4 (by decide) rfl (by decide) ⟨rfl, rfl⟩ (Nat.le_of_ble_eq_true rfl) (Nat.le_of_ble_eq_true rfl) (Nat.le_of_ble_eq_true rfl) ?_
  refine tt_istore_n (L1 := [_, _, _, _, _, _, _, _, _, _, _, _, _, _, _, _, _, _, _]) dL_isDaySo_6 rfl (Nat.le_of_ble_eq_true rfl) rfl ?_
  refine tt_aload_n dL_isDaySo_7 rfl ?_
  refine tt_iload_n dL_isDaySo_8 rfl ?_
  refine tt_iconst (nI 3) dL_isDaySo_9 rfl ?_
  refine tt_fVi (r_sk3 hX hI hJ hB0 hj) dL_isDaySo_10 vL_52 rfl rfl hT4 (by decide) rfl (by decide) ⟨rfl, rfl⟩ (Nat.le_of_ble_eq_true rfl) (Nat.le_of_ble_eq_true rfl) (Nat.le_of_ble_eq_true rfl) ?_
  refine tt_istore_n (L1 := [_, _, _, _, _, _, _, _, _, _, _, _, _, _, _, _, _, _, _]) dL_isDaySo_13 rfl (Nat.le_of_ble_eq_true rfl) rfl ?_
  refine tt_aload_n dL_isDaySo_14 rfl ?_
  refine tt_iload_n dL_isDaySo_15 rfl ?_
  refine tt_iconst (nI 4) dL_isDaySo_16 rfl ?_
  refine tt_fVi (r_sk4 hX hI hJ hB0 hj) dL_isDaySo_17 vL_52 rfl rfl hT4 (by decide) rfl (by decide) ⟨rfl, rfl⟩ (Nat.le_of_ble_eq_true rfl) (Nat.le_of_ble_eq_true rfl) (Nat.le_of_ble_eq_true rfl) ?_
  refine tt_istore (L1 := [_, _, _, _, _, _, _, _, _, _, _, _, _, _, _, _, _, _, _]) dL_isDaySo_20 rfl (Nat.le_of_ble_eq_true rfl) rfl ?_
  refine tt_aload_n dL_isDaySo_22 rfl ?_
  refine tt_iload_n dL_isDaySo_23 rfl ?_
  refine tt_iconst (nI 5) dL_isDaySo_24 rfl ?_
  refine tt_fVi (r_sk5 hX hI hJ hB0 hj) dL_isDaySo_25 vL_52 rfl rfl hT4 (by decide) rfl (by decide) ⟨rfl, rfl⟩ (Nat.le_of_ble_eq_true rfl) (Nat.le_of_ble_eq_true rfl) (Nat.le_of_ble_eq_true rfl) ?_
  refine tt_istore (L1 := [_, _, _, _, _, _, _, _, _, _, _, _, _, _, _, _, _, _, _]) dL_isDaySo_28 rfl (Nat.le_of_ble_eq_true rfl) rfl ?_
  refine tt_aload_n dL_isDaySo_30 rfl ?_
  refine tt_iload_n dL_isDaySo_31 rfl ?_
  refine tt_bipush (nI 6) dL_isDaySo_32 rfl ?_
  refine tt_fVi (r_sk6 hX hI hJ hB0 hj) dL_isDaySo_34 vL_52 rfl rfl hT4 (by decide) rfl (by decide) ⟨rfl, rfl⟩ (Nat.le_of_ble_eq_true rfl) (Nat.le_of_ble_eq_true rfl) (Nat.le_of_ble_eq_true rfl) ?_
  refine tt_istore (L1 := [_, _, _, _, _, _, _, _, _, _, _, _, _, _, _, _, _, _, _]) dL_isDaySo_37 rfl (Nat.le_of_ble_eq_true rfl) rfl ?_
  refine tt_aload_n dL_isDaySo_39 rfl ?_
  refine tt_iload_n dL_isDaySo_40 rfl ?_
  refine tt_bipush (nI 7) dL_isDaySo_41 rfl ?_
  refine tt_fVi (r_sk7 hX hI hJ hB0 hj) dL_isDaySo_43 vL_52 rfl rfl hT4 (by decide) rfl (by decide) ⟨rfl, rfl⟩ (Nat.le_of_ble_eq_true rfl) (Nat.le_of_ble_eq_true rfl) (Nat.le_of_ble_eq_true rfl) ?_
  refine tt_istore (L1 := [_, _, _, _, _, _, _, _, _, _, _, _, _, _, _, _, _, _, _]) dL_isDaySo_46 rfl (Nat.le_of_ble_eq_true rfl) rfl ?_
  refine tt_aload_n dL_isDaySo_48 rfl ?_
  refine tt_iload_n dL_isDaySo_49 rfl ?_
  refine tt_bipush (nI 8) dL_isDaySo_50 rfl ?_
  refine tt_fVi (r_sk8 hX hI hJ hB0 hj) dL_isDaySo_52 vL_52 rfl rfl hT4 (by decide) rfl (by decide) ⟨rfl, rfl⟩ (Nat.le_of_ble_eq_true rfl) (Nat.le_of_ble_eq_true rfl) (Nat.le_of_ble_eq_true rfl) ?_
  refine tt_istore (L1 := [_, _, _, _, _, _, _, _, _, _, _, _, _, _, _, _, _, _, _]) dL_isDaySo_55 rfl (Nat.le_of_ble_eq_true rfl) rfl ?_
  refine tt_aload_n dL_isDaySo_57 rfl ?_
  refine tt_iload_n dL_isDaySo_58 rfl ?_
  refine tt_bipush (nI 10) dL_isDaySo_59 rfl ?_
  refine tt_fVi (r_sk10 hX hI hJ hB0 hj) dL_isDaySo_61 vL_52 rfl rfl hT4 (by decide) rfl (by decide) ⟨rfl, rfl⟩ (Nat.le_of_ble_eq_true rfl) (Nat.le_of_ble_eq_true rfl) (Nat.le_of_ble_eq_true rfl) ?_
  refine tt_istore (L1 := [_, _, _, _, _, _, _, _, _, _, _, _, _, _, _, _, _, _, _]) dL_isDaySo_64 rfl (Nat.le_of_ble_eq_true rfl) rfl ?_
  refine tt_aload_n dL_isDaySo_66 rfl ?_
  refine tt_iload_n dL_isDaySo_67 rfl ?_
  refine tt_fVi (r_ufv hX hI.1 hj rfl) dL_isDaySo_68 vL_61 rfl rfl hT4 (by decide) rfl (by decide) ⟨rfl, rfl⟩ (Nat.le_of_ble_eq_true rfl) (Nat.le_of_ble_eq_true rfl) (Nat.le_of_ble_eq_true rfl) ?_
  refine tt_istore (L1 := [_, _, _, _, _, _, _, _, _, _, _, _, _, _, _, _, _, _, _]) dL_isDaySo_71 rfl (Nat.le_of_ble_eq_true rfl) rfl ?_
  refine tt_aload_n dL_isDaySo_73 rfl ?_
  refine tt_iload_n dL_isDaySo_74 rfl ?_
  refine tt_fVi (r_unv hX hI.1 hj eUn) dL_isDaySo_75 vL_64 rfl rfl hT4 (by decide) rfl (by decide) ⟨rfl, rfl⟩ (Nat.le_of_ble_eq_true rfl) (Nat.le_of_ble_eq_true rfl) (Nat.le_of_ble_eq_true rfl) ?_
  refine tt_istore (L1 := [_, _, _, _, _, _, _, _, _, _, _, _, _, _, _, _, _, _, _]) dL_isDaySo_78 rfl (Nat.le_of_ble_eq_true rfl) rfl ?_
  refine tt_aload_n dL_isDaySo_80 rfl ?_
  refine tt_iload_n dL_isDaySo_81 rfl ?_
  refine tt_iconst (nI 2) dL_isDaySo_82 rfl ?_
  refine tt_fVi (r_sk2 hX hI hJ hB0 hj) dL_isDaySo_83 vL_52 rfl rfl hT4 (by decide) rfl (by decide) ⟨rfl, rfl⟩ (Nat.le_of_ble_eq_true rfl) (Nat.le_of_ble_eq_true rfl) (Nat.le_of_ble_eq_true rfl) ?_
  refine tt_iconst (nI 5) dL_isDaySo_86 rfl ?_
  refine tt_icmp_ne (tgt := 94) dL_isDaySo_87 (by decide) (fun q => absurd (nIE hdr) q) (fun _ => ?_)
  refine tt_iconst (nI 1) dL_isDaySo_90 rfl ?_
  refine tt_goto (tgt := 95) dL_isDaySo_91 (by decide) ?_
  refine tt_istore (L1 := [_, _, _, _, _, _, _, _, _, _, _, _, _, _, _, _, _, _, _]) dL_isDaySo_95 rfl (Nat.le_of_ble_eq_true rfl) rfl ?_
  refine tt_aload_n dL_isDaySo_97 rfl ?_
  refine tt_iconst (nI 0) dL_isDaySo_98 rfl ?_
  refine tt_fVi (r_cnt hX hI.1 (by decide) (by decide) ((kNum_s _ _ (by omega)).trans (seN hI hJ (by omega)).2)) dL_isDaySo_99 vL_14 rfl rfl hT4 (by decide) rfl (by decide) ⟨rfl, rfl⟩ (Nat.le_of_ble_eq_true rfl) (Nat.le_of_ble_eq_true rfl) (Nat.le_of_ble_eq_true rfl) ?_
  refine tt_iload dL_isDaySo_102 rfl ?_
  refine tt_bipush (nI 20) dL_isDaySo_104 rfl ?_
  refine tt_idiv dL_isDaySo_106 (by decide) ?_
  refine tt_eq (pk_div (by omega) (by omega) (by omega)) ?_
  refine tt_eq (y := nI (1 + fld (S 0) j 1)) (nIE (by omega)) ?_
  refine tt_imulN dL_isDaySo_107 ?_
  refine tt_iload dL_isDaySo_108 rfl ?_
  refine tt_if_ne (tgt := 119) dL_isDaySo_110 (by decide) (fun _ => ?_) (fun q => absurd q (by decide))
  refine tt_iconst (nI 0) dL_isDaySo_119 rfl ?_
  refine tt_goto (tgt := 128) dL_isDaySo_120 (by decide) ?_
  refine tt_iaddN dL_isDaySo_128 ?_
  refine tt_iload dL_isDaySo_129 rfl ?_
  refine tt_if_ne (tgt := 139) dL_isDaySo_131 (by decide) (fun _ => ?_) (fun q => absurd q (by decide))
  refine tt_iconst (nI 0) dL_isDaySo_139 rfl ?_
  refine tt_goto (tgt := 148) dL_isDaySo_140 (by decide) ?_
  refine tt_iaddN dL_isDaySo_148 ?_
  refine tt_istore (L1 := [_, _, _, _, _, _, _, _, _, _, _, _, _, _, _, _, _, _, _]) dL_isDaySo_149 rfl (Nat.le_of_ble_eq_true rfl) rfl ?_
  refine tt_aload_n dL_isDaySo_151 rfl ?_
  refine tt_aload_n dL_isDaySo_152 rfl ?_
  refine tt_iload_n dL_isDaySo_153 rfl ?_
  refine tt_iconst (nI 0) dL_isDaySo_154 rfl ?_
  refine tt_fVi (r_sk0 hX hI hJ hB0 hj) dL_isDaySo_155 vL_52 rfl rfl hT4 (by decide) rfl (by decide) ⟨rfl, rfl⟩ (Nat.le_of_ble_eq_true rfl) (Nat.le_of_ble_eq_true rfl) (Nat.le_of_ble_eq_true rfl) ?_
  refine tt_iconst (nI 1) dL_isDaySo_158 rfl ?_
  refine tt_fVi (r_co hX hI hJ k0) dL_isDaySo_159 vL_67 rfl rfl hT4 (by decide) rfl (by decide) ⟨rfl, rfl⟩ (Nat.le_of_ble_eq_true rfl) (Nat.le_of_ble_eq_true rfl) (Nat.le_of_ble_eq_true rfl) ?_
  refine tt_istore (L1 := [_, _, _, _, _, _, _, _, _, _, _, _, _, _, _, _, _, _, _]) dL_isDaySo_162 rfl (Nat.le_of_ble_eq_true rfl) rfl ?_
  refine tt_aload_n dL_isDaySo_164 rfl ?_
  refine tt_iload_n dL_isDaySo_165 rfl ?_
  refine tt_iconst (nI 0) dL_isDaySo_166 rfl ?_
  refine tt_fVi (r_sk0 hX hI hJ hB0 hj) dL_isDaySo_167 vL_52 rfl rfl hT4 (by decide) rfl (by decide) ⟨rfl, rfl⟩ (Nat.le_of_ble_eq_true rfl) (Nat.le_of_ble_eq_true rfl) (Nat.le_of_ble_eq_true rfl) ?_
  refine tt_istore (L1 := [_, _, _, _, _, _, _, _, _, _, _, _, _, _, _, _, _, _, _]) dL_isDaySo_170 rfl (Nat.le_of_ble_eq_true rfl) rfl ?_
  refine tt_aload_n dL_isDaySo_172 rfl ?_
  refine tt_iload dL_isDaySo_173 rfl ?_
  refine tt_iconst (nI 0) dL_isDaySo_175 rfl ?_
  refine tt_fVi (r_cu0 hX hI hJ hB0 k0) dL_isDaySo_176 vL_55 rfl rfl hT4 (by decide) rfl (by decide) ⟨rfl, rfl⟩ (Nat.le_of_ble_eq_true rfl) (Nat.le_of_ble_eq_true rfl) (Nat.le_of_ble_eq_true rfl) ?_
  refine tt_istore (L1 := [_, _, _, _, _, _, _, _, _, _, _, _, _, _, _, _, _, _, _]) dL_isDaySo_179 rfl (Nat.le_of_ble_eq_true rfl) rfl ?_
  refine tt_iload_n dL_isDaySo_181 rfl ?_
  refine tt_iload dL_isDaySo_182 rfl ?_
  refine tt_iaddN dL_isDaySo_184 ?_
  refine tt_iload dL_isDaySo_185 rfl ?_
  refine tt_c2 (tgt := 199) (x := nI (gw (S 0) j)) ?_ (fun key_199 => ?_)
  · refine tt_istore (L1 := [_, _, _, _, _, _, _, _, _, _, _, _, _, _, _, _, _, _, _]) dL_isDaySo_199 rfl (Nat.le_of_ble_eq_true rfl) rfl ?_
    refine tt_aload_n dL_isDaySo_201 rfl ?_
    refine tt_iconst (nI 1) dL_isDaySo_202 rfl ?_
    refine tt_callV (c_X5_pass hX.1 hX.2.1 hI.1 (nI 1)) dL_isDaySo_203 vL_45 rfl rfl hT4 (by decide) rfl (by decide) (Nat.le_of_ble_eq_true rfl) (Nat.le_of_ble_eq_true rfl) (Nat.le_of_ble_eq_true rfl) (fun r1 h1 q1 => ?_)
    rw [day_1 hI hJ hB ht] at q1
    have q1 : zcQ h S P PI n o c (nI (qS n (gH (S 0) 1))) (cE (S 0) n (fun _ => 1) (S 0 8 + nI 1) (nI 0)) r1 h1 := q1
    have fx1 := zFx_cQ q1
    obtain ⟨rfl, ⟨P1, PI1, hXu⟩, -⟩ := CI_cQ hX q1
    obtain ⟨S1, hS1⟩ : ∃ S1, S1 = uS S n o c (cE (S 0) n (fun _ => 1) (S 0 8 + nI 1) (nI 0)) := ⟨_, rfl⟩
    have hX1 : CJ h1 S1 P1 PI1 _ _ := hS1 ▸ hXu
    have e0 : S1 0 = cE (S 0) n (fun _ => 1) (S 0 8 + nI 1) (nI 0) := by rw [hS1, uS_0]
    have hI1 : zIv (S1 0) n B0 := by rw [e0]; exact day_I hI hJ hB ht
    have hJ1 : zJ (S1 0) n (B + 600000) := by rw [e0]; exact cE_J hI hJ (by omega) (dyN hI).2 (dyN hI).1 hB
    have e18 : S1 0 8 = nI (tn (S 0 8) + 1) := by rw [e0]; exact day_8 hI
    have e17 : S1 0 7 = nI (tn (S 0 7)) := by rw [e0]; exact (day_lo (by omega) (by omega) (by omega)).trans (seN hI hJ (by omega)).2
    have e1T : kTl (S1 0) = nI (tn (S 0 7)) := by rw [e0]; exact day_T hI hJ
    have e13 : S1 0 (34 + 10 * j + 3) = nI (gw (S 0) j) := by rw [e0]; exact day_s3 hI hJ hB0 hj
    have e1b : S1 0 (34 + 10 * j + 7) = nI (fld (S 0) j 7 + (fld (S 0) j 3 + fld (S 0) j 4 - gw (S 0) j)) := by rw [e0]; exact day_s7 hI hJ hB0 hj
    have e19 : S1 0 (34 + 10 * j + 9) = nI (fld (S 0) j 9 + gH (S 0) 1 j) := by rw [e0]; exact day_s9 hI hJ hB0 hj
    have e15 : S1 0 (34 + 10 * j + 5) = nI (fld (S 0) j 5) := by rw [e0, day_s5 hI hJ hB0 hj, if_pos hdr]
    have e16 : S1 0 (34 + 10 * j + 6) = S 0 (34 + 10 * j + 6) := by rw [e0]; exact day_sf hI hj (by omega) (by omega) (by omega) (by omega) (by omega)
    have e1c : S1 0 (15 + 3 * (fld (S 0) j 0) + 0) = nI (tn (S 0 (15 + 3 * (fld (S 0) j 0) + 0)) + qS n (fun i => if cuN (S 0) i = (fld (S 0) j 0) then gH (S 0) 1 i else 0)) := by rw [e0]; exact day_cu hI hJ hB0 k0
    have f1 : fld (S1 0) j 1 = fld (S 0) j 1 := by unfold fld; rw [e0, day_sf hI hj (by omega) (by omega) (by omega) (by omega) (by omega)]
    have f2 : fld (S1 0) j 2 = fld (S 0) j 2 := by unfold fld; rw [e0, day_sf hI hj (by omega) (by omega) (by omega) (by omega) (by omega)]
    have f4 : fld (S1 0) j 4 = fld (S 0) j 4 := by unfold fld; rw [e0, day_sf hI hj (by omega) (by omega) (by omega) (by omega) (by omega)]
    have f3 : fld (S1 0) j 3 = gw (S 0) j := (congrArg tn e13).trans (tn_N (by omega))
    have f5 : fld (S1 0) j 5 = fld (S 0) j 5 := (congrArg tn e15).trans (tn_N (by omega))
    have eQ : kPa (S1 0) j (S1 0 8) = nI (pd - 1) := by rw [e18, e0]; exact eP1 ht _ _
    have eUn1 := day_fine hI1 hJ1 hB hj (show pd - 1 < 2 ^ 30 + 1 by omega) eQ
    rw [f2, if_pos hdr] at eUn1
    have hT4 : zT h1 4 = 5 := hX1.1.1.2.2.1.1
    refine tt_iload dL_isDaySo_206 rfl ?_
    refine tt_icmp_ltN (tgt := 344) dL_isDaySo_208 (by decide) (by omega) (by omega) (fun q => absurd q (by omega)) (fun _ => ?_)
    refine tt_aload_n dL_isDaySo_211 rfl ?_
    refine tt_bipush (nI 8) dL_isDaySo_212 rfl ?_
    refine tt_fVi (r_cnt hX1 hI1.1 (by decide) (by decide) ((kNum_8 _ _).trans e18)) dL_isDaySo_214 vL_14 rfl rfl hT4 (by decide) rfl (by decide) ⟨rfl, rfl⟩ (Nat.le_of_ble_eq_true rfl) (Nat.le_of_ble_eq_true rfl) (Nat.le_of_ble_eq_true rfl) ?_
    refine tt_iload_n dL_isDaySo_217 rfl ?_
    refine tt_iconst (nI 1) dL_isDaySo_218 rfl ?_
    refine tt_iaddN dL_isDaySo_219 ?_
    refine tt_icmp_ne (tgt := 344) dL_isDaySo_220 (by decide) (fun q => absurd rfl q) (fun _ => ?_)
    refine tt_aload_n dL_isDaySo_223 rfl ?_
    refine tt_bipush (nI 10) dL_isDaySo_224 rfl ?_
    refine tt_fVi (r_cnt hX1 hI1.1 (by decide) (by decide) ((kNum_10 _ _).trans e1T)) dL_isDaySo_226 vL_14 rfl rfl hT4 (by decide) rfl (by decide) ⟨rfl, rfl⟩ (Nat.le_of_ble_eq_true rfl) (Nat.le_of_ble_eq_true rfl) (Nat.le_of_ble_eq_true rfl) ?_
    refine tt_aload_n dL_isDaySo_229 rfl ?_
    refine tt_bipush (nI 7) dL_isDaySo_230 rfl ?_
    refine tt_fVi (r_cnt hX1 hI1.1 (by decide) (by decide) ((kNum_s _ _ (by omega)).trans e17)) dL_isDaySo_232 vL_14 rfl rfl hT4 (by decide) rfl (by decide) ⟨rfl, rfl⟩ (Nat.le_of_ble_eq_true rfl) (Nat.le_of_ble_eq_true rfl) (Nat.le_of_ble_eq_true rfl) ?_
    refine tt_icmp_ne (tgt := 344) dL_isDaySo_235 (by decide) (fun q => absurd rfl q) (fun _ => ?_)
    refine tt_aload_n dL_isDaySo_238 rfl ?_
    refine tt_iload_n dL_isDaySo_239 rfl ?_
    refine tt_iconst (nI 3) dL_isDaySo_240 rfl ?_
    refine tt_fVi (r_skv hX1 hI1.1 hj ((kTe_3 _ _ _).trans e13)) dL_isDaySo_241 vL_52 rfl rfl hT4 (by decide) rfl (by decide) ⟨rfl, rfl⟩ (Nat.le_of_ble_eq_true rfl) (Nat.le_of_ble_eq_true rfl) (Nat.le_of_ble_eq_true rfl) ?_
    refine tt_iload dL_isDaySo_244 rfl ?_
    refine tt_icmp_ne (tgt := 344) dL_isDaySo_246 (by decide) (fun q => absurd rfl q) (fun _ => ?_)
    refine tt_aload_n dL_isDaySo_249 rfl ?_
    refine tt_iload_n dL_isDaySo_250 rfl ?_
    refine tt_bipush (nI 8) dL_isDaySo_251 rfl ?_
    refine tt_fVi (r_skv hX1 hI1.1 hj ((kTe_8 _ _ _).trans e1b)) dL_isDaySo_253 vL_52 rfl rfl hT4 (by decide) rfl (by decide) ⟨rfl, rfl⟩ (Nat.le_of_ble_eq_true rfl) (Nat.le_of_ble_eq_true rfl) (Nat.le_of_ble_eq_true rfl) ?_
    refine tt_iload dL_isDaySo_256 rfl ?_
    refine tt_isubN dL_isDaySo_258 (by omega) ?_
    refine tt_iload_n dL_isDaySo_259 rfl ?_
    refine tt_iload dL_isDaySo_260 rfl ?_
    refine tt_iaddN dL_isDaySo_262 ?_
    refine tt_iload dL_isDaySo_263 rfl ?_
    refine tt_isubN dL_isDaySo_265 (by omega) ?_
    refine tt_icmp_ne (tgt := 344) dL_isDaySo_266 (by decide) (fun q => absurd (nIE (by omega)) q) (fun _ => ?_)
    refine tt_aload_n dL_isDaySo_269 rfl ?_
    refine tt_iload_n dL_isDaySo_270 rfl ?_
    refine tt_bipush (nI 10) dL_isDaySo_271 rfl ?_
    refine tt_fVi (r_skv hX1 hI1.1 hj ((kTe_10 _ _ _).trans e19)) dL_isDaySo_273 vL_52 rfl rfl hT4 (by decide) rfl (by decide) ⟨rfl, rfl⟩ (Nat.le_of_ble_eq_true rfl) (Nat.le_of_ble_eq_true rfl) (Nat.le_of_ble_eq_true rfl) ?_
    refine tt_iload dL_isDaySo_276 rfl ?_
    refine tt_isubN dL_isDaySo_278 (by omega) ?_
    refine tt_iload dL_isDaySo_279 rfl ?_
    refine tt_icmp_ne (tgt := 344) dL_isDaySo_281 (by decide) (fun q => absurd (nIE (by omega)) q) (fun _ => ?_)
    refine tt_aload_n dL_isDaySo_284 rfl ?_
    refine tt_iload dL_isDaySo_285 rfl ?_
    refine tt_iconst (nI 0) dL_isDaySo_287 rfl ?_
    refine tt_fVi (r_cuv hX1 hI1.1 ((kCus_0 _ _ k0).trans e1c)) dL_isDaySo_288 vL_55 rfl rfl hT4 (by decide) rfl (by decide) ⟨rfl, rfl⟩ (Nat.le_of_ble_eq_true rfl) (Nat.le_of_ble_eq_true rfl) (Nat.le_of_ble_eq_true rfl) ?_
    refine tt_iload dL_isDaySo_291 rfl ?_
    refine tt_isubN dL_isDaySo_293 (by omega) ?_
    refine tt_iload dL_isDaySo_294 rfl ?_
    refine tt_icmp_ne (tgt := 344) dL_isDaySo_296 (by decide) (fun q => absurd (nIE (by omega)) q) (fun _ => ?_)
    refine tt_aload_n dL_isDaySo_299 rfl ?_
    refine tt_iload_n dL_isDaySo_300 rfl ?_
    refine tt_bipush (nI 6) dL_isDaySo_301 rfl ?_
    refine tt_fVi (r_skv hX1 hI1.1 hj ((kTe_6 _ _ _).trans e15)) dL_isDaySo_303 vL_52 rfl rfl hT4 (by decide) rfl (by decide) ⟨rfl, rfl⟩ (Nat.le_of_ble_eq_true rfl) (Nat.le_of_ble_eq_true rfl) (Nat.le_of_ble_eq_true rfl) ?_
    refine tt_iload dL_isDaySo_306 rfl ?_
    refine tt_if_ne (tgt := 316) dL_isDaySo_308 (by decide) (fun _ => ?_) (fun q => absurd q (by decide))
    refine tt_iload dL_isDaySo_316 rfl ?_
    refine tt_goto (tgt := 325) dL_isDaySo_318 (by decide) ?_
    refine tt_icmp_ne (tgt := 344) dL_isDaySo_325 (by decide) (fun q => absurd rfl q) (fun _ => ?_)
    refine tt_aload_n dL_isDaySo_328 rfl ?_
    refine tt_iload_n dL_isDaySo_329 rfl ?_
    refine tt_bipush (nI 7) dL_isDaySo_330 rfl ?_
    refine tt_fVi (r_skv hX1 hI1.1 hj ((kTe_7 _ _ _).trans e16)) dL_isDaySo_332 vL_52 rfl rfl hT4 (by decide) rfl (by decide) ⟨rfl, rfl⟩ (Nat.le_of_ble_eq_true rfl) (Nat.le_of_ble_eq_true rfl) (Nat.le_of_ble_eq_true rfl) ?_
    refine tt_iload dL_isDaySo_335 rfl ?_
    refine tt_icmp_ne (tgt := 344) dL_isDaySo_337 (by decide) (fun q => absurd rfl q) (fun _ => ?_)
    refine tt_iconst (nI 1) dL_isDaySo_340 rfl ?_
    refine tt_goto (tgt := 345) dL_isDaySo_341 (by decide) ?_
    refine tt_istore (L1 := [_, _, _, _, _, _, _, _, _, _, _, _, _, _, _, _, _, _, _]) dL_isDaySo_345 rfl (Nat.le_of_ble_eq_true rfl) rfl ?_
    refine tt_iload dL_isDaySo_347 rfl ?_
    refine tt_if_eq (tgt := 452) dL_isDaySo_349 (by decide) (fun q => absurd q (by decide)) (fun _ => ?_)
    refine tt_cut (tgt := 386) ?_ (fun K386 => ?_)
    · refine tt_cut (tgt := 448) ?_ (fun K448 => ?_)
      · refine tt_iconst (nI 1) dL_isDaySo_448 rfl ?_
        refine tt_goto (tgt := 453) dL_isDaySo_449 (by decide) ?_
        refine tt_istore (L1 := [_, _, _, _, _, _, _, _, _, _, _, _, _, _, _, _, _, _, _]) dL_isDaySo_453 rfl (Nat.le_of_ble_eq_true rfl) rfl ?_
        refine tt_iload dL_isDaySo_455 rfl ?_
        refine tt_if_eq (tgt := 493) dL_isDaySo_457 (by decide) (fun q => absurd q (by decide)) (fun _ => ?_)
        refine tt_aload_n dL_isDaySo_460 rfl ?_
        refine tt_callV (r_undo hXu (nI_nn (by omega)) hX.2.1.2.2 hI.1) dL_isDaySo_461 vL_70 rfl rfl hT4 (by decide) rfl (by decide) (Nat.le_of_ble_eq_true rfl) (Nat.le_of_ble_eq_true rfl) (Nat.le_of_ble_eq_true rfl) (fun r2 h2 q2 => ?_)
        obtain ⟨rfl, fx2, S3, P3, PI3, o3, c3, hX3, hs3⟩ := q2
        have hT4 : zT h2 4 = 5 := hX3.1.1.2.2.1.1
        have hw3 : sWF (S3 0) n := sim_WF hs3 hI.1
        refine tt_if_lt (tgt := 493) dL_isDaySo_464 (by decide) (fun q => absurd q (nI_nn (by have := hC_le (e := nI (qS n (gH (S 0) 1))) hX.2.1.2.2.2; omega))) (fun _ => ?_)
        refine tt_aload_n dL_isDaySo_467 rfl ?_
        refine tt_bipush (nI 8) dL_isDaySo_468 rfl ?_
        refine tt_fVi (r_cnt hX3 hw3 (by decide) (by decide) ((kNum_8 _ _).trans ((hs3 8 (by omega)).trans (dyN hI).2))) dL_isDaySo_470 vL_14 rfl rfl hT4 (by decide) rfl (by decide) ⟨rfl, rfl⟩ (Nat.le_of_ble_eq_true rfl) (Nat.le_of_ble_eq_true rfl) (Nat.le_of_ble_eq_true rfl) ?_
        refine tt_iload_n dL_isDaySo_473 rfl ?_
        refine tt_icmp_ne (tgt := 493) dL_isDaySo_474 (by decide) (fun q => absurd rfl q) (fun _ => ?_)
        refine tt_aload_n dL_isDaySo_477 rfl ?_
        refine tt_iload_n dL_isDaySo_478 rfl ?_
        refine tt_bipush (nI 10) dL_isDaySo_479 rfl ?_
        refine tt_fVi (r_skv hX3 hw3 hj ((kTe_10 _ _ _).trans ((hs3 _ (by omega)).trans (hk 9 (by omega) (by omega))))) dL_isDaySo_481 vL_52 rfl rfl hT4 (by decide) rfl (by decide) ⟨rfl, rfl⟩ (Nat.le_of_ble_eq_true rfl) (Nat.le_of_ble_eq_true rfl) (Nat.le_of_ble_eq_true rfl) ?_
        refine tt_iload dL_isDaySo_484 rfl ?_
        refine tt_icmp_ne (tgt := 493) dL_isDaySo_486 (by decide) (fun q => absurd rfl q) (fun _ => ?_)
        refine tt_iconst (nI 1) dL_isDaySo_489 rfl ?_
        refine tt_goto (tgt := 494) dL_isDaySo_490 (by decide) ?_
        exact tt_ireturn dL_isDaySo_494 rfl rfl (Nat.le_of_ble_eq_true rfl) (Nat.le_of_ble_eq_true rfl) ⟨rfl, fx1.trans fx2, S3, P3, PI3, o3, c3, hX3, hs3⟩
      · refine tt_iload dL_isDaySo_386 rfl ?_
        refine tt_iconst (nI 1) dL_isDaySo_388 rfl ?_
        refine tt_icmp_ne (tgt := 411) dL_isDaySo_389 (by decide) (fun _ => ?_) (fun q => absurd q (by decide))
        refine tt_iload dL_isDaySo_411 rfl ?_
        refine tt_if_eq (tgt := 436) dL_isDaySo_413 (by decide) (fun q => absurd q (by decide)) (fun _ => ?_)
        refine tt_iload dL_isDaySo_416 rfl ?_
        refine tt_bipush (-6) dL_isDaySo_418 rfl ?_
        refine tt_icmp_ne (tgt := 452) dL_isDaySo_420 (by decide) (fun q => absurd rfl q) (fun _ => ?_)
        refine tt_aload_n dL_isDaySo_423 rfl ?_
        refine tt_iload_n dL_isDaySo_424 rfl ?_
        refine tt_fVi (r_unv hX1 hI1.1 hj eUn1) dL_isDaySo_425 vL_64 rfl rfl hT4 (by decide) rfl (by decide) ⟨rfl, rfl⟩ (Nat.le_of_ble_eq_true rfl) (Nat.le_of_ble_eq_true rfl) (Nat.le_of_ble_eq_true rfl) ?_
        refine tt_bipush (-6) dL_isDaySo_428 rfl ?_
        refine tt_icmp_ne (tgt := 452) dL_isDaySo_430 (by decide) (fun q => absurd rfl q) (fun _ => ?_)
        refine tt_goto (tgt := 448) dL_isDaySo_433 (by decide) ?_
        exact K448
    · have eF := day_full hI hJ hB0 hj
      by_cases cu1 : (20 + 20 * fld (S 0) j 1) ≤ fld (S 0) j 3
      · have eU : kUf (S 0) j = nI 0 := by rw [eF, if_pos cu1]
        refine tt_iload dL_isDaySo_352 rfl ?_
        refine tt_eq eU ?_
        refine tt_iconst (nI 1) dL_isDaySo_354 rfl ?_
        refine tt_icmp_ge (tgt := 374) dL_isDaySo_355 (by decide) (fun q => absurd q (by decide)) (fun _ => ?_)
        refine tt_iload dL_isDaySo_358 rfl ?_
        refine tt_eq eU ?_
        refine tt_bipush (-6) dL_isDaySo_360 rfl ?_
        refine tt_icmp_eq (tgt := 386) dL_isDaySo_362 (by decide) (fun q => absurd q (by decide)) (fun _ => ?_)
        refine tt_iload_n dL_isDaySo_365 rfl ?_
        refine tt_iload dL_isDaySo_366 rfl ?_
        refine tt_icmp_ne (tgt := 452) dL_isDaySo_368 (by decide) (fun q => absurd (nIE (by omega)) q) (fun _ => ?_)
        refine tt_goto (tgt := 386) dL_isDaySo_371 (by decide) ?_
        exact K386
      · by_cases cu2 : fld (S 0) j 4 = 0
        · have eU : kUf (S 0) j = -6 := by rw [eF, if_neg cu1, if_pos cu2]
          refine tt_iload dL_isDaySo_352 rfl ?_
          refine tt_eq eU ?_
          refine tt_iconst (nI 1) dL_isDaySo_354 rfl ?_
          refine tt_icmp_ge (tgt := 374) dL_isDaySo_355 (by decide) (fun q => absurd q (by decide)) (fun _ => ?_)
          refine tt_iload dL_isDaySo_358 rfl ?_
          refine tt_eq eU ?_
          refine tt_bipush (-6) dL_isDaySo_360 rfl ?_
          refine tt_icmp_eq (tgt := 386) dL_isDaySo_362 (by decide) (fun _ => ?_) (fun q => absurd rfl q)
          exact K386
        · have eU : kUf (S 0) j = nI (((20 + 20 * fld (S 0) j 1) - fld (S 0) j 3 + fld (S 0) j 4 - 1) / fld (S 0) j 4) := by rw [eF, if_neg cu1, if_neg cu2]
          obtain ⟨u1, u2⟩ := day_U (l := fld (S 0) j 3) (g := fld (S 0) j 4) (H := (20 + 20 * fld (S 0) j 1)) (w := gw (S 0) j) (by omega) (by omega) rfl
          have u3 : (((20 + 20 * fld (S 0) j 1) - fld (S 0) j 3 + fld (S 0) j 4 - 1) / fld (S 0) j 4) ≤ 200 := Nat.le_trans (Nat.div_le_self _ _) (by omega)
          have eU1 : kUf (S1 0) j = nI ((((20 + 20 * fld (S 0) j 1) - fld (S 0) j 3 + fld (S 0) j 4 - 1) / fld (S 0) j 4) - 1) := by
            rw [day_full hI1 hJ1 hB hj, f1, f3, f4, if_neg cu2, u2]
            split <;> rfl
          refine tt_iload dL_isDaySo_352 rfl ?_
          refine tt_eq eU ?_
          refine tt_iconst (nI 1) dL_isDaySo_354 rfl ?_
          refine tt_icmp_ge (tgt := 374) dL_isDaySo_355 (by decide) (fun _ => ?_) (fun q => absurd ((nI_leI (by omega) (by omega)).mpr u1) q)
          refine tt_aload_n dL_isDaySo_374 rfl ?_
          refine tt_iload_n dL_isDaySo_375 rfl ?_
          refine tt_fVi (r_ufv hX1 hI1.1 hj eU1) dL_isDaySo_376 vL_61 rfl rfl hT4 (by decide) rfl (by decide) ⟨rfl, rfl⟩ (Nat.le_of_ble_eq_true rfl) (Nat.le_of_ble_eq_true rfl) (Nat.le_of_ble_eq_true rfl) ?_
          refine tt_iload dL_isDaySo_379 rfl ?_
          refine tt_eq eU ?_
          refine tt_iconst (nI 1) dL_isDaySo_381 rfl ?_
          refine tt_isubN dL_isDaySo_382 u1 ?_
          refine tt_icmp_ne (tgt := 452) dL_isDaySo_383 (by decide) (fun q => absurd rfl q) (fun _ => ?_)
          exact K386
  · refine tt_icmp_geN (tgt := 197) dL_isDaySo_187 (by decide) (by omega) (by omega) (fun q187 => ?_) (fun q187 => ?_)
    · refine tt_iload dL_isDaySo_197 rfl ?_
      exact key_199 _ (nIE (by unfold gw; first | rw [if_pos (by omega)] | rw [if_neg (by omega)]))
    · refine tt_iload_n dL_isDaySo_190 rfl ?_
      refine tt_iload dL_isDaySo_191 rfl ?_
      refine tt_iaddN dL_isDaySo_193 ?_
      refine tt_goto (tgt := 199) dL_isDaySo_194 (by decide) ?_
      exact key_199 _ (nIE (by unfold gw; first | rw [if_pos (by omega)] | rw [if_neg (by omega)]))
set_option maxRecDepth 100000 in
set_option maxHeartbeats 4000000 in
theorem c_L_isDaySo_n {h : zhp} {S : Nat → Nat → Int32} {P PI : Nat → Nat → Nat} {o c : Nat} (hX : CJ h S P PI o c) {n B0 B : Nat} (hI : zIv (S 0) n B0) (hJ : zJ (S 0) n B) (hB : B + 600000 ≤ 2 ^ 28) (ht : tn (S 0 8) < 9999) {j : Nat} (hj : j < n) (hdr : ¬ fld (S 0) j 2 = 5) : MM iL_isDaySo [.ref 4, .int (nI j)] h (fun r h2 => r = some (.int (nI 1)) ∧ zFx h h2 ∧ ∃ S' P' PI' o' c', CJ h2 S' P' PI' o' c' ∧ sim n (S' 0) (S 0)) := by
  have hn := hI.1.1
  have hB0 : B ≤ 2 ^ 28 := by omega
  have hT4 : zT h 4 = 5 := hX.1.1.2.2.1.1
  obtain ⟨⟨k0, k1, k2, k3, k4, k5, k7, k8, k9⟩, hk⟩ := skN hI hJ hB0 hj
  obtain ⟨pd, hpd, eP, eP0, eP1⟩ := day_P hI hj
  rw [(dyN hI).2] at eP0
  have hdue := day_due hI hJ hB0 hj hpd eP
  have gle := (gHF hI hJ hj (show 1 ≤ 99 by omega)).2.2.2
  have gall : gH (S 0) 1 j ≤ qS n (gH (S 0) 1) := qS_one hj
  have gbd := gH_le hI hJ (show 1 ≤ 99 by omega)
  obtain ⟨g1, g2, g3⟩ := gw_f k3
  have c1 := cH_le (c := (fld (S 0) j 0)) hI hJ (show 1 ≤ 99 by omega)
  obtain ⟨⟨c2, c3, c4⟩, -⟩ := cuN3 hJ hB0 k0
  obtain ⟨s0, -⟩ := seN hI hJ (show 0 < 8 by omega)
  obtain ⟨s2, -⟩ := seN hI hJ (show 2 < 8 by omega)
  obtain ⟨s3, -⟩ := seN hI hJ (show 3 < 8 by omega)
  have m0 : tn (S 0 0) * (1 + fld (S 0) j 1) ≤ 90 * 4 := Nat.mul_le_mul s0 (by omega)
  have eUn := day_fine hI hJ hB0 hj hpd eP
  rw [if_neg hdr] at eUn
  rw [if_neg hdr, if_neg hdr] at hdue
  have d2 : (if pd = 0 then tn (S 0 2) else 0) ≤ 90 := by split <;> omega
  have d3 : (if fld (S 0) j 5 = 0 then tn (S 0 3) else 0) ≤ 90 := by split <;> omega
  have mb : (if fld (S 0) j 5 < pd then fld (S 0) j 5 else pd) ≤ 30 := by split <;> omega
  have mb1 : (if fld (S 0) j 5 - 1 < pd - 1 then fld (S 0) j 5 - 1 else pd - 1) ≤ 30 := by split <;> omega
  refine MM_of (by decide +kernel) (Nat.le_of_ble_eq_true rfl) ?_
  refine tt_aload_n dL_isDaySo_0 rfl ?_
  refine tt_bipush (nI 8) dL_isDaySo_1 rfl ?_
  refine tt_fVi (r_cnt hX hI.1 (by decide) (by decide) ((kNum_8 _ _).trans (dyN hI).2)) dL_isDaySo_3 vL_14 rfl rfl hT4 (by decide) rfl (by decide) ⟨rfl, rfl⟩ (Nat.le_of_ble_eq_true rfl) (Nat.le_of_ble_eq_true rfl) (Nat.le_of_ble_eq_true rfl) ?_
  refine tt_istore_n (L1 := [_, _, _, _, _, _, _, _, _, _, _, _, _, _, _, _, _, _, _]) dL_isDaySo_6 rfl (Nat.le_of_ble_eq_true rfl) rfl ?_
  refine tt_aload_n dL_isDaySo_7 rfl ?_
  refine tt_iload_n dL_isDaySo_8 rfl ?_
  refine tt_iconst (nI 3) dL_isDaySo_9 rfl ?_
  refine tt_fVi (r_sk3 hX hI hJ hB0 hj) dL_isDaySo_10 vL_52 rfl rfl hT4 (by decide) rfl (by decide) ⟨rfl, rfl⟩ (Nat.le_of_ble_eq_true rfl) (Nat.le_of_ble_eq_true rfl) (Nat.le_of_ble_eq_true rfl) ?_
  refine tt_istore_n (L1 := [_, _, _, _, _, _, _, _, _, _, _, _, _, _, _, _, _, _, _]) dL_isDaySo_13 rfl (Nat.le_of_ble_eq_true rfl) rfl ?_
  refine tt_aload_n dL_isDaySo_14 rfl ?_
  refine tt_iload_n dL_isDaySo_15 rfl ?_
  refine tt_iconst (nI 4) dL_isDaySo_16 rfl ?_
  refine tt_fVi (r_sk4 hX hI hJ hB0 hj) dL_isDaySo_17 vL_52 rfl rfl hT4 (by decide) rfl (by decide) ⟨rfl, rfl⟩ (Nat.le_of_ble_eq_true rfl) (Nat.le_of_ble_eq_true rfl) (Nat.le_of_ble_eq_true rfl) ?_
  refine tt_istore (L1 := [_, _, _, _, _, _, _, _, _, _, _, _, _, _, _, _, _, _, _]) dL_isDaySo_20 rfl (Nat.le_of_ble_eq_true rfl) rfl ?_
  refine tt_aload_n dL_isDaySo_22 rfl ?_
  refine tt_iload_n dL_isDaySo_23 rfl ?_
  refine tt_iconst (nI 5) dL_isDaySo_24 rfl ?_
  refine tt_fVi (r_sk5 hX hI hJ hB0 hj) dL_isDaySo_25 vL_52 rfl rfl hT4 (by decide) rfl (by decide) ⟨rfl, rfl⟩ (Nat.le_of_ble_eq_true rfl) (Nat.le_of_ble_eq_true rfl) (Nat.le_of_ble_eq_true rfl) ?_
  refine tt_istore (L1 := [_, _, _, _, _, _, _, _, _, _, _, _, _, _, _, _, _, _, _]) dL_isDaySo_28 rfl (Nat.le_of_ble_eq_true rfl) rfl ?_
  refine tt_aload_n dL_isDaySo_30 rfl ?_
  refine tt_iload_n dL_isDaySo_31 rfl ?_
  refine tt_bipush (nI 6) dL_isDaySo_32 rfl ?_
  refine tt_fVi (r_sk6 hX hI hJ hB0 hj) dL_isDaySo_34 vL_52 rfl rfl hT4 (by decide) rfl (by decide) ⟨rfl, rfl⟩ (Nat.le_of_ble_eq_true rfl) (Nat.le_of_ble_eq_true rfl) (Nat.le_of_ble_eq_true rfl) ?_
  refine tt_istore (L1 := [_, _, _, _, _, _, _, _, _, _, _, _, _, _, _, _, _, _, _]) dL_isDaySo_37 rfl (Nat.le_of_ble_eq_true rfl) rfl ?_
  refine tt_aload_n dL_isDaySo_39 rfl ?_
  refine tt_iload_n dL_isDaySo_40 rfl ?_
  refine tt_bipush (nI 7) dL_isDaySo_41 rfl ?_
  refine tt_fVi (r_sk7 hX hI hJ hB0 hj) dL_isDaySo_43 vL_52 rfl rfl hT4 (by decide) rfl (by decide) ⟨rfl, rfl⟩ (Nat.le_of_ble_eq_true rfl) (Nat.le_of_ble_eq_true rfl) (Nat.le_of_ble_eq_true rfl) ?_
  refine tt_istore (L1 := [_, _, _, _, _, _, _, _, _, _, _, _, _, _, _, _, _, _, _]) dL_isDaySo_46 rfl (Nat.le_of_ble_eq_true rfl) rfl ?_
  refine tt_aload_n dL_isDaySo_48 rfl ?_
  refine tt_iload_n dL_isDaySo_49 rfl ?_
  refine tt_bipush (nI 8) dL_isDaySo_50 rfl ?_
  refine tt_fVi (r_sk8 hX hI hJ hB0 hj) dL_isDaySo_52 vL_52 rfl rfl hT4 (by decide) rfl (by decide) ⟨rfl, rfl⟩ (Nat.le_of_ble_eq_true rfl) (Nat.le_of_ble_eq_true rfl) (Nat.le_of_ble_eq_true rfl) ?_
  refine tt_istore (L1 := [_, _, _, _, _, _, _, _, _, _, _, _, _, _, _, _, _, _, _]) dL_isDaySo_55 rfl (Nat.le_of_ble_eq_true rfl) rfl ?_
  refine tt_aload_n dL_isDaySo_57 rfl ?_
  refine tt_iload_n dL_isDaySo_58 rfl ?_
  refine tt_bipush (nI 10) dL_isDaySo_59 rfl ?_
  refine tt_fVi (r_sk10 hX hI hJ hB0 hj) dL_isDaySo_61 vL_52 rfl rfl hT4 (by decide) rfl (by decide) ⟨rfl, rfl⟩ (Nat.le_of_ble_eq_true rfl) (Nat.le_of_ble_eq_true rfl) (Nat.le_of_ble_eq_true rfl) ?_
  refine tt_istore (L1 := [_, _, _, _, _, _, _, _, _, _, _, _, _, _, _, _, _, _, _]) dL_isDaySo_64 rfl (Nat.le_of_ble_eq_true rfl) rfl ?_
  refine tt_aload_n dL_isDaySo_66 rfl ?_
  refine tt_iload_n dL_isDaySo_67 rfl ?_
  refine tt_fVi (r_ufv hX hI.1 hj rfl) dL_isDaySo_68 vL_61 rfl rfl hT4 (by decide) rfl (by decide) ⟨rfl, rfl⟩ (Nat.le_of_ble_eq_true rfl) (Nat.le_of_ble_eq_true rfl) (Nat.le_of_ble_eq_true rfl) ?_
  refine tt_istore (L1 := [_, _, _, _, _, _, _, _, _, _, _, _, _, _, _, _, _, _, _]) dL_isDaySo_71 rfl (Nat.le_of_ble_eq_true rfl) rfl ?_
  refine tt_aload_n dL_isDaySo_73 rfl ?_
  refine tt_iload_n dL_isDaySo_74 rfl ?_
  refine tt_fVi (r_unv hX hI.1 hj eUn) dL_isDaySo_75 vL_64 rfl rfl hT4 (by decide) rfl (by decide) ⟨rfl, rfl⟩ (Nat.le_of_ble_eq_true rfl) (Nat.le_of_ble_eq_true rfl) (Nat.le_of_ble_eq_true rfl) ?_
  refine tt_istore (L1 := [_, _, _, _, _, _, _, _, _, _, _, _, _, _, _, _, _, _, _]) dL_isDaySo_78 rfl (Nat.le_of_ble_eq_true rfl) rfl ?_
  refine tt_aload_n dL_isDaySo_80 rfl ?_
  refine tt_iload_n dL_isDaySo_81 rfl ?_
  refine tt_iconst (nI 2) dL_isDaySo_82 rfl ?_
  refine tt_fVi (r_sk2 hX hI hJ hB0 hj) dL_isDaySo_83 vL_52 rfl rfl hT4 (by decide) rfl (by decide) ⟨rfl, rfl⟩ (Nat.le_of_ble_eq_true rfl) (Nat.le_of_ble_eq_true rfl) (Nat.le_of_ble_eq_true rfl) ?_
  refine tt_iconst (nI 5) dL_isDaySo_86 rfl ?_
  refine tt_icmp_ne (tgt := 94) dL_isDaySo_87 (by decide) (fun _ => ?_) (fun q => absurd ((nI_eqI (by omega) (by omega)).mp q) hdr)
  refine tt_iconst (nI 0) dL_isDaySo_94 rfl ?_
  refine tt_istore (L1 := [_, _, _, _, _, _, _, _, _, _, _, _, _, _, _, _, _, _, _]) dL_isDaySo_95 rfl (Nat.le_of_ble_eq_true rfl) rfl ?_
  refine tt_aload_n dL_isDaySo_97 rfl ?_
  refine tt_iconst (nI 0) dL_isDaySo_98 rfl ?_
  refine tt_fVi (r_cnt hX hI.1 (by decide) (by decide) ((kNum_s _ _ (by omega)).trans (seN hI hJ (by omega)).2)) dL_isDaySo_99 vL_14 rfl rfl hT4 (by decide) rfl (by decide) ⟨rfl, rfl⟩ (Nat.le_of_ble_eq_true rfl) (Nat.le_of_ble_eq_true rfl) (Nat.le_of_ble_eq_true rfl) ?_
  refine tt_iload dL_isDaySo_102 rfl ?_
  refine tt_bipush (nI 20) dL_isDaySo_104 rfl ?_
  refine tt_idiv dL_isDaySo_106 (by decide) ?_
  refine tt_eq (pk_div (by omega) (by omega) (by omega)) ?_
  refine tt_eq (y := nI (1 + fld (S 0) j 1)) (nIE (by omega)) ?_
  refine tt_imulN dL_isDaySo_107 ?_
  refine tt_iload dL_isDaySo_108 rfl ?_
  refine tt_if_ne (tgt := 119) dL_isDaySo_110 (by decide) (fun q => absurd rfl q) (fun _ => ?_)
  refine tt_c0 (tgt := 128) (x := nI (if pd = 0 then tn (S 0 2) else 0)) ?_ (fun key_128 => ?_)
  · refine tt_iaddN dL_isDaySo_128 ?_
    refine tt_iload dL_isDaySo_129 rfl ?_
    refine tt_if_ne (tgt := 139) dL_isDaySo_131 (by decide) (fun q => absurd rfl q) (fun _ => ?_)
    refine tt_c0 (tgt := 148) (x := nI (if fld (S 0) j 5 = 0 then tn (S 0 3) else 0)) ?_ (fun key_148 => ?_)
    · refine tt_iaddN dL_isDaySo_148 ?_
      refine tt_istore (L1 := [_, _, _, _, _, _, _, _, _, _, _, _, _, _, _, _, _, _, _]) dL_isDaySo_149 rfl (Nat.le_of_ble_eq_true rfl) rfl ?_
      refine tt_aload_n dL_isDaySo_151 rfl ?_
      refine tt_aload_n dL_isDaySo_152 rfl ?_
      refine tt_iload_n dL_isDaySo_153 rfl ?_
      refine tt_iconst (nI 0) dL_isDaySo_154 rfl ?_
      refine tt_fVi (r_sk0 hX hI hJ hB0 hj) dL_isDaySo_155 vL_52 rfl rfl hT4 (by decide) rfl (by decide) ⟨rfl, rfl⟩ (Nat.le_of_ble_eq_true rfl) (Nat.le_of_ble_eq_true rfl) (Nat.le_of_ble_eq_true rfl) ?_
      refine tt_iconst (nI 1) dL_isDaySo_158 rfl ?_
      refine tt_fVi (r_co hX hI hJ k0) dL_isDaySo_159 vL_67 rfl rfl hT4 (by decide) rfl (by decide) ⟨rfl, rfl⟩ (Nat.le_of_ble_eq_true rfl) (Nat.le_of_ble_eq_true rfl) (Nat.le_of_ble_eq_true rfl) ?_
      refine tt_istore (L1 := [_, _, _, _, _, _, _, _, _, _, _, _, _, _, _, _, _, _, _]) dL_isDaySo_162 rfl (Nat.le_of_ble_eq_true rfl) rfl ?_
      refine tt_aload_n dL_isDaySo_164 rfl ?_
      refine tt_iload_n dL_isDaySo_165 rfl ?_
      refine tt_iconst (nI 0) dL_isDaySo_166 rfl ?_
      refine tt_fVi (r_sk0 hX hI hJ hB0 hj) dL_isDaySo_167 vL_52 rfl rfl hT4 (by decide) rfl (by decide) ⟨rfl, rfl⟩ (Nat.le_of_ble_eq_true rfl) (Nat.le_of_ble_eq_true rfl) (Nat.le_of_ble_eq_true rfl) ?_
      refine tt_istore (L1 := [_, _, _, _, _, _, _, _, _, _, _, _, _, _, _, _, _, _, _]) dL_isDaySo_170 rfl (Nat.le_of_ble_eq_true rfl) rfl ?_
      refine tt_aload_n dL_isDaySo_172 rfl ?_
      refine tt_iload dL_isDaySo_173 rfl ?_
      refine tt_iconst (nI 0) dL_isDaySo_175 rfl ?_
      refine tt_fVi (r_cu0 hX hI hJ hB0 k0) dL_isDaySo_176 vL_55 rfl rfl hT4 (by decide) rfl (by decide) ⟨rfl, rfl⟩ (Nat.le_of_ble_eq_true rfl) (Nat.le_of_ble_eq_true rfl) (Nat.le_of_ble_eq_true rfl) ?_
      refine tt_istore (L1 := [_, _, _, _, _, _, _, _, _, _, _, _, _, _, _, _, _, _, _]) dL_isDaySo_179 rfl (Nat.le_of_ble_eq_true rfl) rfl ?_
      refine tt_iload_n dL_isDaySo_181 rfl ?_
      refine tt_iload dL_isDaySo_182 rfl ?_
      refine tt_iaddN dL_isDaySo_184 ?_
      refine tt_iload dL_isDaySo_185 rfl ?_
      refine tt_c2 (tgt := 199) (x := nI (gw (S 0) j)) ?_ (fun key_199 => ?_)
      · refine tt_istore (L1 := [_, _, _, _, _, _, _, _, _, _, _, _, _, _, _, _, _, _, _]) dL_isDaySo_199 rfl (Nat.le_of_ble_eq_true rfl) rfl ?_
        refine tt_aload_n dL_isDaySo_201 rfl ?_
        refine tt_iconst (nI 1) dL_isDaySo_202 rfl ?_
        refine tt_callV (c_X5_pass hX.1 hX.2.1 hI.1 (nI 1)) dL_isDaySo_203 vL_45 rfl rfl hT4 (by decide) rfl (by decide) (Nat.le_of_ble_eq_true rfl) (Nat.le_of_ble_eq_true rfl) (Nat.le_of_ble_eq_true rfl) (fun r1 h1 q1 => ?_)
        rw [day_1 hI hJ hB ht] at q1
        have q1 : zcQ h S P PI n o c (nI (qS n (gH (S 0) 1))) (cE (S 0) n (fun _ => 1) (S 0 8 + nI 1) (nI 0)) r1 h1 := q1
        have fx1 := zFx_cQ q1
        obtain ⟨rfl, ⟨P1, PI1, hXu⟩, -⟩ := CI_cQ hX q1
        obtain ⟨S1, hS1⟩ : ∃ S1, S1 = uS S n o c (cE (S 0) n (fun _ => 1) (S 0 8 + nI 1) (nI 0)) := ⟨_, rfl⟩
        have hX1 : CJ h1 S1 P1 PI1 _ _ := hS1 ▸ hXu
        have e0 : S1 0 = cE (S 0) n (fun _ => 1) (S 0 8 + nI 1) (nI 0) := by rw [hS1, uS_0]
        have hI1 : zIv (S1 0) n B0 := by rw [e0]; exact day_I hI hJ hB ht
        have hJ1 : zJ (S1 0) n (B + 600000) := by rw [e0]; exact cE_J hI hJ (by omega) (dyN hI).2 (dyN hI).1 hB
        have e18 : S1 0 8 = nI (tn (S 0 8) + 1) := by rw [e0]; exact day_8 hI
        have e17 : S1 0 7 = nI (tn (S 0 7)) := by rw [e0]; exact (day_lo (by omega) (by omega) (by omega)).trans (seN hI hJ (by omega)).2
        have e1T : kTl (S1 0) = nI (tn (S 0 7)) := by rw [e0]; exact day_T hI hJ
        have e13 : S1 0 (34 + 10 * j + 3) = nI (gw (S 0) j) := by rw [e0]; exact day_s3 hI hJ hB0 hj
        have e1b : S1 0 (34 + 10 * j + 7) = nI (fld (S 0) j 7 + (fld (S 0) j 3 + fld (S 0) j 4 - gw (S 0) j)) := by rw [e0]; exact day_s7 hI hJ hB0 hj
        have e19 : S1 0 (34 + 10 * j + 9) = nI (fld (S 0) j 9 + gH (S 0) 1 j) := by rw [e0]; exact day_s9 hI hJ hB0 hj
        have e15 : S1 0 (34 + 10 * j + 5) = nI (fld (S 0) j 5 - 1) := by rw [e0, day_s5 hI hJ hB0 hj, if_neg hdr]
        have e16 : S1 0 (34 + 10 * j + 6) = S 0 (34 + 10 * j + 6) := by rw [e0]; exact day_sf hI hj (by omega) (by omega) (by omega) (by omega) (by omega)
        have e1c : S1 0 (15 + 3 * (fld (S 0) j 0) + 0) = nI (tn (S 0 (15 + 3 * (fld (S 0) j 0) + 0)) + qS n (fun i => if cuN (S 0) i = (fld (S 0) j 0) then gH (S 0) 1 i else 0)) := by rw [e0]; exact day_cu hI hJ hB0 k0
        have f1 : fld (S1 0) j 1 = fld (S 0) j 1 := by unfold fld; rw [e0, day_sf hI hj (by omega) (by omega) (by omega) (by omega) (by omega)]
        have f2 : fld (S1 0) j 2 = fld (S 0) j 2 := by unfold fld; rw [e0, day_sf hI hj (by omega) (by omega) (by omega) (by omega) (by omega)]
        have f4 : fld (S1 0) j 4 = fld (S 0) j 4 := by unfold fld; rw [e0, day_sf hI hj (by omega) (by omega) (by omega) (by omega) (by omega)]
        have f3 : fld (S1 0) j 3 = gw (S 0) j := (congrArg tn e13).trans (tn_N (by omega))
        have f5 : fld (S1 0) j 5 = fld (S 0) j 5 - 1 := (congrArg tn e15).trans (tn_N (by omega))
        have eQ : kPa (S1 0) j (S1 0 8) = nI (pd - 1) := by rw [e18, e0]; exact eP1 ht _ _
        have eUn1 := day_fine hI1 hJ1 hB hj (show pd - 1 < 2 ^ 30 + 1 by omega) eQ
        rw [f2, if_neg hdr, f5] at eUn1
        have hT4 : zT h1 4 = 5 := hX1.1.1.2.2.1.1
        refine tt_iload dL_isDaySo_206 rfl ?_
        refine tt_icmp_ltN (tgt := 344) dL_isDaySo_208 (by decide) (by omega) (by omega) (fun q => absurd q (by omega)) (fun _ => ?_)
        refine tt_aload_n dL_isDaySo_211 rfl ?_
        refine tt_bipush (nI 8) dL_isDaySo_212 rfl ?_
        refine tt_fVi (r_cnt hX1 hI1.1 (by decide) (by decide) ((kNum_8 _ _).trans e18)) dL_isDaySo_214 vL_14 rfl rfl hT4 (by decide) rfl (by decide) ⟨rfl, rfl⟩ (Nat.le_of_ble_eq_true rfl) (Nat.le_of_ble_eq_true rfl) (Nat.le_of_ble_eq_true rfl) ?_
        refine tt_iload_n dL_isDaySo_217 rfl ?_
        refine tt_iconst (nI 1) dL_isDaySo_218 rfl ?_
        refine tt_iaddN dL_isDaySo_219 ?_
        refine tt_icmp_ne (tgt := 344) dL_isDaySo_220 (by decide) (fun q => absurd rfl q) (fun _ => ?_)
        refine tt_aload_n dL_isDaySo_223 rfl ?_
        refine tt_bipush (nI 10) dL_isDaySo_224 rfl ?_
        refine tt_fVi (r_cnt hX1 hI1.1 (by decide) (by decide) ((kNum_10 _ _).trans e1T)) dL_isDaySo_226 vL_14 rfl rfl hT4 (by decide) rfl (by decide) ⟨rfl, rfl⟩ (Nat.le_of_ble_eq_true rfl) (Nat.le_of_ble_eq_true rfl) (Nat.le_of_ble_eq_true rfl) ?_
        refine tt_aload_n dL_isDaySo_229 rfl ?_
        refine tt_bipush (nI 7) dL_isDaySo_230 rfl ?_
        refine tt_fVi (r_cnt hX1 hI1.1 (by decide) (by decide) ((kNum_s _ _ (by omega)).trans e17)) dL_isDaySo_232 vL_14 rfl rfl hT4 (by decide) rfl (by decide) ⟨rfl, rfl⟩ (Nat.le_of_ble_eq_true rfl) (Nat.le_of_ble_eq_true rfl) (Nat.le_of_ble_eq_true rfl) ?_
        refine tt_icmp_ne (tgt := 344) dL_isDaySo_235 (by decide) (fun q => absurd rfl q) (fun _ => ?_)
        refine tt_aload_n dL_isDaySo_238 rfl ?_
        refine tt_iload_n dL_isDaySo_239 rfl ?_
        refine tt_iconst (nI 3) dL_isDaySo_240 rfl ?_
        refine tt_fVi (r_skv hX1 hI1.1 hj ((kTe_3 _ _ _).trans e13)) dL_isDaySo_241 vL_52 rfl rfl hT4 (by decide) rfl (by decide) ⟨rfl, rfl⟩ (Nat.le_of_ble_eq_true rfl) (Nat.le_of_ble_eq_true rfl) (Nat.le_of_ble_eq_true rfl) ?_
        refine tt_iload dL_isDaySo_244 rfl ?_
        refine tt_icmp_ne (tgt := 344) dL_isDaySo_246 (by decide) (fun q => absurd rfl q) (fun _ => ?_)
        refine tt_aload_n dL_isDaySo_249 rfl ?_
        refine tt_iload_n dL_isDaySo_250 rfl ?_
        refine tt_bipush (nI 8) dL_isDaySo_251 rfl ?_
        refine tt_fVi (r_skv hX1 hI1.1 hj ((kTe_8 _ _ _).trans e1b)) dL_isDaySo_253 vL_52 rfl rfl hT4 (by decide) rfl (by decide) ⟨rfl, rfl⟩ (Nat.le_of_ble_eq_true rfl) (Nat.le_of_ble_eq_true rfl) (Nat.le_of_ble_eq_true rfl) ?_
        refine tt_iload dL_isDaySo_256 rfl ?_
        refine tt_isubN dL_isDaySo_258 (by omega) ?_
        refine tt_iload_n dL_isDaySo_259 rfl ?_
        refine tt_iload dL_isDaySo_260 rfl ?_
        refine tt_iaddN dL_isDaySo_262 ?_
        refine tt_iload dL_isDaySo_263 rfl ?_
        refine tt_isubN dL_isDaySo_265 (by omega) ?_
        refine tt_icmp_ne (tgt := 344) dL_isDaySo_266 (by decide) (fun q => absurd (nIE (by omega)) q) (fun _ => ?_)
        refine tt_aload_n dL_isDaySo_269 rfl ?_
        refine tt_iload_n dL_isDaySo_270 rfl ?_
        refine tt_bipush (nI 10) dL_isDaySo_271 rfl ?_
        refine tt_fVi (r_skv hX1 hI1.1 hj ((kTe_10 _ _ _).trans e19)) dL_isDaySo_273 vL_52 rfl rfl hT4 (by decide) rfl (by decide) ⟨rfl, rfl⟩ (Nat.le_of_ble_eq_true rfl) (Nat.le_of_ble_eq_true rfl) (Nat.le_of_ble_eq_true rfl) ?_
        refine tt_iload dL_isDaySo_276 rfl ?_
        refine tt_isubN dL_isDaySo_278 (by omega) ?_
        refine tt_iload dL_isDaySo_279 rfl ?_
        refine tt_icmp_ne (tgt := 344) dL_isDaySo_281 (by decide) (fun q => absurd (nIE (by omega)) q) (fun _ => ?_)
        refine tt_aload_n dL_isDaySo_284 rfl ?_
        refine tt_iload dL_isDaySo_285 rfl ?_
        refine tt_iconst (nI 0) dL_isDaySo_287 rfl ?_
        refine tt_fVi (r_cuv hX1 hI1.1 ((kCus_0 _ _ k0).trans e1c)) dL_isDaySo_288 vL_55 rfl rfl hT4 (by decide) rfl (by decide) ⟨rfl, rfl⟩ (Nat.le_of_ble_eq_true rfl) (Nat.le_of_ble_eq_true rfl) (Nat.le_of_ble_eq_true rfl) ?_
        refine tt_iload dL_isDaySo_291 rfl ?_
        refine tt_isubN dL_isDaySo_293 (by omega) ?_
        refine tt_iload dL_isDaySo_294 rfl ?_
        refine tt_icmp_ne (tgt := 344) dL_isDaySo_296 (by decide) (fun q => absurd (nIE (by omega)) q) (fun _ => ?_)
        refine tt_aload_n dL_isDaySo_299 rfl ?_
        refine tt_iload_n dL_isDaySo_300 rfl ?_
        refine tt_bipush (nI 6) dL_isDaySo_301 rfl ?_
        refine tt_fVi (r_skv hX1 hI1.1 hj ((kTe_6 _ _ _).trans e15)) dL_isDaySo_303 vL_52 rfl rfl hT4 (by decide) rfl (by decide) ⟨rfl, rfl⟩ (Nat.le_of_ble_eq_true rfl) (Nat.le_of_ble_eq_true rfl) (Nat.le_of_ble_eq_true rfl) ?_
        refine tt_iload dL_isDaySo_306 rfl ?_
        refine tt_if_ne (tgt := 316) dL_isDaySo_308 (by decide) (fun q => absurd rfl q) (fun _ => ?_)
        refine tt_c0 (tgt := 325) (x := nI (fld (S 0) j 5 - 1)) ?_ (fun key_325 => ?_)
        · refine tt_icmp_ne (tgt := 344) dL_isDaySo_325 (by decide) (fun q => absurd rfl q) (fun _ => ?_)
          refine tt_aload_n dL_isDaySo_328 rfl ?_
          refine tt_iload_n dL_isDaySo_329 rfl ?_
          refine tt_bipush (nI 7) dL_isDaySo_330 rfl ?_
          refine tt_fVi (r_skv hX1 hI1.1 hj ((kTe_7 _ _ _).trans e16)) dL_isDaySo_332 vL_52 rfl rfl hT4 (by decide) rfl (by decide) ⟨rfl, rfl⟩ (Nat.le_of_ble_eq_true rfl) (Nat.le_of_ble_eq_true rfl) (Nat.le_of_ble_eq_true rfl) ?_
          refine tt_iload dL_isDaySo_335 rfl ?_
          refine tt_icmp_ne (tgt := 344) dL_isDaySo_337 (by decide) (fun q => absurd rfl q) (fun _ => ?_)
          refine tt_iconst (nI 1) dL_isDaySo_340 rfl ?_
          refine tt_goto (tgt := 345) dL_isDaySo_341 (by decide) ?_
          refine tt_istore (L1 := [_, _, _, _, _, _, _, _, _, _, _, _, _, _, _, _, _, _, _]) dL_isDaySo_345 rfl (Nat.le_of_ble_eq_true rfl) rfl ?_
          refine tt_iload dL_isDaySo_347 rfl ?_
          refine tt_if_eq (tgt := 452) dL_isDaySo_349 (by decide) (fun q => absurd q (by decide)) (fun _ => ?_)
          refine tt_cut (tgt := 386) ?_ (fun K386 => ?_)
          · refine tt_cut (tgt := 448) ?_ (fun K448 => ?_)
            · refine tt_iconst (nI 1) dL_isDaySo_448 rfl ?_
              refine tt_goto (tgt := 453) dL_isDaySo_449 (by decide) ?_
              refine tt_istore (L1 := [_, _, _, _, _, _, _, _, _, _, _, _, _, _, _, _, _, _, _]) dL_isDaySo_453 rfl (Nat.le_of_ble_eq_true rfl) rfl ?_
              refine tt_iload dL_isDaySo_455 rfl ?_
              refine tt_if_eq (tgt := 493) dL_isDaySo_457 (by decide) (fun q => absurd q (by decide)) (fun _ => ?_)
              refine tt_aload_n dL_isDaySo_460 rfl ?_
              refine tt_callV (r_undo hXu (nI_nn (by omega)) hX.2.1.2.2 hI.1) dL_isDaySo_461 vL_70 rfl rfl hT4 (by decide) rfl (by decide) (Nat.le_of_ble_eq_true rfl) (Nat.le_of_ble_eq_true rfl) (Nat.le_of_ble_eq_true rfl) (fun r2 h2 q2 => ?_)
              obtain ⟨rfl, fx2, S3, P3, PI3, o3, c3, hX3, hs3⟩ := q2
              have hT4 : zT h2 4 = 5 := hX3.1.1.2.2.1.1
              have hw3 : sWF (S3 0) n := sim_WF hs3 hI.1
              refine tt_if_lt (tgt := 493) dL_isDaySo_464 (by decide) (fun q => absurd q (nI_nn (by have := hC_le (e := nI (qS n (gH (S 0) 1))) hX.2.1.2.2.2; omega))) (fun _ => ?_)
              refine tt_aload_n dL_isDaySo_467 rfl ?_
              refine tt_bipush (nI 8) dL_isDaySo_468 rfl ?_
              refine tt_fVi (r_cnt hX3 hw3 (by decide) (by decide) ((kNum_8 _ _).trans ((hs3 8 (by omega)).trans (dyN hI).2))) dL_isDaySo_470 vL_14 rfl rfl hT4 (by decide) rfl (by decide) ⟨rfl, rfl⟩ (Nat.le_of_ble_eq_true rfl) (Nat.le_of_ble_eq_true rfl) (Nat.le_of_ble_eq_true rfl) ?_
              refine tt_iload_n dL_isDaySo_473 rfl ?_
              refine tt_icmp_ne (tgt := 493) dL_isDaySo_474 (by decide) (fun q => absurd rfl q) (fun _ => ?_)
              refine tt_aload_n dL_isDaySo_477 rfl ?_
              refine tt_iload_n dL_isDaySo_478 rfl ?_
              refine tt_bipush (nI 10) dL_isDaySo_479 rfl ?_
              refine tt_fVi (r_skv hX3 hw3 hj ((kTe_10 _ _ _).trans ((hs3 _ (by omega)).trans (hk 9 (by omega) (by omega))))) dL_isDaySo_481 vL_52 rfl rfl hT4 (by decide) rfl (by decide) ⟨rfl, rfl⟩ (Nat.le_of_ble_eq_true rfl) (Nat.le_of_ble_eq_true rfl) (Nat.le_of_ble_eq_true rfl) ?_
              refine tt_iload dL_isDaySo_484 rfl ?_
              refine tt_icmp_ne (tgt := 493) dL_isDaySo_486 (by decide) (fun q => absurd rfl q) (fun _ => ?_)
              refine tt_iconst (nI 1) dL_isDaySo_489 rfl ?_
              refine tt_goto (tgt := 494) dL_isDaySo_490 (by decide) ?_
              exact tt_ireturn dL_isDaySo_494 rfl rfl (Nat.le_of_ble_eq_true rfl) (Nat.le_of_ble_eq_true rfl) ⟨rfl, fx1.trans fx2, S3, P3, PI3, o3, c3, hX3, hs3⟩
            · refine tt_iload dL_isDaySo_386 rfl ?_
              refine tt_iconst (nI 1) dL_isDaySo_388 rfl ?_
              refine tt_icmp_ne (tgt := 411) dL_isDaySo_389 (by decide) (fun q389 => ?_) (fun q389 => ?_)
              · refine tt_iload dL_isDaySo_411 rfl ?_
                refine tt_if_eq (tgt := 436) dL_isDaySo_413 (by decide) (fun _ => ?_) (fun q => absurd rfl q)
                refine tt_aload_n dL_isDaySo_436 rfl ?_
                refine tt_iload_n dL_isDaySo_437 rfl ?_
                refine tt_fVi (r_unv hX1 hI1.1 hj eUn1) dL_isDaySo_438 vL_64 rfl rfl hT4 (by decide) rfl (by decide) ⟨rfl, rfl⟩ (Nat.le_of_ble_eq_true rfl) (Nat.le_of_ble_eq_true rfl) (Nat.le_of_ble_eq_true rfl) ?_
                refine tt_iload dL_isDaySo_441 rfl ?_
                refine tt_iconst (nI 1) dL_isDaySo_443 rfl ?_
                refine tt_isubN dL_isDaySo_444 (by omega) ?_
                refine tt_icmp_ne (tgt := 452) dL_isDaySo_445 (by decide) (fun q => absurd (nIE (m_f (fun z => q389 (nIE (by omega))))) q) (fun _ => ?_)
                exact K448
              · refine tt_iload dL_isDaySo_392 rfl ?_
                refine tt_if_ne (tgt := 452) dL_isDaySo_394 (by decide) (fun q => absurd rfl q) (fun _ => ?_)
                refine tt_iload dL_isDaySo_397 rfl ?_
                refine tt_iload_n dL_isDaySo_399 rfl ?_
                refine tt_icmp_le (tgt := 448) dL_isDaySo_400 (by decide) (fun q400 => ?_) (fun q400 => ?_)
                · exact K448
                · refine tt_iload dL_isDaySo_403 rfl ?_
                  refine tt_if_ne (tgt := 452) dL_isDaySo_405 (by decide) (fun q => absurd (by rw [m_0 (show (if fld (S 0) j 5 < pd then fld (S 0) j 5 else pd) = 0 by have := (nI_eqI (by omega) (by omega)).mp q389; omega) (fun z => q400 (eP0.mpr z))]; rfl) q) (fun _ => ?_)
                  refine tt_goto (tgt := 448) dL_isDaySo_408 (by decide) ?_
                  exact K448
          · have eF := day_full hI hJ hB0 hj
            by_cases cu1 : (20 + 20 * fld (S 0) j 1) ≤ fld (S 0) j 3
            · have eU : kUf (S 0) j = nI 0 := by rw [eF, if_pos cu1]
              refine tt_iload dL_isDaySo_352 rfl ?_
              refine tt_eq eU ?_
              refine tt_iconst (nI 1) dL_isDaySo_354 rfl ?_
              refine tt_icmp_ge (tgt := 374) dL_isDaySo_355 (by decide) (fun q => absurd q (by decide)) (fun _ => ?_)
              refine tt_iload dL_isDaySo_358 rfl ?_
              refine tt_eq eU ?_
              refine tt_bipush (-6) dL_isDaySo_360 rfl ?_
              refine tt_icmp_eq (tgt := 386) dL_isDaySo_362 (by decide) (fun q => absurd q (by decide)) (fun _ => ?_)
              refine tt_iload_n dL_isDaySo_365 rfl ?_
              refine tt_iload dL_isDaySo_366 rfl ?_
              refine tt_icmp_ne (tgt := 452) dL_isDaySo_368 (by decide) (fun q => absurd (nIE (by omega)) q) (fun _ => ?_)
              refine tt_goto (tgt := 386) dL_isDaySo_371 (by decide) ?_
              exact K386
            · by_cases cu2 : fld (S 0) j 4 = 0
              · have eU : kUf (S 0) j = -6 := by rw [eF, if_neg cu1, if_pos cu2]
                refine tt_iload dL_isDaySo_352 rfl ?_
                refine tt_eq eU ?_
                refine tt_iconst (nI 1) dL_isDaySo_354 rfl ?_
                refine tt_icmp_ge (tgt := 374) dL_isDaySo_355 (by decide) (fun q => absurd q (by decide)) (fun _ => ?_)
                refine tt_iload dL_isDaySo_358 rfl ?_
                refine tt_eq eU ?_
                refine tt_bipush (-6) dL_isDaySo_360 rfl ?_
                refine tt_icmp_eq (tgt := 386) dL_isDaySo_362 (by decide) (fun _ => ?_) (fun q => absurd rfl q)
                exact K386
              · have eU : kUf (S 0) j = nI (((20 + 20 * fld (S 0) j 1) - fld (S 0) j 3 + fld (S 0) j 4 - 1) / fld (S 0) j 4) := by rw [eF, if_neg cu1, if_neg cu2]
                obtain ⟨u1, u2⟩ := day_U (l := fld (S 0) j 3) (g := fld (S 0) j 4) (H := (20 + 20 * fld (S 0) j 1)) (w := gw (S 0) j) (by omega) (by omega) rfl
                have u3 : (((20 + 20 * fld (S 0) j 1) - fld (S 0) j 3 + fld (S 0) j 4 - 1) / fld (S 0) j 4) ≤ 200 := Nat.le_trans (Nat.div_le_self _ _) (by omega)
                have eU1 : kUf (S1 0) j = nI ((((20 + 20 * fld (S 0) j 1) - fld (S 0) j 3 + fld (S 0) j 4 - 1) / fld (S 0) j 4) - 1) := by
                  rw [day_full hI1 hJ1 hB hj, f1, f3, f4, if_neg cu2, u2]
                  split <;> rfl
                refine tt_iload dL_isDaySo_352 rfl ?_
                refine tt_eq eU ?_
                refine tt_iconst (nI 1) dL_isDaySo_354 rfl ?_
                refine tt_icmp_ge (tgt := 374) dL_isDaySo_355 (by decide) (fun _ => ?_) (fun q => absurd ((nI_leI (by omega) (by omega)).mpr u1) q)
                refine tt_aload_n dL_isDaySo_374 rfl ?_
                refine tt_iload_n dL_isDaySo_375 rfl ?_
                refine tt_fVi (r_ufv hX1 hI1.1 hj eU1) dL_isDaySo_376 vL_61 rfl rfl hT4 (by decide) rfl (by decide) ⟨rfl, rfl⟩ (Nat.le_of_ble_eq_true rfl) (Nat.le_of_ble_eq_true rfl) (Nat.le_of_ble_eq_true rfl) ?_
                refine tt_iload dL_isDaySo_379 rfl ?_
                refine tt_eq eU ?_
                refine tt_iconst (nI 1) dL_isDaySo_381 rfl ?_
                refine tt_isubN dL_isDaySo_382 u1 ?_
                refine tt_icmp_ne (tgt := 452) dL_isDaySo_383 (by decide) (fun q => absurd rfl q) (fun _ => ?_)
                exact K386
        · refine tt_iload dL_isDaySo_311 rfl ?_
          refine tt_if_ne (tgt := 321) dL_isDaySo_313 (by decide) (fun q313 => ?_) (fun q313 => ?_)
          · refine tt_iload dL_isDaySo_321 rfl ?_
            refine tt_iconst (nI 1) dL_isDaySo_323 rfl ?_
            refine tt_isubN dL_isDaySo_324 (Nat.pos_of_ne_zero (fun z => q313 (by rw [z]; rfl))) ?_
            exact key_325 _ (by first | exact nIE (by have := znz q313 (by omega); omega) | rfl)
          · refine tt_iload dL_isDaySo_316 rfl ?_
            refine tt_goto (tgt := 325) dL_isDaySo_318 (by decide) ?_
            exact key_325 _ (by first | exact nIE (by have := znz q313 (by omega); omega) | rfl)
      · refine tt_icmp_geN (tgt := 197) dL_isDaySo_187 (by decide) (by omega) (by omega) (fun q187 => ?_) (fun q187 => ?_)
        · refine tt_iload dL_isDaySo_197 rfl ?_
          exact key_199 _ (nIE (by unfold gw; first | rw [if_pos (by omega)] | rw [if_neg (by omega)]))
        · refine tt_iload_n dL_isDaySo_190 rfl ?_
          refine tt_iload dL_isDaySo_191 rfl ?_
          refine tt_iaddN dL_isDaySo_193 ?_
          refine tt_goto (tgt := 199) dL_isDaySo_194 (by decide) ?_
          exact key_199 _ (nIE (by unfold gw; first | rw [if_pos (by omega)] | rw [if_neg (by omega)]))
    · refine tt_iload dL_isDaySo_134 rfl ?_
      refine tt_if_le (tgt := 143) dL_isDaySo_136 (by decide) (fun q136 => ?_) (fun q136 => ?_)
      · refine tt_aload_n dL_isDaySo_143 rfl ?_
        refine tt_iconst (nI 3) dL_isDaySo_144 rfl ?_
        refine tt_fVi (r_cnt hX hI.1 (by decide) (by decide) ((kNum_s _ _ (by omega)).trans (seN hI hJ (by omega)).2)) dL_isDaySo_145 vL_14 rfl rfl hT4 (by decide) rfl (by decide) ⟨rfl, rfl⟩ (Nat.le_of_ble_eq_true rfl) (Nat.le_of_ble_eq_true rfl) (Nat.le_of_ble_eq_true rfl) ?_
        exact key_148 _ (by first | (rw [if_neg (fun z => q136 (by rw [z]; decide))]) | (rw [if_pos (by have := (nI_leI (b := 0) (by omega) (by omega)).mp q136; omega)]))
      · refine tt_iconst (nI 0) dL_isDaySo_139 rfl ?_
        refine tt_goto (tgt := 148) dL_isDaySo_140 (by decide) ?_
        exact key_148 _ (by first | (rw [if_neg (fun z => q136 (by rw [z]; decide))]) | (rw [if_pos (by have := (nI_leI (b := 0) (by omega) (by omega)).mp q136; omega)]))
  · refine tt_iload dL_isDaySo_113 rfl ?_
    refine tt_iload_n dL_isDaySo_115 rfl ?_
    refine tt_icmp_le (tgt := 123) dL_isDaySo_116 (by decide) (fun q116 => ?_) (fun q116 => ?_)
    · refine tt_aload_n dL_isDaySo_123 rfl ?_
      refine tt_iconst (nI 2) dL_isDaySo_124 rfl ?_
      refine tt_fVi (r_cnt hX hI.1 (by decide) (by decide) ((kNum_s _ _ (by omega)).trans (seN hI hJ (by omega)).2)) dL_isDaySo_125 vL_14 rfl rfl hT4 (by decide) rfl (by decide) ⟨rfl, rfl⟩ (Nat.le_of_ble_eq_true rfl) (Nat.le_of_ble_eq_true rfl) (Nat.le_of_ble_eq_true rfl) ?_
      exact key_128 _ (by first | (rw [if_neg (fun z => q116 (eP0.mpr z))]) | (rw [if_pos (eP0.mp q116)]))
    · refine tt_iconst (nI 0) dL_isDaySo_119 rfl ?_
      refine tt_goto (tgt := 128) dL_isDaySo_120 (by decide) ?_
      exact key_128 _ (by first | (rw [if_neg (fun z => q116 (eP0.mpr z))]) | (rw [if_pos (eP0.mp q116)]))
theorem c_L_isDaySo {h : zhp} {S : Nat → Nat → Int32} {P PI : Nat → Nat → Nat} {o c : Nat} (hX : CJ h S P PI o c) {n B0 B : Nat} (hI : zIv (S 0) n B0) (hJ : zJ (S 0) n B) (hB : B + 600000 ≤ 2 ^ 28) (ht : tn (S 0 8) < 9999) {j : Nat} (hj : j < n) : MM iL_isDaySo [.ref 4, .int (nI j)] h (fun r h2 => r = some (.int (nI 1)) ∧ zFx h h2 ∧ ∃ S' P' PI' o' c', CJ h2 S' P' PI' o' c' ∧ sim n (S' 0) (S 0)) := by
  by_cases hdr : fld (S 0) j 2 = 5
  · exact c_L_isDaySo_y hX hI hJ hB ht hj hdr
  · exact c_L_isDaySo_n hX hI hJ hB ht hj hdr
