/-! the law's loop -/
set_option maxRecDepth 100000 in
set_option maxHeartbeats 4000000 in
theorem lw_step {h : zhp} {N : Nat} {X : Nat → Int32} {B i cc sc : Nat} (hI : LI h N X B) (hN : N ≤ 2560) (hi : i ≤ 2560) (hc : cc + 2 ≤ 600000) (hs : sc + 18 ≤ 7302250) (hB : B + 6100 ≤ 2 ^ 30) (K5 : i + 5 ≤ N → ∀ (h2 : zhp) (c2 s2 : Nat), LI h2 N X (B + 6100) → c2 ≤ cc + 2 → s2 ≤ sc + 18 → TT iL_law 833 (lwL i) [] h2 c2 s2 lwQ) : TT iL_law 18 (lwL i) [] h cc sc lwQ := by
  refine tt_iload_n dL_law_18 rfl ?_
  refine tt_aload_n dL_law_19 rfl ?_
  refine tt_alen dL_law_20 hI.1.1 ?_
  refine tt_eq (y := nI N) (by rw [hI.1.2.1]; rfl) ?_
  refine tt_iconst (nI 5) dL_law_21 rfl ?_
  refine tt_isub dL_law_22 ?_
  have hsub := zsubI (a := N) (b := 5) (by omega) (by omega)
  have hti := nI_toInt (n := i) (by omega)
  refine tt_icmp_gt (tgt := 839) dL_law_23 (by decide) (fun c_23 => ?_) (fun c_23 => ?_)
  · refine tt_iconst (nI 1) dL_law_839 rfl ?_
    exact tt_ireturn dL_law_840 rfl rfl (by show cc ≤ 600000; omega) (by show sc ≤ 7302250; omega) rfl
  · have hi5 : i + 5 ≤ N := by
      rw [Int32.lt_iff_toInt_lt, hsub, hti] at c_23
      omega
    have K := K5 hi5
    refine tt_aload_n dL_law_26 rfl ?_
    refine tt_iload_n dL_law_27 rfl ?_
    refine tt_scr dL_law_28 hI.1 (by omega) hN ?_
    refine tt_bipush (nI 31) dL_law_29 rfl ?_
    refine tt_iand dL_law_31 ?_
    obtain ⟨j, hj, ej⟩ := pk_andE (X i) (m := nI 31) 5 (by decide)
    refine tt_eq ej ?_
    rcases (show j = 0 ∨ j = 1 ∨ j = 2 ∨ j = 3 ∨ j = 4 ∨ j = 5 ∨ j = 6 ∨ j = 7 ∨ j = 8 ∨ j = 9 ∨ j = 10 ∨ j = 11 ∨ j = 12 ∨ j = 13 ∨ j = 14 ∨ j = 15 ∨ j = 16 ∨ j = 17 ∨ j = 18 ∨ j = 19 ∨ j = 20 ∨ j = 21 ∨ j = 22 ∨ j = 23 ∨ j = 24 ∨ 25 ≤ j by omega) with rfl | rfl | rfl | rfl | rfl | rfl | rfl | rfl | rfl | rfl | rfl | rfl | rfl | rfl | rfl | rfl | rfl | rfl | rfl | rfl | rfl | rfl | rfl | rfl | rfl | hj25
    · refine tt_tableIn (off := 116) (tgt := 148) dL_law_32 (by decide) (by decide) rfl (by decide) ?_
      exact lw_c0 hI hi5 hN hc hs hB K
    · refine tt_tableIn (off := 149) (tgt := 181) dL_law_32 (by decide) (by decide) rfl (by decide) ?_
      exact lw_c1 hI hi5 hN hc hs hB K
    · refine tt_tableIn (off := 182) (tgt := 214) dL_law_32 (by decide) (by decide) rfl (by decide) ?_
      exact lw_c2 hI hi5 hN hc hs hB K
    · refine tt_tableIn (off := 235) (tgt := 267) dL_law_32 (by decide) (by decide) rfl (by decide) ?_
      exact lw_c3 hI hi5 hN hc hs hB K
    · refine tt_tableIn (off := 258) (tgt := 290) dL_law_32 (by decide) (by decide) rfl (by decide) ?_
      exact lw_c4 hI hi5 hN hc hs hB K
    · refine tt_tableIn (off := 281) (tgt := 313) dL_law_32 (by decide) (by decide) rfl (by decide) ?_
      exact lw_c5 hI hi5 hN hc hs hB K
    · refine tt_tableIn (off := 314) (tgt := 346) dL_law_32 (by decide) (by decide) rfl (by decide) ?_
      exact lw_c6 hI hi5 hN hc hs hB K
    · refine tt_tableIn (off := 337) (tgt := 369) dL_law_32 (by decide) (by decide) rfl (by decide) ?_
      exact lw_c7 hI hi5 hN hc hs hB K
    · refine tt_tableIn (off := 370) (tgt := 402) dL_law_32 (by decide) (by decide) rfl (by decide) ?_
      exact lw_c8 hI hi5 hN hc hs hB K
    · refine tt_tableIn (off := 393) (tgt := 425) dL_law_32 (by decide) (by decide) rfl (by decide) ?_
      exact lw_c9 hI hi5 hN hc hs hB K
    · refine tt_tableIn (off := 406) (tgt := 438) dL_law_32 (by decide) (by decide) rfl (by decide) ?_
      exact lw_c10 hI hi5 hN hc hs hB K
    · refine tt_tableIn (off := 439) (tgt := 471) dL_law_32 (by decide) (by decide) rfl (by decide) ?_
      exact lw_c11 hI hi5 hN hc hs hB K
    · refine tt_tableIn (off := 472) (tgt := 504) dL_law_32 (by decide) (by decide) rfl (by decide) ?_
      exact lw_c12 hI hi5 hN hc hs hB K
    · refine tt_tableIn (off := 505) (tgt := 537) dL_law_32 (by decide) (by decide) rfl (by decide) ?_
      exact lw_c13 hI hi5 hN hc hs hB K
    · refine tt_tableIn (off := 528) (tgt := 560) dL_law_32 (by decide) (by decide) rfl (by decide) ?_
      exact lw_c14 hI hi5 hN hc hs hB K
    · refine tt_tableIn (off := 551) (tgt := 583) dL_law_32 (by decide) (by decide) rfl (by decide) ?_
      exact lw_c15 hI hi5 hN hc hs hB K
    · refine tt_tableIn (off := 574) (tgt := 606) dL_law_32 (by decide) (by decide) rfl (by decide) ?_
      exact lw_c16 hI hi5 hN hc hs hB K
    · refine tt_tableIn (off := 607) (tgt := 639) dL_law_32 (by decide) (by decide) rfl (by decide) ?_
      exact lw_c17 hI hi5 hN hc hs hB K
    · refine tt_tableIn (off := 650) (tgt := 682) dL_law_32 (by decide) (by decide) rfl (by decide) ?_
      exact lw_c18 hI hi5 hN hc hs hB K
    · refine tt_tableIn (off := 663) (tgt := 695) dL_law_32 (by decide) (by decide) rfl (by decide) ?_
      exact lw_c19 hI hi5 hN hc hs hB K
    · refine tt_tableIn (off := 716) (tgt := 748) dL_law_32 (by decide) (by decide) rfl (by decide) ?_
      exact lw_c20 hI hi5 hN hc hs hB K
    · refine tt_tableIn (off := 729) (tgt := 761) dL_law_32 (by decide) (by decide) rfl (by decide) ?_
      exact lw_c21 hI hi5 hN hc hs hB K
    · refine tt_tableIn (off := 742) (tgt := 774) dL_law_32 (by decide) (by decide) rfl (by decide) ?_
      exact lw_c22 hI hi5 hN hc hs hB K
    · refine tt_tableIn (off := 755) (tgt := 787) dL_law_32 (by decide) (by decide) rfl (by decide) ?_
      exact lw_c23 hI hi5 hN hc hs hB K
    · refine tt_tableIn (off := 778) (tgt := 810) dL_law_32 (by decide) (by decide) rfl (by decide) ?_
      exact lw_c24 hI hi5 hN hc hs hB K
    · refine tt_tableOut (tgt := 833) dL_law_32 (Or.inr (by rw [nI_toInt (by omega)]; omega)) (by decide) ?_
      exact K h cc sc (LI_mono (by omega) hB hI) (by omega) (by omega)
theorem lw_loop {N : Nat} {X : Nat → Int32} (hN : N ≤ 2560) : ∀ (r k : Nat) (h : zhp) (cc sc B : Nat), k + r = 512 → LI h N X B → cc ≤ 200 + 2 * k → sc ≤ 4000 + 18 * k → B ≤ 9999 + 6100 * k → TT iL_law 18 (lwL (5 * k)) [] h cc sc lwQ
  | 0, k, h, cc, sc, B, hk, hI, hc, hs, hB => lw_step hI hN (by omega) (by omega) (by omega) (by omega) (fun q => absurd q (by omega))
  | r + 1, k, h, cc, sc, B, hk, hI, hc, hs, hB => by
    refine lw_step hI hN (by omega) (by omega) (by omega) (by omega) (fun q h2 c2 s2 hI2 q1 q2 => ?_)
    refine tt_iinc (v := nI (5 * (k + 1))) (L1 := lwL (5 * (k + 1))) dL_law_833 rfl (nI_add (5 * k) 5) rfl (Nat.le_of_ble_eq_true rfl) rfl ?_
    refine tt_goto (tgt := 18) dL_law_836 (by decide) ?_
    exact lw_loop hN r (k + 1) h2 c2 s2 (B + 6100) (by omega) hI2 (by omega) (by omega) (by omega)

