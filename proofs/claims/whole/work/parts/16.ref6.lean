/-! the reference: what it tells -/
def sSk (s : Nat → Int32) (v w : Int32) : Int32 := if nI 0 ≤ v ∧ v ≤ s 33 - nI 1 then (if w = nI 0 then s (34 + 10 * v.toNatClampNeg + 0) else if w = nI 1 then s (34 + 10 * v.toNatClampNeg + 1) else if w = nI 2 then s (34 + 10 * v.toNatClampNeg + 2) else if w = nI 3 then s (34 + 10 * v.toNatClampNeg + 3) else if w = nI 4 then nI 20 + nI 20 * s (34 + 10 * v.toNatClampNeg + 1) else if w = nI 5 then s (34 + 10 * v.toNatClampNeg + 4) else if w = nI 6 then s (34 + 10 * v.toNatClampNeg + 5) else if w = nI 7 then s (34 + 10 * v.toNatClampNeg + 6) else if w = nI 8 then s (34 + 10 * v.toNatClampNeg + 7) else if w = nI 9 then s 8 - s (34 + 10 * v.toNatClampNeg + 8) else if w = nI 10 then s (34 + 10 * v.toNatClampNeg + 9) else -2) else -1
def sStr (s : Nat → Int32) (n : Nat) (v w : Int32) : Int32 := if nI 0 ≤ v ∧ v ≤ nI 4 then (if w = nI 0 then s (10 + v.toNatClampNeg) else if w = nI 1 then sCntSt s n v else if w = nI 2 then sCntNp s n v else -2) else -1
def sCus (s : Nat → Int32) (n : Nat) (v w : Int32) : Int32 := if nI 0 ≤ v ∧ v ≤ nI 5 then (if w = nI 0 then s (15 + 3 * v.toNatClampNeg + 0) else if w = nI 1 then sCntCu s n v else if w = nI 2 then s (15 + 3 * v.toNatClampNeg + 1) else if w = nI 3 then s (15 + 3 * v.toNatClampNeg + 2) else -2) else -1
def sCou (F s : Nat → Int32) (n : Nat) (v : Int32) : Int32 := if nI 0 ≤ v ∧ v ≤ nI 7 then s v.toNatClampNeg else if v = nI 8 then s 8 else if v = nI 9 then s 33 else if v = nI 10 then sTl s else if v = nI 11 then sSum s 0 else if v = nI 12 then sSum s 1 else if v = nI 13 then s 134 else if v = nI 14 then sSum s 2 else if v = nI 15 then sLds s n (nI 0) else if v = nI 16 then sLds s n (nI 1) else if v = nI 17 then F 7 else if v = nI 18 then F 3 else -2
def sHo (s : Nat → Int32) (j : Nat) : Int32 := nI 20 + nI 20 * s (34 + 10 * j + 1)
def sUf (s : Nat → Int32) (v : Int32) : Int32 := if nI 0 ≤ v ∧ v ≤ s 33 - nI 1 then
    (if sHo s v.toNatClampNeg - s (34 + 10 * v.toNatClampNeg + 3) = 0 then nI 0 else if s (34 + 10 * v.toNatClampNeg + 4) = 0 then -6 else (sHo s v.toNatClampNeg - s (34 + 10 * v.toNatClampNeg + 3) + s (34 + 10 * v.toNatClampNeg + 4) - nI 1) / s (34 + 10 * v.toNatClampNeg + 4)) else -1
def sUn (s : Nat → Int32) (v : Int32) : Int32 := if nI 0 ≤ v ∧ v ≤ s 33 - nI 1 then
    (if s (34 + 10 * v.toNatClampNeg + 2) < nI 5 then
      (let ov := if s (34 + 10 * v.toNatClampNeg + 6) ≠ -6 ∧ s 8 ≤ s (34 + 10 * v.toNatClampNeg + 6) then s (34 + 10 * v.toNatClampNeg + 6) - s 8 + nI 1 else nI 1
       let dk := s (34 + 10 * v.toNatClampNeg + 5) + nI 1
       if dk ≤ ov then dk else ov) else -6) else -1
def sCo (s a : Nat → Int32) (n : Nat) (v w : Int32) : Int32 := if nI 0 ≤ v ∧ v ≤ nI 5 then (if nI 0 ≤ w ∧ w ≤ nI 200 then sPs s n w.toNatClampNeg (15 + 3 * v.toNatClampNeg + 0) - cpA s a (15 + 3 * v.toNatClampNeg + 0) else -2) else -1
/-- the rows behind cost(): the aside is taken only if days passed by -/
def sCoOk (v w : Int32) : Prop := (nI 0 ≤ v ∧ v ≤ nI 5) ∧ (nI 0 ≤ w ∧ w ≤ nI 200)
def sWf (s : Nat → Int32) (j : Nat) (ld d : Int32) : Int32 := if ld + s (34 + 10 * j + 4) * d ≤ sHo s j then nI 0 else ld + s (34 + 10 * j + 4) * d - sHo s j
def sBi (s : Nat → Int32) (j : Nat) (d k : Int32) : Int32 := sWf s j (s (34 + 10 * j + 3)) k + sWf s j (nI 0) (d - k)
def sBf (s : Nat → Int32) (j : Nat) (d : Int32) (k : Nat) (x : Int32 × Int32) : Int32 × Int32 := (if nI k = 0 ∨ sBi s j d (nI k) ≤ x.2 then nI k else x.1, if nI k = 0 ∨ sBi s j d (nI k) ≤ x.2 then sBi s j d (nI k) else x.2)
def sBs (s : Nat → Int32) (v d w : Int32) : Int32 := if nI 0 ≤ v ∧ v ≤ s 33 - nI 1 then (if (nI 1 ≤ d ∧ d ≤ nI 60) ∧ (nI 0 ≤ w ∧ w ≤ nI 1) then
    (if w = 0 then (zlp (sBf s v.toNatClampNeg d) (d.toNatClampNeg + 1) 0 (nI 0, nI 0)).1 else (zlp (sBf s v.toNatClampNeg d) (d.toNatClampNeg + 1) 0 (nI 0, nI 0)).2) else -2) else -1
set_option maxRecDepth 100000 in
set_option maxHeartbeats 4000000 in
theorem c_X6_skip {h : zhp} (hM : zMo h) (F s a t l p : Nat → Int32) (n : Nat) (hw : sWF s n) (v w : Int32) : MM iX6_skip [.ref 181, .int v, .int w] (zm h F s a t l p) (zfi (sSk s v w) (zm h F s a t l p)) := by
  refine MM_of (by decide +kernel) (Nat.le_of_ble_eq_true rfl) ?_
  refine tt_aload_n dX6_skip_0 rfl ?_
  refine tt_iload_n dX6_skip_1 rfl ?_
  refine tt_fVi (c_X6_isSkip hM _ _ _ _ _ _ _) dX6_skip_2 vX6_84 rfl rfl hM.1 (by decide) rfl (by decide) ⟨rfl, rfl⟩ (Nat.zero_le _) (Nat.zero_le _) (Nat.le_of_ble_eq_true rfl) ?_
  refine tt_if_neB (tgt := 10) dX6_skip_5 (by decide) (fun c_5 => ?_) (fun c_5 => ?_)
  · obtain ⟨n0, hn0, rfl⟩ := zskip hw.1 hw.2.1 c_5
    have hn10 := hw.1
    have hq0 : (nI n0).toNatClampNeg = n0 := nI_clamp (by omega)
    refine tt_iload_n dX6_skip_10 rfl ?_
    by_cases q_0 : w = nI 0
    · subst q_0
      refine tt_tableIn (off := 57) (tgt := 68) dX6_skip_11 (by decide) (by decide) rfl (by decide) ?_
      refine tt_aload_n dX6_skip_68 rfl ?_
      refine tt_mA (b := 182) dX6_skip_69 fX6_7 rfl hM hM.2.1 ?_
      refine tt_iload_n dX6_skip_72 rfl ?_
      refine tt_iload_n dX6_skip_73 rfl ?_
      refine tt_fSi (c_X6_of _ _ _) dX6_skip_74 sX6_29 rfl rfl (by decide) ⟨rfl, rfl⟩ (Nat.zero_le _) (Nat.zero_le _) (Nat.le_of_ble_eq_true rfl) ?_
      refine tt_ld1 dX6_skip_77 hM (by omega) ?_
      exact tt_ireturn dX6_skip_78 rfl rfl (Nat.zero_le _) (Nat.zero_le _) ⟨congrArg (fun z => some (Value.int z)) (by first | (unfold sSk; rw [if_neg c_5]; done) | (unfold sSk; rw [if_pos c_5, hq0]; rfl) | (unfold sSk; rw [if_pos c_5, if_neg q_0, if_neg q_1, if_neg q_2, if_neg q_3, if_neg q_4, if_neg q_5, if_neg q_6, if_neg q_7, if_neg q_8, if_neg q_9, if_neg q_10])), rfl⟩
    by_cases q_1 : w = nI 1
    · subst q_1
      refine tt_tableIn (off := 57) (tgt := 68) dX6_skip_11 (by decide) (by decide) rfl (by decide) ?_
      refine tt_aload_n dX6_skip_68 rfl ?_
      refine tt_mA (b := 182) dX6_skip_69 fX6_7 rfl hM hM.2.1 ?_
      refine tt_iload_n dX6_skip_72 rfl ?_
      refine tt_iload_n dX6_skip_73 rfl ?_
      refine tt_fSi (c_X6_of _ _ _) dX6_skip_74 sX6_29 rfl rfl (by decide) ⟨rfl, rfl⟩ (Nat.zero_le _) (Nat.zero_le _) (Nat.le_of_ble_eq_true rfl) ?_
      refine tt_ld1 dX6_skip_77 hM (by omega) ?_
      exact tt_ireturn dX6_skip_78 rfl rfl (Nat.zero_le _) (Nat.zero_le _) ⟨congrArg (fun z => some (Value.int z)) (by first | (unfold sSk; rw [if_neg c_5]; done) | (unfold sSk; rw [if_pos c_5, hq0]; rfl) | (unfold sSk; rw [if_pos c_5, if_neg q_0, if_neg q_1, if_neg q_2, if_neg q_3, if_neg q_4, if_neg q_5, if_neg q_6, if_neg q_7, if_neg q_8, if_neg q_9, if_neg q_10])), rfl⟩
    by_cases q_2 : w = nI 2
    · subst q_2
      refine tt_tableIn (off := 57) (tgt := 68) dX6_skip_11 (by decide) (by decide) rfl (by decide) ?_
      refine tt_aload_n dX6_skip_68 rfl ?_
      refine tt_mA (b := 182) dX6_skip_69 fX6_7 rfl hM hM.2.1 ?_
      refine tt_iload_n dX6_skip_72 rfl ?_
      refine tt_iload_n dX6_skip_73 rfl ?_
      refine tt_fSi (c_X6_of _ _ _) dX6_skip_74 sX6_29 rfl rfl (by decide) ⟨rfl, rfl⟩ (Nat.zero_le _) (Nat.zero_le _) (Nat.le_of_ble_eq_true rfl) ?_
      refine tt_ld1 dX6_skip_77 hM (by omega) ?_
      exact tt_ireturn dX6_skip_78 rfl rfl (Nat.zero_le _) (Nat.zero_le _) ⟨congrArg (fun z => some (Value.int z)) (by first | (unfold sSk; rw [if_neg c_5]; done) | (unfold sSk; rw [if_pos c_5, hq0]; rfl) | (unfold sSk; rw [if_pos c_5, if_neg q_0, if_neg q_1, if_neg q_2, if_neg q_3, if_neg q_4, if_neg q_5, if_neg q_6, if_neg q_7, if_neg q_8, if_neg q_9, if_neg q_10])), rfl⟩
    by_cases q_3 : w = nI 3
    · subst q_3
      refine tt_tableIn (off := 57) (tgt := 68) dX6_skip_11 (by decide) (by decide) rfl (by decide) ?_
      refine tt_aload_n dX6_skip_68 rfl ?_
      refine tt_mA (b := 182) dX6_skip_69 fX6_7 rfl hM hM.2.1 ?_
      refine tt_iload_n dX6_skip_72 rfl ?_
      refine tt_iload_n dX6_skip_73 rfl ?_
      refine tt_fSi (c_X6_of _ _ _) dX6_skip_74 sX6_29 rfl rfl (by decide) ⟨rfl, rfl⟩ (Nat.zero_le _) (Nat.zero_le _) (Nat.le_of_ble_eq_true rfl) ?_
      refine tt_ld1 dX6_skip_77 hM (by omega) ?_
      exact tt_ireturn dX6_skip_78 rfl rfl (Nat.zero_le _) (Nat.zero_le _) ⟨congrArg (fun z => some (Value.int z)) (by first | (unfold sSk; rw [if_neg c_5]; done) | (unfold sSk; rw [if_pos c_5, hq0]; rfl) | (unfold sSk; rw [if_pos c_5, if_neg q_0, if_neg q_1, if_neg q_2, if_neg q_3, if_neg q_4, if_neg q_5, if_neg q_6, if_neg q_7, if_neg q_8, if_neg q_9, if_neg q_10])), rfl⟩
    by_cases q_4 : w = nI 4
    · subst q_4
      refine tt_tableIn (off := 68) (tgt := 79) dX6_skip_11 (by decide) (by decide) rfl (by decide) ?_
      refine tt_aload_n dX6_skip_79 rfl ?_
      refine tt_iload_n dX6_skip_80 rfl ?_
      refine tt_fVi (c_X6_holds hM _ _ _ _ _ _ _ (by omega)) dX6_skip_81 vX6_57 rfl rfl hM.1 (by decide) rfl (by decide) ⟨rfl, rfl⟩ (Nat.zero_le _) (Nat.zero_le _) (Nat.le_of_ble_eq_true rfl) ?_
      exact tt_ireturn dX6_skip_84 rfl rfl (Nat.zero_le _) (Nat.zero_le _) ⟨congrArg (fun z => some (Value.int z)) (by first | (unfold sSk; rw [if_neg c_5]; done) | (unfold sSk; rw [if_pos c_5, hq0]; rfl) | (unfold sSk; rw [if_pos c_5, if_neg q_0, if_neg q_1, if_neg q_2, if_neg q_3, if_neg q_4, if_neg q_5, if_neg q_6, if_neg q_7, if_neg q_8, if_neg q_9, if_neg q_10])), rfl⟩
    by_cases q_5 : w = nI 5
    · subst q_5
      refine tt_tableIn (off := 74) (tgt := 85) dX6_skip_11 (by decide) (by decide) rfl (by decide) ?_
      refine tt_aload_n dX6_skip_85 rfl ?_
      refine tt_mA (b := 182) dX6_skip_86 fX6_7 rfl hM hM.2.1 ?_
      refine tt_iload_n dX6_skip_89 rfl ?_
      refine tt_iload_n dX6_skip_90 rfl ?_
      refine tt_iconst (nI 1) dX6_skip_91 rfl ?_
      refine tt_isubN dX6_skip_92 (by decide) ?_
      refine tt_fSi (c_X6_of _ _ _) dX6_skip_93 sX6_29 rfl rfl (by decide) ⟨rfl, rfl⟩ (Nat.zero_le _) (Nat.zero_le _) (Nat.le_of_ble_eq_true rfl) ?_
      refine tt_ld1 dX6_skip_96 hM (by omega) ?_
      exact tt_ireturn dX6_skip_97 rfl rfl (Nat.zero_le _) (Nat.zero_le _) ⟨congrArg (fun z => some (Value.int z)) (by first | (unfold sSk; rw [if_neg c_5]; done) | (unfold sSk; rw [if_pos c_5, hq0]; rfl) | (unfold sSk; rw [if_pos c_5, if_neg q_0, if_neg q_1, if_neg q_2, if_neg q_3, if_neg q_4, if_neg q_5, if_neg q_6, if_neg q_7, if_neg q_8, if_neg q_9, if_neg q_10])), rfl⟩
    by_cases q_6 : w = nI 6
    · subst q_6
      refine tt_tableIn (off := 74) (tgt := 85) dX6_skip_11 (by decide) (by decide) rfl (by decide) ?_
      refine tt_aload_n dX6_skip_85 rfl ?_
      refine tt_mA (b := 182) dX6_skip_86 fX6_7 rfl hM hM.2.1 ?_
      refine tt_iload_n dX6_skip_89 rfl ?_
      refine tt_iload_n dX6_skip_90 rfl ?_
      refine tt_iconst (nI 1) dX6_skip_91 rfl ?_
      refine tt_isubN dX6_skip_92 (by decide) ?_
      refine tt_fSi (c_X6_of _ _ _) dX6_skip_93 sX6_29 rfl rfl (by decide) ⟨rfl, rfl⟩ (Nat.zero_le _) (Nat.zero_le _) (Nat.le_of_ble_eq_true rfl) ?_
      refine tt_ld1 dX6_skip_96 hM (by omega) ?_
      exact tt_ireturn dX6_skip_97 rfl rfl (Nat.zero_le _) (Nat.zero_le _) ⟨congrArg (fun z => some (Value.int z)) (by first | (unfold sSk; rw [if_neg c_5]; done) | (unfold sSk; rw [if_pos c_5, hq0]; rfl) | (unfold sSk; rw [if_pos c_5, if_neg q_0, if_neg q_1, if_neg q_2, if_neg q_3, if_neg q_4, if_neg q_5, if_neg q_6, if_neg q_7, if_neg q_8, if_neg q_9, if_neg q_10])), rfl⟩
    by_cases q_7 : w = nI 7
    · subst q_7
      refine tt_tableIn (off := 74) (tgt := 85) dX6_skip_11 (by decide) (by decide) rfl (by decide) ?_
      refine tt_aload_n dX6_skip_85 rfl ?_
      refine tt_mA (b := 182) dX6_skip_86 fX6_7 rfl hM hM.2.1 ?_
      refine tt_iload_n dX6_skip_89 rfl ?_
      refine tt_iload_n dX6_skip_90 rfl ?_
      refine tt_iconst (nI 1) dX6_skip_91 rfl ?_
      refine tt_isubN dX6_skip_92 (by decide) ?_
      refine tt_fSi (c_X6_of _ _ _) dX6_skip_93 sX6_29 rfl rfl (by decide) ⟨rfl, rfl⟩ (Nat.zero_le _) (Nat.zero_le _) (Nat.le_of_ble_eq_true rfl) ?_
      refine tt_ld1 dX6_skip_96 hM (by omega) ?_
      exact tt_ireturn dX6_skip_97 rfl rfl (Nat.zero_le _) (Nat.zero_le _) ⟨congrArg (fun z => some (Value.int z)) (by first | (unfold sSk; rw [if_neg c_5]; done) | (unfold sSk; rw [if_pos c_5, hq0]; rfl) | (unfold sSk; rw [if_pos c_5, if_neg q_0, if_neg q_1, if_neg q_2, if_neg q_3, if_neg q_4, if_neg q_5, if_neg q_6, if_neg q_7, if_neg q_8, if_neg q_9, if_neg q_10])), rfl⟩
    by_cases q_8 : w = nI 8
    · subst q_8
      refine tt_tableIn (off := 74) (tgt := 85) dX6_skip_11 (by decide) (by decide) rfl (by decide) ?_
      refine tt_aload_n dX6_skip_85 rfl ?_
      refine tt_mA (b := 182) dX6_skip_86 fX6_7 rfl hM hM.2.1 ?_
      refine tt_iload_n dX6_skip_89 rfl ?_
      refine tt_iload_n dX6_skip_90 rfl ?_
      refine tt_iconst (nI 1) dX6_skip_91 rfl ?_
      refine tt_isubN dX6_skip_92 (by decide) ?_
      refine tt_fSi (c_X6_of _ _ _) dX6_skip_93 sX6_29 rfl rfl (by decide) ⟨rfl, rfl⟩ (Nat.zero_le _) (Nat.zero_le _) (Nat.le_of_ble_eq_true rfl) ?_
      refine tt_ld1 dX6_skip_96 hM (by omega) ?_
      exact tt_ireturn dX6_skip_97 rfl rfl (Nat.zero_le _) (Nat.zero_le _) ⟨congrArg (fun z => some (Value.int z)) (by first | (unfold sSk; rw [if_neg c_5]; done) | (unfold sSk; rw [if_pos c_5, hq0]; rfl) | (unfold sSk; rw [if_pos c_5, if_neg q_0, if_neg q_1, if_neg q_2, if_neg q_3, if_neg q_4, if_neg q_5, if_neg q_6, if_neg q_7, if_neg q_8, if_neg q_9, if_neg q_10])), rfl⟩
    by_cases q_9 : w = nI 9
    · subst q_9
      refine tt_tableIn (off := 87) (tgt := 98) dX6_skip_11 (by decide) (by decide) rfl (by decide) ?_
      refine tt_aload_n dX6_skip_98 rfl ?_
      refine tt_mA (b := 182) dX6_skip_99 fX6_7 rfl hM hM.2.1 ?_
      refine tt_bipush (nI 8) dX6_skip_102 rfl ?_
      refine tt_ld1 dX6_skip_104 hM (by omega) ?_
      refine tt_aload_n dX6_skip_105 rfl ?_
      refine tt_mA (b := 182) dX6_skip_106 fX6_7 rfl hM hM.2.1 ?_
      refine tt_iload_n dX6_skip_109 rfl ?_
      refine tt_bipush (nI 8) dX6_skip_110 rfl ?_
      refine tt_fSi (c_X6_of _ _ _) dX6_skip_112 sX6_29 rfl rfl (by decide) ⟨rfl, rfl⟩ (Nat.zero_le _) (Nat.zero_le _) (Nat.le_of_ble_eq_true rfl) ?_
      refine tt_ld1 dX6_skip_115 hM (by omega) ?_
      refine tt_isub dX6_skip_116 ?_
      exact tt_ireturn dX6_skip_117 rfl rfl (Nat.zero_le _) (Nat.zero_le _) ⟨congrArg (fun z => some (Value.int z)) (by first | (unfold sSk; rw [if_neg c_5]; done) | (unfold sSk; rw [if_pos c_5, hq0]; rfl) | (unfold sSk; rw [if_pos c_5, if_neg q_0, if_neg q_1, if_neg q_2, if_neg q_3, if_neg q_4, if_neg q_5, if_neg q_6, if_neg q_7, if_neg q_8, if_neg q_9, if_neg q_10])), rfl⟩
    by_cases q_10 : w = nI 10
    · subst q_10
      refine tt_tableIn (off := 107) (tgt := 118) dX6_skip_11 (by decide) (by decide) rfl (by decide) ?_
      refine tt_aload_n dX6_skip_118 rfl ?_
      refine tt_mA (b := 182) dX6_skip_119 fX6_7 rfl hM hM.2.1 ?_
      refine tt_iload_n dX6_skip_122 rfl ?_
      refine tt_bipush (nI 9) dX6_skip_123 rfl ?_
      refine tt_fSi (c_X6_of _ _ _) dX6_skip_125 sX6_29 rfl rfl (by decide) ⟨rfl, rfl⟩ (Nat.zero_le _) (Nat.zero_le _) (Nat.le_of_ble_eq_true rfl) ?_
      refine tt_ld1 dX6_skip_128 hM (by omega) ?_
      exact tt_ireturn dX6_skip_129 rfl rfl (Nat.zero_le _) (Nat.zero_le _) ⟨congrArg (fun z => some (Value.int z)) (by first | (unfold sSk; rw [if_neg c_5]; done) | (unfold sSk; rw [if_pos c_5, hq0]; rfl) | (unfold sSk; rw [if_pos c_5, if_neg q_0, if_neg q_1, if_neg q_2, if_neg q_3, if_neg q_4, if_neg q_5, if_neg q_6, if_neg q_7, if_neg q_8, if_neg q_9, if_neg q_10])), rfl⟩
    have qo : ∀ k, 0 ≤ k → k ≤ 10 → ¬ w = nI k := by
      intro k h1 h2
      rcases (show k = 0 ∨ k = 1 ∨ k = 2 ∨ k = 3 ∨ k = 4 ∨ k = 5 ∨ k = 6 ∨ k = 7 ∨ k = 8 ∨ k = 9 ∨ k = 10 by omega) with rfl | rfl | rfl | rfl | rfl | rfl | rfl | rfl | rfl | rfl | rfl <;> assumption
    refine tt_tableOut (tgt := 130) dX6_skip_11 (ztab (lo := 0) (hi := 10) (by omega) qo) (by decide) ?_
    refine tt_bipush (-2) dX6_skip_130 rfl ?_
    exact tt_ireturn dX6_skip_132 rfl rfl (Nat.zero_le _) (Nat.zero_le _) ⟨congrArg (fun z => some (Value.int z)) (by first | (unfold sSk; rw [if_neg c_5]; done) | (unfold sSk; rw [if_pos c_5, hq0]; rfl) | (unfold sSk; rw [if_pos c_5, if_neg q_0, if_neg q_1, if_neg q_2, if_neg q_3, if_neg q_4, if_neg q_5, if_neg q_6, if_neg q_7, if_neg q_8, if_neg q_9, if_neg q_10])), rfl⟩
  · refine tt_iconst (-1) dX6_skip_8 rfl ?_
    exact tt_ireturn dX6_skip_9 rfl rfl (Nat.zero_le _) (Nat.zero_le _) ⟨congrArg (fun z => some (Value.int z)) (by first | (unfold sSk; rw [if_neg c_5]; done) | (unfold sSk; rw [if_pos c_5, hq0]; rfl) | (unfold sSk; rw [if_pos c_5, if_neg q_0, if_neg q_1, if_neg q_2, if_neg q_3, if_neg q_4, if_neg q_5, if_neg q_6, if_neg q_7, if_neg q_8, if_neg q_9, if_neg q_10])), rfl⟩
set_option maxRecDepth 100000 in
set_option maxHeartbeats 4000000 in
theorem c_X6_street {h : zhp} (hM : zMo h) (F s a t l p : Nat → Int32) (n : Nat) (hw : sWF s n) (v w : Int32) : MM iX6_street [.ref 181, .int v, .int w] (zm h F s a t l p) (zfi (sStr s n v w) (zm h F s a t l p)) := by
  refine MM_of (by decide +kernel) (Nat.le_of_ble_eq_true rfl) ?_
  refine tt_iload_n dX6_street_0 rfl ?_
  refine tt_fSi (c_X6_isStreet _ _) dX6_street_1 sX6_105 rfl rfl (by decide) ⟨rfl, rfl⟩ (Nat.zero_le _) (Nat.zero_le _) (Nat.le_of_ble_eq_true rfl) ?_
  refine tt_if_neB (tgt := 9) dX6_street_4 (by decide) (fun c_4 => ?_) (fun c_4 => ?_)
  · obtain ⟨n0, hn0, rfl⟩ := zrng (by omega) c_4
    have hq0 : (nI n0).toNatClampNeg = n0 := nI_clamp (by omega)
    refine tt_iload_n dX6_street_9 rfl ?_
    by_cases q_0 : w = nI 0
    · subst q_0
      refine tt_tableIn (off := 26) (tgt := 36) dX6_street_10 (by decide) (by decide) rfl (by decide) ?_
      refine tt_aload_n dX6_street_36 rfl ?_
      refine tt_mA (b := 182) dX6_street_37 fX6_7 rfl hM hM.2.1 ?_
      refine tt_bipush (nI 10) dX6_street_40 rfl ?_
      refine tt_iload_n dX6_street_42 rfl ?_
      refine tt_iaddN dX6_street_43 ?_
      refine tt_ld1 dX6_street_44 hM (by omega) ?_
      exact tt_ireturn dX6_street_45 rfl rfl (Nat.zero_le _) (Nat.zero_le _) ⟨congrArg (fun z => some (Value.int z)) (by first | (unfold sStr; rw [if_neg c_4]; done) | (unfold sStr; rw [if_pos c_4, hq0]; rfl) | (unfold sStr; rw [if_pos c_4, if_neg q_0, if_neg q_1, if_neg q_2])), rfl⟩
    by_cases q_1 : w = nI 1
    · subst q_1
      refine tt_tableIn (off := 36) (tgt := 46) dX6_street_10 (by decide) (by decide) rfl (by decide) ?_
      refine tt_aload_n dX6_street_46 rfl ?_
      refine tt_iload_n dX6_street_47 rfl ?_
      refine tt_fVi (c_X6_skipsIn hM _ _ _ _ _ _ n hw _) dX6_street_48 vX6_71 rfl rfl hM.1 (by decide) rfl (by decide) ⟨rfl, rfl⟩ (Nat.zero_le _) (Nat.zero_le _) (Nat.le_of_ble_eq_true rfl) ?_
      exact tt_ireturn dX6_street_51 rfl rfl (Nat.zero_le _) (Nat.zero_le _) ⟨congrArg (fun z => some (Value.int z)) (by first | (unfold sStr; rw [if_neg c_4]; done) | (unfold sStr; rw [if_pos c_4, hq0]; rfl) | (unfold sStr; rw [if_pos c_4, if_neg q_0, if_neg q_1, if_neg q_2])), rfl⟩
    by_cases q_2 : w = nI 2
    · subst q_2
      refine tt_tableIn (off := 42) (tgt := 52) dX6_street_10 (by decide) (by decide) rfl (by decide) ?_
      refine tt_aload_n dX6_street_52 rfl ?_
      refine tt_iload_n dX6_street_53 rfl ?_
      refine tt_fVi (c_X6_notPermitted hM _ _ _ _ _ _ n hw _) dX6_street_54 vX6_124 rfl rfl hM.1 (by decide) rfl (by decide) ⟨rfl, rfl⟩ (Nat.zero_le _) (Nat.zero_le _) (Nat.le_of_ble_eq_true rfl) ?_
      exact tt_ireturn dX6_street_57 rfl rfl (Nat.zero_le _) (Nat.zero_le _) ⟨congrArg (fun z => some (Value.int z)) (by first | (unfold sStr; rw [if_neg c_4]; done) | (unfold sStr; rw [if_pos c_4, hq0]; rfl) | (unfold sStr; rw [if_pos c_4, if_neg q_0, if_neg q_1, if_neg q_2])), rfl⟩
    have qo : ∀ k, 0 ≤ k → k ≤ 2 → ¬ w = nI k := by
      intro k h1 h2
      rcases (show k = 0 ∨ k = 1 ∨ k = 2 by omega) with rfl | rfl | rfl <;> assumption
    refine tt_tableOut (tgt := 58) dX6_street_10 (ztab (lo := 0) (hi := 2) (by omega) qo) (by decide) ?_
    refine tt_bipush (-2) dX6_street_58 rfl ?_
    exact tt_ireturn dX6_street_60 rfl rfl (Nat.zero_le _) (Nat.zero_le _) ⟨congrArg (fun z => some (Value.int z)) (by first | (unfold sStr; rw [if_neg c_4]; done) | (unfold sStr; rw [if_pos c_4, hq0]; rfl) | (unfold sStr; rw [if_pos c_4, if_neg q_0, if_neg q_1, if_neg q_2])), rfl⟩
  · refine tt_iconst (-1) dX6_street_7 rfl ?_
    exact tt_ireturn dX6_street_8 rfl rfl (Nat.zero_le _) (Nat.zero_le _) ⟨congrArg (fun z => some (Value.int z)) (by first | (unfold sStr; rw [if_neg c_4]; done) | (unfold sStr; rw [if_pos c_4, hq0]; rfl) | (unfold sStr; rw [if_pos c_4, if_neg q_0, if_neg q_1, if_neg q_2])), rfl⟩
set_option maxRecDepth 100000 in
set_option maxHeartbeats 4000000 in
theorem c_X6_customer {h : zhp} (hM : zMo h) (F s a t l p : Nat → Int32) (n : Nat) (hw : sWF s n) (v w : Int32) : MM iX6_customer [.ref 181, .int v, .int w] (zm h F s a t l p) (zfi (sCus s n v w) (zm h F s a t l p)) := by
  refine MM_of (by decide +kernel) (Nat.le_of_ble_eq_true rfl) ?_
  refine tt_iload_n dX6_customer_0 rfl ?_
  refine tt_fSi (c_X6_isCustomer _ _) dX6_customer_1 sX6_74 rfl rfl (by decide) ⟨rfl, rfl⟩ (Nat.zero_le _) (Nat.zero_le _) (Nat.le_of_ble_eq_true rfl) ?_
  refine tt_if_neB (tgt := 9) dX6_customer_4 (by decide) (fun c_4 => ?_) (fun c_4 => ?_)
  · obtain ⟨n0, hn0, rfl⟩ := zrng (by omega) c_4
    have hq0 : (nI n0).toNatClampNeg = n0 := nI_clamp (by omega)
    refine tt_iload_n dX6_customer_9 rfl ?_
    by_cases q_0 : w = nI 0
    · subst q_0
      refine tt_tableIn (off := 30) (tgt := 40) dX6_customer_10 (by decide) (by decide) rfl (by decide) ?_
      refine tt_aload_n dX6_customer_40 rfl ?_
      refine tt_mA (b := 182) dX6_customer_41 fX6_7 rfl hM hM.2.1 ?_
      refine tt_iload_n dX6_customer_44 rfl ?_
      refine tt_iconst (nI 0) dX6_customer_45 rfl ?_
      refine tt_fSi (c_X6_ofCustomer _ _ _) dX6_customer_46 sX6_40 rfl rfl (by decide) ⟨rfl, rfl⟩ (Nat.zero_le _) (Nat.zero_le _) (Nat.le_of_ble_eq_true rfl) ?_
      refine tt_ld1 dX6_customer_49 hM (by omega) ?_
      exact tt_ireturn dX6_customer_50 rfl rfl (Nat.zero_le _) (Nat.zero_le _) ⟨congrArg (fun z => some (Value.int z)) (by first | (unfold sCus; rw [if_neg c_4]; done) | (unfold sCus; rw [if_pos c_4, hq0]; rfl) | (unfold sCus; rw [if_pos c_4, if_neg q_0, if_neg q_1, if_neg q_2, if_neg q_3])), rfl⟩
    by_cases q_1 : w = nI 1
    · subst q_1
      refine tt_tableIn (off := 41) (tgt := 51) dX6_customer_10 (by decide) (by decide) rfl (by decide) ?_
      refine tt_aload_n dX6_customer_51 rfl ?_
      refine tt_iload_n dX6_customer_52 rfl ?_
      refine tt_fVi (c_X6_skipsOf hM _ _ _ _ _ _ n hw _) dX6_customer_53 vX6_127 rfl rfl hM.1 (by decide) rfl (by decide) ⟨rfl, rfl⟩ (Nat.zero_le _) (Nat.zero_le _) (Nat.le_of_ble_eq_true rfl) ?_
      exact tt_ireturn dX6_customer_56 rfl rfl (Nat.zero_le _) (Nat.zero_le _) ⟨congrArg (fun z => some (Value.int z)) (by first | (unfold sCus; rw [if_neg c_4]; done) | (unfold sCus; rw [if_pos c_4, hq0]; rfl) | (unfold sCus; rw [if_pos c_4, if_neg q_0, if_neg q_1, if_neg q_2, if_neg q_3])), rfl⟩
    by_cases q_2 : w = nI 2
    · subst q_2
      refine tt_tableIn (off := 47) (tgt := 57) dX6_customer_10 (by decide) (by decide) rfl (by decide) ?_
      refine tt_aload_n dX6_customer_57 rfl ?_
      refine tt_mA (b := 182) dX6_customer_58 fX6_7 rfl hM hM.2.1 ?_
      refine tt_iload_n dX6_customer_61 rfl ?_
      refine tt_iconst (nI 1) dX6_customer_62 rfl ?_
      refine tt_fSi (c_X6_ofCustomer _ _ _) dX6_customer_63 sX6_40 rfl rfl (by decide) ⟨rfl, rfl⟩ (Nat.zero_le _) (Nat.zero_le _) (Nat.le_of_ble_eq_true rfl) ?_
      refine tt_ld1 dX6_customer_66 hM (by omega) ?_
      exact tt_ireturn dX6_customer_67 rfl rfl (Nat.zero_le _) (Nat.zero_le _) ⟨congrArg (fun z => some (Value.int z)) (by first | (unfold sCus; rw [if_neg c_4]; done) | (unfold sCus; rw [if_pos c_4, hq0]; rfl) | (unfold sCus; rw [if_pos c_4, if_neg q_0, if_neg q_1, if_neg q_2, if_neg q_3])), rfl⟩
    by_cases q_3 : w = nI 3
    · subst q_3
      refine tt_tableIn (off := 58) (tgt := 68) dX6_customer_10 (by decide) (by decide) rfl (by decide) ?_
      refine tt_aload_n dX6_customer_68 rfl ?_
      refine tt_mA (b := 182) dX6_customer_69 fX6_7 rfl hM hM.2.1 ?_
      refine tt_iload_n dX6_customer_72 rfl ?_
      refine tt_iconst (nI 2) dX6_customer_73 rfl ?_
      refine tt_fSi (c_X6_ofCustomer _ _ _) dX6_customer_74 sX6_40 rfl rfl (by decide) ⟨rfl, rfl⟩ (Nat.zero_le _) (Nat.zero_le _) (Nat.le_of_ble_eq_true rfl) ?_
      refine tt_ld1 dX6_customer_77 hM (by omega) ?_
      exact tt_ireturn dX6_customer_78 rfl rfl (Nat.zero_le _) (Nat.zero_le _) ⟨congrArg (fun z => some (Value.int z)) (by first | (unfold sCus; rw [if_neg c_4]; done) | (unfold sCus; rw [if_pos c_4, hq0]; rfl) | (unfold sCus; rw [if_pos c_4, if_neg q_0, if_neg q_1, if_neg q_2, if_neg q_3])), rfl⟩
    have qo : ∀ k, 0 ≤ k → k ≤ 3 → ¬ w = nI k := by
      intro k h1 h2
      rcases (show k = 0 ∨ k = 1 ∨ k = 2 ∨ k = 3 by omega) with rfl | rfl | rfl | rfl <;> assumption
    refine tt_tableOut (tgt := 79) dX6_customer_10 (ztab (lo := 0) (hi := 3) (by omega) qo) (by decide) ?_
    refine tt_bipush (-2) dX6_customer_79 rfl ?_
    exact tt_ireturn dX6_customer_81 rfl rfl (Nat.zero_le _) (Nat.zero_le _) ⟨congrArg (fun z => some (Value.int z)) (by first | (unfold sCus; rw [if_neg c_4]; done) | (unfold sCus; rw [if_pos c_4, hq0]; rfl) | (unfold sCus; rw [if_pos c_4, if_neg q_0, if_neg q_1, if_neg q_2, if_neg q_3])), rfl⟩
  · refine tt_iconst (-1) dX6_customer_7 rfl ?_
    exact tt_ireturn dX6_customer_8 rfl rfl (Nat.zero_le _) (Nat.zero_le _) ⟨congrArg (fun z => some (Value.int z)) (by first | (unfold sCus; rw [if_neg c_4]; done) | (unfold sCus; rw [if_pos c_4, hq0]; rfl) | (unfold sCus; rw [if_pos c_4, if_neg q_0, if_neg q_1, if_neg q_2, if_neg q_3])), rfl⟩
set_option maxRecDepth 100000 in
set_option maxHeartbeats 4000000 in
theorem c_X6_count {h : zhp} (hM : zMo h) (F s a t l p : Nat → Int32) (n : Nat) (hw : sWF s n) (v : Int32) : MM iX6_count [.ref 181, .int v] (zm h F s a t l p) (zfi (sCou F s n v) (zm h F s a t l p)) := by
  refine MM_of (by decide +kernel) (Nat.le_of_ble_eq_true rfl) ?_
  refine tt_iload_n dX6_count_0 rfl ?_
  refine tt_iconst (nI 0) dX6_count_1 rfl ?_
  refine tt_bipush (nI 7) dX6_count_2 rfl ?_
  refine tt_fSi (c_X6_in _ _ _ _) dX6_count_4 sX6_25 rfl rfl (by decide) ⟨rfl, rfl⟩ (Nat.zero_le _) (Nat.zero_le _) (Nat.le_of_ble_eq_true rfl) ?_
  refine tt_if_eqB (tgt := 17) dX6_count_7 (by decide) (fun c_7 => ?_) (fun c_7 => ?_)
  · skip
    refine tt_iload_n dX6_count_17 rfl ?_
    by_cases q_8 : v = nI 8
    · subst q_8
      refine tt_tableIn (off := 58) (tgt := 76) dX6_count_18 (by decide) (by decide) rfl (by decide) ?_
      refine tt_aload_n dX6_count_76 rfl ?_
      refine tt_mA (b := 182) dX6_count_77 fX6_7 rfl hM hM.2.1 ?_
      refine tt_bipush (nI 8) dX6_count_80 rfl ?_
      refine tt_ld1 dX6_count_82 hM (by omega) ?_
      exact tt_ireturn dX6_count_83 rfl rfl (Nat.zero_le _) (Nat.zero_le _) ⟨congrArg (fun z => some (Value.int z)) (by first | (unfold sCou; rw [if_pos c_7, hq0]; done) | (unfold sCou; rw [if_neg c_7]; rfl) | (unfold sCou; rw [if_neg c_7, if_neg q_8, if_neg q_9, if_neg q_10, if_neg q_11, if_neg q_12, if_neg q_13, if_neg q_14, if_neg q_15, if_neg q_16, if_neg q_17, if_neg q_18])), rfl⟩
    by_cases q_9 : v = nI 9
    · subst q_9
      refine tt_tableIn (off := 66) (tgt := 84) dX6_count_18 (by decide) (by decide) rfl (by decide) ?_
      refine tt_aload_n dX6_count_84 rfl ?_
      refine tt_mA (b := 182) dX6_count_85 fX6_7 rfl hM hM.2.1 ?_
      refine tt_bipush (nI 33) dX6_count_88 rfl ?_
      refine tt_ld1 dX6_count_90 hM (by omega) ?_
      exact tt_ireturn dX6_count_91 rfl rfl (Nat.zero_le _) (Nat.zero_le _) ⟨congrArg (fun z => some (Value.int z)) (by first | (unfold sCou; rw [if_pos c_7, hq0]; done) | (unfold sCou; rw [if_neg c_7]; rfl) | (unfold sCou; rw [if_neg c_7, if_neg q_8, if_neg q_9, if_neg q_10, if_neg q_11, if_neg q_12, if_neg q_13, if_neg q_14, if_neg q_15, if_neg q_16, if_neg q_17, if_neg q_18])), rfl⟩
    by_cases q_10 : v = nI 10
    · subst q_10
      refine tt_tableIn (off := 74) (tgt := 92) dX6_count_18 (by decide) (by decide) rfl (by decide) ?_
      refine tt_aload_n dX6_count_92 rfl ?_
      refine tt_fVi (c_X6_tripsLeft hM _ _ _ _ _ _) dX6_count_93 vX6_80 rfl rfl hM.1 (by decide) rfl (by decide) ⟨rfl, rfl⟩ (Nat.zero_le _) (Nat.zero_le _) (Nat.le_of_ble_eq_true rfl) ?_
      exact tt_ireturn dX6_count_96 rfl rfl (Nat.zero_le _) (Nat.zero_le _) ⟨congrArg (fun z => some (Value.int z)) (by first | (unfold sCou; rw [if_pos c_7, hq0]; done) | (unfold sCou; rw [if_neg c_7]; rfl) | (unfold sCou; rw [if_neg c_7, if_neg q_8, if_neg q_9, if_neg q_10, if_neg q_11, if_neg q_12, if_neg q_13, if_neg q_14, if_neg q_15, if_neg q_16, if_neg q_17, if_neg q_18])), rfl⟩
    by_cases q_11 : v = nI 11
    · subst q_11
      refine tt_tableIn (off := 79) (tgt := 97) dX6_count_18 (by decide) (by decide) rfl (by decide) ?_
      refine tt_aload_n dX6_count_97 rfl ?_
      refine tt_iconst (nI 0) dX6_count_98 rfl ?_
      refine tt_fVi (c_X6_sumOf hM _ _ _ _ _ _ _ (by omega)) dX6_count_99 vX6_65 rfl rfl hM.1 (by decide) rfl (by decide) ⟨rfl, rfl⟩ (Nat.zero_le _) (Nat.zero_le _) (Nat.le_of_ble_eq_true rfl) ?_
      exact tt_ireturn dX6_count_102 rfl rfl (Nat.zero_le _) (Nat.zero_le _) ⟨congrArg (fun z => some (Value.int z)) (by first | (unfold sCou; rw [if_pos c_7, hq0]; done) | (unfold sCou; rw [if_neg c_7]; rfl) | (unfold sCou; rw [if_neg c_7, if_neg q_8, if_neg q_9, if_neg q_10, if_neg q_11, if_neg q_12, if_neg q_13, if_neg q_14, if_neg q_15, if_neg q_16, if_neg q_17, if_neg q_18])), rfl⟩
    by_cases q_12 : v = nI 12
    · subst q_12
      refine tt_tableIn (off := 85) (tgt := 103) dX6_count_18 (by decide) (by decide) rfl (by decide) ?_
      refine tt_aload_n dX6_count_103 rfl ?_
      refine tt_iconst (nI 1) dX6_count_104 rfl ?_
      refine tt_fVi (c_X6_sumOf hM _ _ _ _ _ _ _ (by omega)) dX6_count_105 vX6_65 rfl rfl hM.1 (by decide) rfl (by decide) ⟨rfl, rfl⟩ (Nat.zero_le _) (Nat.zero_le _) (Nat.le_of_ble_eq_true rfl) ?_
      exact tt_ireturn dX6_count_108 rfl rfl (Nat.zero_le _) (Nat.zero_le _) ⟨congrArg (fun z => some (Value.int z)) (by first | (unfold sCou; rw [if_pos c_7, hq0]; done) | (unfold sCou; rw [if_neg c_7]; rfl) | (unfold sCou; rw [if_neg c_7, if_neg q_8, if_neg q_9, if_neg q_10, if_neg q_11, if_neg q_12, if_neg q_13, if_neg q_14, if_neg q_15, if_neg q_16, if_neg q_17, if_neg q_18])), rfl⟩
    by_cases q_13 : v = nI 13
    · subst q_13
      refine tt_tableIn (off := 91) (tgt := 109) dX6_count_18 (by decide) (by decide) rfl (by decide) ?_
      refine tt_aload_n dX6_count_109 rfl ?_
      refine tt_mA (b := 182) dX6_count_110 fX6_7 rfl hM hM.2.1 ?_
      refine tt_sipush (nI 134) dX6_count_113 rfl ?_
      refine tt_ld1 dX6_count_116 hM (by omega) ?_
      exact tt_ireturn dX6_count_117 rfl rfl (Nat.zero_le _) (Nat.zero_le _) ⟨congrArg (fun z => some (Value.int z)) (by first | (unfold sCou; rw [if_pos c_7, hq0]; done) | (unfold sCou; rw [if_neg c_7]; rfl) | (unfold sCou; rw [if_neg c_7, if_neg q_8, if_neg q_9, if_neg q_10, if_neg q_11, if_neg q_12, if_neg q_13, if_neg q_14, if_neg q_15, if_neg q_16, if_neg q_17, if_neg q_18])), rfl⟩
    by_cases q_14 : v = nI 14
    · subst q_14
      refine tt_tableIn (off := 100) (tgt := 118) dX6_count_18 (by decide) (by decide) rfl (by decide) ?_
      refine tt_aload_n dX6_count_118 rfl ?_
      refine tt_iconst (nI 2) dX6_count_119 rfl ?_
      refine tt_fVi (c_X6_sumOf hM _ _ _ _ _ _ _ (by omega)) dX6_count_120 vX6_65 rfl rfl hM.1 (by decide) rfl (by decide) ⟨rfl, rfl⟩ (Nat.zero_le _) (Nat.zero_le _) (Nat.le_of_ble_eq_true rfl) ?_
      exact tt_ireturn dX6_count_123 rfl rfl (Nat.zero_le _) (Nat.zero_le _) ⟨congrArg (fun z => some (Value.int z)) (by first | (unfold sCou; rw [if_pos c_7, hq0]; done) | (unfold sCou; rw [if_neg c_7]; rfl) | (unfold sCou; rw [if_neg c_7, if_neg q_8, if_neg q_9, if_neg q_10, if_neg q_11, if_neg q_12, if_neg q_13, if_neg q_14, if_neg q_15, if_neg q_16, if_neg q_17, if_neg q_18])), rfl⟩
    by_cases q_15 : v = nI 15
    · subst q_15
      refine tt_tableIn (off := 106) (tgt := 124) dX6_count_18 (by decide) (by decide) rfl (by decide) ?_
      refine tt_aload_n dX6_count_124 rfl ?_
      refine tt_iconst (nI 0) dX6_count_125 rfl ?_
      refine tt_fVi (c_X6_loads hM _ _ _ _ _ _ n hw _) dX6_count_126 vX6_130 rfl rfl hM.1 (by decide) rfl (by decide) ⟨rfl, rfl⟩ (Nat.zero_le _) (Nat.zero_le _) (Nat.le_of_ble_eq_true rfl) ?_
      exact tt_ireturn dX6_count_129 rfl rfl (Nat.zero_le _) (Nat.zero_le _) ⟨congrArg (fun z => some (Value.int z)) (by first | (unfold sCou; rw [if_pos c_7, hq0]; done) | (unfold sCou; rw [if_neg c_7]; rfl) | (unfold sCou; rw [if_neg c_7, if_neg q_8, if_neg q_9, if_neg q_10, if_neg q_11, if_neg q_12, if_neg q_13, if_neg q_14, if_neg q_15, if_neg q_16, if_neg q_17, if_neg q_18])), rfl⟩
    by_cases q_16 : v = nI 16
    · subst q_16
      refine tt_tableIn (off := 112) (tgt := 130) dX6_count_18 (by decide) (by decide) rfl (by decide) ?_
      refine tt_aload_n dX6_count_130 rfl ?_
      refine tt_iconst (nI 1) dX6_count_131 rfl ?_
      refine tt_fVi (c_X6_loads hM _ _ _ _ _ _ n hw _) dX6_count_132 vX6_130 rfl rfl hM.1 (by decide) rfl (by decide) ⟨rfl, rfl⟩ (Nat.zero_le _) (Nat.zero_le _) (Nat.le_of_ble_eq_true rfl) ?_
      exact tt_ireturn dX6_count_135 rfl rfl (Nat.zero_le _) (Nat.zero_le _) ⟨congrArg (fun z => some (Value.int z)) (by first | (unfold sCou; rw [if_pos c_7, hq0]; done) | (unfold sCou; rw [if_neg c_7]; rfl) | (unfold sCou; rw [if_neg c_7, if_neg q_8, if_neg q_9, if_neg q_10, if_neg q_11, if_neg q_12, if_neg q_13, if_neg q_14, if_neg q_15, if_neg q_16, if_neg q_17, if_neg q_18])), rfl⟩
    by_cases q_17 : v = nI 17
    · subst q_17
      refine tt_tableIn (off := 118) (tgt := 136) dX6_count_18 (by decide) (by decide) rfl (by decide) ?_
      refine tt_aload_n dX6_count_136 rfl ?_
      refine tt_mI dX6_count_137 fX6_134 rfl hM ?_
      exact tt_ireturn dX6_count_140 rfl rfl (Nat.zero_le _) (Nat.zero_le _) ⟨congrArg (fun z => some (Value.int z)) (by first | (unfold sCou; rw [if_pos c_7, hq0]; done) | (unfold sCou; rw [if_neg c_7]; rfl) | (unfold sCou; rw [if_neg c_7, if_neg q_8, if_neg q_9, if_neg q_10, if_neg q_11, if_neg q_12, if_neg q_13, if_neg q_14, if_neg q_15, if_neg q_16, if_neg q_17, if_neg q_18])), rfl⟩
    by_cases q_18 : v = nI 18
    · subst q_18
      refine tt_tableIn (off := 123) (tgt := 141) dX6_count_18 (by decide) (by decide) rfl (by decide) ?_
      refine tt_aload_n dX6_count_141 rfl ?_
      refine tt_mI dX6_count_142 fX6_33 rfl hM ?_
      exact tt_ireturn dX6_count_145 rfl rfl (Nat.zero_le _) (Nat.zero_le _) ⟨congrArg (fun z => some (Value.int z)) (by first | (unfold sCou; rw [if_pos c_7, hq0]; done) | (unfold sCou; rw [if_neg c_7]; rfl) | (unfold sCou; rw [if_neg c_7, if_neg q_8, if_neg q_9, if_neg q_10, if_neg q_11, if_neg q_12, if_neg q_13, if_neg q_14, if_neg q_15, if_neg q_16, if_neg q_17, if_neg q_18])), rfl⟩
    have qo : ∀ k, 8 ≤ k → k ≤ 18 → ¬ v = nI k := by
      intro k h1 h2
      rcases (show k = 8 ∨ k = 9 ∨ k = 10 ∨ k = 11 ∨ k = 12 ∨ k = 13 ∨ k = 14 ∨ k = 15 ∨ k = 16 ∨ k = 17 ∨ k = 18 by omega) with rfl | rfl | rfl | rfl | rfl | rfl | rfl | rfl | rfl | rfl | rfl <;> assumption
    refine tt_tableOut (tgt := 146) dX6_count_18 (ztab (lo := 8) (hi := 18) (by omega) qo) (by decide) ?_
    refine tt_bipush (-2) dX6_count_146 rfl ?_
    exact tt_ireturn dX6_count_148 rfl rfl (Nat.zero_le _) (Nat.zero_le _) ⟨congrArg (fun z => some (Value.int z)) (by first | (unfold sCou; rw [if_pos c_7, hq0]; done) | (unfold sCou; rw [if_neg c_7]; rfl) | (unfold sCou; rw [if_neg c_7, if_neg q_8, if_neg q_9, if_neg q_10, if_neg q_11, if_neg q_12, if_neg q_13, if_neg q_14, if_neg q_15, if_neg q_16, if_neg q_17, if_neg q_18])), rfl⟩
  · obtain ⟨n0, hn0, rfl⟩ := zrng (by omega) c_7
    have hq0 : (nI n0).toNatClampNeg = n0 := nI_clamp (by omega)
    refine tt_aload_n dX6_count_10 rfl ?_
    refine tt_mA (b := 182) dX6_count_11 fX6_7 rfl hM hM.2.1 ?_
    refine tt_iload_n dX6_count_14 rfl ?_
    refine tt_ld1 dX6_count_15 hM (by omega) ?_
    exact tt_ireturn dX6_count_16 rfl rfl (Nat.zero_le _) (Nat.zero_le _) ⟨congrArg (fun z => some (Value.int z)) (by first | (unfold sCou; rw [if_pos c_7, hq0]; done) | (unfold sCou; rw [if_neg c_7]; rfl) | (unfold sCou; rw [if_neg c_7, if_neg q_8, if_neg q_9, if_neg q_10, if_neg q_11, if_neg q_12, if_neg q_13, if_neg q_14, if_neg q_15, if_neg q_16, if_neg q_17, if_neg q_18])), rfl⟩
set_option maxRecDepth 100000 in
set_option maxHeartbeats 4000000 in
theorem c_X6_untilFull {h : zhp} (hM : zMo h) (F s a t l p : Nat → Int32) (n : Nat) (hw : sWF s n) (v : Int32) : MM iX6_untilFull [.ref 181, .int v] (zm h F s a t l p) (zfi (sUf s v) (zm h F s a t l p)) := by
  refine MM_of (by decide +kernel) (Nat.le_of_ble_eq_true rfl) ?_
  refine tt_aload_n dX6_untilFull_0 rfl ?_
  refine tt_iload_n dX6_untilFull_1 rfl ?_
  refine tt_fVi (c_X6_isSkip hM _ _ _ _ _ _ _) dX6_untilFull_2 vX6_84 rfl rfl hM.1 (by decide) rfl (by decide) ⟨rfl, rfl⟩ (Nat.zero_le _) (Nat.zero_le _) (Nat.le_of_ble_eq_true rfl) ?_
  refine tt_if_neB (tgt := 10) dX6_untilFull_5 (by decide) (fun c_5 => ?_) (fun c_5 => ?_)
  · obtain ⟨n0, hn0, rfl⟩ := zskip hw.1 hw.2.1 c_5
    have hn10 := hw.1
    have hq0 : (nI n0).toNatClampNeg = n0 := nI_clamp (by omega)
    refine tt_aload_n dX6_untilFull_10 rfl ?_
    refine tt_iload_n dX6_untilFull_11 rfl ?_
    refine tt_fVi (c_X6_holds hM _ _ _ _ _ _ _ (by omega)) dX6_untilFull_12 vX6_57 rfl rfl hM.1 (by decide) rfl (by decide) ⟨rfl, rfl⟩ (Nat.zero_le _) (Nat.zero_le _) (Nat.le_of_ble_eq_true rfl) ?_
    refine tt_aload_n dX6_untilFull_15 rfl ?_
    refine tt_mA (b := 182) dX6_untilFull_16 fX6_7 rfl hM hM.2.1 ?_
    refine tt_iload_n dX6_untilFull_19 rfl ?_
    refine tt_iconst (nI 3) dX6_untilFull_20 rfl ?_
    refine tt_fSi (c_X6_of _ _ _) dX6_untilFull_21 sX6_29 rfl rfl (by decide) ⟨rfl, rfl⟩ (Nat.zero_le _) (Nat.zero_le _) (Nat.le_of_ble_eq_true rfl) ?_
    refine tt_ld1 dX6_untilFull_24 hM (by omega) ?_
    refine tt_isub dX6_untilFull_25 ?_
    refine tt_istore_n dX6_untilFull_26 rfl (Nat.le_of_ble_eq_true rfl) rfl ?_
    refine tt_aload_n dX6_untilFull_27 rfl ?_
    refine tt_mA (b := 182) dX6_untilFull_28 fX6_7 rfl hM hM.2.1 ?_
    refine tt_iload_n dX6_untilFull_31 rfl ?_
    refine tt_iconst (nI 4) dX6_untilFull_32 rfl ?_
    refine tt_fSi (c_X6_of _ _ _) dX6_untilFull_33 sX6_29 rfl rfl (by decide) ⟨rfl, rfl⟩ (Nat.zero_le _) (Nat.zero_le _) (Nat.le_of_ble_eq_true rfl) ?_
    refine tt_ld1 dX6_untilFull_36 hM (by omega) ?_
    refine tt_istore_n dX6_untilFull_37 rfl (Nat.le_of_ble_eq_true rfl) rfl ?_
    refine tt_iload_n dX6_untilFull_38 rfl ?_
    refine tt_if_eq (tgt := 46) dX6_untilFull_39 (by decide) (fun c_39 => ?_) (fun c_39 => ?_)
    · refine tt_iload_n dX6_untilFull_46 rfl ?_
      refine tt_if_ne (tgt := 54) dX6_untilFull_47 (by decide) (fun c_47 => ?_) (fun c_47 => ?_)
      · refine tt_bipush (-6) dX6_untilFull_54 rfl ?_
        exact tt_ireturn dX6_untilFull_56 rfl rfl (Nat.zero_le _) (Nat.zero_le _) ⟨congrArg (fun z => some (Value.int z)) (by first | (unfold sUf; rw [if_neg c_5]; done) | (unfold sUf sHo; rw [if_pos c_5, hq0, if_pos c_39]; done) | (exact absurd c_39 c_47) | (unfold sUf sHo; rw [if_pos c_5, hq0, if_neg c_39, if_pos c_43]; done) | (unfold sUf sHo; rw [if_pos c_5, hq0, if_neg c_39, if_neg c_43]; done) | (exact absurd (by simpa using c_47) c_39)), rfl⟩
      · refine tt_iconst (nI 0) dX6_untilFull_50 rfl ?_
        refine tt_goto (tgt := 56) dX6_untilFull_51 (by decide) ?_
        exact tt_ireturn dX6_untilFull_56 rfl rfl (Nat.zero_le _) (Nat.zero_le _) ⟨congrArg (fun z => some (Value.int z)) (by first | (unfold sUf; rw [if_neg c_5]; done) | (unfold sUf sHo; rw [if_pos c_5, hq0, if_pos c_39]; done) | (exact absurd c_39 c_47) | (unfold sUf sHo; rw [if_pos c_5, hq0, if_neg c_39, if_pos c_43]; done) | (unfold sUf sHo; rw [if_pos c_5, hq0, if_neg c_39, if_neg c_43]; done) | (exact absurd (by simpa using c_47) c_39)), rfl⟩
    · refine tt_iload_n dX6_untilFull_42 rfl ?_
      refine tt_if_ne (tgt := 57) dX6_untilFull_43 (by decide) (fun c_43 => ?_) (fun c_43 => ?_)
      · refine tt_iload_n dX6_untilFull_57 rfl ?_
        refine tt_iload_n dX6_untilFull_58 rfl ?_
        refine tt_iadd dX6_untilFull_59 ?_
        refine tt_iconst (nI 1) dX6_untilFull_60 rfl ?_
        refine tt_isub dX6_untilFull_61 ?_
        refine tt_iload_n dX6_untilFull_62 rfl ?_
        refine tt_idiv dX6_untilFull_63 c_43 ?_
        exact tt_ireturn dX6_untilFull_64 rfl rfl (Nat.zero_le _) (Nat.zero_le _) ⟨congrArg (fun z => some (Value.int z)) (by first | (unfold sUf; rw [if_neg c_5]; done) | (unfold sUf sHo; rw [if_pos c_5, hq0, if_pos c_39]; done) | (exact absurd c_39 c_47) | (unfold sUf sHo; rw [if_pos c_5, hq0, if_neg c_39, if_pos c_43]; done) | (unfold sUf sHo; rw [if_pos c_5, hq0, if_neg c_39, if_neg c_43]; done) | (exact absurd (by simpa using c_47) c_39)), rfl⟩
      · refine tt_iload_n dX6_untilFull_46 rfl ?_
        refine tt_if_ne (tgt := 54) dX6_untilFull_47 (by decide) (fun c_47 => ?_) (fun c_47 => ?_)
        · refine tt_bipush (-6) dX6_untilFull_54 rfl ?_
          exact tt_ireturn dX6_untilFull_56 rfl rfl (Nat.zero_le _) (Nat.zero_le _) ⟨congrArg (fun z => some (Value.int z)) (by first | (unfold sUf; rw [if_neg c_5]; done) | (unfold sUf sHo; rw [if_pos c_5, hq0, if_pos c_39]; done) | (exact absurd c_39 c_47) | (unfold sUf sHo; rw [if_pos c_5, hq0, if_neg c_39, if_pos c_43]; done) | (unfold sUf sHo; rw [if_pos c_5, hq0, if_neg c_39, if_neg c_43]; done) | (exact absurd (by simpa using c_47) c_39)), rfl⟩
        · refine tt_iconst (nI 0) dX6_untilFull_50 rfl ?_
          refine tt_goto (tgt := 56) dX6_untilFull_51 (by decide) ?_
          exact tt_ireturn dX6_untilFull_56 rfl rfl (Nat.zero_le _) (Nat.zero_le _) ⟨congrArg (fun z => some (Value.int z)) (by first | (unfold sUf; rw [if_neg c_5]; done) | (unfold sUf sHo; rw [if_pos c_5, hq0, if_pos c_39]; done) | (exact absurd c_39 c_47) | (unfold sUf sHo; rw [if_pos c_5, hq0, if_neg c_39, if_pos c_43]; done) | (unfold sUf sHo; rw [if_pos c_5, hq0, if_neg c_39, if_neg c_43]; done) | (exact absurd (by simpa using c_47) c_39)), rfl⟩
  · refine tt_iconst (-1) dX6_untilFull_8 rfl ?_
    exact tt_ireturn dX6_untilFull_9 rfl rfl (Nat.zero_le _) (Nat.zero_le _) ⟨congrArg (fun z => some (Value.int z)) (by first | (unfold sUf; rw [if_neg c_5]; done) | (unfold sUf sHo; rw [if_pos c_5, hq0, if_pos c_39]; done) | (exact absurd c_39 c_47) | (unfold sUf sHo; rw [if_pos c_5, hq0, if_neg c_39, if_pos c_43]; done) | (unfold sUf sHo; rw [if_pos c_5, hq0, if_neg c_39, if_neg c_43]; done) | (exact absurd (by simpa using c_47) c_39)), rfl⟩
set_option maxRecDepth 100000 in
set_option maxHeartbeats 4000000 in
theorem c_X6_untilFine {h : zhp} (hM : zMo h) (F s a t l p : Nat → Int32) (n : Nat) (hw : sWF s n) (v : Int32) : MM iX6_untilFine [.ref 181, .int v] (zm h F s a t l p) (zfi (sUn s v) (zm h F s a t l p)) := by
  refine MM_of (by decide +kernel) (Nat.le_of_ble_eq_true rfl) ?_
  refine tt_aload_n dX6_untilFine_0 rfl ?_
  refine tt_iload_n dX6_untilFine_1 rfl ?_
  refine tt_fVi (c_X6_isSkip hM _ _ _ _ _ _ _) dX6_untilFine_2 vX6_84 rfl rfl hM.1 (by decide) rfl (by decide) ⟨rfl, rfl⟩ (Nat.zero_le _) (Nat.zero_le _) (Nat.le_of_ble_eq_true rfl) ?_
  refine tt_if_neB (tgt := 10) dX6_untilFine_5 (by decide) (fun c_5 => ?_) (fun c_5 => ?_)
  · obtain ⟨n0, hn0, rfl⟩ := zskip hw.1 hw.2.1 c_5
    have hn10 := hw.1
    have hq0 : (nI n0).toNatClampNeg = n0 := nI_clamp (by omega)
    refine tt_aload_n dX6_untilFine_10 rfl ?_
    refine tt_iload_n dX6_untilFine_11 rfl ?_
    refine tt_fVi (c_X6_isInStreet hM _ _ _ _ _ _ _ (by omega)) dX6_untilFine_12 vX6_47 rfl rfl hM.1 (by decide) rfl (by decide) ⟨rfl, rfl⟩ (Nat.zero_le _) (Nat.zero_le _) (Nat.le_of_ble_eq_true rfl) ?_
    refine tt_if_neB (tgt := 21) dX6_untilFine_15 (by decide) (fun c_15 => ?_) (fun c_15 => ?_)
    · refine tt_aload_n dX6_untilFine_21 rfl ?_
      refine tt_iload_n dX6_untilFine_22 rfl ?_
      refine tt_fVi (c_X6_isPermitted hM _ _ _ _ _ _ _ (by omega)) dX6_untilFine_23 vX6_51 rfl rfl hM.1 (by decide) rfl (by decide) ⟨rfl, rfl⟩ (Nat.zero_le _) (Nat.zero_le _) (Nat.le_of_ble_eq_true rfl) ?_
      refine tt_c1 (tgt := 54) (x := if s (34 + 10 * n0 + 6) ≠ -6 ∧ s 8 ≤ s (34 + 10 * n0 + 6) then s (34 + 10 * n0 + 6) - s 8 + nI 1 else nI 1) ?_ (fun key_54 => ?_)
      · refine tt_istore_n dX6_untilFine_54 rfl (Nat.le_of_ble_eq_true rfl) rfl ?_
        refine tt_aload_n dX6_untilFine_55 rfl ?_
        refine tt_mA (b := 182) dX6_untilFine_56 fX6_7 rfl hM hM.2.1 ?_
        refine tt_iload_n dX6_untilFine_59 rfl ?_
        refine tt_iconst (nI 5) dX6_untilFine_60 rfl ?_
        refine tt_fSi (c_X6_of _ _ _) dX6_untilFine_61 sX6_29 rfl rfl (by decide) ⟨rfl, rfl⟩ (Nat.zero_le _) (Nat.zero_le _) (Nat.le_of_ble_eq_true rfl) ?_
        refine tt_ld1 dX6_untilFine_64 hM (by omega) ?_
        refine tt_iconst (nI 1) dX6_untilFine_65 rfl ?_
        refine tt_iadd dX6_untilFine_66 ?_
        refine tt_istore_n dX6_untilFine_67 rfl (Nat.le_of_ble_eq_true rfl) rfl ?_
        refine tt_iload_n dX6_untilFine_68 rfl ?_
        refine tt_iload_n dX6_untilFine_69 rfl ?_
        refine tt_icmp_ge (tgt := 77) dX6_untilFine_70 (by decide) (fun c_70 => ?_) (fun c_70 => ?_)
        · refine tt_iload_n dX6_untilFine_77 rfl ?_
          exact tt_ireturn dX6_untilFine_78 rfl rfl (Nat.zero_le _) (Nat.zero_le _) ⟨congrArg (fun z => some (Value.int z)) (by first | (unfold sUn; rw [if_neg c_5]; done) | (unfold sUn; rw [if_pos c_5, hq0, if_neg c_15]; done) | (unfold sUn; rw [if_pos c_5, hq0, if_pos c_15]; exact (if_pos c_70).symm) | (unfold sUn; rw [if_pos c_5, hq0, if_pos c_15]; exact (if_neg c_70).symm)), rfl⟩
        · refine tt_iload_n dX6_untilFine_73 rfl ?_
          refine tt_goto (tgt := 78) dX6_untilFine_74 (by decide) ?_
          exact tt_ireturn dX6_untilFine_78 rfl rfl (Nat.zero_le _) (Nat.zero_le _) ⟨congrArg (fun z => some (Value.int z)) (by first | (unfold sUn; rw [if_neg c_5]; done) | (unfold sUn; rw [if_pos c_5, hq0, if_neg c_15]; done) | (unfold sUn; rw [if_pos c_5, hq0, if_pos c_15]; exact (if_pos c_70).symm) | (unfold sUn; rw [if_pos c_5, hq0, if_pos c_15]; exact (if_neg c_70).symm)), rfl⟩
      · refine tt_if_eqB (tgt := 53) dX6_untilFine_26 (by decide) (fun c_26 => ?_) (fun c_26 => ?_)
        · refine tt_iconst (nI 1) dX6_untilFine_53 rfl ?_
          exact key_54 _ (by first | exact (if_pos (by assumption)).symm | exact (if_neg (by assumption)).symm | simp_all)
        · refine tt_aload_n dX6_untilFine_29 rfl ?_
          refine tt_mA (b := 182) dX6_untilFine_30 fX6_7 rfl hM hM.2.1 ?_
          refine tt_iload_n dX6_untilFine_33 rfl ?_
          refine tt_bipush (nI 6) dX6_untilFine_34 rfl ?_
          refine tt_fSi (c_X6_of _ _ _) dX6_untilFine_36 sX6_29 rfl rfl (by decide) ⟨rfl, rfl⟩ (Nat.zero_le _) (Nat.zero_le _) (Nat.le_of_ble_eq_true rfl) ?_
          refine tt_ld1 dX6_untilFine_39 hM (by omega) ?_
          refine tt_aload_n dX6_untilFine_40 rfl ?_
          refine tt_mA (b := 182) dX6_untilFine_41 fX6_7 rfl hM hM.2.1 ?_
          refine tt_bipush (nI 8) dX6_untilFine_44 rfl ?_
          refine tt_ld1 dX6_untilFine_46 hM (by omega) ?_
          refine tt_isub dX6_untilFine_47 ?_
          refine tt_iconst (nI 1) dX6_untilFine_48 rfl ?_
          refine tt_iadd dX6_untilFine_49 ?_
          refine tt_goto (tgt := 54) dX6_untilFine_50 (by decide) ?_
          exact key_54 _ (by first | exact (if_pos (by assumption)).symm | exact (if_neg (by assumption)).symm | simp_all)
    · refine tt_bipush (-6) dX6_untilFine_18 rfl ?_
      exact tt_ireturn dX6_untilFine_20 rfl rfl (Nat.zero_le _) (Nat.zero_le _) ⟨congrArg (fun z => some (Value.int z)) (by first | (unfold sUn; rw [if_neg c_5]; done) | (unfold sUn; rw [if_pos c_5, hq0, if_neg c_15]; done) | (unfold sUn; rw [if_pos c_5, hq0, if_pos c_15]; exact (if_pos c_70).symm) | (unfold sUn; rw [if_pos c_5, hq0, if_pos c_15]; exact (if_neg c_70).symm)), rfl⟩
  · refine tt_iconst (-1) dX6_untilFine_8 rfl ?_
    exact tt_ireturn dX6_untilFine_9 rfl rfl (Nat.zero_le _) (Nat.zero_le _) ⟨congrArg (fun z => some (Value.int z)) (by first | (unfold sUn; rw [if_neg c_5]; done) | (unfold sUn; rw [if_pos c_5, hq0, if_neg c_15]; done) | (unfold sUn; rw [if_pos c_5, hq0, if_pos c_15]; exact (if_pos c_70).symm) | (unfold sUn; rw [if_pos c_5, hq0, if_pos c_15]; exact (if_neg c_70).symm)), rfl⟩
set_option maxRecDepth 100000 in
set_option maxHeartbeats 4000000 in
theorem c_X6_wouldFall {h : zhp} (hM : zMo h) (F s a t l p : Nat → Int32) (n : Nat) (hn : n < 10) (ld d : Int32) : MM iX6_wouldFall [.ref 181, .int (nI n), .int ld, .int d] (zm h F s a t l p) (zfi (sWf s n ld d) (zm h F s a t l p)) := by
  refine MM_of (by decide +kernel) (Nat.le_of_ble_eq_true rfl) ?_
  refine tt_iload_n dX6_wouldFall_0 rfl ?_
  refine tt_aload_n dX6_wouldFall_1 rfl ?_
  refine tt_mA (b := 182) dX6_wouldFall_2 fX6_7 rfl hM hM.2.1 ?_
  refine tt_iload_n dX6_wouldFall_5 rfl ?_
  refine tt_iconst (nI 4) dX6_wouldFall_6 rfl ?_
  refine tt_fSi (c_X6_of _ _ _) dX6_wouldFall_7 sX6_29 rfl rfl (by decide) ⟨rfl, rfl⟩ (Nat.zero_le _) (Nat.zero_le _) (Nat.le_of_ble_eq_true rfl) ?_
  refine tt_ld1 dX6_wouldFall_10 hM (by omega) ?_
  refine tt_iload_n dX6_wouldFall_11 rfl ?_
  refine tt_imul dX6_wouldFall_12 ?_
  refine tt_iadd dX6_wouldFall_13 ?_
  refine tt_istore dX6_wouldFall_14 rfl (Nat.le_of_ble_eq_true rfl) rfl ?_
  refine tt_iload dX6_wouldFall_16 rfl ?_
  refine tt_aload_n dX6_wouldFall_18 rfl ?_
  refine tt_iload_n dX6_wouldFall_19 rfl ?_
  refine tt_fVi (c_X6_holds hM _ _ _ _ _ _ _ (by omega)) dX6_wouldFall_20 vX6_57 rfl rfl hM.1 (by decide) rfl (by decide) ⟨rfl, rfl⟩ (Nat.zero_le _) (Nat.zero_le _) (Nat.le_of_ble_eq_true rfl) ?_
  refine tt_icmp_le (tgt := 37) dX6_wouldFall_23 (by decide) (fun c_23 => ?_) (fun c_23 => ?_)
  · refine tt_iconst (nI 0) dX6_wouldFall_37 rfl ?_
    exact tt_ireturn dX6_wouldFall_38 rfl rfl (Nat.zero_le _) (Nat.zero_le _) ⟨congrArg (fun z => some (Value.int z)) (by first | exact (if_pos c_23).symm | exact (if_neg c_23).symm), rfl⟩
  · refine tt_iload dX6_wouldFall_26 rfl ?_
    refine tt_aload_n dX6_wouldFall_28 rfl ?_
    refine tt_iload_n dX6_wouldFall_29 rfl ?_
    refine tt_fVi (c_X6_holds hM _ _ _ _ _ _ _ (by omega)) dX6_wouldFall_30 vX6_57 rfl rfl hM.1 (by decide) rfl (by decide) ⟨rfl, rfl⟩ (Nat.zero_le _) (Nat.zero_le _) (Nat.le_of_ble_eq_true rfl) ?_
    refine tt_isub dX6_wouldFall_33 ?_
    refine tt_goto (tgt := 38) dX6_wouldFall_34 (by decide) ?_
    exact tt_ireturn dX6_wouldFall_38 rfl rfl (Nat.zero_le _) (Nat.zero_le _) ⟨congrArg (fun z => some (Value.int z)) (by first | exact (if_pos c_23).symm | exact (if_neg c_23).symm), rfl⟩
set_option maxRecDepth 100000 in
set_option maxHeartbeats 4000000 in
theorem c_X6_dearest {h : zhp} (hM : zMo h) (F s a t l p : Nat → Int32) (n : Nat) (hw : sWF s n) : MM iX6_dearest [.ref 181] (zm h F s a t l p) (zfi (zlp (fun k x => if x = -6 ∨ s (34 + 10 * x.toNatClampNeg + 9) < s (34 + 10 * k + 9) then nI k else x) n 0 (-6)) (zm h F s a t l p)) := by
  refine MM_of (by decide +kernel) (Nat.le_of_ble_eq_true rfl) ?_
  refine tt_bipush (-6) dX6_dearest_0 rfl ?_
  refine tt_istore_n dX6_dearest_2 rfl (Nat.le_of_ble_eq_true rfl) rfl ?_
  refine tt_iconst (nI 0) dX6_dearest_3 rfl ?_
  refine tt_istore_n dX6_dearest_4 rfl (Nat.le_of_ble_eq_true rfl) rfl ?_
  refine tt_loop (fun k x => if x = -6 ∨ s (34 + 10 * x.toNatClampNeg + 9) < s (34 + 10 * k + 9) then nI k else x) n (fun _ x => x = -6 ∨ ∃ j0, j0 < 10 ∧ x = nI j0) (fun k x => [some (.ref 181), some (.int x), some (.int (nI k))]) (fun _ _ => zm h F s a t l p) (-6) (Or.inl rfl) (fun k x hk hx => by
      split
      · exact Or.inr ⟨k, by have := hw.1; omega, rfl⟩
      · exact hx) (fun hx => ?_) (fun k x hk hI ih => ?_)
  · have hn10 := hw.1
    refine tt_iload_n dX6_dearest_5 rfl ?_
    refine tt_aload_n dX6_dearest_6 rfl ?_
    refine tt_mA (b := 182) dX6_dearest_7 fX6_7 rfl hM hM.2.1 ?_
    refine tt_bipush (nI 33) dX6_dearest_10 rfl ?_
    refine tt_ld1 dX6_dearest_12 hM (by omega) ?_
    refine tt_eq hw.2.1 ?_
    refine tt_icmp_geN (tgt := 59) dX6_dearest_13 (by decide) (by omega) (by omega) (fun c_13 => ?_) (fun c_13 => ?_)
    · refine tt_iload_n dX6_dearest_59 rfl ?_
      exact tt_ireturn dX6_dearest_60 rfl rfl (Nat.zero_le _) (Nat.zero_le _) ⟨rfl, rfl⟩
    · exact absurd c_13 (by omega)
  · have hn10 := hw.1
    refine tt_iload_n dX6_dearest_5 rfl ?_
    refine tt_aload_n dX6_dearest_6 rfl ?_
    refine tt_mA (b := 182) dX6_dearest_7 fX6_7 rfl hM hM.2.1 ?_
    refine tt_bipush (nI 33) dX6_dearest_10 rfl ?_
    refine tt_ld1 dX6_dearest_12 hM (by omega) ?_
    refine tt_eq hw.2.1 ?_
    refine tt_icmp_geN (tgt := 59) dX6_dearest_13 (by decide) (by omega) (by omega) (fun c_13 => ?_) (fun c_13 => ?_)
    · exact absurd c_13 (by omega)
    · refine tt_iload_n dX6_dearest_16 rfl ?_
      refine tt_bipush (-6) dX6_dearest_17 rfl ?_
      refine tt_c2 (tgt := 52) (x := if x = -6 ∨ s (34 + 10 * x.toNatClampNeg + 9) < s (34 + 10 * k + 9) then nI k else x) ?_ (fun key_52 => ?_)
      · refine tt_istore_n dX6_dearest_52 rfl (Nat.le_of_ble_eq_true rfl) rfl ?_
        refine tt_iincN dX6_dearest_53 rfl rfl (Nat.le_of_ble_eq_true rfl) rfl ?_
        refine tt_goto (tgt := 5) dX6_dearest_56 (by decide) ?_
        exact ih
      · refine tt_icmp_eq (tgt := 47) dX6_dearest_19 (by decide) (fun c_19 => ?_) (fun c_19 => ?_)
        · refine tt_iload_n dX6_dearest_47 rfl ?_
          refine tt_goto (tgt := 52) dX6_dearest_48 (by decide) ?_
          exact key_52 _ (by first | exact (if_pos (Or.inl (by assumption))).symm | (rw [hq0]; exact (if_neg (fun q => q.elim (by assumption) (Int32.not_lt.mpr (by assumption)))).symm) | (rw [hq0]; exact (if_pos (Or.inr (Int32.not_le.mp (by assumption)))).symm))
        · obtain ⟨j0, hj0, rfl⟩ : ∃ j0, j0 < 10 ∧ x = nI j0 := by
            rcases hI with q | q
            · exact absurd q c_19
            · exact q
          have hq0 : (nI j0).toNatClampNeg = j0 := nI_clamp (by omega)
          refine tt_aload_n dX6_dearest_22 rfl ?_
          refine tt_mA (b := 182) dX6_dearest_23 fX6_7 rfl hM hM.2.1 ?_
          refine tt_iload_n dX6_dearest_26 rfl ?_
          refine tt_bipush (nI 9) dX6_dearest_27 rfl ?_
          refine tt_fSi (c_X6_of _ _ _) dX6_dearest_29 sX6_29 rfl rfl (by decide) ⟨rfl, rfl⟩ (Nat.zero_le _) (Nat.zero_le _) (Nat.le_of_ble_eq_true rfl) ?_
          refine tt_ld1 dX6_dearest_32 hM (by omega) ?_
          refine tt_aload_n dX6_dearest_33 rfl ?_
          refine tt_mA (b := 182) dX6_dearest_34 fX6_7 rfl hM hM.2.1 ?_
          refine tt_iload_n dX6_dearest_37 rfl ?_
          refine tt_bipush (nI 9) dX6_dearest_38 rfl ?_
          refine tt_fSi (c_X6_of _ _ _) dX6_dearest_40 sX6_29 rfl rfl (by decide) ⟨rfl, rfl⟩ (Nat.zero_le _) (Nat.zero_le _) (Nat.le_of_ble_eq_true rfl) ?_
          refine tt_ld1 dX6_dearest_43 hM (by omega) ?_
          refine tt_icmp_le (tgt := 51) dX6_dearest_44 (by decide) (fun c_44 => ?_) (fun c_44 => ?_)
          · refine tt_iload_n dX6_dearest_51 rfl ?_
            exact key_52 _ (by first | exact (if_pos (Or.inl (by assumption))).symm | (rw [hq0]; exact (if_neg (fun q => q.elim (by assumption) (Int32.not_lt.mpr (by assumption)))).symm) | (rw [hq0]; exact (if_pos (Or.inr (Int32.not_le.mp (by assumption)))).symm))
          · refine tt_iload_n dX6_dearest_47 rfl ?_
            refine tt_goto (tgt := 52) dX6_dearest_48 (by decide) ?_
            exact key_52 _ (by first | exact (if_pos (Or.inl (by assumption))).symm | (rw [hq0]; exact (if_neg (fun q => q.elim (by assumption) (Int32.not_lt.mpr (by assumption)))).symm) | (rw [hq0]; exact (if_pos (Or.inr (Int32.not_le.mp (by assumption)))).symm))
