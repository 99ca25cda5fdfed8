/-! the reference: the rows behind a change stand as they should; does -/
def nS (s : Nat → Int32) : Nat := (s 33).toNatClampNeg
theorem sWF_nS {s : Nat → Int32} {n : Nat} (h : sWF s n) : nS s = n := by
  show (s 33).toNatClampNeg = n
  rw [h.2.1]
  exact nI_clamp (by have := h.1; omega)
theorem zlp_updc {b : Nat} {v : Int32} : ∀ (r k : Nat) (x : Nat → Int32) (i : Nat), (i < b + k ∨ b + k + r ≤ i) → zlp (fun w x => upd x (b + w) v) r k x i = x i
  | 0, _, _, _, _ => rfl
  | r + 1, k, x, i, h => by
    show zlp (fun w x => upd x (b + w) v) r (k + 1) (upd x (b + k) v) i = x i
    rw [zlp_updc r (k + 1) _ i (by omega), pk_un (by omega)]
/-- a shift by d places down: what stands behind it -/
theorem zlp_shift {b d : Nat} (hd : 0 < d) : ∀ (r k : Nat) (x : Nat → Int32) (i : Nat), zlp (fun w x => upd x (b + w) (x (b + w + d))) r k x i = if b + k ≤ i ∧ i < b + k + r then x (i + d) else x i
  | 0, k, x, i => by
    rw [if_neg (by omega)]
    rfl
  | r + 1, k, x, i => by
    show zlp (fun w x => upd x (b + w) (x (b + w + d))) r (k + 1) (upd x (b + k) (x (b + k + d))) i = _
    rw [zlp_shift hd r (k + 1)]
    by_cases h1 : i = b + k
    · subst h1
      rw [if_neg (by omega), pk_us, if_pos (by omega)]
    · by_cases h2 : b + k ≤ i ∧ i < b + k + (r + 1)
      · rw [if_pos (by omega), if_pos h2, pk_un (by omega)]
      · rw [if_neg (by omega), if_neg h2, pk_un h1]
theorem sTi_ne {s : Nat → Int32} {n c k : Nat} (h1 : k ≠ 9) (h2 : k ≠ 34 + 10 * n + 9) (h3 : k ≠ 15 + 3 * c) (h4 : k ≠ 15 + 3 * c + 1) (h5 : k ≠ 34 + 10 * n + 3) : sTi s n c k = s k := by
  unfold sTi
  rw [pk_un h5, pk_un h4, sCh_ne h2 h3, pk_un h1]
theorem sWF.of {s s' : Nat → Int32} {n : Nat} (h : sWF s n) (h1 : s' 33 = s 33) (h2 : ∀ j, j < n → s' (34 + 10 * j + 0) = s (34 + 10 * j + 0)) : sWF s' n := by
  refine ⟨h.1, h1.trans h.2.1, fun j hj => ?_⟩
  obtain ⟨c, g1, g2⟩ := h.2.2 j hj
  exact ⟨c, g1, (h2 j hj).trans g2⟩
theorem sSw_WF {s : Nat → Int32} {n : Nat} {v : Int32} (h : sWF s n) : sWF (sSw s v).2 n := by
  unfold sSw
  by_cases q : nI 0 ≤ v ∧ v ≤ s 33 - nI 1
  · rw [if_pos q]
    by_cases q2 : sTl s = 0
    · rw [if_pos q2]; exact h
    · rw [if_neg q2]
      obtain ⟨j, hj, rfl⟩ := zskip h.1 h.2.1 q
      have hn := h.1
      obtain ⟨c, hc, hcu⟩ := h.2.2 j hj
      show sWF (sTi s (nI j).toNatClampNeg (cuN s (nI j).toNatClampNeg)) n
      rw [nI_clamp (by omega), cuN_eq hc hcu]
      exact h.of (sTi_ne (by omega) (by omega) (by omega) (by omega) (by omega)) (fun i hi => sTi_ne (by omega) (by omega) (by omega) (by omega) (by omega))
  · rw [if_neg q]; exact h
theorem sOi_WF {s : Nat → Int32} {n : Nat} {v : Int32} (h : sWF s n) : sWF (sOi s v).2 n := by
  unfold sOi
  by_cases q : nI 0 ≤ v ∧ v ≤ s 33 - nI 1
  · rw [if_pos q]
    obtain ⟨j, hj, rfl⟩ := zskip h.1 h.2.1 q
    have hn := h.1
    show sWF (upd s (34 + 10 * (nI j).toNatClampNeg + 5) (s 6)) n
    rw [nI_clamp (by omega)]
    exact h.of (pk_un (by omega)) (fun i hi => pk_un (by omega))
  · rw [if_neg q]; exact h
theorem sGro_WF {s : Nat → Int32} {n : Nat} {v w : Int32} (h : sWF s n) : sWF (sGro s v w).2 n := by
  unfold sGro
  by_cases q : nI 0 ≤ v ∧ v ≤ s 33 - nI 1
  · rw [if_pos q]
    by_cases q2 : nI 0 ≤ w ∧ w ≤ nI 30
    · rw [if_pos q2]
      obtain ⟨j, hj, rfl⟩ := zskip h.1 h.2.1 q
      have hn := h.1
      show sWF (upd s (34 + 10 * (nI j).toNatClampNeg + 4) w) n
      rw [nI_clamp (by omega)]
      exact h.of (pk_un (by omega)) (fun i hi => pk_un (by omega))
    · rw [if_neg q2]; exact h
  · rw [if_neg q]; exact h
theorem sSet_WF {s : Nat → Int32} {n : Nat} {v w : Int32} (h : sWF s n) : sWF (sSet s v w).2 n := by
  unfold sSet
  by_cases q : nI 0 ≤ v ∧ v ≤ nI 7
  · rw [if_pos q]
    by_cases q2 : (if v = nI 6 then nI 1 else nI 0) ≤ w ∧ w ≤ sMost v
    · rw [if_pos q2]
      obtain ⟨j, hj, rfl⟩ := zrng (by omega) q
      show sWF (upd s (nI j).toNatClampNeg w) n
      rw [nI_clamp (by omega)]
      exact h.of (pk_un (by omega)) (fun i hi => pk_un (by omega))
    · rw [if_neg q2]; exact h
  · rw [if_neg q]; exact h
theorem sPlaces_WF {s : Nat → Int32} {n : Nat} {v w : Int32} (h : sWF s n) : sWF (sPlaces s v w).2 n := by
  unfold sPlaces
  by_cases q : nI 0 ≤ v ∧ v ≤ nI 4
  · rw [if_pos q]
    by_cases q2 : nI 1 ≤ w ∧ w ≤ nI 4
    · rw [if_pos q2]
      obtain ⟨j, hj, rfl⟩ := zrng (by omega) q
      show sWF (upd s (10 + (nI j).toNatClampNeg) w) n
      rw [nI_clamp (by omega)]
      exact h.of (pk_un (by omega)) (fun i hi => pk_un (by omega))
    · rw [if_neg q2]; exact h
  · rw [if_neg q]; exact h
theorem sPe_WF {s : Nat → Int32} {n : Nat} {v d : Int32} (h : sWF s n) : sWF (sPe s v d).2 n := by
  unfold sPe
  by_cases q : nI 0 ≤ v ∧ v ≤ s 33 - nI 1
  · rw [if_pos q]
    by_cases q2 : nI 1 ≤ d ∧ d ≤ nI 99
    · rw [if_pos q2]
      obtain ⟨j, hj, rfl⟩ := zskip h.1 h.2.1 q
      have hn := h.1
      obtain ⟨c, hc, hcu⟩ := h.2.2 j hj
      rw [nI_clamp (show j < 2 ^ 31 by omega), cuN_eq hc hcu]
      by_cases q3 : s (34 + 10 * j + 2) < nI 5
      · rw [if_pos q3]
        exact h.of ((sCh_ne (by omega) (by omega)).trans (pk_un (by omega))) (fun i hi => (sCh_ne (by omega) (by omega)).trans (pk_un (by omega)))
      · rw [if_neg q3]; exact h
    · rw [if_neg q2]; exact h
  · rw [if_neg q]; exact h
theorem sPas_WF {s : Nat → Int32} {n : Nat} {v : Int32} (h : sWF s n) : sWF (sPas s n v).2 n := by
  unfold sPas
  split
  · split
    · exact sPs_WF h
    · exact h
  · exact h
theorem sPu_in {s : Nat → Int32} {n c : Nat} {z st g : Int32} (hc : c < 6) {k : Nat} (h1 : k ≠ 33) (h2 : k ≠ 9) (h3 : k < 34 + 10 * n ∨ 34 + 10 * n + 10 ≤ k) (h4 : k ≠ 15 + 3 * c) : sPu s n c z st g k = s k := by
  unfold sPu
  rw [sCh_ne (by omega) h4, pk_un h2, pk_un (by omega), pk_un (by omega), pk_un (by omega), pk_un (by omega), pk_un (by omega), pk_un (by omega), pk_un (by omega), zlp_updc (b := 34 + 10 * n) 10 0 _ k (by omega), pk_un h1]
theorem sPu_33 {s : Nat → Int32} {n c : Nat} {z st g : Int32} (hc : c < 6) : sPu s n c z st g 33 = s 33 + nI 1 := by
  unfold sPu
  rw [sCh_ne (by omega) (by omega), pk_un (by omega), pk_un (by omega), pk_un (by omega), pk_un (by omega), pk_un (by omega), pk_un (by omega), pk_un (by omega), pk_un (by omega), zlp_updc (b := 34 + 10 * n) 10 0 _ 33 (by omega), pk_us]
theorem sPu_cu {s : Nat → Int32} {n c : Nat} {z st g : Int32} (hc : c < 6) : sPu s n c z st g (34 + 10 * n + 0) = nI c := by
  unfold sPu
  rw [sCh_ne (by omega) (by omega), pk_un (by omega), pk_un (by omega), pk_un (by omega), pk_un (by omega), pk_un (by omega), pk_un (by omega), pk_un (by omega), pk_us]
/-- one skip more, one less, or the same -/
theorem sPuts_WF {s : Nat → Int32} {n : Nat} {cu z st g : Int32} (h : sWF s n) : sWF (sPuts s n cu z st g).2 n ∨ (n < 10 ∧ sWF (sPuts s n cu z st g).2 (n + 1)) := by
  unfold sPuts
  by_cases q : (nI 0 ≤ cu ∧ cu ≤ nI 5) ∧ (nI 0 ≤ st ∧ st ≤ nI 5)
  · rw [if_pos q]
    split
    · split
      · split
        · exact Or.inl h
        · next h4 =>
          obtain ⟨c, hc, rfl⟩ := zrng (by omega) q.1
          have hn := h.1
          have hn9 : n < 10 := by
            rcases Nat.lt_or_ge n 10 with z | z
            · exact z
            · exact absurd (by rw [h.2.1, show n = 10 by omega]) h4
          refine Or.inr ⟨hn9, ?_⟩
          show sWF (sPu s n (nI c).toNatClampNeg z st g) (n + 1)
          rw [nI_clamp (by omega)]
          refine ⟨by omega, by rw [sPu_33 (by omega), h.2.1, nI_add], fun j hj => ?_⟩
          by_cases hjn : j = n
          · subst hjn
            exact ⟨c, by omega, sPu_cu (by omega)⟩
          · obtain ⟨d, g1, g2⟩ := h.2.2 j (by omega)
            exact ⟨d, g1, by rw [sPu_in (by omega) (by omega) (by omega) (by omega) (by omega)]; exact g2⟩
      · exact Or.inl h
    · exact Or.inl h
  · rw [if_neg q]; exact Or.inl h
theorem sTk_WF {s : Nat → Int32} {n : Nat} {v : Int32} (h : sWF s n) : sWF (sTk s v).2 n ∨ (0 < n ∧ sWF (sTk s v).2 (n - 1)) := by
  unfold sTk
  by_cases q : (sSw s v).1 < 0
  · rw [if_pos q]; exact Or.inl (sSw_WF h)
  · rw [if_neg q]
    obtain ⟨j, hj, rfl⟩ := zskip h.1 h.2.1 (sSw_nn h q)
    have hn := h.1
    have hW := sSw_WF (v := nI j) h
    refine Or.inr ⟨by omega, ?_⟩
    generalize (sSw s (nI j)).2 = s1 at hW
    show sWF (upd (zlp (fun k x => upd x (34 + 10 * (nI j).toNatClampNeg + 0 + k) (x (34 + 10 * (nI j).toNatClampNeg + 0 + k + 10))) (90 - 10 * (nI j).toNatClampNeg) 0 s1) 33 ((zlp (fun k x => upd x (34 + 10 * (nI j).toNatClampNeg + 0 + k) (x (34 + 10 * (nI j).toNatClampNeg + 0 + k + 10))) (90 - 10 * (nI j).toNatClampNeg) 0 s1) 33 - nI 1)) (n - 1)
    rw [nI_clamp (show j < 2 ^ 31 by omega)]
    have hsh := fun i => zlp_shift (b := 34 + 10 * j + 0) (d := 10) (by omega) (90 - 10 * j) 0 s1 i
    refine ⟨by omega, ?_, fun i hi => ?_⟩
    · rw [pk_us, hsh, if_neg (by omega), hW.2.1, pk_sub (by omega)]
    · rw [pk_un (by omega), hsh]
      by_cases hij : i < j
      · rw [if_neg (by omega)]
        exact hW.2.2 i (by omega)
      · rw [if_pos (by omega), show 34 + 10 * i + 0 + 10 = 34 + 10 * (i + 1) + 0 by omega]
        exact hW.2.2 (i + 1) (by omega)
/-- what an order does to the row -/
def sEx (s : Nat → Int32) (o : Int32 × (Int32 × Int32 × Int32 × Int32) × Nat × Bool) : Int32 × (Nat → Int32) :=
  if o.1 = nI 43 then sPuts s (nS s) o.2.1.1 o.2.1.2.1 o.2.1.2.2.1 o.2.1.2.2.2 else if o.1 = nI 119 then sSw s o.2.1.1 else if o.1 = nI 45 then sTk s o.2.1.1 else if o.1 = nI 112 then sPe s o.2.1.1 o.2.1.2.2.2 else if o.1 = nI 111 then sOi s o.2.1.1 else sPas s (nS s) o.2.1.2.2.2
theorem sWF_self {s : Nat → Int32} {n : Nat} (h : sWF s n) : sWF s (nS s) := by rw [sWF_nS h]; exact h
theorem sEx_WF {s : Nat → Int32} {n : Nat} {o : Int32 × (Int32 × Int32 × Int32 × Int32) × Nat × Bool} (h : sWF s n) : sWF (sEx s o).2 (nS (sEx s o).2) := by
  unfold sEx
  rw [sWF_nS h]
  split
  · rcases sPuts_WF (cu := o.2.1.1) (z := o.2.1.2.1) (st := o.2.1.2.2.1) (g := o.2.1.2.2.2) h with q | ⟨-, q⟩ <;> exact sWF_self q
  · split
    · exact sWF_self (sSw_WF h)
    · split
      · rcases sTk_WF (v := o.2.1.1) h with q | ⟨-, q⟩ <;> exact sWF_self q
      · split
        · exact sWF_self (sPe_WF h)
        · split
          · exact sWF_self (sOi_WF h)
          · exact sWF_self (sPas_WF h)
set_option maxRecDepth 100000 in
set_option maxHeartbeats 4000000 in
theorem c_X6_does_43 {h : zhp} (hM : zMo h) (F s a t l p : Nat → Int32) (n : Nat) (hw : sWF s n) (hs : F 10 = nI 43) : MM iX6_does [.ref 181] (zm h F s a t l p) (zfi (sPuts s n (F 11) (F 12) (F 13) (F 14)).1 (zm h F (sPuts s n (F 11) (F 12) (F 13) (F 14)).2 a t l p)) := by
  refine MM_of (by decide +kernel) (Nat.le_of_ble_eq_true rfl) ?_
  refine tt_aload_n dX6_does_0 rfl ?_
  refine tt_mI dX6_does_1 fX6_160 rfl hM ?_
  refine tt_eq (hs) ?_
  refine tt_lookup (off := 52) (tgt := 56) dX6_does_4 (by decide) (by decide) (by decide) ?_
  refine tt_aload_n dX6_does_56 rfl ?_
  refine tt_aload_n dX6_does_57 rfl ?_
  refine tt_mI dX6_does_58 fX6_163 rfl hM ?_
  refine tt_aload_n dX6_does_61 rfl ?_
  refine tt_mI dX6_does_62 fX6_166 rfl hM ?_
  refine tt_aload_n dX6_does_65 rfl ?_
  refine tt_mI dX6_does_66 fX6_169 rfl hM ?_
  refine tt_aload_n dX6_does_69 rfl ?_
  refine tt_mI dX6_does_70 fX6_175 rfl hM ?_
  refine tt_fVi (c_X6_puts hM _ _ _ _ _ _ n hw _ _ _ _) dX6_does_73 vX6_108 rfl rfl hM.1 (by decide) rfl (by decide) ⟨rfl, rfl⟩ (Nat.zero_le _) (Nat.zero_le _) (Nat.le_of_ble_eq_true rfl) ?_
  exact tt_ireturn dX6_does_76 rfl rfl (Nat.zero_le _) (Nat.zero_le _) ⟨rfl, rfl⟩
set_option maxRecDepth 100000 in
set_option maxHeartbeats 4000000 in
theorem c_X6_does_119 {h : zhp} (hM : zMo h) (F s a t l p : Nat → Int32) (n : Nat) (hw : sWF s n) (hs : F 10 = nI 119) : MM iX6_does [.ref 181] (zm h F s a t l p) (zfi (sSw s (F 11)).1 (zm h F (sSw s (F 11)).2 a t l p)) := by
  refine MM_of (by decide +kernel) (Nat.le_of_ble_eq_true rfl) ?_
  refine tt_aload_n dX6_does_0 rfl ?_
  refine tt_mI dX6_does_1 fX6_160 rfl hM ?_
  refine tt_eq (hs) ?_
  refine tt_lookup (off := 73) (tgt := 77) dX6_does_4 (by decide) (by decide) (by decide) ?_
  refine tt_aload_n dX6_does_77 rfl ?_
  refine tt_aload_n dX6_does_78 rfl ?_
  refine tt_mI dX6_does_79 fX6_163 rfl hM ?_
  refine tt_fVi (c_X6_swaps hM _ _ _ _ _ _ n hw _) dX6_does_82 vX6_90 rfl rfl hM.1 (by decide) rfl (by decide) ⟨rfl, rfl⟩ (Nat.zero_le _) (Nat.zero_le _) (Nat.le_of_ble_eq_true rfl) ?_
  exact tt_ireturn dX6_does_85 rfl rfl (Nat.zero_le _) (Nat.zero_le _) ⟨rfl, rfl⟩
set_option maxRecDepth 100000 in
set_option maxHeartbeats 4000000 in
theorem c_X6_does_45 {h : zhp} (hM : zMo h) (F s a t l p : Nat → Int32) (n : Nat) (hw : sWF s n) (hs : F 10 = nI 45) : MM iX6_does [.ref 181] (zm h F s a t l p) (zfi (sTk s (F 11)).1 (zm h F (sTk s (F 11)).2 a t l p)) := by
  refine MM_of (by decide +kernel) (Nat.le_of_ble_eq_true rfl) ?_
  refine tt_aload_n dX6_does_0 rfl ?_
  refine tt_mI dX6_does_1 fX6_160 rfl hM ?_
  refine tt_eq (hs) ?_
  refine tt_lookup (off := 82) (tgt := 86) dX6_does_4 (by decide) (by decide) (by decide) ?_
  refine tt_aload_n dX6_does_86 rfl ?_
  refine tt_aload_n dX6_does_87 rfl ?_
  refine tt_mI dX6_does_88 fX6_163 rfl hM ?_
  refine tt_fVi (c_X6_takes hM _ _ _ _ _ _ n hw _) dX6_does_91 vX6_112 rfl rfl hM.1 (by decide) rfl (by decide) ⟨rfl, rfl⟩ (Nat.zero_le _) (Nat.zero_le _) (Nat.le_of_ble_eq_true rfl) ?_
  exact tt_ireturn dX6_does_94 rfl rfl (Nat.zero_le _) (Nat.zero_le _) ⟨rfl, rfl⟩
set_option maxRecDepth 100000 in
set_option maxHeartbeats 4000000 in
theorem c_X6_does_112 {h : zhp} (hM : zMo h) (F s a t l p : Nat → Int32) (n : Nat) (hw : sWF s n) (hs : F 10 = nI 112) : MM iX6_does [.ref 181] (zm h F s a t l p) (zfi (sPe s (F 11) (F 14)).1 (zm h F (sPe s (F 11) (F 14)).2 a t l p)) := by
  refine MM_of (by decide +kernel) (Nat.le_of_ble_eq_true rfl) ?_
  refine tt_aload_n dX6_does_0 rfl ?_
  refine tt_mI dX6_does_1 fX6_160 rfl hM ?_
  refine tt_eq (hs) ?_
  refine tt_lookup (off := 91) (tgt := 95) dX6_does_4 (by decide) (by decide) (by decide) ?_
  refine tt_aload_n dX6_does_95 rfl ?_
  refine tt_aload_n dX6_does_96 rfl ?_
  refine tt_mI dX6_does_97 fX6_163 rfl hM ?_
  refine tt_aload_n dX6_does_100 rfl ?_
  refine tt_mI dX6_does_101 fX6_175 rfl hM ?_
  refine tt_fVi (c_X6_permits hM _ _ _ _ _ _ n hw _ _) dX6_does_104 vX6_115 rfl rfl hM.1 (by decide) rfl (by decide) ⟨rfl, rfl⟩ (Nat.zero_le _) (Nat.zero_le _) (Nat.le_of_ble_eq_true rfl) ?_
  exact tt_ireturn dX6_does_107 rfl rfl (Nat.zero_le _) (Nat.zero_le _) ⟨rfl, rfl⟩
set_option maxRecDepth 100000 in
set_option maxHeartbeats 4000000 in
theorem c_X6_does_111 {h : zhp} (hM : zMo h) (F s a t l p : Nat → Int32) (n : Nat) (hw : sWF s n) (hs : F 10 = nI 111) : MM iX6_does [.ref 181] (zm h F s a t l p) (zfi (sOi s (F 11)).1 (zm h F (sOi s (F 11)).2 a t l p)) := by
  refine MM_of (by decide +kernel) (Nat.le_of_ble_eq_true rfl) ?_
  refine tt_aload_n dX6_does_0 rfl ?_
  refine tt_mI dX6_does_1 fX6_160 rfl hM ?_
  refine tt_eq (hs) ?_
  refine tt_lookup (off := 104) (tgt := 108) dX6_does_4 (by decide) (by decide) (by decide) ?_
  refine tt_aload_n dX6_does_108 rfl ?_
  refine tt_aload_n dX6_does_109 rfl ?_
  refine tt_mI dX6_does_110 fX6_163 rfl hM ?_
  refine tt_fVi (c_X6_oils hM _ _ _ _ _ _ n hw _) dX6_does_113 vX6_118 rfl rfl hM.1 (by decide) rfl (by decide) ⟨rfl, rfl⟩ (Nat.zero_le _) (Nat.zero_le _) (Nat.le_of_ble_eq_true rfl) ?_
  exact tt_ireturn dX6_does_116 rfl rfl (Nat.zero_le _) (Nat.zero_le _) ⟨rfl, rfl⟩
set_option maxRecDepth 100000 in
set_option maxHeartbeats 4000000 in
theorem c_X6_does_46 {h : zhp} (hM : zMo h) (F s a t l p : Nat → Int32) (n : Nat) (hw : sWF s n) (hs : F 10 = nI 46) : MM iX6_does [.ref 181] (zm h F s a t l p) (zfi (sPas s n (F 14)).1 (zm h F (sPas s n (F 14)).2 a t l p)) := by
  refine MM_of (by decide +kernel) (Nat.le_of_ble_eq_true rfl) ?_
  refine tt_aload_n dX6_does_0 rfl ?_
  refine tt_mI dX6_does_1 fX6_160 rfl hM ?_
  refine tt_eq (hs) ?_
  refine tt_lookup (off := 113) (tgt := 117) dX6_does_4 (by decide) (by decide) (by decide) ?_
  refine tt_aload_n dX6_does_117 rfl ?_
  refine tt_aload_n dX6_does_118 rfl ?_
  refine tt_mI dX6_does_119 fX6_175 rfl hM ?_
  refine tt_fVi (c_X6_passes hM _ _ _ _ _ _ n hw _) dX6_does_122 vX6_121 rfl rfl hM.1 (by decide) rfl (by decide) ⟨rfl, rfl⟩ (Nat.zero_le _) (Nat.zero_le _) (Nat.le_of_ble_eq_true rfl) ?_
  exact tt_ireturn dX6_does_125 rfl rfl (Nat.zero_le _) (Nat.zero_le _) ⟨rfl, rfl⟩
theorem rdO_sg {p : Nat → Int32} {n k : Nat} (h : (rdO p n k).2.2.2 = false) : (rdO p n k).1 = nI 43 ∨ (rdO p n k).1 = nI 119 ∨ (rdO p n k).1 = nI 45 ∨ (rdO p n k).1 = nI 112 ∨ (rdO p n k).1 = nI 111 ∨ (rdO p n k).1 = nI 46 := by
  unfold rdO at h ⊢
  split at h
  · next h1 =>
    rw [if_pos h1]
    split at h
    · next h2 => rw [if_pos h2]; exact Or.inl rfl
    · next h2 =>
      rw [if_neg h2]
      split at h
      · next h3 => rw [if_pos h3]; exact Or.inr (Or.inl rfl)
      · next h3 =>
        rw [if_neg h3]
        split at h
        · next h4 => rw [if_pos h4]; exact Or.inr (Or.inr (Or.inl rfl))
        · next h4 =>
          rw [if_neg h4]
          split at h
          · next h5 => rw [if_pos h5]; exact Or.inr (Or.inr (Or.inr (Or.inl rfl)))
          · next h5 =>
            rw [if_neg h5]
            split at h
            · next h6 => rw [if_pos h6]; exact Or.inr (Or.inr (Or.inr (Or.inr (Or.inl rfl))))
            · next h6 =>
              rw [if_neg h6]
              split at h
              · next h7 => rw [if_pos h7]; exact Or.inr (Or.inr (Or.inr (Or.inr (Or.inr rfl))))
              · cases h
  · cases h
theorem c_X6_does {h : zhp} (hM : zMo h) (F0 F s a t l p : Nat → Int32) (n : Nat) (hw : sWF s n) (tn k : Nat) (hz : zoF F0 F (rdO p tn k)) (hf : (rdO p tn k).2.2.2 = false) : MM iX6_does [.ref 181] (zm h F s a t l p) (zfi (sEx s (rdO p tn k)).1 (zm h F (sEx s (rdO p tn k)).2 a t l p)) := by
  have hsg := rdO_sg hf
  obtain ⟨-, -, -, -, -, hz⟩ := hz
  obtain ⟨z1, z2, z3, z4⟩ := hz hf
  generalize rdO p tn k = o at hsg z1 z2 z3 z4 ⊢
  have nn := sWF_nS hw
  unfold sEx
  rw [nn]
  rcases hsg with q | q | q | q | q | q
  · have e1 := z2 (by rw [q]; decide)
    obtain ⟨e2, e3⟩ := z3 q
    have e4 := z4 (Or.inl q)
    rw [if_pos q, ← e1, ← e2, ← e3, ← e4]
    exact c_X6_does_43 hM F s a t l p n hw (z1.trans q)
  · have e1 := z2 (by rw [q]; decide)
    rw [if_neg (by rw [q]; decide), if_pos q, ← e1]
    exact c_X6_does_119 hM F s a t l p n hw (z1.trans q)
  · have e1 := z2 (by rw [q]; decide)
    rw [if_neg (by rw [q]; decide), if_neg (by rw [q]; decide), if_pos q, ← e1]
    exact c_X6_does_45 hM F s a t l p n hw (z1.trans q)
  · have e1 := z2 (by rw [q]; decide)
    have e4 := z4 (Or.inr (Or.inl q))
    rw [if_neg (by rw [q]; decide), if_neg (by rw [q]; decide), if_neg (by rw [q]; decide), if_pos q, ← e1, ← e4]
    exact c_X6_does_112 hM F s a t l p n hw (z1.trans q)
  · have e1 := z2 (by rw [q]; decide)
    rw [if_neg (by rw [q]; decide), if_neg (by rw [q]; decide), if_neg (by rw [q]; decide), if_neg (by rw [q]; decide), if_pos q, ← e1]
    exact c_X6_does_111 hM F s a t l p n hw (z1.trans q)
  · have e4 := z4 (Or.inr (Or.inr q))
    rw [if_neg (by rw [q]; decide), if_neg (by rw [q]; decide), if_neg (by rw [q]; decide), if_neg (by rw [q]; decide), if_neg (by rw [q]; decide), ← e4]
    exact c_X6_does_46 hM F s a t l p n hw (z1.trans q)
