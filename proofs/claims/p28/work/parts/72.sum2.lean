/-! the sums are kept by the changes -/
theorem zJ_up {s : Nat → Int32} {n B k : Nat} {w : Int32} (h : zJ s n B) (hk : k < 15) (h8 : k ≠ 8) (a6 : k < 6 → ∃ v, v ≤ 90 ∧ w = nI v) (a10 : 10 ≤ k → ∃ v, v ≤ 4 ∧ w = nI v) : zJ (upd s k w) n B := by
  obtain ⟨h1, h2, h3, h4, h5, h6, h7, h9⟩ := h
  refine ⟨fun i hi => ?_, fun i hi => ?_, fun c hc => by rw [pk_un (by omega), pk_un (by omega), pk_un (by omega)]; exact h3 c hc, by rw [pk_un (by omega)]; exact h4, fun j hj => by rw [pk_un (show (8 : Nat) ≠ k from fun z => h8 z.symm), pk_un (show 34 + 10 * j + 7 ≠ k by omega), pk_un (show 34 + 10 * j + 8 ≠ k by omega), pk_un (show 34 + 10 * j + 9 ≠ k by omega)]; exact h5 j hj, ?_, ?_, fun st hst => ?_⟩
  · by_cases q : i = k
    · subst q; rw [pk_us]; exact a6 hi
    · rw [pk_un q]; exact h1 i hi
  · by_cases q : 10 + i = k
    · rw [q, pk_us]; exact a10 (by omega)
    · rw [pk_un q]; exact h2 i hi
  · rw [qS_cong (g := fun j => tn (s (34 + 10 * j + 9))) (fun i hi => by rw [pk_un (by omega)]), qS_cong (f := fun c => tn (upd s k w (15 + 3 * c + 0))) (g := fun c => tn (s (15 + 3 * c + 0))) (fun i hi => by rw [pk_un (by omega)])]
    exact h6
  · rw [qS_cong (g := fun j => tn (s (34 + 10 * j + 7))) (fun i hi => by rw [pk_un (by omega)]), pk_un (by omega)]
    exact h7
  · rw [qS_cong (g := fun j => if s (34 + 10 * j + 2) = nI st then 1 else 0) (fun i hi => by rw [pk_un (by omega)])]
    exact h9 st hst
theorem zMost : ∀ j, j < 8 → sMost (nI j) ≤ nI 90 ∧ nI 0 ≤ (if nI j = nI 6 then nI 1 else nI 0) := by decide
theorem sSet_J {s : Nat → Int32} {n B : Nat} {v w : Int32} (h : zJ s n B) : zJ (sSet s v w).2 n B := by
  unfold sSet
  by_cases q : nI 0 ≤ v ∧ v ≤ nI 7
  · rw [if_pos q]
    obtain ⟨j, hj, rfl⟩ := zrng (by omega) q
    rw [nI_clamp (by omega)]
    by_cases q2 : (if nI j = nI 6 then nI 1 else nI 0) ≤ w ∧ w ≤ sMost (nI j)
    · rw [if_pos q2]
      have m := zMost j (by omega)
      exact zJ_up h (by omega) (by omega) (fun _ => zrng (by omega) ⟨Int32.le_trans m.2 q2.1, Int32.le_trans q2.2 m.1⟩) (fun z => absurd z (by omega))
    · rw [if_neg q2]; exact h
  · rw [if_neg q]; exact h
theorem sPlaces_J {s : Nat → Int32} {n B : Nat} {v w : Int32} (h : zJ s n B) : zJ (sPlaces s v w).2 n B := by
  unfold sPlaces
  by_cases q : nI 0 ≤ v ∧ v ≤ nI 4
  · rw [if_pos q]
    obtain ⟨j, hj, rfl⟩ := zrng (by omega) q
    rw [nI_clamp (by omega)]
    by_cases q2 : nI 1 ≤ w ∧ w ≤ nI 4
    · rw [if_pos q2]
      exact zJ_up h (by omega) (by omega) (fun z => absurd z (by omega)) (fun _ => zrng (by omega) ⟨Int32.le_trans (by decide) q2.1, q2.2⟩)
    · rw [if_neg q2]; exact h
  · rw [if_neg q]; exact h
theorem sOi_J {s : Nat → Int32} {n B : Nat} {v : Int32} (hw : sWF s n) (h : zJ s n B) : zJ (sOi s v).2 n B := by
  unfold sOi
  by_cases q : nI 0 ≤ v ∧ v ≤ s 33 - nI 1
  · rw [if_pos q]
    obtain ⟨j, hj, rfl⟩ := zskip hw.1 hw.2.1 q
    have hn := hw.1
    rw [nI_clamp (by omega)]
    exact zJ_fr h (fun k hk => pk_un (by omega)) (fun i hi f hf => pk_un (by omega))
  · rw [if_neg q]; exact h
theorem sGro_J {s : Nat → Int32} {n B : Nat} {v w : Int32} (hw : sWF s n) (h : zJ s n B) : zJ (sGro s v w).2 n B := by
  unfold sGro
  by_cases q : nI 0 ≤ v ∧ v ≤ s 33 - nI 1
  · rw [if_pos q]
    obtain ⟨j, hj, rfl⟩ := zskip hw.1 hw.2.1 q
    have hn := hw.1
    rw [nI_clamp (by omega)]
    by_cases q2 : nI 0 ≤ w ∧ w ≤ nI 30
    · rw [if_pos q2]
      exact zJ_fr h (fun k hk => pk_un (by omega)) (fun i hi f hf => pk_un (by omega))
    · rw [if_neg q2]; exact h
  · rw [if_neg q]; exact h
theorem sPe_J {s : Nat → Int32} {n B : Nat} {v d : Int32} (hw : sWF s n) (h : zJ s n B) (hB : B + 9000 ≤ 2 ^ 28) : zJ (sPe s v d).2 n (B + 9000) := by
  have h0 := zJ_mono (show B ≤ B + 9000 by omega) h
  unfold sPe
  by_cases q : nI 0 ≤ v ∧ v ≤ s 33 - nI 1
  · rw [if_pos q]
    obtain ⟨j, hj, rfl⟩ := zskip hw.1 hw.2.1 q
    have hn := hw.1
    obtain ⟨c, hc, hcu⟩ := hw.2.2 j hj
    rw [nI_clamp (by omega), cuN_eq hc hcu]
    by_cases q1 : nI 1 ≤ d ∧ d ≤ nI 99
    · rw [if_pos q1]
      by_cases q2 : s (34 + 10 * j + 2) < nI 5
      · rw [if_pos q2]
        dsimp only
        obtain ⟨x, hx, rfl⟩ := zrng (x := d) (b := 99) (by omega) ⟨Int32.le_trans (by decide) q1.1, q1.2⟩
        obtain ⟨a, ha, ea⟩ := h.1 1 (by omega)
        have hm : a * x ≤ 90 * 99 := Nat.mul_le_mul ha hx
        rw [pk_un (show (1 : Nat) ≠ 34 + 10 * j + 6 by omega), ea, pk_mul]
        exact zJ_mono (by omega) (zJ_ch (B := B) (X := a * x) (zJ_fr h (fun k hk => pk_un (by omega)) (fun i hi f hf => pk_un (by omega))) hj hc (by omega))
      · rw [if_neg q2]; exact h0
    · rw [if_neg q1]; exact h0
  · rw [if_neg q]; exact h0
theorem sTi_J {s : Nat → Int32} {n B B0 j c : Nat} (hI : zIv s n B0) (h : zJ s n B) (hj : j < n) (hc : c < 6) (hB : B + 9000 ≤ 2 ^ 28) : zJ (sTi s j c) n (B + 9000) := by
  have hn := hI.1.1
  obtain ⟨z, st, g, l, v, a1, a2, a3, a4, a5, b1, b2, b3, b4, b5, b6⟩ := hI.2.2.2.2.2.2 j hj
  obtain ⟨x5, hx5, e5⟩ := h.1 5 (by omega)
  obtain ⟨x4, hx4, e4⟩ := h.1 4 (by omega)
  have hm : x4 * l ≤ 90 * 80 := Nat.mul_le_mul hx4 (by omega)
  unfold sTi
  dsimp only
  rw [pk_un (show (5 : Nat) ≠ 9 by omega), pk_un (show (4 : Nat) ≠ 9 by omega), b4, e5, e4, pk_mul, nI_add]
  have h1 : zJ (upd s 9 (s 9 + nI 1)) n B := zJ_fr h (fun k hk => pk_un (by omega)) (fun i hi f hf => pk_un (by omega))
  have h2 := zJ_ch (X := x5 + x4 * l) h1 hj hc (by omega)
  have h3 := zJ_tp (X := l) h2 hc
  exact zJ_mono (by omega) (zJ_fr h3 (fun k hk => pk_un (by omega)) (fun i hi f hf => pk_un (by omega)))
theorem sSw_J {s : Nat → Int32} {n B B0 : Nat} {v : Int32} (hI : zIv s n B0) (h : zJ s n B) (hB : B + 9000 ≤ 2 ^ 28) : zJ (sSw s v).2 n (B + 9000) := by
  have h0 := zJ_mono (show B ≤ B + 9000 by omega) h
  have hw := hI.1
  unfold sSw
  by_cases q : nI 0 ≤ v ∧ v ≤ s 33 - nI 1
  · rw [if_pos q]
    by_cases q2 : sTl s = 0
    · rw [if_pos q2]; exact h0
    · rw [if_neg q2]
      obtain ⟨j, hj, rfl⟩ := zskip hw.1 hw.2.1 q
      have hn := hw.1
      obtain ⟨c, hc, hcu⟩ := hw.2.2 j hj
      rw [nI_clamp (by omega), cuN_eq hc hcu]
      exact sTi_J hI h hj hc hB
  · rw [if_neg q]; exact h0
theorem sTk_J {s : Nat → Int32} {n B B0 : Nat} {v : Int32} (hI : zIv s n B0) (h : zJ s n B) (hB : B + 9000 ≤ 2 ^ 28) : zJ (sTk s v).2 (nS (sTk s v).2) (B + 9000) := by
  have hw := hI.1
  have hn := hw.1
  have hJ := sSw_J (v := v) hI h hB
  by_cases q : (sSw s v).1 < 0
  · have e : (sTk s v).2 = (sSw s v).2 := by
      unfold sTk
      rw [if_pos q]
    rw [e, sWF_nS (sSw_WF hw)]
    exact hJ
  · obtain ⟨j, hj, rfl⟩ := zskip hw.1 hw.2.1 (sSw_nn hw q)
    rw [sTk_nS hw hj q]
    have e := sTk_at hw hj q
    generalize (sTk s (nI j)).2 = x at e
    generalize (sSw s (nI j)).2 = y at e hJ
    obtain ⟨h1, h2, h3, h4, h5, h6, h7, h8⟩ := hJ
    have el : ∀ k, k < 33 → x k = y k := fun k hk => by rw [e k (by omega), if_neg (by omega), if_neg (by omega)]
    have eb : x 134 = y 134 := by rw [e 134 (by omega), if_neg (by omega), if_neg (by omega)]
    have es : ∀ i f, i < n - 1 → f < 10 → x (34 + 10 * i + f) = if i < j then y (34 + 10 * i + f) else y (34 + 10 * (i + 1) + f) := fun i f hi hf => by
      rw [e _ (by omega), if_neg (by omega)]
      by_cases q2 : i < j
      · rw [if_neg (by omega), if_pos q2]
      · rw [if_pos (by omega), if_neg q2, show 34 + 10 * i + f + 10 = 34 + 10 * (i + 1) + f by omega]
    refine ⟨fun k hk => by rw [el k (by omega)]; exact h1 k hk, fun k hk => by rw [el _ (by omega)]; exact h2 k hk, fun c hc => by rw [el _ (by omega), el _ (by omega), el _ (by omega)]; exact h3 c hc, by rw [eb]; exact h4, fun i hi => ?_, ?_, ?_, fun st hst => ?_⟩
    · rw [es i 7 hi (by omega), es i 8 hi (by omega), es i 9 hi (by omega), el 8 (by omega)]
      by_cases q2 : i < j
      · rw [if_pos q2, if_pos q2, if_pos q2]; exact h5 i (by omega)
      · rw [if_neg q2, if_neg q2, if_neg q2]; exact h5 (i + 1) (by omega)
    · have k := qS_skip (g := fun i => tn (y (34 + 10 * i + 9))) hj
      rw [qS_cong (g := fun i => if i < j then tn (y (34 + 10 * i + 9)) else tn (y (34 + 10 * (i + 1) + 9))) (fun i hi => by rw [es i 9 hi (by omega)]; split <;> rfl), qS_cong (f := fun c => tn (x (15 + 3 * c + 0))) (g := fun c => tn (y (15 + 3 * c + 0))) (fun c hc => by rw [el _ (by omega)])]
      omega
    · have k := qS_skip (g := fun i => tn (y (34 + 10 * i + 7))) hj
      rw [qS_cong (g := fun i => if i < j then tn (y (34 + 10 * i + 7)) else tn (y (34 + 10 * (i + 1) + 7))) (fun i hi => by rw [es i 7 hi (by omega)]; split <;> rfl), eb]
      omega
    · have k := qS_skip (g := fun i => if y (34 + 10 * i + 2) = nI st then 1 else 0) hj
      have k8 := h8 st hst
      rw [qS_cong (g := fun i => if i < j then (if y (34 + 10 * i + 2) = nI st then 1 else 0) else (if y (34 + 10 * (i + 1) + 2) = nI st then 1 else 0)) (fun i hi => by
        rw [es i 2 hi (by omega)]
        by_cases q2 : i < j
        · rw [if_pos q2, if_pos q2]
        · rw [if_neg q2, if_neg q2])]
      omega
theorem sPu_J {s : Nat → Int32} {n B c sn : Nat} {z g : Int32} (h : zJ s n B) (hn : n < 10) (hc : c < 6) (hst : sn ≤ 5) (hf : sn < 5 → qS n (fun j => if s (34 + 10 * j + 2) = nI sn then 1 else 0) + 1 ≤ 4) (h8 : ∃ d, d ≤ 9999 ∧ s 8 = nI d) (hB : B + 90 ≤ 2 ^ 28) : zJ (sPu s n c z (nI sn) g) (n + 1) (B + 90) := by
  obtain ⟨X, hX, e5⟩ := h.1 5 (by omega)
  rw [sPu_n, e5]
  refine zJ_mono (show B + X ≤ B + 90 by omega) (zJ_ch ?_ (by omega) hc (by omega))
  have lo : ∀ k, k < 33 → k ≠ 9 → upd (nSk s n c z (nI sn) g) 9 (s 9 + nI 1) k = s k := fun k hk h9 => by
    rw [pk_un h9]
    unfold nSk
    repeat' split
    all_goals first | rfl | omega
  have lb : upd (nSk s n c z (nI sn) g) 9 (s 9 + nI 1) 134 = s 134 := by
    rw [pk_un (by omega)]
    unfold nSk
    repeat' split
    all_goals first | rfl | omega
  have ol : ∀ i f, i < n → f < 10 → upd (nSk s n c z (nI sn) g) 9 (s 9 + nI 1) (34 + 10 * i + f) = s (34 + 10 * i + f) := fun i f hi hf => by
    rw [pk_un (by omega)]
    unfold nSk
    repeat' split
    all_goals first | rfl | omega
  have n2 : upd (nSk s n c z (nI sn) g) 9 (s 9 + nI 1) (34 + 10 * n + 2) = nI sn := by
    rw [pk_un (by omega)]
    unfold nSk
    repeat' split
    all_goals first | rfl | omega
  have n7 : upd (nSk s n c z (nI sn) g) 9 (s 9 + nI 1) (34 + 10 * n + 7) = nI 0 := by
    rw [pk_un (by omega)]
    unfold nSk
    repeat' split
    all_goals first | rfl | omega
  have n8 : upd (nSk s n c z (nI sn) g) 9 (s 9 + nI 1) (34 + 10 * n + 8) = s 8 := by
    rw [pk_un (by omega)]
    unfold nSk
    repeat' split
    all_goals first | rfl | omega
  have n9 : upd (nSk s n c z (nI sn) g) 9 (s 9 + nI 1) (34 + 10 * n + 9) = nI 0 := by
    rw [pk_un (by omega)]
    unfold nSk
    repeat' split
    all_goals first | rfl | omega
  generalize upd (nSk s n c z (nI sn) g) 9 (s 9 + nI 1) = x at lo lb ol n2 n7 n8 n9
  obtain ⟨h1, h2, h3, h4, h5, h6, h7, h9⟩ := h
  obtain ⟨d, hd, e8⟩ := h8
  refine ⟨fun k hk => by rw [lo k (by omega) (by omega)]; exact h1 k hk, fun k hk => by rw [lo _ (by omega) (by omega)]; exact h2 k hk, fun c hc => by rw [lo _ (by omega) (by omega), lo _ (by omega) (by omega), lo _ (by omega) (by omega)]; exact h3 c hc, by rw [lb]; exact h4, fun i hi => ?_, ?_, ?_, fun st hst => ?_⟩
  · by_cases q : i = n
    · subst q
      exact ⟨0, d, 0, Nat.zero_le _, Nat.zero_le _, hd, by rw [lo 8 (by omega) (by omega), e8]; exact Int32.le_refl _, n7, by rw [n8, e8], n9⟩
    · rw [ol i 7 (by omega) (by omega), ol i 8 (by omega) (by omega), ol i 9 (by omega) (by omega), lo 8 (by omega) (by omega)]
      exact h5 i (by omega)
  · show qS n (fun j => tn (x (34 + 10 * j + 9))) + tn (x (34 + 10 * n + 9)) ≤ _
    rw [qS_cong (g := fun j => tn (s (34 + 10 * j + 9))) (fun j hj => by rw [ol j 9 hj (by omega)]), n9, qS_cong (f := fun c => tn (x (15 + 3 * c + 0))) (g := fun c => tn (s (15 + 3 * c + 0))) (fun c hc => by rw [lo _ (by omega) (by omega)]), tn_N (by omega)]
    exact h6
  · show qS n (fun j => tn (x (34 + 10 * j + 7))) + tn (x (34 + 10 * n + 7)) ≤ _
    rw [qS_cong (g := fun j => tn (s (34 + 10 * j + 7))) (fun j hj => by rw [ol j 7 hj (by omega)]), n7, lb, tn_N (by omega)]
    exact h7
  · show qS n (fun j => if x (34 + 10 * j + 2) = nI st then 1 else 0) + (if x (34 + 10 * n + 2) = nI st then 1 else 0) ≤ 4
    rw [qS_cong (g := fun j => if s (34 + 10 * j + 2) = nI st then 1 else 0) (fun j hj => by rw [ol j 2 hj (by omega)]), n2]
    by_cases q : sn = st
    · subst q
      rw [if_pos rfl]
      exact hf hst
    · rw [if_neg (fun y => q ((nI_eqI (by omega) (by omega)).mp y))]
      exact h9 st hst
theorem sPuts_J {s : Nat → Int32} {n B B0 : Nat} {cu z st g : Int32} (hI : zIv s n B0) (h : zJ s n B) (hB : B + 9000 ≤ 2 ^ 28) : zJ (sPuts s n cu z st g).2 (nS (sPuts s n cu z st g).2) (B + 9000) := by
  have h0 := zJ_mono (show B ≤ B + 9000 by omega) h
  have hw := hI.1
  have hn := hw.1
  unfold sPuts
  by_cases q1 : (nI 0 ≤ cu ∧ cu ≤ nI 5) ∧ (nI 0 ≤ st ∧ st ≤ nI 5)
  · rw [if_pos q1]
    by_cases q2 : (nI 0 ≤ z ∧ z ≤ nI 3) ∧ (nI 0 ≤ g ∧ g ≤ nI 30)
    · rw [if_pos q2]
      by_cases q3 : (st = nI 5 ∨ sCntSt s n st < s (10 + st.toNatClampNeg)) ∧ ¬ sTl s = 0
      · rw [if_pos q3]
        by_cases q4 : s 33 = nI 10
        · rw [if_pos q4, sWF_nS hw]; exact h0
        · rw [if_neg q4]
          have hn9 : n < 10 := by
            rcases Nat.lt_or_ge n 10 with y | y
            · exact y
            · exact absurd (by rw [hw.2.1, show n = 10 by omega]) q4
          obtain ⟨c, hc, rfl⟩ := zrng (x := cu) (b := 5) (by omega) q1.1
          obtain ⟨sn, hsn, rfl⟩ := zrng (x := st) (b := 5) (by omega) q1.2
          rw [nI_clamp (show c < 2 ^ 31 by omega)]
          show zJ (sPu s n c z (nI sn) g) (nS (sPu s n c z (nI sn) g)) (B + 9000)
          have e33 : sPu s n c z (nI sn) g 33 = nI (n + 1) := by rw [sPu_33 (by omega), hw.2.1, nI_add]
          have eS : nS (sPu s n c z (nI sn) g) = n + 1 := by
            unfold nS
            rw [e33]
            exact nI_clamp (by omega)
          rw [eS]
          refine zJ_mono (show B + 90 ≤ B + 9000 by omega) (sPu_J h hn9 (by omega) hsn (fun hlt => ?_) hI.2.2.2.2.2.1 (by omega))
          rcases q3.1 with y | y
          · have := (nI_eqI (by omega) (by omega)).mp y
            omega
          · rw [← kCs_eq, kCs_q, nI_clamp (by omega)] at y
            obtain ⟨p, hp, ep⟩ := h.2.1 sn hlt
            rw [ep] at y
            have hb : qS n (fun j => if s (34 + 10 * j + 2) = nI sn then 1 else 0) ≤ n * 1 := qS_bd (fun j hj => by split <;> omega)
            have := (nI_ltI (by omega) (by omega)).mp y
            omega
      · rw [if_neg q3, sWF_nS hw]; exact h0
    · rw [if_neg q2, sWF_nS hw]; exact h0
  · rw [if_neg q1, sWF_nS hw]; exact h0
