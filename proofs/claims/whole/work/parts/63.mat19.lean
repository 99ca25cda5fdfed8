/-! an order: the class's and the reference's agree -/
theorem kEx_sim {n B : Nat} {a b : Nat → Int32} {o : Int32 × (Int32 × Int32 × Int32 × Int32) × Nat × Bool} (h : sim n a b) (hb : zIv b n B) : (kEx a n o).1 = (sEx b o).1 ∧ sim (nS (sEx b o).2) (kEx a n o).2 (sEx b o).2 := by
  have ha := zIv_sim h hb
  have hw := hb.1
  unfold kEx sEx
  rw [sWF_nS hw]
  split
  · rw [kPuts_eq ha]
    exact sim_Puts h hw _ _ _ _
  · split
    · rw [kSw_eq ha, sWF_nS (sSw_WF hw)]
      exact sim_Sw h hw _
    · split
      · obtain ⟨e1, e2⟩ := kTk_sim ha o.2.1.1
        obtain ⟨f1, f2⟩ := sim_Tk h hw o.2.1.1
        have e33 : nS (sTk a o.2.1.1).2 = nS (sTk b o.2.1.1).2 := by
          unfold nS
          rw [f2 33 (by omega)]
        rw [e33] at e2
        exact ⟨e1.trans f1, fun k hk => (e2 k hk).trans (f2 k hk)⟩
      · split
        · have hp : sWF (sPe b o.2.1.1 o.2.1.2.2.2).2 n := sPe_WF hw
          rw [kPe_eq ha, sWF_nS hp]
          exact sim_Pe h hw _ _
        · split
          · rw [sWF_nS (sOi_WF hw)]
            exact sim_Oi h hw _
          · have hp : sWF (sPas b n o.2.1.2.2.2).2 n := sPas_WF hw
            rw [kPas_eq ha, sWF_nS hp]
            exact sim_Pas h hb _
/-- the orders of a text, done by both -/
theorem kGo_sim {q : Nat → Int32} {m : Nat} : ∀ (r e k d n B : Nat) (a b : Nat → Int32), nK q m e k → (gf q m (r + 1) k).2 = false → k + r + 1 > m → sim n a b → zIv b n B → 9999 ≤ B → B + 99 * (r + 1) ≤ 2 ^ 30 → (kGo q m (r + 1) e d a).1 = (sGo q m (r + 1) k d b).1 ∧ ∃ n2 B2, B2 ≤ B + 99 * (r + 1) ∧ sim n2 (kGo q m (r + 1) e d a).2 (sGo q m (r + 1) k d b).2 ∧ zIv (sGo q m (r + 1) k d b).2 n2 B2 := by
  intro r
  induction r with
  | zero =>
    intro e k d n B a b hk hg hm h hb h9 hB
    rw [gf_E] at hg
    have hf : (rdO q m k).2.2.2 = false := by
      rcases Bool.eq_false_or_eq_true (rdO q m k).2.2.2 with z | z
      · rw [if_pos z] at hg; cases hg
      · exact z
    have hgt := rdO_gt hf
    rw [kGo_k hk]
    have hns : nS a = n := sWF_nS (sim_WF h hb.1)
    rw [hns]
    obtain ⟨e1, e2⟩ := kEx_sim (o := rdO q m k) h hb
    have hI := sEx_Iv (o := rdO q m k) hb h9 (by omega)
    have hs : sGo q m (0 + 1) k d b = (if (sEx b (rdO q m k)).1 < 0 then d else d + 1, (sEx b (rdO q m k)).2) := if_neg (by omega)
    refine ⟨?_, nS (sEx b (rdO q m k)).2, B + 99, by omega, ?_, ?_⟩
    · rw [hs]
      show (if (kEx a n (rdO q m k)).1 < 0 then d else d + 1) = (if (sEx b (rdO q m k)).1 < 0 then d else d + 1)
      rw [e1]
    · rw [hs]; exact e2
    · rw [hs]; exact hI
  | succ r ih =>
    intro e k d n B a b hk hg hm h hb h9 hB
    rw [gf_E] at hg
    have hf : (rdO q m k).2.2.2 = false := by
      rcases Bool.eq_false_or_eq_true (rdO q m k).2.2.2 with z | z
      · rw [if_pos z] at hg; cases hg
      · exact z
    rw [if_neg (by rw [hf]; decide)] at hg
    have hgt := rdO_gt hf
    rw [kGo_k hk]
    have hns : nS a = n := sWF_nS (sim_WF h hb.1)
    rw [hns]
    obtain ⟨e1, e2⟩ := kEx_sim (o := rdO q m k) h hb
    have hI := sEx_Iv (o := rdO q m k) hb h9 (by omega)
    rw [e1]
    by_cases hl : (rdO q m k).2.2.1 < m
    · have hs : sGo q m (r + 1 + 1) k d b = sGo q m (r + 1) ((rdO q m k).2.2.1 + 1) (if (sEx b (rdO q m k)).1 < 0 then d else d + 1) (sEx b (rdO q m k)).2 := if_pos hl
      rw [hs]
      have ht : (tk q m (nI 59) (nI 59) (rdO q m k).2.2.1 false).2.2 = false := by
        rcases Bool.eq_false_or_eq_true (tk q m (nI 59) (nI 59) (rdO q m k).2.2.1 false).2.2 with z | z
        · unfold gE at hg
          rw [if_neg (by omega), if_pos ⟨by omega, z⟩] at hg
          cases hg
        · exact z
      have hk2 : nK q m (rdO q m k).2.2.1 ((rdO q m k).2.2.1 + 1) := Or.inr ⟨by omega, hl, ht, rfl⟩
      rw [(gE_k hk2).1] at hg
      obtain ⟨x1, n2, B2, x2, x3, x4⟩ := ih (rdO q m k).2.2.1 ((rdO q m k).2.2.1 + 1) (if (sEx b (rdO q m k)).1 < 0 then d else d + 1) (nS (sEx b (rdO q m k)).2) (B + 99) (kEx a n (rdO q m k)).2 (sEx b (rdO q m k)).2 hk2 hg (by omega) e2 hI (by omega) (by omega)
      exact ⟨x1, n2, B2, by omega, x3, x4⟩
    · have hs : sGo q m (r + 1 + 1) k d b = (if (sEx b (rdO q m k)).1 < 0 then d else d + 1, (sEx b (rdO q m k)).2) := if_neg hl
      rw [hs, kGo_e ⟨by omega, by omega⟩]
      exact ⟨rfl, nS (sEx b (rdO q m k)).2, B + 99, by omega, e2, hI⟩
