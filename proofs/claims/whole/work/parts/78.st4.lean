/-! the class's call and the reference's, side by side: run -/
theorem st_run {h : zhp} {N : Nat} {X : Nat → Int32} {B : Nat} (hI : LI h N X B) (hB : B + 6039 ≤ 2 ^ 30) : ST iX5_run iX6_run [] h N X (B + 6039) := by
  refine ST_x hI (fun _ => by omega) (fun S P PI o c m sv F s a t l p n hCI hw hL h9 => ?_)
  obtain ⟨hK, hH, hP, hV⟩ := id hCI
  by_cases hg : fT p m = -6
  · have hm60 := hP.2.2.1.1
    have hg2 : (gf p m 61 0).2 = false := (fT_iff hm60).mp hg
    have hgE : (gE p m 61 0).2 = false := by
      rw [(gE_k (r := 61) (Or.inl ⟨rfl, rfl⟩)).1]
      exact hg2
    have efuel := kGo_fuel (q := p) (m := m) 60 0 0 (S 0) hgE (by omega) (Or.inr (by omega))
    obtain ⟨g1, n2, B2, g2, g3, g4⟩ := kGo_sim (q := p) (m := m) 60 0 0 0 n B (S 0) s (Or.inl ⟨rfl, rfl⟩) hg2 (by omega) hL.2.2.1.1 hL.2.2.1.2 h9 (by omega)
    have g4' : zIv (sGo p m 61 0 0 s).2 n2 (B + 6039) := zIv_mono (by omega) hB g4
    rw [efuel] at g1 g3
    have M5 := c_X5_run_g hK hH hw hP (fun s => sWF s (nS s)) (fun _ q => q) (fun s k q _ => kEx_WF q) (sWF_self hw) hg
    have M6 : ∀ h1, zMo h1 → MM iX6_run [.ref 181] (zm h1 F s a t l p) _ := fun h1 hM => c_X6_run_g hM F s a t l p m hP.2.2.1 hL.2.1.2.1 hg (sWF_self hL.2.2.1.2.1) c hL.1.2 hL.2.1.1
    rw [← g1] at M6
    generalize (kGo p m 60 0 0 (S 0)) = G at M5 M6 g1 g3
    refine ⟨nI G.1, uS S n o c G.2, hO o c (nI G.1), hC c (nI G.1), 0, sv, p, MM_post M5 (fun r h1 z => ?_), fun h1 hM => MM_post (M6 h1 hM) (fun r h2 z => ?_)⟩
    · obtain ⟨R1, hr, R2, p1, pi1, hp1, rfl⟩ := z
      have s1 : zSm h (zr (zrn h) (zN h) R1) := (zSm_rn hK.1.1).trans (zSm_r R1 hK.1.1)
      have x1 := hCI.sm s1
      have x2 : CI (zPr (zr (zrn h) (zN h) R1) S P PI n o c) _ _ _ o c m p sv := CI_t x1 (t := 1 + (o + c) % 7) (by omega) (kBm (S (1 + (o + c) % 7)) (S 0) n) (x1.1.2 _ (by omega)).2.1
      have t1 : zRs (zr (zrn h) (zN h) R1) (zPr (zr (zrn h) (zN h) R1) S P PI n o c) := zRs_t (by omega) _ _ _
      have s2 : zSm (zPr (zr (zrn h) (zN h) R1) S P PI n o c) (zr (zrn (zPr (zr (zrn h) (zN h) R1) S P PI n o c)) (zN h + 1) R2) := (zSm_rn x2.1.1.1).trans (zSm_r R2 (by have := hK.1.1; omega))
      have x3 := CI_Se (CI_wi (CI_t (x2.sm s2) (t := 0) (by omega) G.2 hp1)) (nI G.1)
      exact ⟨hr, ⟨_, _, x3⟩, (((((zRs_sm s1).trans t1).trans (zRs_sm s2)).trans (zRs_t (t := 0) (by omega) _ _ _)).trans (zRs_I _ (by omega))).trans zRs_Se⟩
    · obtain ⟨hr, F1, e1, f3, f5⟩ := z
      rw [zch_eq] at e1
      exact ⟨hr, _, _, _, _, l, p, n2, e1, fun _ hk => absurd hk (by omega), zRL_ch hL g3 g4' (by omega) (fun k hk => cpA_at s a hk) ((pk_un (by omega)).trans f3) ((pk_un (by omega)).trans f5) pk_us⟩
  · exact ⟨-3, S, o, c, m, sv, p, MM_post (c_X5_run_b hK hP hg) (fun r h1 z => ⟨(pf_f hK.1.1 z).1, ⟨P, PI, hCI.sm (pf_f hK.1.1 z).2⟩, zRs_sm (pf_f hK.1.1 z).2⟩), fun h1 hM => MM_post (c_X6_run_b hM F s a t l p m hP.2.2.1 hL.2.1.2.1 hg) (fun r h2 z => by
      obtain ⟨hr, F1, e1, f3, f5, f7⟩ := z
      exact ⟨hr, F1, s, a, t, l, p, n, e1, fun _ _ => rfl, zRL_mono (by omega) hB (zRL_F hL f3 f5 f7)⟩)⟩
