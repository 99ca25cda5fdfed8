/-! the law's start: both objects are made -/
theorem zsF_v : ∀ k, k < 135 → 8 ≤ k → zsF k = if 10 ≤ k ∧ k < 15 then nI 2 else 0 := by decide +kernel
theorem CI_0 {h h1 x : zhp} (hp : PS h h1 2) (hN : zN x = 187) (hb : ∀ y, y < 181 → zT x y = zT h1 y ∧ zL x y = zL h1 y ∧ ∀ k, zI x y k = zI h1 y k ∧ zR x y k = zR h1 y k) (hst : zSt h) : CI x (fun _ => zs0 h) (fun _ => id) (fun _ => id) 0 0 0 Z0 (fun _ => false) := by
  obtain ⟨p1, p2, ⟨⟨a1, a2, a3, a4, a5, a6⟩, ⟨b1, b2, b3, b4, b5⟩, c1, ⟨d1, d2, d3, d4, d5⟩, ⟨e1, e2⟩, ⟨f1, f2, f3⟩, g1, g2⟩, p3, p4⟩ := hp
  have eT : ∀ y, y < 181 → zT x y = zT h1 y := fun y hy => (hb y hy).1
  have eL : ∀ y, y < 181 → zL x y = zL h1 y := fun y hy => (hb y hy).2.1
  have eI : ∀ y k, y < 181 → zI x y k = zI h1 y k := fun y k hy => ((hb y hy).2.2 k).1
  have eR : ∀ y k, y < 181 → zR x y k = zR h1 y k := fun y k hy => ((hb y hy).2.2 k).2
  have n0 : nI 0 = 0 := nI_0
  refine ⟨⟨⟨by omega, ⟨fun c hc => ⟨((eT c (by omega)).trans (p2 c (by omega)).1).trans (hst.1 c hc).1, ((eL c (by omega)).trans (p2 c (by omega)).2.1).trans (hst.1 c hc).2⟩, fun k hk => ((eI _ _ (by omega)).trans ((p2 1 (by omega)).2.2 k).1).trans (hst.2.1 k hk), fun k hk => ((eI _ _ (by omega)).trans ((p2 2 (by omega)).2.2 k).1).trans (hst.2.2 k hk)⟩,
    ⟨(eT _ (by omega)).trans a1, (eR _ _ (by omega)).trans a2, (eR _ _ (by omega)).trans a3, (eR _ _ (by omega)).trans a4, (eR _ _ (by omega)).trans a5, (eR _ _ (by omega)).trans a6⟩,
    ⟨(eT _ (by omega)).trans b1, (eR _ _ (by omega)).trans b2, (eT _ (by omega)).trans b3, (eL _ (by omega)).trans b4, fun r hr => ?_⟩,
    ⟨(eT _ (by omega)).trans d1, (eR _ _ (by omega)).trans d2, (eT _ (by omega)).trans d3, (eL _ (by omega)).trans d4⟩,
    ⟨(eT _ (by omega)).trans e1, (eL _ (by omega)).trans e2, fun r hr => ?_⟩, (eT _ (by omega)).trans f1, (eL _ (by omega)).trans f2⟩, fun t ht => ?_⟩,
    ⟨((eI _ _ (by omega)).trans (c1 1)).trans n0.symm, ((eI _ _ (by omega)).trans (c1 2)).trans n0.symm, by omega, by omega⟩,
    ⟨⟨(eT _ (by omega)).trans d1, (eR _ _ (by omega)).trans d2, (eT _ (by omega)).trans d3, (eL _ (by omega)).trans d4⟩, ((eI _ _ (by omega)).trans d5).trans n0.symm, ⟨by omega, fun k hk => absurd hk (by omega)⟩, fun k hk => absurd hk (by omega)⟩,
    fun i hi => ((eI _ _ (by omega)).trans (f3 i)).trans ((if_neg Bool.false_ne_true).trans n0).symm⟩
  · rw [eR _ _ (by omega), b5 r hr]
    unfold zbs
    rw [if_neg (by omega), if_pos (by omega), show 7 + 17 * (1 + r) = 24 + 17 * r by omega]
  · rw [eR _ _ (by omega), p3 r hr]
    unfold zbs
    rw [if_neg (by omega), if_neg (by omega), show 11 + 17 * (8 + r) = 147 + 17 * r by omega]
  · have rg := zbs_rg ht
    have hw : zTw h1 (zbs t) (zs0 h) id id := by
      by_cases t0 : t = 0
      · subst t0; exact g1
      · by_cases t8 : t < 8
        · have := g2 (t - 1) (by omega)
          unfold zbs
          rw [if_neg t0, if_pos t8, show 7 + 17 * t = 24 + 17 * (t - 1) by omega]
          exact this
        · have := p4 (t - 8) (by omega)
          unfold zbs
          rw [if_neg t0, if_neg t8, show 11 + 17 * t = 147 + 17 * (t - 8) by omega]
          exact this
    exact zt_same (fun y k y1 y2 => eI y k (by omega)) (fun y k y1 y2 => eR y k (by omega)) (fun y y1 y2 => eT y (by omega)) (fun y y1 y2 => eL y (by omega)) hw
theorem zRL_0 {s : Nat → Int32} (hs : ∀ k, k < 135 → s k = zsF k) : zRL (fun _ => s) 0 0 0 (fun _ => false) Z0 zsF Z0 Z0 0 9999 := by
  refine ⟨⟨by omega, by omega⟩, ⟨by decide, by decide, by decide⟩, ⟨fun k hk => hs k (by omega), ⟨by omega, by decide +kernel, fun j hj => absurd hj (by omega)⟩, by omega, ⟨2, by omega, by decide +kernel⟩, ⟨0, by omega, by decide +kernel⟩, ⟨7, by omega, by decide +kernel⟩, ⟨0, by omega, by decide +kernel⟩, fun j hj => absurd hj (by omega)⟩, fun i hi => absurd hi (by omega), fun i hi hv => by cases hv⟩
set_option maxRecDepth 100000 in
set_option maxHeartbeats 4000000 in
theorem lw_start {h : zhp} {N : Nat} {X : Nat → Int32} (hN0 : zN h = 4) (hX : zSc h N X) (hN : N ≤ 2560) (hst : zSt h) (hF : ∀ k, k < 8 → zI h 0 k = zsF k) : TT iL_law 0 [some (.ref 3), none, none, none] [] h 0 0 lwQ := by
  refine tt_new (ci := 5) dL_law_0 (by decide) (by decide) kL_7 kI5 kN5 (Nat.le_of_ble_eq_true rfl) (Nat.le_of_ble_eq_true rfl) ?_
  rw [hN0]
  refine tt_dup dL_law_3 rfl ?_
  have hI0 : ∀ y k, y < 4 → zI (znw h 5 0 (fun _ => 0)) y k = zI h y k := fun y k hy => if_neg (by show ¬ y = zN h; omega)
  have hT0 : ∀ y, y < 4 → zT (znw h 5 0 (fun _ => 0)) y = zT h y := fun y hy => zT_nw (by omega)
  have hL0 : ∀ y, y < 4 → zL (znw h 5 0 (fun _ => 0)) y = zL h y := fun y hy => zL_nw (by omega)
  have hst0 : zSt (znw h 5 0 (fun _ => 0)) := ⟨fun c hc => ⟨(hT0 c (by omega)).trans (hst.1 c hc).1, (hL0 c (by omega)).trans (hst.1 c hc).2⟩, fun k hk => (hI0 1 k (by omega)).trans (hst.2.1 k hk), fun k hk => (hI0 2 k (by omega)).trans (hst.2.2 k hk)⟩
  refine tt_callI (av := []) (c_X5_init (h := znw h 5 0 (fun _ => 0)) (by show zN h + 1 = 5; omega) (if_pos hN0.symm) (hst0.1 0 (by omega)).2) dL_law_4 cL_9 rfl rfl (by decide) (Nat.le_of_ble_eq_true rfl) (Nat.le_of_ble_eq_true rfl) (Nat.le_of_ble_eq_true rfl) (fun r1 h1 q1 => ?_)
  obtain ⟨rfl, hp⟩ := q1
  refine (show TT iL_law 7 _ _ h1 177 1591 _ from ?_)
  refine tt_astore_n dL_law_7 rfl (Nat.le_of_ble_eq_true rfl) rfl ?_
  have hN1 : zN h1 = 181 := hp.1
  refine tt_new (ci := 6) dL_law_8 (by decide) (by decide) kL_10 kI6 kN6 (Nat.le_of_ble_eq_true rfl) (Nat.le_of_ble_eq_true rfl) ?_
  rw [hN1]
  refine tt_dup dL_law_11 rfl ?_
  refine tt_callI (av := []) (c_X6_init (h := znw h1 6 0 (fun _ => 0)) (by show zN h1 + 1 = 182; omega) (if_pos hN1.symm) (fun j => if_pos hN1.symm)) dL_law_12 cL_12 rfl rfl (by decide) (Nat.le_of_ble_eq_true rfl) (Nat.le_of_ble_eq_true rfl) (Nat.le_of_ble_eq_true rfl) (fun r2 h2 q2 => ?_)
  obtain ⟨rfl, x, hM, hNx, hbx, rfl⟩ := q2
  refine (show TT iL_law 15 _ _ _ 183 3016 _ from ?_)
  have hb : ∀ y, y < 181 → zT x y = zT h1 y ∧ zL x y = zL h1 y ∧ ∀ k, zI x y k = zI h1 y k ∧ zR x y k = zR h1 y k := fun y hy => by
    obtain ⟨z1, z2, z3⟩ := hbx y hy
    exact ⟨z1.trans (zT_nw (by omega)), z2.trans (zL_nw (by omega)), fun k => ⟨(z3 k).1.trans (if_neg (by show ¬ y = zN h1; omega)), (z3 k).2.trans (if_neg (by show ¬ y = zN h1; omega))⟩⟩
  have hX1 : zSc x N X := ⟨((hb 3 (by omega)).1.trans ((hp.2.1 3 (by omega)).1.trans (hT0 3 (by omega)))).trans hX.1, ((hb 3 (by omega)).2.1.trans ((hp.2.1 3 (by omega)).2.1.trans (hL0 3 (by omega)))).trans hX.2.1, fun k => (((hb 3 (by omega)).2.2 k).1.trans (((hp.2.1 3 (by omega)).2.2 k).1.trans (hI0 3 k (by omega)))).trans (hX.2.2 k)⟩
  have hs : ∀ k, k < 135 → zs0 (znw h 5 0 (fun _ => 0)) k = zsF k := fun k hk => by
    unfold zs0
    by_cases q : k < 8
    · rw [if_pos q, hI0 0 k (by omega), hF k q]
    · rw [if_neg q, zsF_v k hk (by omega)]
  have hI : LI (zm x Z0 zsF Z0 Z0 Z0 Z0) N X 9999 := LI_ref hX1 (CI_0 hp hNx hb hst0) hM (fun _ _ => rfl) (zRL_0 hs) (Nat.le_refl _)
  refine tt_astore_n dL_law_15 rfl (Nat.le_of_ble_eq_true rfl) rfl ?_
  refine tt_iconst (nI 0) dL_law_16 rfl ?_
  refine tt_istore_n dL_law_17 rfl (Nat.le_of_ble_eq_true rfl) rfl ?_
  exact lw_loop hN 512 0 _ _ _ 9999 rfl hI (by omega) (by omega) (by omega)
