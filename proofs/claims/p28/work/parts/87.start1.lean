/-! the law's start: both objects are made -/
theorem zsF_v : ∀ k, k < 135 → 8 ≤ k → zsF k = if 10 ≤ k ∧ k < 15 then nI 2 else 0 := by decide +kernel
theorem CI_0 {h h1 x : zhp} (hp : PS h h1 2) (hN : 181 ≤ zN x) (hb : ∀ y, y < 181 → zT x y = zT h1 y ∧ zL x y = zL h1 y ∧ ∀ k, zI x y k = zI h1 y k ∧ zR x y k = zR h1 y k) (hst : zSt h) : CI x (fun _ => zs0 h) (fun _ => id) (fun _ => id) 0 0 0 Z0 (fun _ => false) := by
  obtain ⟨p1, p2, ⟨⟨a1, a2, a3, a4, a5, a6⟩, ⟨b1, b2, b3, b4, b5⟩, c1, ⟨d1, d2, d3, d4, d5⟩, ⟨e1, e2⟩, ⟨f1, f2, f3⟩, g1, g2⟩, p3, p4⟩ := hp
  have eT : ∀ y, y < 181 → zT x y = zT h1 y := fun y hy => (hb y hy).1
  have eL : ∀ y, y < 181 → zL x y = zL h1 y := fun y hy => (hb y hy).2.1
  have eI : ∀ y k, y < 181 → zI x y k = zI h1 y k := fun y k hy => ((hb y hy).2.2 k).1
  have eR : ∀ y k, y < 181 → zR x y k = zR h1 y k := fun y k hy => ((hb y hy).2.2 k).2
  have n0 : nI 0 = 0 := nI_0
  refine ⟨⟨⟨by omega, ⟨fun c hc => ⟨((eT c (by omega)).trans (p2 c (by omega)).1).trans (hst.1 c hc).1, ((eL c (by omega)).trans (p2 c (by omega)).2.1).trans (hst.1 c hc).2⟩, fun k hk => ((eI _ _ (by omega)).trans ((p2 1 (by omega)).2.2 k).1).trans (hst.2.1 k hk), fun k hk => ((eI _ _ (by omega)).trans ((p2 2 (by omega)).2.2 k).1).trans (hst.2.2 k hk)⟩,
    ⟨(eT _ (by omega)).trans a1, (eR _ _ (by omega)).trans a2, (eR _ _ (by omega)).trans a3, (eR _ _ (by omega)).trans a4, (eR _ _ (by omega)).trans a5, (eR _ _ (by omega)).trans a6⟩,
    ⟨(eT _ (by omega)).trans b1, (eR _ _ (by omega)).trans b2, (eT _ (by omega)).trans b3, (eL _ (by omega)).trans b4, fun r hr => ?_⟩,
    ⟨(eT _ (by omega)).trans d1, (eR _ _ (by omega)).trans d2, (eT _ (by omega)).trans d3, (eL _ (by omega)).trans d4⟩,
    ⟨(eT _ (by omega)).trans e1, (eL _ (by omega)).trans e2, fun r hr => ?_⟩, (eT _ (by omega)).trans f1, (eL _ (by omega)).trans f2⟩, fun t ht => ?_⟩,
    ⟨((eI _ _ (by omega)).trans (c1 1)).trans n0.symm, ((eI _ _ (by omega)).trans (c1 2)).trans n0.symm, by omega, by omega⟩,
    ⟨⟨(eT _ (by omega)).trans d1, (eR _ _ (by omega)).trans d2, (eT _ (by omega)).trans d3, (eL _ (by omega)).trans d4⟩, ((eI _ _ (by omega)).trans d5).trans n0.symm, ⟨by omega, fun k hk => absurd hk (by omega)⟩, fun k hk => absurd hk (by omega)⟩,
    fun i hi => ((eI _ _ (by omega)).trans (f3 i)).trans ((if_neg Bool.false_ne_true).trans n0).symm⟩
  · rw [eR _ _ (by omega), b5 r hr]
    unfold zbs
    rw [if_neg (by omega), if_pos (by omega), show 7 + 17 * (1 + r) = 24 + 17 * r by omega]
  · rw [eR _ _ (by omega), p3 r hr]
    unfold zbs
    rw [if_neg (by omega), if_neg (by omega), show 11 + 17 * (8 + r) = 147 + 17 * r by omega]
  · have rg := zbs_rg ht
    have hw : zTw h1 (zbs t) (zs0 h) id id := by
      by_cases t0 : t = 0
      · subst t0; exact g1
      · by_cases t8 : t < 8
        · have := g2 (t - 1) (by omega)
          unfold zbs
          rw [if_neg t0, if_pos t8, show 7 + 17 * t = 24 + 17 * (t - 1) by omega]
          exact this
        · have := p4 (t - 8) (by omega)
          unfold zbs
          rw [if_neg t0, if_neg t8, show 11 + 17 * t = 147 + 17 * (t - 8) by omega]
          exact this
    exact zt_same (fun y k y1 y2 => eI y k (by omega)) (fun y k y1 y2 => eR y k (by omega)) (fun y y1 y2 => eT y (by omega)) (fun y y1 y2 => eL y (by omega)) hw
def znr (h : zhp) : zhp := (h.1, h.2.1, h.2.2.1, h.2.2.2.1, fun a k => if a < h.1 then h.2.2.2.2 a k else none)
theorem zHR_nm {G : zcx} {U : State} {h : zhp} {H : Heap} (x : zHR G U h H) : zHR G U (znr h) H := by
  obtain ⟨h1, h2, h3, h4, h5, h6⟩ := x
  exact ⟨h1, h2, h3, h4, fun a ha1 ha2 => ⟨(h5 a ha1 ha2).1, (h5 a ha1 ha2).2.kept rfl rfl (fun _ => rfl) (fun k => if_pos ha2) rfl⟩, h6⟩
theorem tt_nm {i : zmi} {pc : Nat} {L : List (Option Value)} {st : List Value} {h : zhp} {cc sc : Nat} {Q : Option Value → zhp → Prop} (k : TT i pc L st (znr h) cc sc Q) : TT i pc L st h cc sc Q :=
  fun G p l e R s m args below meth c ls H locs Qf F hl hH hlo K => k G p l e R s m args below meth c ls H locs Qf F hl (zHR_nm hH) hlo K
theorem J_0 {s : Nat → Int32} (hs : ∀ k, k < 135 → s k = zsF k) : zIv s 0 9999 ∧ zJ s 0 0 ∧ tn (s 8) = 0 := by
  refine ⟨⟨⟨by omega, (hs 33 (by omega)).trans (by decide +kernel), fun j hj => absurd hj (by omega)⟩, by omega, ⟨2, by omega, (hs 7 (by omega)).trans (by decide +kernel)⟩, ⟨0, by omega, (hs 9 (by omega)).trans (by decide +kernel)⟩, ⟨7, by omega, (hs 6 (by omega)).trans (by decide +kernel)⟩, ⟨0, by omega, (hs 8 (by omega)).trans (by decide +kernel)⟩, fun j hj => absurd hj (by omega)⟩, ⟨fun k hk => ?_, fun k hk => ⟨2, by omega, ?_⟩, fun c hc => ⟨0, 0, 0, by omega, by omega, by omega, ?_, ?_, ?_⟩, ⟨0, by omega, (hs 134 (by omega)).trans (by decide +kernel)⟩, fun j hj => absurd hj (by omega), Nat.zero_le _, Nat.zero_le _, fun st hst => Nat.zero_le _⟩, by rw [hs 8 (by omega)]; decide +kernel⟩
  · rw [hs k (by omega)]
    rcases (show k = 0 ∨ k = 1 ∨ k = 2 ∨ k = 3 ∨ k = 4 ∨ k = 5 by omega) with rfl | rfl | rfl | rfl | rfl | rfl
    · exact ⟨3, by omega, by decide +kernel⟩
    · exact ⟨2, by omega, by decide +kernel⟩
    · exact ⟨15, by omega, by decide +kernel⟩
    · exact ⟨10, by omega, by decide +kernel⟩
    · exact ⟨1, by omega, by decide +kernel⟩
    · exact ⟨25, by omega, by decide +kernel⟩
  · rw [hs _ (by omega), zsF_v _ (by omega) (by omega), if_pos (by omega)]
  · rw [hs _ (by omega), zsF_v _ (by omega) (by omega), if_neg (by omega)]; rfl
  · rw [hs _ (by omega), zsF_v _ (by omega) (by omega), if_neg (by omega)]; rfl
  · rw [hs _ (by omega), zsF_v _ (by omega) (by omega), if_neg (by omega)]; rfl
theorem zs0_F {h : zhp} (hF : ∀ k, k < 8 → zI h 0 k = zsF k) (k : Nat) (hk : k < 135) : zs0 h k = zsF k := by
  unfold zs0
  by_cases q : k < 8
  · rw [if_pos q, hF k q]
  · rw [if_neg q, zsF_v k hk (by omega)]
set_option maxRecDepth 100000 in
set_option maxHeartbeats 4000000 in
theorem lw_start {h : zhp} {N : Nat} {X : Nat → Int32} (hN0 : zN h = 4) (hX : zSc h N X) (hN : N ≤ 260) (hst : zSt h) (hF : ∀ k, k < 8 → zI h 0 k = zsF k) (hR : ∀ a k, zR h a k = none) : TT iL_law 0 [some (.ref 3), none, none, none, none, none, none, none] [] h 0 0 lwQ := by
  refine tt_new (ci := 5) dL_law_0 (by decide) (by decide) kL_15 kI5 kN5 (Nat.le_of_ble_eq_true rfl) (Nat.le_of_ble_eq_true rfl) ?_
  rw [hN0]
  refine tt_dup dL_law_3 rfl ?_
  have hI0 : ∀ y k, y < 4 → zI (znw h 5 0 (fun _ => 0)) y k = zI h y k := fun y k hy => if_neg (by show ¬ y = zN h; omega)
  have hR0 : ∀ y k, zR (znw h 5 0 (fun _ => 0)) y k = none := fun y k => by
    by_cases q : y = zN h
    · exact if_pos q
    · exact (if_neg q).trans (hR y k)
  have hT0 : ∀ y, y < 4 → zT (znw h 5 0 (fun _ => 0)) y = zT h y := fun y hy => zT_nw (by omega)
  have hL0 : ∀ y, y < 4 → zL (znw h 5 0 (fun _ => 0)) y = zL h y := fun y hy => zL_nw (by omega)
  have hst0 : zSt (znw h 5 0 (fun _ => 0)) := ⟨fun c hc => ⟨(hT0 c (by omega)).trans (hst.1 c hc).1, (hL0 c (by omega)).trans (hst.1 c hc).2⟩, fun k hk => (hI0 1 k (by omega)).trans (hst.2.1 k hk), fun k hk => (hI0 2 k (by omega)).trans (hst.2.2 k hk)⟩
  refine tt_callI (av := []) (c_X5_init (h := znw h 5 0 (fun _ => 0)) (by show zN h + 1 = 5; omega) (if_pos hN0.symm) (hst0.1 0 (by omega)).2) dL_law_4 cL_77 rfl rfl (by decide) (Nat.le_of_ble_eq_true rfl) (Nat.le_of_ble_eq_true rfl) (Nat.le_of_ble_eq_true rfl) (fun r1 h1 q1 => ?_)
  obtain ⟨rfl, hp⟩ := q1
  refine (show TT iL_law 7 _ _ h1 177 1591 _ from ?_)
  refine tt_astore_n (L1 := [_, _, _, _, _, _, _, _]) dL_law_7 rfl (Nat.le_of_ble_eq_true rfl) rfl ?_
  have hN1 : zN h1 = 181 := hp.1
  have k1 : ∀ y, y < 4 → zT h1 y = zT h y ∧ zL h1 y = zL h y ∧ ∀ k, zI h1 y k = zI h y k ∧ zR h1 y k = none := fun y hy => ⟨((hp.2.1 y hy).1).trans (hT0 y hy), ((hp.2.1 y hy).2.1).trans (hL0 y hy), fun k => ⟨(((hp.2.1 y hy).2.2 k).1).trans (hI0 y k hy), (((hp.2.1 y hy).2.2 k).2).trans (hR0 y k)⟩⟩
  refine tt_nm ?_
  have hNm : zN (znr h1) = 181 := hN1
  have m1 : ∀ y, zT (znr h1) y = zT h1 y ∧ zL (znr h1) y = zL h1 y ∧ ∀ k, zI (znr h1) y k = zI h1 y k := fun y => ⟨rfl, rfl, fun k => rfl⟩
  have m2 : ∀ y k, y < 181 → zR (znr h1) y k = zR h1 y k := fun y k hy => if_pos (by show y < zN h1; omega)
  have m3 : ∀ y k, 181 ≤ y → zR (znr h1) y k = none := fun y k hy => if_neg (by show ¬ y < zN h1; omega)
  refine tt_new (ci := 5) dL_law_8 (by decide) (by decide) kL_15 kI5 kN5 (Nat.le_of_ble_eq_true rfl) (Nat.le_of_ble_eq_true rfl) ?_
  rw [hNm]
  generalize znr h1 = hm at hNm m1 m2 m3
  refine tt_dup dL_law_11 rfl ?_
  obtain ⟨h2, e2⟩ : ∃ h2, h2 = znw hm 5 0 (fun _ => 0) := ⟨_, rfl⟩
  rw [← e2]
  have n2 : zN h2 = 182 := by rw [e2]; show zN hm + 1 = 182; omega
  have a2 : ∀ y, y < 181 → zT h2 y = zT h1 y ∧ zL h2 y = zL h1 y ∧ ∀ k, zI h2 y k = zI h1 y k ∧ zR h2 y k = zR h1 y k := fun y hy => by
    rw [e2]
    exact ⟨(zT_nw (by omega)).trans (m1 y).1, (zL_nw (by omega)).trans (m1 y).2.1, fun k => ⟨(if_neg (by show ¬ y = zN hm; omega)).trans ((m1 y).2.2 k), (if_neg (by show ¬ y = zN hm; omega)).trans (m2 y k hy)⟩⟩
  have t2 : zT h2 181 = 5 := by rw [e2]; exact if_pos hNm.symm
  have r2 : ∀ y k, 181 ≤ y → zR h2 y k = none := fun y k hy => by
    rw [e2]
    by_cases q : y = zN hm
    · exact if_pos q
    · exact (if_neg q).trans (m3 y k hy)
  have hRf : zRf h2 := ⟨by omega, fun a ha k b hb => by
    rcases ha with q | q
    · rw [((a2 a (by omega)).2.2 k).2, ((k1 a q).2.2 k).2] at hb
      cases hb
    · rw [r2 a k q] at hb
      cases hb⟩
  have d4 : ∀ y, y < 4 → zT (zdn h2) y = zT h y ∧ zL (zdn h2) y = zL h y ∧ ∀ k, zI (zdn h2) y k = zI h y k ∧ zR (zdn h2) y k = none := fun y hy => by
    have eu := zup_lt hy
    refine ⟨?_, ?_, fun k => ⟨?_, ?_⟩⟩
    · show zT h2 (zup y) = _
      rw [eu]
      exact (a2 y (by omega)).1.trans (k1 y hy).1
    · show zL h2 (zup y) = _
      rw [eu]
      exact (a2 y (by omega)).2.1.trans (k1 y hy).2.1
    · show zI h2 (zup y) k = _
      rw [eu]
      exact ((a2 y (by omega)).2.2 k).1.trans ((k1 y hy).2.2 k).1
    · show (zR h2 (zup y) k).map zdw = _
      rw [eu, ((a2 y (by omega)).2.2 k).2, ((k1 y hy).2.2 k).2]
      rfl
  have hst2 : zSt (zdn h2) := ⟨fun c hc => ⟨(d4 c (by omega)).1.trans (hst.1 c hc).1, (d4 c (by omega)).2.1.trans (hst.1 c hc).2⟩, fun k hk => ((d4 1 (by omega)).2.2 k).1.trans (hst.2.1 k hk), fun k hk => ((d4 2 (by omega)).2.2 k).1.trans (hst.2.2 k hk)⟩
  have eT4 : zT (zdn h2) 4 = 5 := by
    show zT h2 (zup 4) = 5
    rw [zup_ge (by omega)]
    exact t2
  have hM := MM_up hRf (c_X5_init (h := zdn h2) (by show zN h2 - 177 = 5; omega) eT4 (hst2.1 0 (by omega)).2)
  have eav : [Value.ref 4].map upV = [.ref 181] := rfl
  rw [eav] at hM
  refine tt_callI (av := []) hM dL_law_12 cL_77 rfl rfl (by decide) (Nat.le_of_ble_eq_true rfl) (Nat.le_of_ble_eq_true rfl) (Nat.le_of_ble_eq_true rfl) (fun r3 h3 q3 => ?_)
  obtain ⟨r0, x, ⟨rfl, hp2⟩, rfl, rfl⟩ := q3
  refine (show TT iL_law 15 _ _ _ 354 3182 _ from ?_)
  have nx : zN x = 181 := hp2.1
  have n3 : zN (zmg h2 x) = 358 := by show zN x + 177 = 358; omega
  have x4 : ∀ y, y < 4 → zT x y = zT h y ∧ zL x y = zL h y ∧ ∀ k, zI x y k = zI h y k ∧ zR x y k = none := fun y hy => ⟨((hp2.2.1 y hy).1).trans (d4 y hy).1, ((hp2.2.1 y hy).2.1).trans (d4 y hy).2.1, fun k => ⟨(((hp2.2.1 y hy).2.2 k).1).trans ((d4 y hy).2.2 k).1, (((hp2.2.1 y hy).2.2 k).2).trans ((d4 y hy).2.2 k).2⟩⟩
  have g4 : ∀ y, y < 4 → zT (zmg h2 x) y = zT h y ∧ zL (zmg h2 x) y = zL h y ∧ ∀ k, zI (zmg h2 x) y k = zI h y k ∧ zR (zmg h2 x) y k = none := fun y hy => by
    have c : ¬ (4 ≤ y ∧ y < 181) := by omega
    have ed := zdw_lt hy
    refine ⟨(if_neg c).trans ?_, (if_neg c).trans ?_, fun k => ⟨(if_neg c).trans ?_, (if_neg c).trans ?_⟩⟩
    · rw [ed]; exact (x4 y hy).1
    · rw [ed]; exact (x4 y hy).2.1
    · rw [ed]; exact ((x4 y hy).2.2 k).1
    · rw [ed]; exact congrArg (Option.map zup) ((x4 y hy).2.2 k).2
  have hb : ∀ y, y < 181 → zT (zmg h2 x) y = zT h1 y ∧ zL (zmg h2 x) y = zL h1 y ∧ ∀ k, zI (zmg h2 x) y k = zI h1 y k ∧ zR (zmg h2 x) y k = zR h1 y k := fun y hy => by
    by_cases q : y < 4
    · obtain ⟨b1, b2, b3⟩ := g4 y q
      obtain ⟨c1, c2, c3⟩ := k1 y q
      exact ⟨b1.trans c1.symm, b2.trans c2.symm, fun k => ⟨(b3 k).1.trans (c3 k).1.symm, (b3 k).2.trans (c3 k).2.symm⟩⟩
    · have c : 4 ≤ y ∧ y < 181 := ⟨by omega, hy⟩
      obtain ⟨b1, b2, b3⟩ := a2 y hy
      exact ⟨(if_pos c).trans b1, (if_pos c).trans b2, fun k => ⟨(if_pos c).trans (b3 k).1, (if_pos c).trans (b3 k).2⟩⟩
  have hW : TW (zmg h2 x) (fun _ => zs0 (znw h 5 0 (fun _ => 0))) (fun _ => id) (fun _ => id) 0 0 (fun _ => zs0 (zdn h2)) (fun _ => id) (fun _ => id) 0 0 := ⟨zRf_mg (by omega), CI_0 hp (by omega) hb hst0, by
    rw [zdn_mg]
    exact CI_0 hp2 (by omega) (fun y hy => ⟨rfl, rfl, fun k => ⟨rfl, rfl⟩⟩) hst2⟩
  have f1 := zs0_F (h := znw h 5 0 (fun _ => 0)) (fun k hk => (hI0 0 k (by omega)).trans (hF k hk))
  have f2 := zs0_F (h := zdn h2) (fun k hk => ((d4 0 (by omega)).2.2 k).1.trans (hF k hk))
  obtain ⟨j1, j2, j3⟩ := J_0 f2
  have hX3 : zSc (zmg h2 x) N X := ⟨(g4 3 (by omega)).1.trans hX.1, (g4 3 (by omega)).2.1.trans hX.2.1, fun k => ((g4 3 (by omega)).2.2 k).1.trans (hX.2.2 k)⟩
  have hL : LW (zmg h2 x) N X 0 := ⟨hX3, _, _, _, _, _, _, _, _, _, _, 0, 9999, 0, hW, fun k hk => (f1 k (by omega)).trans (f2 k (by omega)).symm, j1, j2, Nat.le_refl _, by omega, by omega, by omega⟩
  refine tt_astore_n (L1 := [_, _, _, _, _, _, _, _]) dL_law_15 rfl (Nat.le_of_ble_eq_true rfl) rfl ?_
  refine tt_iconst (nI 0) dL_law_16 rfl ?_
  refine tt_istore_n (L1 := [_, _, _, _, _, _, _, _]) dL_law_17 rfl (Nat.le_of_ble_eq_true rfl) rfl ?_
  exact lw_loop hN (Nat.le_of_ble_eq_true rfl) (Nat.le_of_ble_eq_true rfl) 48 0 _ _ _ _ _ rfl hL
