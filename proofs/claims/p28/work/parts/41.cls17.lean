/-! new objects: skip, town, pad -/
theorem zT_nw {h : zhp} {t n x : Nat} {f : Nat → Int32} (hx : x ≠ zN h) : zT (znw h t n f) x = zT h x := if_neg hx
theorem zL_nw {h : zhp} {t n x : Nat} {f : Nat → Int32} (hx : x ≠ zN h) : zL (znw h t n f) x = zL h x := if_neg hx
set_option maxRecDepth 100000 in
set_option maxHeartbeats 4000000 in
theorem c_X3_init (h : zhp) (a : Nat) : MM iX3_init [.ref a] h (zfn h) := by
  refine MM_of (by decide +kernel) (Nat.le_of_ble_eq_true rfl) ?_
  refine tt_aload_n dX3_init_0 rfl ?_
  refine tt_objInit dX3_init_1 oX3_3 oInst oCode (Nat.le_of_ble_eq_true rfl) (Nat.le_of_ble_eq_true rfl) ?_
  exact tt_return dX3_init_4 rfl (Nat.zero_le _) (Nat.zero_le _) ⟨rfl, rfl⟩
set_option maxRecDepth 100000 in
set_option maxHeartbeats 4000000 in
theorem c_X4_init {h : zhp} {a : Nat} (ha : 4 ≤ a) (hN : zN h = a + 1) (hT : zT h a = 4) (hI0 : ∀ k, zI h a k = 0) (hz : zL h 0 = 8) : MM iX4_init [.ref a] h (fun r h1 => r = none ∧ zN h1 = a + 17 ∧ zSb a h h1 ∧ zTw h1 a (zs0 h) id id) := by
  have p0 := PX_0 hN hT hI0
  refine MM_of (by decide +kernel) (Nat.le_of_ble_eq_true rfl) ?_
  refine tt_aload_n dX4_init_0 rfl ?_
  refine tt_objInit dX4_init_1 oX4_3 oInst oCode (Nat.le_of_ble_eq_true rfl) (Nat.le_of_ble_eq_true rfl) ?_
  refine tt_aload_n dX4_init_4 rfl ?_
  refine tt_getsN (j0 := 0) dX4_init_5 (by decide) (fun U q => q.2.2.2.2.2.2.1) ?_
  refine tt_clone dX4_init_8 (by decide) hz jX4_13 jcl2 jcl3 jcl4 jcl5 (Nat.le_of_ble_eq_true rfl) (Nat.le_of_ble_eq_true rfl) (Nat.le_of_ble_eq_true rfl) (Nat.le_of_ble_eq_true rfl) ?_
  refine tt_castA dX4_init_11 (znw_T _ _ _ _) (by omega) kX4_14 ?_
  refine tt_putRF dX4_init_14 fX4_18 rfl rfl rfl rfl ((zT_nw (by omega)).trans p0.2.2.1) ?_
  obtain ⟨x1, hx1⟩ : ∃ x, x = zpF h a 0 (ztg (1 + 0)) (ztl2 (1 + 0)) (zI h 0) := ⟨_, rfl⟩
  have p1 := PX_a p0 (by omega) (f := (zI h 0)) (fun _ => rfl)
  rw [← hx1] at p1
  have n1 : zN x1 = _ := p1.1
  refine tt_hp hx1.symm ?_
  refine tt_aload_n dX4_init_17 rfl ?_
  refine tt_iconst (nI 5) dX4_init_18 rfl ?_
  refine tt_newa (t := 7) dX4_init_19 (by decide) (by decide) rfl rfl (znmT 7 (by decide)) kA_int (by decide) (by decide) (Nat.le_of_ble_eq_true rfl) (Nat.le_of_ble_eq_true rfl) ?_
  refine tt_putRF dX4_init_21 fX4_23 rfl rfl rfl rfl ((zT_nw (by omega)).trans p1.2.2.1) ?_
  obtain ⟨x2, hx2⟩ : ∃ x, x = zpF x1 a 1 (ztg (1 + 1)) (ztl2 (1 + 1)) (fun _ => 0) := ⟨_, rfl⟩
  have p2 := PX_a p1 (by omega) (f := (fun _ => 0)) (fun _ => rfl)
  rw [← hx2] at p2
  have n2 : zN x2 = _ := p2.1
  refine tt_hp hx2.symm ?_
  refine tt_aload_n dX4_init_24 rfl ?_
  refine tt_bipush (nI 6) dX4_init_25 rfl ?_
  refine tt_newa (t := 7) dX4_init_27 (by decide) (by decide) rfl rfl (znmT 7 (by decide)) kA_int (by decide) (by decide) (Nat.le_of_ble_eq_true rfl) (Nat.le_of_ble_eq_true rfl) ?_
  refine tt_putRF dX4_init_29 fX4_26 rfl rfl rfl rfl ((zT_nw (by omega)).trans p2.2.2.1) ?_
  obtain ⟨x3, hx3⟩ : ∃ x, x = zpF x2 a 2 (ztg (1 + 2)) (ztl2 (1 + 2)) (fun _ => 0) := ⟨_, rfl⟩
  have p3 := PX_a p2 (by omega) (f := (fun _ => 0)) (fun _ => rfl)
  rw [← hx3] at p3
  have n3 : zN x3 = _ := p3.1
  refine tt_hp hx3.symm ?_
  refine tt_aload_n dX4_init_32 rfl ?_
  refine tt_bipush (nI 6) dX4_init_33 rfl ?_
  refine tt_newa (t := 7) dX4_init_35 (by decide) (by decide) rfl rfl (znmT 7 (by decide)) kA_int (by decide) (by decide) (Nat.le_of_ble_eq_true rfl) (Nat.le_of_ble_eq_true rfl) ?_
  refine tt_putRF dX4_init_37 fX4_29 rfl rfl rfl rfl ((zT_nw (by omega)).trans p3.2.2.1) ?_
  obtain ⟨x4, hx4⟩ : ∃ x, x = zpF x3 a 3 (ztg (1 + 3)) (ztl2 (1 + 3)) (fun _ => 0) := ⟨_, rfl⟩
  have p4 := PX_a p3 (by omega) (f := (fun _ => 0)) (fun _ => rfl)
  rw [← hx4] at p4
  have n4 : zN x4 = _ := p4.1
  refine tt_hp hx4.symm ?_
  refine tt_aload_n dX4_init_40 rfl ?_
  refine tt_bipush (nI 6) dX4_init_41 rfl ?_
  refine tt_newa (t := 7) dX4_init_43 (by decide) (by decide) rfl rfl (znmT 7 (by decide)) kA_int (by decide) (by decide) (Nat.le_of_ble_eq_true rfl) (Nat.le_of_ble_eq_true rfl) ?_
  refine tt_putRF dX4_init_45 fX4_32 rfl rfl rfl rfl ((zT_nw (by omega)).trans p4.2.2.1) ?_
  obtain ⟨x5, hx5⟩ : ∃ x, x = zpF x4 a 4 (ztg (1 + 4)) (ztl2 (1 + 4)) (fun _ => 0) := ⟨_, rfl⟩
  have p5 := PX_a p4 (by omega) (f := (fun _ => 0)) (fun _ => rfl)
  rw [← hx5] at p5
  have n5 : zN x5 = _ := p5.1
  refine tt_hp hx5.symm ?_
  refine tt_aload_n dX4_init_48 rfl ?_
  refine tt_bipush (nI 10) dX4_init_49 rfl ?_
  refine tt_anew (t := 11) dX4_init_51 (Or.inr ⟨rfl, rfl⟩) kX4_35 (by decide) (Nat.le_of_ble_eq_true rfl) (Nat.le_of_ble_eq_true rfl) ?_
  refine tt_putRF dX4_init_54 fX4_37 rfl rfl rfl rfl ((zT_nw (by omega)).trans p5.2.2.1) ?_
  obtain ⟨x6, hx6⟩ : ∃ x, x = zpF x5 a 5 (ztg (1 + 5)) (ztl2 (1 + 5)) (fun _ => 0) := ⟨_, rfl⟩
  have p6 := PX_a p5 (by omega) (f := (fun _ => 0)) (fun _ => rfl)
  rw [← hx6] at p6
  have n6 : zN x6 = _ := p6.1
  refine tt_hp hx6.symm ?_
  refine tt_iconst (nI 0) dX4_init_57 rfl ?_
  refine tt_istore_n dX4_init_58 rfl (Nat.le_of_ble_eq_true rfl) rfl ?_
  refine tt_loop (fun k x => zsI x (a + 2) k (nI 2)) 5 (fun k x => PX h x a 6 0 k) (fun k x => [some (.ref a), some (.int (nI k))]) (fun _ x => x) x6 p6 (fun k x _ hx => PX_p hx) (fun hx => ?_) (fun k x hk hI ih => ?_)
  · generalize zlp _ 5 0 x6 = y0 at hx ⊢
    refine tt_iload_n dX4_init_59 rfl ?_
    refine tt_iconst (nI 5) dX4_init_60 rfl ?_
    refine tt_icmp_geN (tgt := 77) dX4_init_61 (by decide) (by omega) (by omega) (fun c_61 => ?_) (fun c_61 => ?_)
    · refine tt_iconst (nI 0) dX4_init_77 rfl ?_
      refine tt_istore_n dX4_init_78 rfl (Nat.le_of_ble_eq_true rfl) rfl ?_
      refine tt_loopC (fun k x => zpF x (a + 6) k 3 0 (fun _ => 0)) 10 (fun k x => PX h x a 6 k 5) (fun k x => [some (.ref a), some (.int (nI k))]) (fun _ x => x) (fun k => 6 + k) (fun k => 41 + 10 * k) y0 hx (fun k x _ hx => PX_s hx) (fun hx => ?_) (fun k x hk hI ih => ?_)
      · generalize zlp _ 10 0 y0 = y1 at hx ⊢
        refine tt_iload_n dX4_init_79 rfl ?_
        refine tt_bipush (nI 10) dX4_init_80 rfl ?_
        refine tt_icmp_geN (tgt := 104) dX4_init_82 (by decide) (by omega) (by omega) (fun c_82 => ?_) (fun c_82 => ?_)
        · exact tt_return dX4_init_104 rfl (Nat.le_of_ble_eq_true rfl) (Nat.le_of_ble_eq_true rfl) ⟨rfl, hx.1, hx.2.1, PX_w (by omega) hx⟩
        · exact absurd c_82 (by omega)
      · have nx : zN x = _ := hI.1
        refine tt_iload_n dX4_init_79 rfl ?_
        refine tt_bipush (nI 10) dX4_init_80 rfl ?_
        refine tt_icmp_geN (tgt := 104) dX4_init_82 (by decide) (by omega) (by omega) (fun c_82 => ?_) (fun c_82 => ?_)
        · exact absurd c_82 (by omega)
        · refine tt_aload_n dX4_init_85 rfl ?_
          refine tt_getR dX4_init_86 fX4_37 rfl hI.2.2.1 (b := a + 6) (hI.2.2.2.1 5 (by omega)) ?_
          refine tt_iload_n dX4_init_89 rfl ?_
          refine tt_new (ci := 3) dX4_init_90 (by decide) (by decide) kX4_35 kI3 kN3 (by show 6 + k + 1 ≤ 16; omega) (by show 41 + 10 * k + 10 ≤ 141; omega) ?_
          refine tt_dup dX4_init_93 rfl ?_
          refine tt_callIN (c_X3_init _ _) dX4_init_94 cX4_41 rfl rfl (by decide) (by show 6 + k + 1 + 0 ≤ 16; omega) (by show 41 + 10 * k + 10 + 0 ≤ 141; omega) (Nat.le_of_ble_eq_true rfl) (fun r1 h1x q1 => ?_)
          obtain ⟨rfl, rfl⟩ := q1
          refine (show TT iX4_init 97 _ _ _ (6 + k + 1) (41 + 10 * k + 10) _ from ?_)
          refine tt_aast dX4_init_97 ((zT_nw (by omega)).trans (hI.2.2.2.2.1 6 (by omega) (by omega)).1) (Or.inr ⟨rfl, znw_T _ _ _ _⟩) (by omega) (vp_in_nI (by rw [zL_nw (by omega), (hI.2.2.2.2.1 6 (by omega) (by omega)).2]; exact hk) (by rw [zL_nw (by omega), (hI.2.2.2.2.1 6 (by omega) (by omega)).2]; decide)) ?_
          rw [nI_clamp (by omega)]
          refine tt_iincN dX4_init_98 rfl rfl (Nat.le_of_ble_eq_true rfl) rfl ?_
          refine tt_goto (tgt := 79) dX4_init_101 (by decide) ?_
          exact ih
    · exact absurd c_61 (by omega)
  · refine tt_iload_n dX4_init_59 rfl ?_
    refine tt_iconst (nI 5) dX4_init_60 rfl ?_
    refine tt_icmp_geN (tgt := 77) dX4_init_61 (by decide) (by omega) (by omega) (fun c_61 => ?_) (fun c_61 => ?_)
    · exact absurd c_61 (by omega)
    · refine tt_aload_n dX4_init_64 rfl ?_
      refine tt_getR dX4_init_65 fX4_23 rfl hI.2.2.1 (b := a + 2) (hI.2.2.2.1 1 (by omega)) ?_
      refine tt_iload_n dX4_init_68 rfl ?_
      refine tt_iconst (nI 2) dX4_init_69 rfl ?_
      refine tt_iast dX4_init_70 (hI.2.2.2.2.1 2 (by omega) (by omega)).1 (by omega) (vp_in_nI (by rw [(hI.2.2.2.2.1 2 (by omega) (by omega)).2]; exact hk) (by rw [(hI.2.2.2.2.1 2 (by omega) (by omega)).2]; decide)) ?_
      rw [nI_clamp (by omega)]
      refine tt_iincN dX4_init_71 rfl rfl (Nat.le_of_ble_eq_true rfl) rfl ?_
      refine tt_goto (tgt := 59) dX4_init_74 (by decide) ?_
      exact ih
set_option maxRecDepth 100000 in
set_option maxHeartbeats 4000000 in
theorem c_X1_init {h : zhp} {a : Nat} (ha : a ≠ zN h) (hT : zT h a = 1) : MM iX1_init [.ref a] h (zfn (zpF h a 0 9 60 (fun _ => 0))) := by
  refine MM_of (by decide +kernel) (Nat.le_of_ble_eq_true rfl) ?_
  refine tt_aload_n dX1_init_0 rfl ?_
  refine tt_objInit dX1_init_1 oX1_3 oInst oCode (Nat.le_of_ble_eq_true rfl) (Nat.le_of_ble_eq_true rfl) ?_
  refine tt_aload_n dX1_init_4 rfl ?_
  refine tt_bipush (nI 60) dX1_init_5 rfl ?_
  refine tt_newa (t := 9) dX1_init_7 (by decide) (by decide) rfl rfl (znmT 9 (by decide)) kA_char (by decide) (by decide) (Nat.le_of_ble_eq_true rfl) (Nat.le_of_ble_eq_true rfl) ?_
  refine tt_putRF dX1_init_9 fX1_9 rfl rfl rfl rfl ((zT_nw ha).trans hT) ?_
  exact tt_return dX1_init_12 rfl (Nat.le_of_ble_eq_true rfl) (Nat.le_of_ble_eq_true rfl) ⟨rfl, rfl⟩

