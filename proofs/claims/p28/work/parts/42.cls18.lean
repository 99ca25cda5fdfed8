/-! new objects: a history -/
/-- cells below N stand as they were, but for place j of the row of references e -/
def zSx (N e j : Nat) (h h1 : zhp) : Prop := ∀ x, x < N → zT h1 x = zT h x ∧ zL h1 x = zL h x ∧ (∀ k, zI h1 x k = zI h x k) ∧ ∀ k, ¬ (x = e ∧ k = j) → zR h1 x k = zR h x k
theorem zTw_x {N e j : Nat} {h h1 : zhp} (hx : zSx N e j h h1) {o : Nat} {s : Nat → Int32} {p pi : Nat → Nat} (ho : o + 17 ≤ N) (he : e < o ∨ o + 17 ≤ e) (hT : zTw h o s p pi) : zTw h1 o s p pi :=
  zt_same (fun x k h1 h2 => (hx x (by omega)).2.2.1 k) (fun x k h1 h2 => (hx x (by omega)).2.2.2 k (by omega)) (fun x h1 h2 => (hx x (by omega)).1) (fun x h1 h2 => (hx x (by omega)).2.1) hT
/-- a town is made at y, and its reference kept in place j of e -/
theorem zSx_mk {x h1 : zhp} {e j : Nat} {v : Option Nat} (hb : zSb (zN x) (znw x 4 0 (fun _ => 0)) h1) : zSx (zN x) e j x (zsR h1 e j v) := fun y hy => by
  obtain ⟨a1, a2, a3⟩ := hb y hy
  refine ⟨a1.trans (zT_nw (by omega)), a2.trans (zL_nw (by omega)), fun k => ((a3 k).1).trans (if_neg (by show ¬ y = zN x; omega)), fun k hk => ?_⟩
  exact (if_neg hk).trans (((a3 k).2).trans (if_neg (by show ¬ y = zN x; omega)))
theorem zs0_eq {h h1 : zhp} (h0 : ∀ k, zI h1 0 k = zI h 0 k) : zs0 h1 = zs0 h := by
  funext i
  unfold zs0
  rw [h0]
def PH (h x : zhp) (a k : Nat) : Prop := zN x = a + 2 + 17 * k ∧ zSb a h x ∧ zT x a = 0 ∧ zR x a 0 = some (a + 1) ∧ (∀ j, zI x a j = 0) ∧ zT x (a + 1) = 10 ∧ zL x (a + 1) = 7 ∧ (∀ r, r < k → zR x (a + 1) r = some (a + 2 + 17 * r)) ∧ ∀ r, r < k → zTw x (a + 2 + 17 * r) (zs0 h) id id
theorem PH_0 {h : zhp} {a : Nat} (hN : zN h = a + 1) (hT : zT h a = 0) (hI : ∀ k, zI h a k = 0) : PH h (zpF h a 0 10 7 (fun _ => 0)) a 0 := by
  refine ⟨by show zN h + 1 = _; omega, fun x hx => ⟨zpF_T.trans (if_neg (by omega)), zpF_L.trans (if_neg (by omega)), fun k => ⟨zpF_I.trans (if_neg (by omega)), zpF_R.trans ((if_neg (by omega)).trans (if_neg (by omega)))⟩⟩, (zpF_T.trans (if_neg (by omega))).trans hT, (zpF_R.trans (if_pos ⟨rfl, rfl⟩)).trans (by rw [hN]), fun j => (zpF_I.trans (if_neg (by omega))).trans (hI j), zpF_T.trans (if_pos (by omega)), zpF_L.trans (if_pos (by omega)), fun r hr => by omega, fun r hr => by omega⟩
theorem PH_s {h x h1 : zhp} {a k : Nat} (ha : 4 ≤ a) (hp : PH h x a k) (hN : zN h1 = zN x + 17) (hb : zSb (zN x) (znw x 4 0 (fun _ => 0)) h1) (hw : zTw h1 (zN x) (zs0 (znw x 4 0 (fun _ => 0))) id id) : PH h (zsR h1 (a + 1) k (some (zN x))) a (k + 1) := by
  obtain ⟨p1, p2, p3, p4, p5, p6, p7, p8, p9⟩ := hp
  have sx := zSx_mk (e := a + 1) (j := k) (v := some (zN x)) hb
  have h0 : ∀ i, zI (znw x 4 0 (fun _ => 0)) 0 i = zI h 0 i := fun i => (show zI (znw x 4 0 (fun _ => 0)) 0 i = zI x 0 i from if_neg (by show ¬ 0 = zN x; omega)).trans ((p2 0 (by omega)).2.2 i).1
  refine ⟨by show zN h1 = _; omega, fun y hy => ?_, (sx a (by omega)).1.trans p3, ((sx a (by omega)).2.2.2 0 (by omega)).trans p4, fun j => ((sx a (by omega)).2.2.1 j).trans (p5 j), (sx (a + 1) (by omega)).1.trans p6, (sx (a + 1) (by omega)).2.1.trans p7, fun r hr => ?_, fun r hr => ?_⟩
  · obtain ⟨s1, s2, s3, s4⟩ := sx y (by omega)
    exact ⟨s1.trans (p2 y hy).1, s2.trans (p2 y hy).2.1, fun k => ⟨(s3 k).trans ((p2 y hy).2.2 k).1, (s4 k (by omega)).trans ((p2 y hy).2.2 k).2⟩⟩
  · by_cases q : r = k
    · subst q
      exact (if_pos ⟨rfl, rfl⟩ : zR (zsR h1 (a + 1) r (some (zN x))) (a + 1) r = some (zN x)).trans (by rw [p1])
    · exact ((sx (a + 1) (by omega)).2.2.2 r (by omega)).trans (p8 r (by omega))
  · by_cases q : r = k
    · subst q
      rw [zs0_eq h0, p1] at hw
      exact zt_same (h := h1) (fun _ _ _ _ => rfl) (fun y j y1 y2 => if_neg (by omega)) (fun _ _ _ => rfl) (fun _ _ _ => rfl) hw
    · exact zTw_x sx (by omega) (by omega) (p9 r (by omega))
set_option maxRecDepth 100000 in
set_option maxHeartbeats 4000000 in
theorem g_X0_init_e {h : zhp} {a : Nat} (ha : 4 ≤ a) (hz : zL h 0 = 8) (k : Nat) (x : zhp) (hk : k + 0 = 7) (hp : PH h x a k) : TT iX0_init 15 [some (.ref a), some (.int (nI k))] [] x (1 + 17 * k) (7 + 151 * k) (fun r0 h1 => r0 = none ∧ PH h h1 a 7) := by
  have : k = 7 := by omega
  subst this
  refine tt_iload_n dX0_init_15 rfl ?_
  refine tt_bipush (nI 7) dX0_init_16 rfl ?_
  refine tt_icmp_geN (tgt := 40) dX0_init_18 (by decide) (by omega) (by omega) (fun c_18 => ?_) (fun c_18 => ?_)
  · exact tt_return dX0_init_40 rfl (Nat.le_of_ble_eq_true rfl) (Nat.le_of_ble_eq_true rfl) ⟨rfl, hp⟩
  · exact absurd c_18 (by omega)
set_option maxRecDepth 100000 in
set_option maxHeartbeats 4000000 in
theorem g_X0_init_s {h : zhp} {a : Nat} (ha : 4 ≤ a) (hz : zL h 0 = 8) (r : Nat) (ih : ∀ (k : Nat) (x : zhp), k + r = 7 → PH h x a k → TT iX0_init 15 [some (.ref a), some (.int (nI k))] [] x (1 + 17 * k) (7 + 151 * k) (fun r0 h1 => r0 = none ∧ PH h h1 a 7)) (k : Nat) (x : zhp) (hk : k + (r + 1) = 7) (hp : PH h x a k) : TT iX0_init 15 [some (.ref a), some (.int (nI k))] [] x (1 + 17 * k) (7 + 151 * k) (fun r0 h1 => r0 = none ∧ PH h h1 a 7) := by
  have nx := hp.1
  have hz8 : zL x 0 = 8 := ((hp.2.1 0 (by omega)).2.1).trans hz
  refine tt_iload_n dX0_init_15 rfl ?_
  refine tt_bipush (nI 7) dX0_init_16 rfl ?_
  refine tt_icmp_geN (tgt := 40) dX0_init_18 (by decide) (by omega) (by omega) (fun c_18 => ?_) (fun c_18 => ?_)
  · exact absurd c_18 (by omega)
  · refine tt_aload_n dX0_init_21 rfl ?_
    refine tt_getR dX0_init_22 fX0_13 rfl hp.2.2.1 hp.2.2.2.1 ?_
    refine tt_iload_n dX0_init_25 rfl ?_
    refine tt_new (ci := 4) dX0_init_26 (by decide) (by decide) kX0_11 kI4 kN4 (by show 1 + 17 * k + 1 ≤ 120; omega) (by show 7 + 151 * k + 10 ≤ 1064; omega) ?_
    refine tt_dup dX0_init_29 rfl ?_
    refine tt_callI (c_X4_init (a := zN x) (by omega) rfl (znw_T x 4 0 _) (fun j => znw_I x 4 0 _ j) ((zL_nw (by omega)).trans hz8)) dX0_init_30 cX0_17 rfl rfl (by decide) (by show 1 + 17 * k + 1 + 16 ≤ 120; omega) (by show 7 + 151 * k + 10 + 141 ≤ 1064; omega) (Nat.le_of_ble_eq_true rfl) (fun r1 h1x q1 => ?_)
    obtain ⟨rfl, q2, q3, q4⟩ := q1
    refine (show TT iX0_init 33 _ _ _ (1 + 17 * k + 17) (7 + 151 * k + 151) _ from ?_)
    refine tt_aast dX0_init_33 ((q3 (a + 1) (by omega)).1.trans ((zT_nw (by omega)).trans hp.2.2.2.2.2.1)) (Or.inl ⟨rfl, q4.1.2.1⟩) (by omega) (vp_in_nI (by rw [(q3 (a + 1) (by omega)).2.1, zL_nw (by omega), hp.2.2.2.2.2.2.1]; omega) (by rw [(q3 (a + 1) (by omega)).2.1, zL_nw (by omega), hp.2.2.2.2.2.2.1]; decide)) ?_
    rw [nI_clamp (by omega)]
    refine tt_iincN dX0_init_34 rfl rfl (Nat.le_of_ble_eq_true rfl) rfl ?_
    refine tt_goto (tgt := 15) dX0_init_37 (by decide) ?_
    have e := ih (k + 1) _ (by omega) (PH_s ha hp (by rw [q2]) q3 q4)
    rw [show 1 + 17 * (k + 1) = 1 + 17 * k + 17 by omega, show 7 + 151 * (k + 1) = 7 + 151 * k + 151 by omega] at e
    exact e
theorem g_X0_init {h : zhp} {a : Nat} (ha : 4 ≤ a) (hz : zL h 0 = 8) : ∀ (r k : Nat) (x : zhp), k + r = 7 → PH h x a k → TT iX0_init 15 [some (.ref a), some (.int (nI k))] [] x (1 + 17 * k) (7 + 151 * k) (fun r0 h1 => r0 = none ∧ PH h h1 a 7)
  | 0, k, x, hk, hp => g_X0_init_e ha hz k x hk hp
  | r + 1, k, x, hk, hp => g_X0_init_s ha hz r (g_X0_init ha hz r) k x hk hp
set_option maxRecDepth 100000 in
set_option maxHeartbeats 4000000 in
theorem c_X0_init {h : zhp} {a : Nat} (ha : 4 ≤ a) (hz : zL h 0 = 8) (hN : zN h = a + 1) (hT : zT h a = 0) (hI : ∀ k, zI h a k = 0) : MM iX0_init [.ref a] h (fun r0 h1 => r0 = none ∧ PH h h1 a 7) := by
  refine MM_of (by decide +kernel) (Nat.le_of_ble_eq_true rfl) ?_
  refine tt_aload_n dX0_init_0 rfl ?_
  refine tt_objInit dX0_init_1 oX0_3 oInst oCode (Nat.le_of_ble_eq_true rfl) (Nat.le_of_ble_eq_true rfl) ?_
  refine tt_aload_n dX0_init_4 rfl ?_
  refine tt_bipush (nI 7) dX0_init_5 rfl ?_
  refine tt_anew (t := 10) dX0_init_7 (Or.inl ⟨rfl, rfl⟩) kX0_11 (by decide) (Nat.le_of_ble_eq_true rfl) (Nat.le_of_ble_eq_true rfl) ?_
  refine tt_putRF dX0_init_10 fX0_13 rfl rfl rfl rfl ((zT_nw (by omega)).trans hT) ?_
  refine tt_iconst (nI 0) dX0_init_13 rfl ?_
  refine tt_istore_n dX0_init_14 rfl (Nat.le_of_ble_eq_true rfl) rfl ?_
  exact g_X0_init ha hz 7 0 _ rfl (PH_0 hN hT hI)

