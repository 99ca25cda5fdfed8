/-! new objects: the class -/
def PB (h x : zhp) : Prop := (zT x 4 = 5 ∧ zR x 4 0 = some 5 ∧ zR x 4 1 = some 22 ∧ zR x 4 2 = some 143 ∧ zR x 4 3 = some 145 ∧ zR x 4 4 = some 146)
  ∧ (zT x 22 = 0 ∧ zR x 22 0 = some 23 ∧ zT x 23 = 10 ∧ zL x 23 = 7 ∧ ∀ r, r < 7 → zR x 23 r = some (24 + 17 * r))
  ∧ (∀ j, zI x 22 j = 0) ∧ (zT x 143 = 1 ∧ zR x 143 0 = some 144 ∧ zT x 144 = 9 ∧ zL x 144 = 60 ∧ zI x 143 1 = 0)
  ∧ (zT x 145 = 10 ∧ zL x 145 = 2) ∧ (zT x 146 = 8 ∧ zL x 146 = 2 ∧ ∀ j, zI x 146 j = 0) ∧ zTw x 5 (zs0 h) id id ∧ ∀ r, r < 7 → zTw x (24 + 17 * r) (zs0 h) id id
theorem PB_x {h x y : zhp} {k : Nat} (hs : zSx 147 145 k x y) (hp : PB h x) : PB h y := by
  obtain ⟨⟨a1, a2, a3, a4, a5, a6⟩, ⟨b1, b2, b3, b4, b5⟩, c, ⟨d1, d2, d3, d4, d5⟩, ⟨e1, e2⟩, ⟨f1, f2, f3⟩, g, i⟩ := hp
  have T : ∀ z, z < 147 → zT y z = zT x z := fun z hz => (hs z hz).1
  have L : ∀ z, z < 147 → zL y z = zL x z := fun z hz => (hs z hz).2.1
  have I : ∀ z j, z < 147 → zI y z j = zI x z j := fun z j hz => (hs z hz).2.2.1 j
  have R : ∀ z j, z < 145 → zR y z j = zR x z j := fun z j hz => (hs z (by omega)).2.2.2 j (by omega)
  exact ⟨⟨(T _ (by omega)).trans a1, (R _ _ (by omega)).trans a2, (R _ _ (by omega)).trans a3, (R _ _ (by omega)).trans a4, (R _ _ (by omega)).trans a5, (R _ _ (by omega)).trans a6⟩, ⟨(T _ (by omega)).trans b1, (R _ _ (by omega)).trans b2, (T _ (by omega)).trans b3, (L _ (by omega)).trans b4, fun r hr => (R _ _ (by omega)).trans (b5 r hr)⟩, fun j => (I _ _ (by omega)).trans (c j), ⟨(T _ (by omega)).trans d1, (R _ _ (by omega)).trans d2, (T _ (by omega)).trans d3, (L _ (by omega)).trans d4, (I _ _ (by omega)).trans d5⟩, ⟨(T _ (by omega)).trans e1, (L _ (by omega)).trans e2⟩, ⟨(T _ (by omega)).trans f1, (L _ (by omega)).trans f2, fun j => (I _ _ (by omega)).trans (f3 j)⟩, zTw_x hs (by omega) (by omega) g, fun r hr => zTw_x hs (by omega) (by omega) (i r hr)⟩
def PS (h x : zhp) (k : Nat) : Prop := zN x = 147 + 17 * k ∧ zSb 4 h x ∧ PB h x ∧ (∀ r, r < k → zR x 145 r = some (147 + 17 * r)) ∧ ∀ r, r < k → zTw x (147 + 17 * r) (zs0 h) id id
theorem PS_s {h x h1 : zhp} {k : Nat} (hp : PS h x k) (hk : k < 2) (hN : zN h1 = zN x + 17) (hb : zSb (zN x) (znw x 4 0 (fun _ => 0)) h1) (hw : zTw h1 (zN x) (zs0 (znw x 4 0 (fun _ => 0))) id id) : PS h (zsR h1 145 k (some (zN x))) (k + 1) := by
  obtain ⟨p1, p2, p3, p8, p9⟩ := hp
  have sx := zSx_mk (e := 145) (j := k) (v := some (zN x)) hb
  have sx2 : zSx 147 145 k x (zsR h1 145 k (some (zN x))) := fun y hy => sx y (by omega)
  have h0 : ∀ i, zI (znw x 4 0 (fun _ => 0)) 0 i = zI h 0 i := fun i => (show zI (znw x 4 0 (fun _ => 0)) 0 i = zI x 0 i from if_neg (by show ¬ 0 = zN x; omega)).trans ((p2 0 (by omega)).2.2 i).1
  refine ⟨by show zN h1 = _; omega, fun y hy => ?_, PB_x sx2 p3, fun r hr => ?_, fun r hr => ?_⟩
  · obtain ⟨s1, s2, s3, s4⟩ := sx y (by omega)
    exact ⟨s1.trans (p2 y hy).1, s2.trans (p2 y hy).2.1, fun k => ⟨(s3 k).trans ((p2 y hy).2.2 k).1, (s4 k (by omega)).trans ((p2 y hy).2.2 k).2⟩⟩
  · by_cases q : r = k
    · subst q
      exact (if_pos ⟨rfl, rfl⟩ : zR (zsR h1 145 r (some (zN x))) 145 r = some (zN x)).trans (by rw [p1])
    · exact ((sx 145 (by omega)).2.2.2 r (by omega)).trans (p8 r (by omega))
  · by_cases q : r = k
    · subst q
      rw [zs0_eq h0, p1] at hw
      exact zt_same (h := h1) (fun _ _ _ _ => rfl) (fun y j y1 y2 => if_neg (by omega)) (fun _ _ _ => rfl) (fun _ _ _ => rfl) hw
    · exact zTw_x sx (by omega) (by omega) (p9 r (by omega))
/-- behind town, history, pad, the row of slots and what is saved -/
theorem PS_0 {h h1 h2 : zhp} (hN : zN h = 5) (hT : zT h 4 = 5) (q2 : zN h1 = 22) (q3 : zSb 5 (znw h 4 0 (fun _ => 0)) h1) (q4 : zTw h1 5 (zs0 (znw h 4 0 (fun _ => 0))) id id) (hp : PH (znw (zsR h1 4 0 (some 5)) 0 0 (fun _ => 0)) h2 22 7) :
    PS h (zpF (zpF (zsR (zpF (znw (zsR h2 4 1 (some 22)) 1 0 (fun _ => 0)) 143 0 9 60 (fun _ => 0)) 4 2 (some 143)) 4 3 10 2 (fun _ => 0)) 4 4 8 2 (fun _ => 0)) 0 := by
  obtain ⟨p1, p2, p3, p4, p5, p6, p7, p8, p9⟩ := hp
  have n2 : zN h2 = 143 := p1
  have h0 : ∀ i, zI (znw h 4 0 (fun _ => 0)) 0 i = zI h 0 i := fun i => if_neg (by show ¬ 0 = zN h; omega)
  have s12 : ∀ y, y < 22 → zT h2 y = zT h1 y ∧ zL h2 y = zL h1 y ∧ (∀ k, zI h2 y k = zI h1 y k) ∧ ∀ k, zR h2 y k = if y = 4 ∧ k = 0 then some 5 else zR h1 y k := fun y hy => by
    obtain ⟨a1, a2, a3⟩ := p2 y hy
    have e : ¬ y = zN h1 := by omega
    exact ⟨a1.trans (if_neg e), a2.trans (if_neg e), fun k => ((a3 k).1).trans (if_neg e), fun k => ((a3 k).2).trans (if_neg e)⟩
  have s01 : ∀ y, y < 5 → zT h1 y = zT h y ∧ zL h1 y = zL h y ∧ ∀ k, zI h1 y k = zI h y k ∧ zR h1 y k = zR h y k := fun y hy => by
    obtain ⟨a1, a2, a3⟩ := q3 y hy
    have e : ¬ y = zN h := by omega
    exact ⟨a1.trans (if_neg e), a2.trans (if_neg e), fun k => ⟨((a3 k).1).trans (if_neg e), ((a3 k).2).trans (if_neg e)⟩⟩
  obtain ⟨x, hx⟩ : ∃ x, x = zpF (zpF (zsR (zpF (znw (zsR h2 4 1 (some 22)) 1 0 (fun _ => 0)) 143 0 9 60 (fun _ => 0)) 4 2 (some 143)) 4 3 10 2 (fun _ => 0)) 4 4 8 2 (fun _ => 0) := ⟨_, rfl⟩
  have T : ∀ y, zT x y = if y = 146 then 8 else if y = 145 then 10 else if y = 144 then 9 else if y = 143 then 1 else zT h2 y := fun y => by
    rw [hx]
    show (if y = zN h2 + 1 + 1 + 1 then 8 else if y = zN h2 + 1 + 1 then 10 else if y = zN h2 + 1 then 9 else if y = zN h2 then 1 else zT h2 y) = _
    rw [n2]
  have L : ∀ y, zL x y = if y = 146 then 2 else if y = 145 then 2 else if y = 144 then 60 else if y = 143 then 0 else zL h2 y := fun y => by
    rw [hx]
    show (if y = zN h2 + 1 + 1 + 1 then 2 else if y = zN h2 + 1 + 1 then 2 else if y = zN h2 + 1 then 60 else if y = zN h2 then 0 else zL h2 y) = _
    rw [n2]
  have I : ∀ y k, zI x y k = if y = 146 then 0 else if y = 145 then 0 else if y = 144 then 0 else if y = 143 then 0 else zI h2 y k := fun y k => by
    rw [hx]
    show (if y = zN h2 + 1 + 1 + 1 then 0 else if y = zN h2 + 1 + 1 then 0 else if y = zN h2 + 1 then 0 else if y = zN h2 then 0 else zI h2 y k) = _
    rw [n2]
  have R : ∀ y k, zR x y k = if y = 4 ∧ k = 4 then some 146 else if y = 146 then none else if y = 4 ∧ k = 3 then some 145 else if y = 145 then none else if y = 4 ∧ k = 2 then some 143 else if y = 143 ∧ k = 0 then some 144 else if y = 144 then none else if y = 143 then none else if y = 4 ∧ k = 1 then some 22 else zR h2 y k := fun y k => by
    rw [hx]
    show (if y = 4 ∧ k = 4 then some (zN h2 + 1 + 1 + 1) else if y = zN h2 + 1 + 1 + 1 then none else if y = 4 ∧ k = 3 then some (zN h2 + 1 + 1) else if y = zN h2 + 1 + 1 then none else if y = 4 ∧ k = 2 then some 143 else if y = 143 ∧ k = 0 then some (zN h2 + 1) else if y = zN h2 + 1 then none else if y = zN h2 then none else if y = 4 ∧ k = 1 then some 22 else zR h2 y k) = _
    rw [n2]
  have N : zN x = 147 := by
    rw [hx]
    show zN h2 + 1 + 1 + 1 + 1 = 147
    omega
  rw [← hx]
  have lowT : ∀ y, y < 143 → zT x y = zT h2 y := fun y hy => by rw [T, if_neg (by omega), if_neg (by omega), if_neg (by omega), if_neg (by omega)]
  have lowL : ∀ y, y < 143 → zL x y = zL h2 y := fun y hy => by rw [L, if_neg (by omega), if_neg (by omega), if_neg (by omega), if_neg (by omega)]
  have lowI : ∀ y k, y < 143 → zI x y k = zI h2 y k := fun y k hy => by rw [I, if_neg (by omega), if_neg (by omega), if_neg (by omega), if_neg (by omega)]
  have lowR : ∀ y k, y < 143 → y ≠ 4 → zR x y k = zR h2 y k := fun y k hy h4 => by rw [R, if_neg (by omega), if_neg (by omega), if_neg (by omega), if_neg (by omega), if_neg (by omega), if_neg (by omega), if_neg (by omega), if_neg (by omega), if_neg (by omega)]
  refine ⟨by omega, fun y hy => ⟨?_, ?_, fun k => ⟨?_, ?_⟩⟩, ⟨⟨?_, ?_, ?_, ?_, ?_, ?_⟩, ⟨?_, ?_, ?_, ?_, fun r hr => ?_⟩, fun j => ?_, ⟨?_, ?_, ?_, ?_, ?_⟩, ⟨?_, ?_⟩, ⟨?_, ?_, fun j => ?_⟩, ?_, fun r hr => ?_⟩, fun r hr => by omega, fun r hr => by omega⟩
  · rw [lowT y (by omega), (s12 y (by omega)).1, (s01 y (by omega)).1]
  · rw [lowL y (by omega), (s12 y (by omega)).2.1, (s01 y (by omega)).2.1]
  · rw [lowI y k (by omega), (s12 y (by omega)).2.2.1 k, ((s01 y (by omega)).2.2 k).1]
  · rw [lowR y k (by omega) (by omega), (s12 y (by omega)).2.2.2 k, if_neg (by omega), ((s01 y (by omega)).2.2 k).2]
  · rw [lowT 4 (by omega), (s12 4 (by omega)).1, (s01 4 (by omega)).1, hT]
  · rw [R, if_neg (by omega), if_neg (by omega), if_neg (by omega), if_neg (by omega), if_neg (by omega), if_neg (by omega), if_neg (by omega), if_neg (by omega), if_neg (by omega), (s12 4 (by omega)).2.2.2 0, if_pos ⟨rfl, rfl⟩]
  · rw [R, if_neg (by omega), if_neg (by omega), if_neg (by omega), if_neg (by omega), if_neg (by omega), if_neg (by omega), if_neg (by omega), if_neg (by omega), if_pos ⟨rfl, rfl⟩]
  · rw [R, if_neg (by omega), if_neg (by omega), if_neg (by omega), if_neg (by omega), if_pos ⟨rfl, rfl⟩]
  · rw [R, if_neg (by omega), if_neg (by omega), if_pos ⟨rfl, rfl⟩]
  · rw [R, if_pos ⟨rfl, rfl⟩]
  · rw [lowT 22 (by omega)]; exact p3
  · rw [lowR 22 0 (by omega) (by omega)]; exact p4
  · rw [lowT 23 (by omega)]; exact p6
  · rw [lowL 23 (by omega)]; exact p7
  · rw [lowR 23 r (by omega) (by omega)]; exact p8 r hr
  · rw [lowI 22 j (by omega)]; exact p5 j
  · rw [T, if_neg (by omega), if_neg (by omega), if_neg (by omega), if_pos rfl]
  · rw [R, if_neg (by omega), if_neg (by omega), if_neg (by omega), if_neg (by omega), if_neg (by omega), if_pos ⟨rfl, rfl⟩]
  · rw [T, if_neg (by omega), if_neg (by omega), if_pos rfl]
  · rw [L, if_neg (by omega), if_neg (by omega), if_pos rfl]
  · rw [I, if_neg (by omega), if_neg (by omega), if_neg (by omega), if_pos rfl]
  · rw [T, if_neg (by omega), if_pos rfl]
  · rw [L, if_neg (by omega), if_pos rfl]
  · rw [T, if_pos rfl]
  · rw [L, if_pos rfl]
  · rw [I, if_pos rfl]
  · rw [zs0_eq h0] at q4
    exact zt_same (h := h1) (fun y k y1 y2 => by rw [lowI y k (by omega), (s12 y (by omega)).2.2.1 k]) (fun y k y1 y2 => by rw [lowR y k (by omega) (by omega), (s12 y (by omega)).2.2.2 k, if_neg (by omega)]) (fun y y1 y2 => by rw [lowT y (by omega), (s12 y (by omega)).1]) (fun y y1 y2 => by rw [lowL y (by omega), (s12 y (by omega)).2.1]) q4
  · have q9 := p9 r hr
    rw [zs0_eq (h := h) (fun i => (show zI (znw (zsR h1 4 0 (some 5)) 0 0 (fun _ => 0)) 0 i = zI h1 0 i from if_neg (by show ¬ 0 = zN h1; omega)).trans ((s01 0 (by omega)).2.2 i).1)] at q9
    exact zt_same (h := h2) (fun y k y1 y2 => lowI y k (by omega)) (fun y k y1 y2 => lowR y k (by omega) (by omega)) (fun y y1 y2 => lowT y (by omega)) (fun y y1 y2 => lowL y (by omega)) q9
set_option maxRecDepth 100000 in
set_option maxHeartbeats 4000000 in
theorem g_X5_init_e {h : zhp} (hz : zL h 0 = 8) (k : Nat) (x : zhp) (hk : k + 0 = 2) (hp : PS h x k) : TT iX5_init 54 [some (.ref 4), some (.int (nI k))] [] x (142 + 17 * k) (1284 + 151 * k) (fun r0 h1 => r0 = none ∧ PS h h1 2) := by
  have : k = 2 := by omega
  subst this
  refine tt_iload_n dX5_init_54 rfl ?_
  refine tt_iconst (nI 2) dX5_init_55 rfl ?_
  refine tt_icmp_geN (tgt := 78) dX5_init_56 (by decide) (by omega) (by omega) (fun c_56 => ?_) (fun c_56 => ?_)
  · exact tt_return dX5_init_78 rfl (Nat.le_of_ble_eq_true rfl) (Nat.le_of_ble_eq_true rfl) ⟨rfl, hp⟩
  · exact absurd c_56 (by omega)
set_option maxRecDepth 100000 in
set_option maxHeartbeats 4000000 in
theorem g_X5_init_s {h : zhp} (hz : zL h 0 = 8) (r : Nat) (ih : ∀ (k : Nat) (x : zhp), k + r = 2 → PS h x k → TT iX5_init 54 [some (.ref 4), some (.int (nI k))] [] x (142 + 17 * k) (1284 + 151 * k) (fun r0 h1 => r0 = none ∧ PS h h1 2)) (k : Nat) (x : zhp) (hk : k + (r + 1) = 2) (hp : PS h x k) : TT iX5_init 54 [some (.ref 4), some (.int (nI k))] [] x (142 + 17 * k) (1284 + 151 * k) (fun r0 h1 => r0 = none ∧ PS h h1 2) := by
  have nx := hp.1
  have hz8 : zL x 0 = 8 := ((hp.2.1 0 (by omega)).2.1).trans hz
  have hB := hp.2.2.1
  refine tt_iload_n dX5_init_54 rfl ?_
  refine tt_iconst (nI 2) dX5_init_55 rfl ?_
  refine tt_icmp_geN (tgt := 78) dX5_init_56 (by decide) (by omega) (by omega) (fun c_56 => ?_) (fun c_56 => ?_)
  · exact absurd c_56 (by omega)
  · refine tt_aload_n dX5_init_59 rfl ?_
    refine tt_getR dX5_init_60 fX5_30 rfl hB.1.1 hB.1.2.2.2.2.1 ?_
    refine tt_iload_n dX5_init_63 rfl ?_
    refine tt_new (ci := 4) dX5_init_64 (by decide) (by decide) kX5_7 kI4 kN4 (by show 142 + 17 * k + 1 ≤ 176; omega) (by show 1284 + 151 * k + 10 ≤ 1586; omega) ?_
    refine tt_dup dX5_init_67 rfl ?_
    refine tt_callI (c_X4_init (a := zN x) (by omega) rfl (znw_T x 4 0 _) (fun j => znw_I x 4 0 _ j) ((zL_nw (by omega)).trans hz8)) dX5_init_68 cX5_9 rfl rfl (by decide) (by show 142 + 17 * k + 1 + 16 ≤ 176; omega) (by show 1284 + 151 * k + 10 + 141 ≤ 1586; omega) (Nat.le_of_ble_eq_true rfl) (fun r1 h1x q1 => ?_)
    obtain ⟨rfl, q2, q3, q4⟩ := q1
    refine (show TT iX5_init 71 _ _ _ (142 + 17 * k + 17) (1284 + 151 * k + 151) _ from ?_)
    refine tt_aast dX5_init_71 ((q3 145 (by omega)).1.trans ((zT_nw (by omega)).trans hB.2.2.2.2.1.1)) (Or.inl ⟨rfl, q4.1.2.1⟩) (by omega) (vp_in_nI (by rw [(q3 145 (by omega)).2.1, zL_nw (by omega), hB.2.2.2.2.1.2]; omega) (by rw [(q3 145 (by omega)).2.1, zL_nw (by omega), hB.2.2.2.2.1.2]; decide)) ?_
    rw [nI_clamp (by omega)]
    refine tt_iincN dX5_init_72 rfl rfl (Nat.le_of_ble_eq_true rfl) rfl ?_
    refine tt_goto (tgt := 54) dX5_init_75 (by decide) ?_
    have e := ih (k + 1) _ (by omega) (PS_s hp (by omega) (by rw [q2]) q3 q4)
    rw [show 142 + 17 * (k + 1) = 142 + 17 * k + 17 by omega, show 1284 + 151 * (k + 1) = 1284 + 151 * k + 151 by omega] at e
    exact e
theorem g_X5_init {h : zhp} (hz : zL h 0 = 8) : ∀ (r k : Nat) (x : zhp), k + r = 2 → PS h x k → TT iX5_init 54 [some (.ref 4), some (.int (nI k))] [] x (142 + 17 * k) (1284 + 151 * k) (fun r0 h1 => r0 = none ∧ PS h h1 2)
  | 0, k, x, hk, hp => g_X5_init_e hz k x hk hp
  | r + 1, k, x, hk, hp => g_X5_init_s hz r (g_X5_init hz r) k x hk hp
set_option maxRecDepth 100000 in
set_option maxHeartbeats 4000000 in
theorem c_X5_init {h : zhp} (hN : zN h = 5) (hT : zT h 4 = 5) (hz : zL h 0 = 8) : MM iX5_init [.ref 4] h (fun r0 h1 => r0 = none ∧ PS h h1 2) := by
  refine MM_of (by decide +kernel) (Nat.le_of_ble_eq_true rfl) ?_
  refine tt_aload_n dX5_init_0 rfl ?_
  refine tt_objInit dX5_init_1 oX5_1 oInst oCode (Nat.le_of_ble_eq_true rfl) (Nat.le_of_ble_eq_true rfl) ?_
  refine tt_aload_n dX5_init_4 rfl ?_
  refine tt_new (ci := 4) dX5_init_5 (by decide) (by decide) kX5_7 kI4 kN4 (Nat.le_of_ble_eq_true rfl) (Nat.le_of_ble_eq_true rfl) ?_
  refine tt_dup dX5_init_8 rfl ?_
  refine tt_callI (c_X4_init (a := zN h) (by omega) rfl (znw_T h 4 0 _) (fun j => znw_I h 4 0 _ j) ((zL_nw (by omega)).trans hz)) dX5_init_9 cX5_9 rfl rfl (by decide) (Nat.le_of_ble_eq_true rfl) (Nat.le_of_ble_eq_true rfl) (Nat.le_of_ble_eq_true rfl) (fun r1 h1 q1 => ?_)
  obtain ⟨rfl, q2, q3, q4⟩ := q1
  rw [hN] at q2 q3 q4
  refine (show TT iX5_init 12 _ _ _ 17 151 _ from ?_)
  rw [hN]
  refine tt_putRF dX5_init_12 fX5_10 rfl rfl rfl rfl ((q3 4 (by omega)).1.trans ((zT_nw (by omega)).trans hT)) ?_
  have n1 : zN (zsR h1 4 0 (some 5)) = 22 := q2
  have e0 : zL h1 0 = 8 := (q3 0 (by omega)).2.1.trans ((zL_nw (by omega)).trans hz)
  refine tt_aload_n dX5_init_15 rfl ?_
  refine tt_new (ci := 0) dX5_init_16 (by decide) (by decide) kX5_16 kI0 kN0 (Nat.le_of_ble_eq_true rfl) (Nat.le_of_ble_eq_true rfl) ?_
  refine tt_dup dX5_init_19 rfl ?_
  refine tt_callI (c_X0_init (a := zN (zsR h1 4 0 (some 5))) (by show 4 ≤ zN h1; omega) (by rw [zL_nw (by show 0 ≠ zN h1; omega)]; exact e0) rfl (znw_T _ 0 0 _) (fun j => znw_I _ 0 0 _ j)) dX5_init_20 cX5_18 rfl rfl (by decide) (Nat.le_of_ble_eq_true rfl) (Nat.le_of_ble_eq_true rfl) (Nat.le_of_ble_eq_true rfl) (fun r1 h2 q1 => ?_)
  obtain ⟨rfl, hp⟩ := q1
  rw [n1] at hp
  refine (show TT iX5_init 23 _ _ _ 138 1218 _ from ?_)
  rw [n1]
  have n2 : zN (zsR h2 4 1 (some 22)) = 143 := hp.1
  have n2b : zN h2 = 143 := hp.1
  have T2 : zT h2 4 = 5 := (hp.2.1 4 (by omega)).1.trans ((zT_nw (by show 4 ≠ zN h1; omega)).trans ((q3 4 (by omega)).1.trans ((zT_nw (by omega)).trans hT)))
  refine tt_putRF dX5_init_23 fX5_19 rfl rfl rfl rfl T2 ?_
  refine tt_aload_n dX5_init_26 rfl ?_
  refine tt_new (ci := 1) dX5_init_27 (by decide) (by decide) kX5_23 kI1 kN1 (Nat.le_of_ble_eq_true rfl) (Nat.le_of_ble_eq_true rfl) ?_
  refine tt_dup dX5_init_30 rfl ?_
  refine tt_callIN (c_X1_init (a := zN (zsR h2 4 1 (some 22))) (by show zN h2 ≠ zN h2 + 1; omega) (znw_T _ 1 0 _)) dX5_init_31 cX5_25 rfl rfl (by decide) (Nat.le_of_ble_eq_true rfl) (Nat.le_of_ble_eq_true rfl) (Nat.le_of_ble_eq_true rfl) (fun r1 h3x q1 => ?_)
  obtain ⟨rfl, rfl⟩ := q1
  refine (show TT iX5_init 34 _ _ _ 140 1280 _ from ?_)
  rw [n2]
  refine tt_putRF dX5_init_34 fX5_26 rfl rfl rfl rfl (zpF_T.trans ((if_neg (by show ¬ 4 = zN h2 + 1; omega)).trans ((zT_nw (by show 4 ≠ zN h2; omega)).trans T2))) ?_
  have T3 : zT (zpF (znw (zsR h2 4 1 (some 22)) 1 0 (fun _ => 0)) 143 0 9 60 (fun _ => 0)) 4 = 5 := zpF_T.trans ((if_neg (by show ¬ 4 = zN h2 + 1; omega)).trans ((zT_nw (by show 4 ≠ zN h2; omega)).trans T2))
  refine tt_aload_n dX5_init_37 rfl ?_
  refine tt_iconst (nI 2) dX5_init_38 rfl ?_
  refine tt_anew (t := 10) dX5_init_39 (Or.inl ⟨rfl, rfl⟩) kX5_7 (by decide) (Nat.le_of_ble_eq_true rfl) (Nat.le_of_ble_eq_true rfl) ?_
  refine tt_putRF dX5_init_42 fX5_30 rfl rfl rfl rfl ((zT_nw (by show 4 ≠ zN h2 + 1 + 1; omega)).trans T3) ?_
  refine tt_aload_n dX5_init_45 rfl ?_
  refine tt_iconst (nI 2) dX5_init_46 rfl ?_
  refine tt_newa (t := 8) dX5_init_47 (by decide) (by decide) rfl rfl (znmT 8 (by decide)) kA_boolean (by decide) (by decide) (Nat.le_of_ble_eq_true rfl) (Nat.le_of_ble_eq_true rfl) ?_
  refine tt_putRF dX5_init_49 fX5_34 rfl rfl rfl rfl ((zT_nw (by show 4 ≠ zN h2 + 1 + 1 + 1; omega)).trans ((zT_nw (t := 10) (n := 2) (f := fun _ => 0) (by show 4 ≠ zN h2 + 1 + 1; omega)).trans T3)) ?_
  refine tt_iconst (nI 0) dX5_init_52 rfl ?_
  refine tt_istore_n dX5_init_53 rfl (Nat.le_of_ble_eq_true rfl) rfl ?_
  exact g_X5_init hz 2 0 _ rfl (PS_0 hN hT q2 q3 q4 hp)

