/-! the class's call and the reference's, side by side: texts, undo, slots, run -/
theorem ST_x {j5 j6 : zmi} {av : List Value} {h : zhp} {N : Nat} {X : Nat → Int32} {B B2 : Nat} (hI : LI h N X B) (h9B : 9999 ≤ B → 9999 ≤ B2)
    (H : ∀ (S : Nat → Nat → Int32) (P PI : Nat → Nat → Nat) (o c m : Nat) (sv : Nat → Bool) (F s a t l p : Nat → Int32) (n : Nat), CI h S P PI o c m p sv → sWF (S 0) n → zRL S o c m sv F s t l n B → 9999 ≤ B →
      ∃ (e : Int32) (S1 : Nat → Nat → Int32) (o1 c1 m1 : Nat) (sv1 : Nat → Bool) (p1 : Nat → Int32), MM j5 (.ref 4 :: av) h (fun r h1 => r = some (.int e) ∧ (∃ P1 PI1, CI h1 S1 P1 PI1 o1 c1 m1 p1 sv1) ∧ zRs h h1) ∧ ∀ h1, zMo h1 → MM j6 (.ref 181 :: av) (zm h1 F s a t l p) (fun r h2 => r = some (.int e) ∧ ∃ F2 s2 a2 t2 l2 p2 n2, h2 = zm h1 F2 s2 a2 t2 l2 p2 ∧ (∀ k, k < m1 → p2 k = p1 k) ∧ zRL S1 o1 c1 m1 sv1 F2 s2 t2 l2 n2 B2)) : ST j5 j6 av h N X B2 := by
  obtain ⟨hX, S, P, PI, o, c, m, sv, F, s, a, t, l, p, n, hC, hR, hL, h9⟩ := hI
  obtain ⟨e, S1, o1, c1, m1, sv1, p1, M5, M6⟩ := H S P PI o c m sv F s a t l p n hC (sim_WF hL.2.2.1.1 hL.2.2.1.2.1) hL h9
  refine MM_post M5 (fun r h1 q => ?_)
  obtain ⟨hr, ⟨P1, PI1, hC1⟩, hs⟩ := q
  have hR1 := hR.rs hs
  refine ⟨e, hr, hX.rs hs, hR1.1.1, ?_⟩
  have M := M6 h1 hR1.1
  rw [hR1.2] at M
  refine MM_post M (fun r2 h2 q2 => ?_)
  obtain ⟨hr2, F2, s2, a2, t2, l2, p2, n2, rfl, hp2, hL2⟩ := q2
  exact ⟨hr2, LI_ref (hX.rs hs) hC1 hR1.1 hp2 hL2 (h9B h9)⟩
theorem CI_wi {h : zhp} {S : Nat → Nat → Int32} {P PI : Nat → Nat → Nat} {o c m : Nat} {p : Nat → Int32} {sv : Nat → Bool} (x : CI h S P PI o c m p sv) : CI (zsI h 143 1 (nI 0)) S P PI o c 0 p sv := by
  obtain ⟨hK, hH, hP, hV⟩ := x
  exact ⟨KK_sI hK _ (by omega), ⟨(zsI_ne (by omega)).trans hH.1, (zsI_ne (by omega)).trans hH.2.1, hH.2.2⟩, ⟨hP.1, zsI_at, ⟨by omega, fun k hk => absurd hk (by omega)⟩, fun k hk => absurd hk (by omega)⟩, fun i hi => (zsI_ne (by omega)).trans (hV i hi)⟩
theorem st_wipe {h : zhp} {N : Nat} {X : Nat → Int32} {B : Nat} (hI : LI h N X B) : ST iX5_wipe iX6_wipe [] h N X B := ST_x hI id (fun S P PI o c m sv F s a t l p n hC hw hL h9 => by
  refine ⟨nI m, S, o, c, 0, sv, p, MM_post (c_X5_wipe hC.1 hC.2.2.1) (fun r h1 q => ⟨q.1, ⟨P, PI, by rw [q.2]; exact CI_wi hC⟩, by rw [q.2]; exact zRs_I _ (by omega)⟩), fun h1 hM => MM_post (c_X6_wipe hM F s a t l p) (fun r h2 q => ⟨by rw [q.1, hL.2.1.2.1], upd F 7 (nI 0), s, a, t, l, p, n, q.2, fun _ _ => rfl, zRL_F hL (pk_un (by omega)) (pk_un (by omega)) pk_us⟩)⟩)
theorem zlp_snd2 {α β : Type} (f : Nat → α → α) (g : Nat → β → β) : ∀ (r k : Nat) (x : α × β), zlp (fun j (x : α × β) => (f j x.1, g j x.2)) r k x = (zlp f r k x.1, zlp g r k x.2)
  | 0, _, _ => rfl
  | r + 1, k, x => zlp_snd2 f g r (k + 1) (f k x.1, g k x.2)
theorem wFp_eq {y : Int64} {F p : Nat → Int32} {m a : Nat} : (wFp y F p m a).2 = fun i => if m ≤ i ∧ i < m + a then rCd y (a - 1 - (i - m)) else p i := by
  unfold wFp
  rw [zlp_snd2 (fun _ x => upd x 7 (x 7 + nI 1)) (fun k x => upd x (m + k) (rCd y (a - 1 - k)))]
  funext i
  show zlp (fun k x => upd x (m + k) (rCd y (a - 1 - k))) a 0 p i = _
  rw [zlp_set (b := m) (g := fun k => rCd y (a - 1 - k))]
  rw [Nat.add_zero]
theorem wFp_F {y : Int64} {F p : Nat → Int32} {m a k : Nat} (hk : k ≠ 7) : (wFp y F p m a).1 k = F k := by
  unfold wFp
  rw [zlp_snd2 (fun _ x => upd x 7 (x 7 + nI 1)) (fun k x => upd x (m + k) (rCd y (a - 1 - k)))]
  exact zlp_inv (f := fun _ (x : Nat → Int32) => upd x 7 (x 7 + nI 1)) (fun _ x => x k = F k) a 0 F rfl (fun j x _ _ q => (pk_un hk).trans q)
theorem CI_ap {h : zhp} {S : Nat → Nat → Int32} {P PI : Nat → Nat → Nat} {o c m : Nat} {p : Nat → Int32} {sv : Nat → Bool} (x : CI h S P PI o c m p sv) {y : Int64} {a : Nat} (ha : uSi y 8 0 = a) (h0 : a ≠ 0) (h60 : m + a ≤ 60) : CI (uAp h y m a) S P PI o c (m + a) (fun i => if m ≤ i ∧ i < m + a then rCd y (a - 1 - (i - m)) else p i) sv ∧ zRs h (uAp h y m a) := by
  obtain ⟨hK, hH, hP, hV⟩ := x
  obtain ⟨b1, b2, b3⟩ := uSi_ok 8 0 a ha rfl h0
  have z := zlp_inv (f := fun k x => zsI (zsI x 144 (m + k) (uCd y (a - 1 - k))) 143 1 (nI (m + k + 1))) (fun k x => KK x S P PI ∧ zHi x o c ∧ zSv x sv ∧ zRs h x ∧ zI x 143 1 = nI (m + k) ∧ ∀ j, j < m + k → zI x 144 j = if m ≤ j ∧ j < m + a then rCd y (a - 1 - (j - m)) else p j) a 0 h ⟨hK, hH, hV, zRs.refl h, hP.2.1, fun j hj => by rw [if_neg (by omega)]; exact hP.2.2.2 j hj⟩ (fun k x _ hk q => by
    obtain ⟨q1, q2, q3, q4, q5, q6⟩ := q
    refine ⟨KK_sI (KK_sI q1 _ (by omega)) _ (by omega), ⟨(zsI_ne (by omega)).trans ((zsI_ne (by omega)).trans q2.1), (zsI_ne (by omega)).trans ((zsI_ne (by omega)).trans q2.2.1), q2.2.2⟩, fun i hi => (zsI_ne (by omega)).trans ((zsI_ne (by omega)).trans (q3 i hi)), (q4.trans (zRs_I _ (by omega))).trans (zRs_I _ (by omega)), zsI_at, fun j hj => ?_⟩
    refine (zsI_ne (by omega)).trans ?_
    by_cases e : j = m + k
    · subst e
      refine zsI_at.trans ?_
      rw [if_pos (by omega), Nat.add_sub_cancel_left]
      exact uCd_eq y _ (by omega)
    · exact (zsI_ne (by omega)).trans (q6 j (by omega)))
  rw [Nat.zero_add] at z
  obtain ⟨q1, q2, q3, q4, q5, q6⟩ := z
  refine ⟨⟨q1, q2, ⟨q1.1.2.2.2.2.1, q5, ⟨h60, fun k hk => ?_⟩, q6⟩, q3⟩, q4⟩
  show ∃ d, 33 ≤ d ∧ d ≤ 126 ∧ (if m ≤ k ∧ k < m + a then rCd y (a - 1 - (k - m)) else p k) = nI d
  by_cases e : m ≤ k ∧ k < m + a
  · rw [if_pos e]
    obtain ⟨d, d1, d2, d3⟩ := b3 (a - 1 - (k - m)) (by omega) (by omega)
    exact ⟨d, d2, by omega, by rw [← uCd_eq y _ (by omega)]; exact d3⟩
  · rw [if_neg e]
    exact hP.2.2.1.2 k (by omega)
theorem st_write {h : zhp} {N : Nat} {X : Nat → Int32} {B : Nat} (hI : LI h N X B) (y : Int64) : ST iX5_write iX6_write [.long y] h N X B := ST_x hI id (fun S P PI o c m sv F s a t l p n hC hw hL h9 => by
  have M5 := c_X5_write hC.1 hC.2.2.1 y
  have M6 : ∀ h1, zMo h1 → MM iX6_write [.ref 181, .long y] (zm h1 F s a t l p) _ := fun h1 hM => c_X6_write hM F s a t l p y m hC.2.2.1.2.2.1.1 hL.2.1.2.1
  by_cases q : uSi y 8 0 = 0
  · have e1 : uPp h y m = (-2, h) := if_pos q
    have e2 : sWr y F p m = (-2, F, p) := if_pos (uSi_w0 q)
    rw [e1] at M5
    refine ⟨-2, S, o, c, m, sv, p, MM_post M5 (fun r h1 z => ⟨z.1, ⟨P, PI, by rw [z.2]; exact hC⟩, by rw [z.2]; exact zRs.refl h⟩), fun h1 hM => MM_post (M6 h1 hM) (fun r h2 z => ?_)⟩
    rw [e2] at z
    exact ⟨z.1, F, s, a, t, l, p, n, z.2, fun _ _ => rfl, hL⟩
  · obtain ⟨w1, w2⟩ := uSi_wn q
    by_cases q2 : m + uSi y 8 0 ≤ 60
    · have e1 : uPp h y m = (nI (m + uSi y 8 0), uAp h y m (uSi y 8 0)) := (if_neg q).trans (if_pos q2)
      have e2 : sWr y F p m = (nI (m + uSi y 8 0), wFp y F p m (uSi y 8 0)) := by
        unfold sWr
        rw [if_neg (by rw [w1]; decide), w2, if_pos q2]
      rw [e1] at M5
      obtain ⟨hC1, hs1⟩ := CI_ap hC (y := y) rfl q q2
      refine ⟨_, S, o, c, m + uSi y 8 0, sv, _, MM_post M5 (fun r h1 z => ⟨z.1, ⟨P, PI, by rw [z.2]; exact hC1⟩, by rw [z.2]; exact hs1⟩), fun h1 hM => MM_post (M6 h1 hM) (fun r h2 z => ?_)⟩
      rw [e2] at z
      exact ⟨z.1, _, s, a, t, l, _, n, z.2, fun k hk => by rw [wFp_eq], zRL_F hL (wFp_F (by omega)) (wFp_F (by omega)) (wFp_7 hL.2.1.2.1)⟩
    · have e1 : uPp h y m = (-4, h) := (if_neg q).trans (if_neg q2)
      have e2 : sWr y F p m = (-4, F, p) := by
        unfold sWr
        rw [if_neg (by rw [w1]; decide), w2, if_neg q2]
      rw [e1] at M5
      refine ⟨-4, S, o, c, m, sv, p, MM_post M5 (fun r h1 z => ⟨z.1, ⟨P, PI, by rw [z.2]; exact hC⟩, by rw [z.2]; exact zRs.refl h⟩), fun h1 hM => MM_post (M6 h1 hM) (fun r h2 z => ?_)⟩
      rw [e2] at z
      exact ⟨z.1, F, s, a, t, l, p, n, z.2, fun _ _ => rfl, hL⟩)
theorem st_undo {h : zhp} {N : Nat} {X : Nat → Int32} {B : Nat} (hI : LI h N X B) : ST iX5_undo iX6_undo [] h N X B := ST_x hI id (fun S P PI o c m sv F s a t l p n hC hw hL h9 => by
  obtain ⟨hK, hH, hP, hV⟩ := id hC
  have M6 : ∀ h1, zMo h1 → MM iX6_undo [.ref 181] (zm h1 F s a t l p) _ := fun h1 hM => c_X6_undo hM F s a t l p c hL.1.2 hL.2.1.1
  by_cases h0 : c = 0
  · refine ⟨-5, S, o, c, m, sv, p, MM_post (c_X5_undo_0 hK hH h0) (fun r h1 z => ⟨z.1, ⟨P, PI, by rw [z.2]; exact hC⟩, by rw [z.2]; exact zRs.refl h⟩), fun h1 hM => MM_post (M6 h1 hM) (fun r h2 z => ?_)⟩
    unfold sUd at z
    rw [if_pos h0, if_pos h0] at z
    exact ⟨z.1, F, s, a, t, l, p, n, z.2, fun _ _ => rfl, hL⟩
  · obtain ⟨k, hk, hL2⟩ := zRL_ud hL h0
    have hC1 : CI (zsI h 22 2 (nI (c - 1))) S P PI o (c - 1) m p sv := ⟨KK_sI hK _ (by omega), ⟨(zsI_ne (by omega)).trans hH.1, zsI_at, hH.2.2.1, by have := hH.2.2.2; omega⟩, ⟨hP.1, (zsI_ne (by omega)).trans hP.2.1, hP.2.2.1, fun k hk => (zsI_ne (by omega)).trans (hP.2.2.2 k hk)⟩, fun i hi => (zsI_ne (by omega)).trans (hV i hi)⟩
    have hC2 := CI_t hC1 (t := 0) (by omega) (kBm (S 0) (S (1 + (o + (c - 1)) % 7)) k) (hK.2 0 (by omega)).2.1
    refine ⟨nI (c - 1), _, o, c - 1, m, sv, p, MM_post (c_X5_undo_s hK hH hk h0) (fun r h1 z => by
      obtain ⟨z1, rfl⟩ := z
      exact ⟨z1, ⟨_, _, hC2⟩, (zRs_I _ (by omega)).trans (zRs_t (t := 0) (by omega) _ _ _)⟩), fun h1 hM => MM_post (M6 h1 hM) (fun r h2 z => ?_)⟩
    unfold sUd at z
    rw [if_neg h0, if_neg h0, hL.2.1.1, show nI c - nI 1 = nI (c - 1) from pk_sub (by omega)] at z
    rw [hL.2.1.1, show nI c - nI 1 = nI (c - 1) from pk_sub (by omega)] at hL2
    exact ⟨z.1, _, _, a, t, l, p, k, z.2, fun _ _ => rfl, hL2⟩)
theorem zrng2 {v : Int32} (h : nI 0 ≤ v ∧ v ≤ nI 1) : ∃ i, i < 2 ∧ v = nI i := by
  obtain ⟨i, hi, e⟩ := zrng (by omega) h
  exact ⟨i, by omega, e⟩
theorem st_save {h : zhp} {N : Nat} {X : Nat → Int32} {B : Nat} (hI : LI h N X B) (v : Int32) : ST iX5_save iX6_save [.int v] h N X B := ST_x hI id (fun S P PI o c m sv F s a t l p n hC hw hL h9 => by
  obtain ⟨hK, hH, hP, hV⟩ := id hC
  have M6 : ∀ h1, zMo h1 → MM iX6_save [.ref 181, .int v] (zm h1 F s a t l p) _ := fun h1 hM => c_X6_save hM F s a t l p v
  by_cases q : nI 0 ≤ v ∧ v ≤ nI 1
  · obtain ⟨i, hi, rfl⟩ := zrng2 q
    have hC1 := CI_t hC (t := 8 + i) (by omega) (kBm (S (8 + i)) (S 0) n) (hK.2 (8 + i) (by omega)).2.1
    have hC2 : CI (zsI (zt h (zbs (8 + i)) (kBm (S (8 + i)) (S 0) n) (P (8 + i)) (PI (8 + i))) 146 i (nI 1)) (up S (8 + i) (kBm (S (8 + i)) (S 0) n)) (up P (8 + i) (P (8 + i))) (up PI (8 + i) (PI (8 + i))) o c m p (up sv i true) := ⟨KK_sI hC1.1 _ (by omega), ⟨(zsI_ne (by omega)).trans hC1.2.1.1, (zsI_ne (by omega)).trans hC1.2.1.2.1, hC1.2.1.2.2⟩, ⟨hC1.2.2.1.1, (zsI_ne (by omega)).trans hC1.2.2.1.2.1, hC1.2.2.1.2.2.1, fun k hk => (zsI_ne (by omega)).trans (hC1.2.2.1.2.2.2 k hk)⟩, fun j hj => by
      by_cases e : j = i
      · subst e
        rw [up_s]
        exact zsI_at
      · rw [up_n e]
        exact (zsI_ne (by omega)).trans (hC1.2.2.2 j hj)⟩
    refine ⟨S 0 33, _, o, c, m, up sv i true, p, MM_post (c_X5_save_s hK hw i hi) (fun r h1 z => by
      obtain ⟨z1, rfl⟩ := z
      exact ⟨z1, ⟨_, _, hC2⟩, (zRs_t (by omega) _ _ _).trans (zRs_I _ (by omega))⟩), fun h1 hM => MM_post (M6 h1 hM) (fun r h2 z => ?_)⟩
    unfold sSv at z
    rw [if_pos q, if_pos q, nI_clamp (by omega)] at z
    exact ⟨by rw [z.1, hL.2.2.1.1 33 (by omega)], _, s, a, t, _, p, n, z.2, fun _ _ => rfl, zRL_sv hL hi⟩
  · refine ⟨-2, S, o, c, m, sv, p, MM_post (c_X5_save_b hK hw v q) (fun r h1 z => ⟨z.1, ⟨P, PI, by rw [z.2]; exact hC⟩, by rw [z.2]; exact zRs.refl h⟩), fun h1 hM => MM_post (M6 h1 hM) (fun r h2 z => ?_)⟩
    unfold sSv at z
    rw [if_neg q, if_neg q] at z
    exact ⟨z.1, F, s, a, t, l, p, n, z.2, fun _ _ => rfl, hL⟩)
set_option maxRecDepth 100000 in
theorem st_restore {h : zhp} {N : Nat} {X : Nat → Int32} {B : Nat} (hI : LI h N X B) (v : Int32) : ST iX5_restore iX6_restore [.int v] h N X B := ST_x hI id (fun S P PI o c m sv F s a t l p n hC hw hL h9 => by
  obtain ⟨hK, hH, hP, hV⟩ := id hC
  have M6 : ∀ h1, zMo h1 → MM iX6_restore [.ref 181, .int v] (zm h1 F s a t l p) _ := fun h1 hM => c_X6_restore hM F s a t l p c hL.1.2 hL.2.1.1 v
  by_cases q : nI 0 ≤ v ∧ v ≤ nI 1
  · obtain ⟨i, hi, rfl⟩ := zrng2 q
    by_cases q2 : sv i = true
    · obtain ⟨k, hk, g1, g2⟩ := zRL_re hL hi q2
      have M5 := c_X5_restore_s hK hH hw hV i hi q2 hk
      have e33 : kBm (S 0) (S (8 + i)) k 33 = nI k := (g1 33 (by omega)).trans g2.1.2.1
      have hk10 := hk.1
      have hneg : ¬ nI k < 0 := nI_pos (by omega)
      rw [e33] at M5
      have hL2 := zRL_ch (F2 := F) (a := cpA s a) (e := nI k) hL g1 g2 (Nat.le_refl _) (fun k hk => cpA_at s a hk) rfl rfl hL.2.1.2.1
      refine ⟨nI k, _, _, _, m, sv, p, MM_post M5 (fun r h1 z => CI_cQ hC z), fun h1 hM => MM_post (M6 h1 hM) (fun r h2 z => ?_)⟩
      unfold sRe at z
      rw [if_pos q, if_neg (fun w => (zRL_kept hL hi).mp w q2), nI_clamp (by omega)] at z
      unfold rlF rlT at hL2
      rw [if_neg hneg, if_neg hneg] at hL2
      obtain ⟨z1, z2⟩ := z
      refine ⟨?_, _, _, _, _, l, p, k, z2, fun _ _ => rfl, hL2⟩
      rw [z1, g2.1.2.1]
    · refine ⟨-5, S, o, c, m, sv, p, MM_post (c_X5_restore_n hK hw hV i hi q2) (fun r h1 z => ⟨z.1, ⟨P, PI, by rw [z.2]; exact hC⟩, by rw [z.2]; exact zRs.refl h⟩), fun h1 hM => MM_post (M6 h1 hM) (fun r h2 z => ?_)⟩
      unfold sRe at z
      rw [if_pos q, if_pos ((zRL_kept hL hi).mpr q2)] at z
      exact ⟨z.1, F, s, a, t, l, p, n, z.2, fun _ _ => rfl, hL⟩
  · refine ⟨-2, S, o, c, m, sv, p, MM_post (c_X5_restore_b hK hw v q) (fun r h1 z => ⟨z.1, ⟨P, PI, by rw [z.2]; exact hC⟩, by rw [z.2]; exact zRs.refl h⟩), fun h1 hM => MM_post (M6 h1 hM) (fun r h2 z => ?_)⟩
    unfold sRe at z
    rw [if_neg q] at z
    exact ⟨z.1, F, s, a, t, l, p, n, z.2, fun _ _ => rfl, hL⟩)
