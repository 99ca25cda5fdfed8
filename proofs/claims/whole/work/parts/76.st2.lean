/-! the class's call and the reference's, side by side: readings, what if, fault -/
theorem zSm.refl (h : zhp) : zSm h h := ⟨Nat.le_refl _, fun _ _ => ⟨rfl, rfl, fun _ => ⟨rfl, rfl⟩⟩⟩
theorem ST_rd {j5 j6 : zmi} {av : List Value} {h : zhp} {N : Nat} {X : Nat → Int32} {B : Nat} (hI : LI h N X B)
    (H : ∀ (S : Nat → Nat → Int32) (P PI : Nat → Nat → Nat) (o c m : Nat) (F s a t l p : Nat → Int32) (n : Nat), KK h S P PI → zHi h o c → zPd h p m → sWF (S 0) n → sim n (S 0) s → zIv s n B → F 3 = nI c → F 7 = nI m →
      ∃ (e : Int32), MM j5 (.ref 4 :: av) h (fun r h1 => r = some (.int e) ∧ zSm h h1) ∧ ∀ h1, zMo h1 → MM j6 (.ref 181 :: av) (zm h1 F s a t l p) (fun r h2 => r = some (.int e) ∧ ∃ F2 s2 a2, h2 = zm h1 F2 s2 a2 t l p ∧ F2 3 = F 3 ∧ F2 5 = F 5 ∧ F2 7 = F 7 ∧ ∀ k, k < 135 → s2 k = s k)) : ST j5 j6 av h N X B := by
  obtain ⟨hX, S, P, PI, o, c, m, sv, F, s, a, t, l, p, n, hC, hR, hL, h9⟩ := hI
  obtain ⟨e, M5, M6⟩ := H S P PI o c m F s a t l p n hC.1 hC.2.1 hC.2.2.1 (sim_WF hL.2.2.1.1 hL.2.2.1.2.1) hL.2.2.1.1 hL.2.2.1.2 hL.2.1.1 hL.2.1.2.1
  refine MM_post M5 (fun r h1 q => ?_)
  obtain ⟨hr, hs⟩ := q
  have hR1 := hR.rs (zRs_sm hs)
  refine ⟨e, hr, hX.rs (zRs_sm hs), hR1.1.1, ?_⟩
  have M := M6 h1 hR1.1
  rw [hR1.2] at M
  refine MM_post M (fun r2 h2 q2 => ?_)
  obtain ⟨hr2, F2, s2, a2, rfl, f3, f5, f7, hs2⟩ := q2
  exact ⟨hr2, LI_ref (hX.rs (zRs_sm hs)) (hC.sm hs) hR1.1 (fun _ _ => rfl) (zRL_s (zRL_F hL f3 f5 (f7.trans hL.2.1.2.1)) hs2) h9⟩
theorem pf_h {h : zhp} {e : Int32} {r : Option Value} {h1 : zhp} (q : zfi e h r h1) : r = some (.int e) ∧ zSm h h1 := ⟨q.1, by rw [q.2]; exact zSm.refl h⟩
theorem pf_r {h : zhp} {F s a t l p : Nat → Int32} {e : Int32} {r : Option Value} {h1 : zhp} (q : zfi e (zm h F s a t l p) r h1) : r = some (.int e) ∧ ∃ F2 s2 a2, h1 = zm h F2 s2 a2 t l p ∧ F2 3 = F 3 ∧ F2 5 = F 5 ∧ F2 7 = F 7 ∧ ∀ k, k < 135 → s2 k = s k := ⟨q.1, F, s, a, q.2, rfl, rfl, rfl, fun _ _ => rfl⟩
theorem st_skip {h : zhp} {N : Nat} {X : Nat → Int32} {B : Nat} (hI : LI h N X B) (v w : Int32) : ST iX5_skip iX6_skip [.int v, .int w] h N X B := ST_rd hI (fun S P PI o c m F s a t l p n hK hH hP hw hs hv h3 h7 => by
  refine ⟨sSk s v w, ?_, fun h1 hM => MM_post (c_X6_skip hM F s a t l p n hv.1 v w) (fun _ _ => pf_r)⟩
  by_cases q : nI 0 ≤ v ∧ v ≤ S 0 33 - nI 1
  · obtain ⟨j, hj, rfl⟩ := zskip hw.1 hw.2.1 q
    have M := c_X5_skip_y hK hw j hj w
    rw [rd_Te hs hv.1 hj w] at M
    exact MM_post M (fun _ _ => pf_h)
  · have e : sSk s v w = -1 := if_neg (by rw [← hs 33 (by omega)]; exact q)
    rw [e]
    exact MM_post (c_X5_skip_n hK hw v q w) (fun _ _ => pf_h))
theorem st_street {h : zhp} {N : Nat} {X : Nat → Int32} {B : Nat} (hI : LI h N X B) (v w : Int32) : ST iX5_street iX6_street [.int v, .int w] h N X B := ST_rd hI (fun S P PI o c m F s a t l p n hK hH hP hw hs hv h3 h7 => by
  have M := c_X5_street hK hw v w
  rw [rd_Str hs hv v w] at M
  exact ⟨_, MM_post M (fun _ _ => pf_h), fun h1 hM => MM_post (c_X6_street hM F s a t l p n hv.1 v w) (fun _ _ => pf_r)⟩)
theorem st_customer {h : zhp} {N : Nat} {X : Nat → Int32} {B : Nat} (hI : LI h N X B) (v w : Int32) : ST iX5_customer iX6_customer [.int v, .int w] h N X B := ST_rd hI (fun S P PI o c m F s a t l p n hK hH hP hw hs hv h3 h7 => by
  have M := c_X5_customer hK hw v w
  rw [rd_Cus hs v w] at M
  exact ⟨_, MM_post M (fun _ _ => pf_h), fun h1 hM => MM_post (c_X6_customer hM F s a t l p n hv.1 v w) (fun _ _ => pf_r)⟩)
theorem st_count {h : zhp} {N : Nat} {X : Nat → Int32} {B : Nat} (hI : LI h N X B) (v : Int32) : ST iX5_count iX6_count [.int v] h N X B := ST_rd hI (fun S P PI o c m F s a t l p n hK hH hP hw hs hv h3 h7 => by
  have M := c_X5_count hK hH hw hP v
  rw [rd_Num hs hv h7 h3 v] at M
  exact ⟨_, MM_post M (fun _ _ => pf_h), fun h1 hM => MM_post (c_X6_count hM F s a t l p n hv.1 v) (fun _ _ => pf_r)⟩)
theorem st_untilFull {h : zhp} {N : Nat} {X : Nat → Int32} {B : Nat} (hI : LI h N X B) (v : Int32) : ST iX5_untilFull iX6_untilFull [.int v] h N X B := ST_rd hI (fun S P PI o c m F s a t l p n hK hH hP hw hs hv h3 h7 => by
  refine ⟨sUf s v, ?_, fun h1 hM => MM_post (c_X6_untilFull hM F s a t l p n hv.1 v) (fun _ _ => pf_r)⟩
  by_cases q : nI 0 ≤ v ∧ v ≤ S 0 33 - nI 1
  · obtain ⟨j, hj, rfl⟩ := zskip hw.1 hw.2.1 q
    have M := c_X5_untilFull_y hK hw j hj
    rw [rd_Uf hs hv hj] at M
    exact MM_post M (fun _ _ => pf_h)
  · have e : sUf s v = -1 := if_neg (by rw [← hs 33 (by omega)]; exact q)
    rw [e]
    exact MM_post (c_X5_untilFull_n hK hw v q) (fun _ _ => pf_h))
theorem st_untilFine {h : zhp} {N : Nat} {X : Nat → Int32} {B : Nat} (hI : LI h N X B) (v : Int32) : ST iX5_untilFine iX6_untilFine [.int v] h N X B := ST_rd hI (fun S P PI o c m F s a t l p n hK hH hP hw hs hv h3 h7 => by
  refine ⟨sUn s v, ?_, fun h1 hM => MM_post (c_X6_untilFine hM F s a t l p n hv.1 v) (fun _ _ => pf_r)⟩
  by_cases q : nI 0 ≤ v ∧ v ≤ S 0 33 - nI 1
  · obtain ⟨j, hj, rfl⟩ := zskip hw.1 hw.2.1 q
    have M := c_X5_untilFine_y hK hw j hj
    rw [rd_Un hs hv hj] at M
    exact MM_post M (fun _ _ => pf_h)
  · have e : sUn s v = -1 := if_neg (by rw [← hs 33 (by omega)]; exact q)
    rw [e]
    exact MM_post (c_X5_untilFine_n hK hw v q) (fun _ _ => pf_h))
theorem st_cost {h : zhp} {N : Nat} {X : Nat → Int32} {B : Nat} (hI : LI h N X B) (v w : Int32) : ST iX5_cost iX6_cost [.int v, .int w] h N X B := ST_rd hI (fun S P PI o c m F s a t l p n hK hH hP hw hs hv h3 h7 => by
  have M := c_X5_cost hK hw v w
  rw [rd_Co (z := a) hs hv v w] at M
  refine ⟨_, MM_post M (fun _ _ => pf_h), fun h1 hM => MM_post (c_X6_cost hM F s a t l p n hv.1 v w) (fun r h2 q => ?_)⟩
  refine ⟨q.1, ?_⟩
  rw [q.2]
  unfold sCoH
  split
  · split
    · exact ⟨F, _, _, rfl, rfl, rfl, rfl, fun k hk => (cpA_at _ _ hk).trans (cpA_at s a hk)⟩
    · exact ⟨F, s, a, rfl, rfl, rfl, rfl, fun _ _ => rfl⟩
  · exact ⟨F, s, a, rfl, rfl, rfl, rfl, fun _ _ => rfl⟩)
theorem st_bestSwap {h : zhp} {N : Nat} {X : Nat → Int32} {B : Nat} (hI : LI h N X B) (v d w : Int32) : ST iX5_bestSwap iX6_bestSwap [.int v, .int d, .int w] h N X B := ST_rd hI (fun S P PI o c m F s a t l p n hK hH hP hw hs hv h3 h7 => by
  refine ⟨sBs s v d w, ?_, fun h1 hM => MM_post (c_X6_bestSwap hM F s a t l p n hv.1 v d w) (fun _ _ => pf_r)⟩
  by_cases q : nI 0 ≤ v ∧ v ≤ S 0 33 - nI 1
  · obtain ⟨j, hj, rfl⟩ := zskip hw.1 hw.2.1 q
    have M := c_X5_bestSwap_y hK hw j hj d w
    rw [rd_Bw hs hv hj d w] at M
    exact MM_post M (fun _ _ => pf_h)
  · have e : sBs s v d w = -1 := if_neg (by rw [← hs 33 (by omega)]; exact q)
    rw [e]
    exact MM_post (c_X5_bestSwap_n hK hw v q d w) (fun _ _ => pf_h))
theorem st_dearest {h : zhp} {N : Nat} {X : Nat → Int32} {B : Nat} (hI : LI h N X B) : ST iX5_dearest iX6_dearest [] h N X B := ST_rd hI (fun S P PI o c m F s a t l p n hK hH hP hw hs hv h3 h7 => by
  have M := c_X5_dearest hK hw
  rw [rd_De hs hv.1] at M
  exact ⟨_, MM_post M (fun _ _ => pf_h), fun h1 hM => MM_post (c_X6_dearest hM F s a t l p n hv.1) (fun _ _ => pf_r)⟩)
theorem pf_f {h : zhp} (hN : 187 ≤ zN h) {e : Int32} {r : Option Value} {h1 : zhp} (q : zrQ (zrn h) (zN h) e r h1) : r = some (.int e) ∧ zSm h h1 := by
  obtain ⟨hr, R1, rfl⟩ := q
  exact ⟨hr, (zSm_rn hN).trans (zSm_r R1 hN)⟩
theorem pf_rf {h : zhp} {F s a t l p : Nat → Int32} {m : Nat} {e : Int32} {r : Option Value} {h1 : zhp} (h7 : F 7 = nI m) (q : zfQ h s a t l p (F 3) (F 5) m e r h1) : r = some (.int e) ∧ ∃ F2 s2 a2, h1 = zm h F2 s2 a2 t l p ∧ F2 3 = F 3 ∧ F2 5 = F 5 ∧ F2 7 = F 7 ∧ ∀ k, k < 135 → s2 k = s k := by
  obtain ⟨hr, F1, e1, f3, f5, f7⟩ := q
  exact ⟨hr, F1, s, a, e1, f3, f5, f7.trans h7.symm, fun _ _ => rfl⟩
theorem st_fault {h : zhp} {N : Nat} {X : Nat → Int32} {B : Nat} (hI : LI h N X B) : ST iX5_fault iX6_fault [] h N X B := ST_rd hI (fun S P PI o c m F s a t l p n hK hH hP hw hs hv h3 h7 => ⟨fT p m, MM_post (c_X5_fault hK hP) (fun _ _ => pf_f hK.1.1), fun h1 hM => MM_post (c_X6_fault hM F s a t l p m hP.2.2.1 h7) (fun _ _ => pf_rf h7)⟩)
