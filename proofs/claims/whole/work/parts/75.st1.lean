/-! the class's call and the reference's, side by side: changes -/
theorem zch_eq {h : zhp} {F s a t l p : Nat → Int32} {c : Nat} {e : Int32} : zch h F s a t l p c e = zm h (rlF F c e) s a (rlT t a c e) l p := by
  unfold zch rlF rlT
  by_cases q : e < 0
  · rw [if_pos q, if_pos q, if_pos q]
  · rw [if_neg q, if_neg q, if_neg q]
theorem ST_ch {j5 j6 : zmi} {av : List Value} {h : zhp} {N : Nat} {X : Nat → Int32} {B B2 : Nat} (hI : LI h N X B) (hB : B ≤ B2)
    (H : ∀ (S : Nat → Nat → Int32) (P PI : Nat → Nat → Nat) (o c : Nat) (F s a t l p : Nat → Int32) (n : Nat), KK h S P PI → zHi h o c → sWF (S 0) n → sim n (S 0) s → zIv s n B → 9999 ≤ B → F 3 = nI c → c ≤ 6 →
      ∃ (e : Int32) (s1 s2 : Nat → Int32) (n2 : Nat), MM j5 (.ref 4 :: av) h (zcQ h S P PI n o c e s1) ∧ sim n2 s1 s2 ∧ zIv s2 n2 B2 ∧ ∀ h1, zMo h1 → MM j6 (.ref 181 :: av) (zm h1 F s a t l p) (zfi e (zch h1 F s2 (cpA s a) t l p c e))) : ST j5 j6 av h N X B2 := by
  obtain ⟨hX, S, P, PI, o, c, m, sv, F, s, a, t, l, p, n, hC, hR, hL, h9⟩ := hI
  obtain ⟨e, s1, s2, n2, M5, g1, g2, M6⟩ := H S P PI o c F s a t l p n hC.1 hC.2.1 (sim_WF hL.2.2.1.1 hL.2.2.1.2.1) hL.2.2.1.1 hL.2.2.1.2 h9 hL.2.1.1 hL.1.2
  refine MM_post M5 (fun r h1 q => ?_)
  obtain ⟨hr, ⟨P1, PI1, hC1⟩, hs⟩ := CI_cQ hC q
  have hR1 := hR.rs hs
  refine ⟨e, hr, hX.rs hs, hR1.1.1, ?_⟩
  have M := M6 h1 hR1.1
  rw [hR1.2] at M
  refine MM_post M (fun r2 h2 q2 => ⟨q2.1, ?_⟩)
  rw [q2.2, zch_eq]
  exact LI_ref (hX.rs hs) hC1 hR1.1 (fun _ _ => rfl) (zRL_ch hL g1 g2 hB (fun k hk => cpA_at s a hk) rfl rfl hL.2.1.2.1) (Nat.le_trans h9 hB)
theorem st_set {h : zhp} {N : Nat} {X : Nat → Int32} {B : Nat} (hI : LI h N X B) (v w : Int32) : ST iX5_set iX6_set [.int v, .int w] h N X B := ST_ch hI (Nat.le_refl _) (fun S P PI o c F s a t l p n hK hH hw hs hv h9 h3 hc => by
  obtain ⟨e1, e2⟩ := sim_Set hs v w
  have M := c_X5_set hK hH hw v w
  rw [e1] at M
  exact ⟨_, _, _, n, M, e2, sSet_Iv hv, fun h1 hM => c_X6_set hM F s a t l p n hv.1 c hc h3 v w⟩)
theorem st_places {h : zhp} {N : Nat} {X : Nat → Int32} {B : Nat} (hI : LI h N X B) (v w : Int32) : ST iX5_places iX6_places [.int v, .int w] h N X B := ST_ch hI (Nat.le_refl _) (fun S P PI o c F s a t l p n hK hH hw hs hv h9 h3 hc => by
  obtain ⟨e1, e2⟩ := sim_Places hs v w
  have M := c_X5_places hK hH hw v w
  rw [e1] at M
  exact ⟨_, _, _, n, M, e2, sPlaces_Iv hv, fun h1 hM => c_X6_places hM F s a t l p n hv.1 c hc h3 v w⟩)
theorem st_put {h : zhp} {N : Nat} {X : Nat → Int32} {B : Nat} (hI : LI h N X B) (cu z st g : Int32) : ST iX5_put iX6_put [.int cu, .int z, .int st, .int g] h N X B := ST_ch hI (Nat.le_refl _) (fun S P PI o c F s a t l p n hK hH hw hs hv h9 h3 hc => by
  obtain ⟨e1, e2⟩ := sim_Puts hs hv.1 cu z st g
  have M := c_X5_put hK hH hw cu z st g
  rw [kPuts_eq (zIv_sim hs hv), e1] at M
  exact ⟨_, _, _, _, M, e2, sPuts_Iv hv, fun h1 hM => c_X6_put hM F s a t l p n hv.1 c hc h3 cu z st g⟩)
theorem st_swap {h : zhp} {N : Nat} {X : Nat → Int32} {B : Nat} (hI : LI h N X B) (v : Int32) : ST iX5_swap iX6_swap [.int v] h N X B := ST_ch hI (Nat.le_refl _) (fun S P PI o c F s a t l p n hK hH hw hs hv h9 h3 hc => by
  obtain ⟨e1, e2⟩ := sim_Sw hs hv.1 v
  have M := c_X5_swap hK hH hw v
  rw [kSw_eq (zIv_sim hs hv), e1] at M
  exact ⟨_, _, _, n, M, e2, sSw_Iv hv, fun h1 hM => c_X6_swap hM F s a t l p n hv.1 c hc h3 v⟩)
theorem st_take {h : zhp} {N : Nat} {X : Nat → Int32} {B : Nat} (hI : LI h N X B) (v : Int32) : ST iX5_take iX6_take [.int v] h N X B := ST_ch hI (Nat.le_refl _) (fun S P PI o c F s a t l p n hK hH hw hs hv h9 h3 hc => by
  obtain ⟨e1, e2⟩ := kTk_sim (zIv_sim hs hv) v
  obtain ⟨f1, f2⟩ := sim_Tk hs hv.1 v
  have e33 : nS (sTk (S 0) v).2 = nS (sTk s v).2 := by
    unfold nS
    rw [f2 33 (by omega)]
  rw [e33] at e2
  have M := c_X5_take hK hH hw v
  rw [e1, f1] at M
  exact ⟨_, _, _, _, M, sim_tr e2 f2, sTk_Iv hv, fun h1 hM => c_X6_take hM F s a t l p n hv.1 c hc h3 v⟩)
theorem st_permit {h : zhp} {N : Nat} {X : Nat → Int32} {B : Nat} (hI : LI h N X B) (hB : B + 99 ≤ 2 ^ 30) (v w : Int32) : ST iX5_permit iX6_permit [.int v, .int w] h N X (B + 99) := ST_ch hI (by omega) (fun S P PI o c F s a t l p n hK hH hw hs hv h9 h3 hc => by
  obtain ⟨e1, e2⟩ := sim_Pe hs hv.1 v w
  have M := c_X5_permit hK hH hw v w
  rw [kPe_eq (zIv_sim hs hv), e1] at M
  exact ⟨_, _, _, n, M, e2, sPe_Iv hv h9 hB, fun h1 hM => c_X6_permit hM F s a t l p n hv.1 c hc h3 v w⟩)
theorem st_oil {h : zhp} {N : Nat} {X : Nat → Int32} {B : Nat} (hI : LI h N X B) (v : Int32) : ST iX5_oil iX6_oil [.int v] h N X B := ST_ch hI (Nat.le_refl _) (fun S P PI o c F s a t l p n hK hH hw hs hv h9 h3 hc => by
  obtain ⟨e1, e2⟩ := sim_Oi hs hv.1 v
  have M := c_X5_oil hK hH hw v
  rw [e1] at M
  exact ⟨_, _, _, n, M, e2, sOi_Iv hv, fun h1 hM => c_X6_oil hM F s a t l p n hv.1 c hc h3 v⟩)
theorem st_growth {h : zhp} {N : Nat} {X : Nat → Int32} {B : Nat} (hI : LI h N X B) (v w : Int32) : ST iX5_growth iX6_growth [.int v, .int w] h N X B := ST_ch hI (Nat.le_refl _) (fun S P PI o c F s a t l p n hK hH hw hs hv h9 h3 hc => by
  obtain ⟨e1, e2⟩ := sim_Gro hs hv.1 v w
  have M := c_X5_growth hK hH hw v w
  rw [e1] at M
  exact ⟨_, _, _, n, M, e2, sGro_Iv hv, fun h1 hM => c_X6_growth hM F s a t l p n hv.1 c hc h3 v w⟩)
theorem st_pass {h : zhp} {N : Nat} {X : Nat → Int32} {B : Nat} (hI : LI h N X B) (v : Int32) : ST iX5_pass iX6_pass [.int v] h N X B := ST_ch hI (Nat.le_refl _) (fun S P PI o c F s a t l p n hK hH hw hs hv h9 h3 hc => by
  obtain ⟨e1, e2⟩ := sim_Pas hs hv v
  have M := c_X5_pass hK hH hw v
  rw [kPas_eq (zIv_sim hs hv), e1] at M
  exact ⟨_, _, _, n, M, e2, sPas_Iv hv, fun h1 hM => c_X6_pass hM F s a t l p n hv.1 c hc h3 v⟩)
