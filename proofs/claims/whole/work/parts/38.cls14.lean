/-! the class: fault, run -/
theorem zSm_new {h : zhp} (hN : 187 ≤ zN h) (t n : Nat) (f : Nat → Int32) : zSm h (znw h t n f) := ⟨Nat.le_succ _, fun x hx => ⟨if_neg (by show ¬ x = zN h; omega), if_neg (by show ¬ x = zN h; omega), fun k => ⟨if_neg (by show ¬ x = zN h; omega), if_neg (by show ¬ x = zN h; omega)⟩⟩⟩
theorem KK_new {h : zhp} {S : Nat → Nat → Int32} {P PI : Nat → Nat → Nat} (hK : KK h S P PI) {t n : Nat} {f : Nat → Int32} : KK (znw h t n f) S P PI := KK_sm (zSm_new hK.1.1 t n f) hK
set_option maxRecDepth 100000 in
set_option maxHeartbeats 4000000 in
theorem c_X5_fault {h : zhp} {S : Nat → Nat → Int32} {P PI : Nat → Nat → Nat} (hK : KK h S P PI) {q : Nat → Int32} {m : Nat} (hP : zPd h q m) : MM iX5_fault [.ref 4] h (zrQ (zrn h) (zN h) (fT q m)) := by
  refine MM_of (by decide +kernel) (Nat.le_of_ble_eq_true rfl) ?_
  refine tt_new (ci := 2) dX5_fault_0 (by decide) (by decide) kX5_75 kI2 kN2 (Nat.le_of_ble_eq_true rfl) (Nat.le_of_ble_eq_true rfl) ?_
  have hKn := KK_new hK (t := 2) (n := 0) (f := fun _ => 0)
  refine tt_dup dX5_fault_3 rfl ?_
  refine tt_aload_n dX5_fault_4 rfl ?_
  refine tt_getR dX5_fault_5 fX5_26 rfl hKn.1.2.2.1.1 hKn.1.2.2.1.2.2.2.1 ?_
  refine tt_callI (c_X2_init (znw_T (h) 2 0 _)) dX5_fault_8 cX5_77 rfl rfl (by decide) (Nat.le_of_ble_eq_true rfl) (Nat.le_of_ble_eq_true rfl) (Nat.le_of_ble_eq_true rfl) (fun r1 h1x q1 => ?_)
  obtain ⟨rfl, rfl⟩ := q1
  refine (show TT iX5_fault 11 _ _ (zrn (h)) 1 9 _ from ?_)
  refine tt_hp (zrn_r (h)).symm ?_
  refine tt_callV (c_X2_findFault (zRd_n hK.1.1 hP) (fun _ => 0) rfl rfl) dX5_fault_11 vX5_80 rfl rfl (if_pos rfl) (by decide) rfl (by decide) (Nat.le_of_ble_eq_true rfl) (Nat.le_of_ble_eq_true rfl) (Nat.le_of_ble_eq_true rfl) (fun r1 h1x q1 => ?_)
  obtain ⟨rfl, R1, rfl⟩ := q1
  refine (show TT iX5_fault 14 _ _ _ 1 9 _ from ?_)
  exact tt_ireturn dX5_fault_14 rfl rfl (Nat.le_of_ble_eq_true rfl) (Nat.le_of_ble_eq_true rfl) ⟨rfl, R1, rfl⟩
theorem zr_zt {h : zhp} {b r : Nat} {s R : Nat → Int32} {p pi : Nat → Nat} (hr : b + 17 ≤ r) : zr (zt h b s p pi) r R = zt (zr h r R) b s p pi := by
  unfold zr zt
  congr 4
  funext x k
  dsimp only
  by_cases hx : x = r
  · rw [if_pos hx, if_neg (by omega), if_pos hx]
  · rw [if_neg hx]
    by_cases hb : b ≤ x ∧ x < b + 17
    · rw [if_pos hb, if_pos hb, if_neg hx]
    · rw [if_neg hb, if_neg hb, if_neg hx]
theorem zPd_t {h : zhp} {q : Nat → Int32} {m : Nat} (hP : zPd h q m) {t : Nat} (ht : t < 10) (s : Nat → Int32) (p pi : Nat → Nat) : zPd (zt h (zbs t) s p pi) q m := by
  have rg := zbs_rg ht
  obtain ⟨⟨h1, h2, h3, h4⟩, h5, h6, h7⟩ := hP
  exact ⟨⟨h1, (zt_R (by omega)).trans h2, h3, h4⟩, (zt_I (by omega)).trans h5, h6, fun k hk => (zt_I (by omega)).trans (h7 k hk)⟩
theorem zRd_t {h : zhp} {r : Nat} {q : Nat → Int32} {m : Nat} (hR : zRd h r q m) (s : Nat → Int32) (p pi : Nat → Nat) : zRd (zt h 5 s p pi) r q m := ⟨hR.1, hR.2.1, (zt_R (by have := hR.1; omega)).trans hR.2.2.1, zPd_t hR.2.2.2 (t := 0) (by omega) s p pi⟩
theorem zRd_r {h : zhp} {r : Nat} {q : Nat → Int32} {m : Nat} (hR : zRd h r q m) (R : Nat → Int32) : zRd (zr h r R) r q m := ⟨hR.1, hR.2.1, hR.2.2.1, zr_Pd hR⟩
/-- the orders of a text without a fault, as the class does them -/
def kGo (q : Nat → Int32) (m : Nat) : Nat → Nat → Nat → (Nat → Int32) → Nat × (Nat → Int32)
  | 0, _, d, s => (d, s)
  | r + 1, e, d, s => if e ≠ 0 ∧ m ≤ e then (d, s) else kGo q m r (rdO q m (if e = 0 then 0 else e + 1)).2.2.1 (if (kEx s (nS s) (rdO q m (if e = 0 then 0 else e + 1))).1 < 0 then d else d + 1) (kEx s (nS s) (rdO q m (if e = 0 then 0 else e + 1))).2
theorem kGo_e {q : Nat → Int32} {m r e d : Nat} {s : Nat → Int32} (h : e ≠ 0 ∧ m ≤ e) : kGo q m r e d s = (d, s) := by
  cases r with
  | zero => rfl
  | succ r => exact if_pos h
theorem kGo_k {q : Nat → Int32} {m r e d k : Nat} {s : Nat → Int32} (h : nK q m e k) : kGo q m (r + 1) e d s = kGo q m r (rdO q m k).2.2.1 (if (kEx s (nS s) (rdO q m k)).1 < 0 then d else d + 1) (kEx s (nS s) (rdO q m k)).2 := by
  rcases h with ⟨h1, h2⟩ | ⟨h1, h2, h3, h4⟩
  · exact (if_neg (fun z => z.1 h1)).trans (by rw [if_pos h1, h2])
  · exact (if_neg (fun z => absurd z.2 (by omega))).trans (by rw [if_neg h1, h4])
/-- behind a run: the class's cells, what it answers -/
def zgQ2 (Hb : zhp) (r o c : Nat) (g : Nat × (Nat → Int32)) : Option Value → zhp → Prop := fun r0 h1 => r0 = some (.int (nI g.1)) ∧ ∃ R1 p1 pi1, zPm p1 pi1 ∧ h1 = zSe (zsI (zt (zr Hb r R1) 5 g.2 p1 pi1) 143 1 (nI 0)) o c (nI g.1)
set_option maxRecDepth 100000 in
set_option maxHeartbeats 4000000 in
theorem g_X5_run_82 {Hb : zhp} {S1 : Nat → Nat → Int32} {P1 PI1 : Nat → Nat → Nat} (hK : KK Hb S1 P1 PI1) {o c : Nat} (hH : zHi Hb o c) {r : Nat} {q : Nat → Int32} {m : Nat} (hR : zRd Hb r q m) (i d : Nat) (R s : Nat → Int32) {p pi : Nat → Nat} (hp : zPm p pi) : TT iX5_run 82 [some (.ref 4), some (.ref r), some (.int (nI d)), some (.int (nI i))] [] (zt (zr Hb r R) 5 s p pi) 2 18 (zgQ2 Hb r o c (d, s)) := by
  have hKr : KK (zr Hb r R) S1 P1 PI1 := KK_sm (zSm_r R hR.1) hK
  have hKt := KK_set hKr (t := 0) (by omega) s hp
  have hHt : zHi (zt (zr Hb r R) 5 s p pi) o c := zHi_t (zHi_sm (zSm_r R hR.1) hH) (t := 0) (by omega) s p pi
  have hPt : zPd (zt (zr Hb r R) 5 s p pi) q m := zPd_t (zr_Pd hR) (t := 0) (by omega) s p pi
  have hKu := KK_sI hKt (a := 143) (k := 1) (nI 0) (by omega)
  have hHu : zHi (zsI (zt (zr Hb r R) 5 s p pi) 143 1 (nI 0)) o c := ⟨(zsI_ne (Or.inl (by omega))).trans hHt.1, (zsI_ne (Or.inl (by omega))).trans hHt.2.1, hHt.2.2⟩
  refine tt_aload_n dX5_run_82 rfl ?_
  refine tt_getR dX5_run_83 fX5_26 rfl hKt.1.2.2.1.1 hKt.1.2.2.1.2.2.2.1 ?_
  refine tt_fVi (c_X1_empty hPt) dX5_run_86 vX5_92 rfl rfl hPt.1.1 (by decide) rfl (by decide) ⟨rfl, rfl⟩ (Nat.le_of_ble_eq_true rfl) (Nat.le_of_ble_eq_true rfl) (Nat.le_of_ble_eq_true rfl) ?_
  refine tt_pop dX5_run_89 rfl ?_
  skip
  refine tt_aload_n dX5_run_90 rfl ?_
  refine tt_getR dX5_run_91 fX5_19 rfl hKu.1.2.2.1.1 hKu.1.2.2.1.2.2.1 ?_
  refine tt_iload_n dX5_run_94 rfl ?_
  refine tt_fVi (c_X0_settle hKu hHu _) dX5_run_95 vX5_46 rfl rfl hKu.1.2.2.2.1.1 (by decide) rfl (by decide) ⟨rfl, rfl⟩ (Nat.le_of_ble_eq_true rfl) (Nat.le_of_ble_eq_true rfl) (Nat.le_of_ble_eq_true rfl) ?_
  exact tt_ireturn dX5_run_98 rfl rfl (Nat.le_of_ble_eq_true rfl) (Nat.le_of_ble_eq_true rfl) ⟨rfl, R, p, pi, hp, rfl⟩
set_option maxRecDepth 100000 in
set_option maxHeartbeats 4000000 in
theorem g_X5_run_e {Hb : zhp} {S1 : Nat → Nat → Int32} {P1 PI1 : Nat → Nat → Nat} (hK : KK Hb S1 P1 PI1) {o c : Nat} (hH : zHi Hb o c) {r : Nat} {q : Nat → Int32} {m : Nat} (hR : zRd Hb r q m) (J : (Nat → Int32) → Prop) (hJ : ∀ s, J s → sWF s (nS s)) (hJs : ∀ s k, J s → (rdO q m k).2.2.2 = false → J (kEx s (nS s) (rdO q m k)).2) (i e d : Nat) (R s : Nat → Int32) {p pi : Nat → Nat} (hp : zPm p pi) (hi : i + 0 = 60) (hie : i ≤ e) (he : e ≤ m) (h1 : R 1 = nI e) (h8 : R 8 = nI 0) (hs : J s) (hg : (gE q m (0 + 1) e).2 = false) : TT iX5_run 49 [some (.ref 4), some (.ref r), some (.int (nI d)), some (.int (nI i))] [] (zt (zr Hb r R) 5 s p pi) 2 18 (zgQ2 Hb r o c (kGo q m 0 e d s)) := by
  have ho := hR.2.2.2.2.2.1
  have hm60 := ho.1
  refine tt_iload_n dX5_run_49 rfl ?_
  refine tt_bipush (nI 60) dX5_run_50 rfl ?_
  refine tt_icmp_geN (tgt := 82) dX5_run_52 (by decide) (by omega) (by omega) (fun c_52 => ?_) (fun c_52 => ?_)
  · exact g_X5_run_82 hK hH hR _ _ _ _ hp
  · exact absurd c_52 (by omega)
set_option maxRecDepth 100000 in
set_option maxHeartbeats 4000000 in
theorem g_X5_run_b {Hb : zhp} {S1 : Nat → Nat → Int32} {P1 PI1 : Nat → Nat → Nat} (hK : KK Hb S1 P1 PI1) {o c : Nat} (hH : zHi Hb o c) {r : Nat} {q : Nat → Int32} {m : Nat} (hR : zRd Hb r q m) (J : (Nat → Int32) → Prop) (hJ : ∀ s, J s → sWF s (nS s)) (hJs : ∀ s k, J s → (rdO q m k).2.2.2 = false → J (kEx s (nS s) (rdO q m k)).2) (rr : Nat) (i e d : Nat) (R s : Nat → Int32) {p pi : Nat → Nat} (hp : zPm p pi) (hi : i + (rr + 1) = 60) (hie : i ≤ e) (he : e ≤ m) (h1 : R 1 = nI e) (h8 : R 8 = nI 0) (hs : J s) (hg : (gE q m ((rr + 1) + 1) e).2 = false) (h0 : e ≠ 0) (hm : m ≤ e) : TT iX5_run 49 [some (.ref 4), some (.ref r), some (.int (nI d)), some (.int (nI i))] [] (zt (zr Hb r R) 5 s p pi) 2 18 (zgQ2 Hb r o c (kGo q m (rr + 1) e d s)) := by
  have ho := hR.2.2.2.2.2.1
  have hm60 := ho.1
  rw [kGo_e ⟨h0, hm⟩]
  refine tt_iload_n dX5_run_49 rfl ?_
  refine tt_bipush (nI 60) dX5_run_50 rfl ?_
  refine tt_icmp_geN (tgt := 82) dX5_run_52 (by decide) (by omega) (by omega) (fun c_52 => ?_) (fun c_52 => ?_)
  · exact absurd c_52 (by omega)
  · refine tt_hp (zr_zt (by have := hR.1; omega)).symm ?_
    refine tt_aload_n dX5_run_55 rfl ?_
    refine tt_fVi (c_X2_readNext_e (zRd_t hR s p pi) R e (by omega) h1 h8 h0 hm) dX5_run_56 vX5_84 rfl rfl hR.2.1 (by decide) rfl (by decide) ⟨rfl, rfl⟩ (Nat.le_of_ble_eq_true rfl) (Nat.le_of_ble_eq_true rfl) (Nat.le_of_ble_eq_true rfl) ?_
    refine tt_if_eq (tgt := 82) dX5_run_59 (by decide) (fun _ => ?_) (fun q => absurd (by decide) q)
    refine tt_hp (zr_zt (by have := hR.1; omega)) ?_
    exact g_X5_run_82 hK hH hR _ _ _ _ hp
set_option maxRecDepth 100000 in
set_option maxHeartbeats 4000000 in
theorem g_X5_run_s {Hb : zhp} {S1 : Nat → Nat → Int32} {P1 PI1 : Nat → Nat → Nat} (hK : KK Hb S1 P1 PI1) {o c : Nat} (hH : zHi Hb o c) {r : Nat} {q : Nat → Int32} {m : Nat} (hR : zRd Hb r q m) (J : (Nat → Int32) → Prop) (hJ : ∀ s, J s → sWF s (nS s)) (hJs : ∀ s k, J s → (rdO q m k).2.2.2 = false → J (kEx s (nS s) (rdO q m k)).2) (rr : Nat) (ih : ∀  (i e d : Nat) (R s : Nat → Int32) {p pi : Nat → Nat} (hp : zPm p pi) (hi : i + rr = 60) (hie : i ≤ e) (he : e ≤ m) (h1 : R 1 = nI e) (h8 : R 8 = nI 0) (hs : J s) (hg : (gE q m (rr + 1) e).2 = false), TT iX5_run 49 [some (.ref 4), some (.ref r), some (.int (nI d)), some (.int (nI i))] [] (zt (zr Hb r R) 5 s p pi) 2 18 (zgQ2 Hb r o c (kGo q m rr e d s))) (i e d : Nat) (R s : Nat → Int32) {p pi : Nat → Nat} (hp : zPm p pi) (hi : i + (rr + 1) = 60) (hie : i ≤ e) (he : e ≤ m) (h1 : R 1 = nI e) (h8 : R 8 = nI 0) (hs : J s) (hg : (gE q m ((rr + 1) + 1) e).2 = false) {k : Nat} (hk : nK q m e k) : TT iX5_run 49 [some (.ref 4), some (.ref r), some (.int (nI d)), some (.int (nI i))] [] (zt (zr Hb r R) 5 s p pi) 2 18 (zgQ2 Hb r o c (kGo q m (rr + 1) e d s)) := by
  have ho := hR.2.2.2.2.2.1
  have hm60 := ho.1
  obtain ⟨hgk, hek⟩ := gE_k (r := rr + 1 + 1) hk
  rw [kGo_k hk]
  rw [hgk, gf_E] at hg
  have hfo : (rdO q m k).2.2.2 = false := by
    rcases Bool.eq_false_or_eq_true (rdO q m k).2.2.2 with z | z
    · rw [if_pos z] at hg; cases hg
    · exact z
  rw [if_neg (by rw [hfo]; decide)] at hg
  have hgt := rdO_gt hfo
  refine tt_iload_n dX5_run_49 rfl ?_
  refine tt_bipush (nI 60) dX5_run_50 rfl ?_
  refine tt_icmp_geN (tgt := 82) dX5_run_52 (by decide) (by omega) (by omega) (fun c_52 => ?_) (fun c_52 => ?_)
  · exact absurd c_52 (by omega)
  · refine tt_hp (zr_zt (by have := hR.1; omega)).symm ?_
    refine tt_aload_n dX5_run_55 rfl ?_
    refine tt_callV (c_X2_readNext_k (zRd_t hR s p pi) R e (by omega) h1 h8 hk) dX5_run_56 vX5_84 rfl rfl hR.2.1 (by decide) rfl (by decide) (Nat.le_of_ble_eq_true rfl) (Nat.le_of_ble_eq_true rfl) (Nat.le_of_ble_eq_true rfl) (fun r1 h1x q1 => ?_)
    obtain ⟨rfl, R1, rfl, hz⟩ := q1
    refine (show TT iX5_run 59 _ _ _ 2 18 _ from ?_)
    refine tt_hp (zr_zt (by have := hR.1; omega)) ?_
    refine tt_if_eqB (tgt := 82) dX5_run_59 (by decide) (fun c_59 => ?_) (fun c_59 => ?_)
    · exact absurd (by rw [hfo]; decide) c_59
    · have hKr : KK (zr Hb r R1) S1 P1 PI1 := KK_sm (zSm_r R1 hR.1) hK
      have hKt1 := KK_set hKr (t := 0) (by omega) s hp
      have hSr : zTS (zr Hb r R1) 5 := (hKr.2 0 (by omega)).1
      refine tt_aload_n dX5_run_62 rfl ?_
      refine tt_getR dX5_run_63 fX5_10 rfl hKt1.1.2.2.1.1 hKt1.1.2.2.1.2.1 ?_
      refine tt_aload_n dX5_run_66 rfl ?_
      refine tt_callV (c_X4_obey hSr s hp (r := r) (R := R1) ⟨hR.2.1, by have := hR.1; omega, fun k => if_pos rfl⟩ (nS s) (hJ s hs) hz hfo) dX5_run_67 vX5_88 rfl rfl hSr.2.1 (by decide) rfl (by decide) (Nat.le_of_ble_eq_true rfl) (Nat.le_of_ble_eq_true rfl) (Nat.le_of_ble_eq_true rfl) (fun r1 h1x q1 => ?_)
      obtain ⟨rfl, p1, pi1, hp1, rfl⟩ := q1
      refine (show TT iX5_run 70 _ _ _ 2 18 _ from ?_)
      refine tt_if_lt (tgt := 76) dX5_run_70 (by decide) (fun c_70 => ?_) (fun c_70 => ?_)
      · refine tt_iincN dX5_run_76 rfl rfl (Nat.le_of_ble_eq_true rfl) rfl ?_
        refine tt_goto (tgt := 49) dX5_run_79 (by decide) ?_
        first | rw [if_pos c_70] | rw [if_neg c_70]
        exact ih _ _ _ _ _ hp1 (by omega) (by omega) hgt.2 hz.1 (hz.2.1.trans (zb_f (by rw [hfo]; decide))) (hJs s k hs hfo) hg
      · refine tt_iincN dX5_run_73 rfl rfl (Nat.le_of_ble_eq_true rfl) rfl ?_
        refine tt_iincN dX5_run_76 rfl rfl (Nat.le_of_ble_eq_true rfl) rfl ?_
        refine tt_goto (tgt := 49) dX5_run_79 (by decide) ?_
        first | rw [if_pos c_70] | rw [if_neg c_70]
        exact ih _ _ _ _ _ hp1 (by omega) (by omega) hgt.2 hz.1 (hz.2.1.trans (zb_f (by rw [hfo]; decide))) (hJs s k hs hfo) hg
theorem g_X5_run {Hb : zhp} {S1 : Nat → Nat → Int32} {P1 PI1 : Nat → Nat → Nat} (hK : KK Hb S1 P1 PI1) {o c : Nat} (hH : zHi Hb o c) {r : Nat} {q : Nat → Int32} {m : Nat} (hR : zRd Hb r q m) (J : (Nat → Int32) → Prop) (hJ : ∀ s, J s → sWF s (nS s)) (hJs : ∀ s k, J s → (rdO q m k).2.2.2 = false → J (kEx s (nS s) (rdO q m k)).2) : ∀ (rr : Nat) (i e d : Nat) (R s : Nat → Int32) {p pi : Nat → Nat} (hp : zPm p pi) (hi : i + rr = 60) (hie : i ≤ e) (he : e ≤ m) (h1 : R 1 = nI e) (h8 : R 8 = nI 0) (hs : J s) (hg : (gE q m (rr + 1) e).2 = false), TT iX5_run 49 [some (.ref 4), some (.ref r), some (.int (nI d)), some (.int (nI i))] [] (zt (zr Hb r R) 5 s p pi) 2 18 (zgQ2 Hb r o c (kGo q m rr e d s))
  | 0, i, e, d, R, s, _, _, hp, hi, hie, he, h1, h8, hs, hg => g_X5_run_e hK hH hR J hJ hJs i e d R s hp hi hie he h1 h8 hs hg
  | rr + 1, i, e, d, R, s, _, _, hp, hi, hie, he, h1, h8, hs, hg => by
    by_cases h0 : e = 0
    · exact g_X5_run_s hK hH hR J hJ hJs rr (fun i e d R s _ _ hp => g_X5_run hK hH hR J hJ hJs rr i e d R s hp) i e d R s hp hi hie he h1 h8 hs hg (Or.inl ⟨h0, rfl⟩)
    · by_cases hm : m ≤ e
      · exact g_X5_run_b hK hH hR J hJ hJs rr i e d R s hp hi hie he h1 h8 hs hg h0 hm
      · rcases Bool.eq_false_or_eq_true (tk q m (nI 59) (nI 59) e false).2.2 with z | z
        · unfold gE at hg
          rw [if_neg (by omega), if_pos ⟨h0, z⟩] at hg
          cases hg
        · exact g_X5_run_s hK hH hR J hJ hJs rr (fun i e d R s _ _ hp => g_X5_run hK hH hR J hJ hJs rr i e d R s hp) i e d R s hp hi hie he h1 h8 hs hg (Or.inr ⟨h0, by omega, z, rfl⟩)
