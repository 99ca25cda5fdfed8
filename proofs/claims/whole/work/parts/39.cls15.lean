/-! the class: run -/
theorem TT.post {i : zmi} {pc : Nat} {L : List (Option Value)} {st : List Value} {h : zhp} {cc sc : Nat} {Q Q2 : Option Value → zhp → Prop} (k : TT i pc L st h cc sc Q) (hq : ∀ r h', Q r h' → Q2 r h') : TT i pc L st h cc sc Q2 := by
  intro G p l e R s m args below meth c ls H locs Qf F hl hH hlo K
  exact k G p l e R s m args below meth c ls H locs Qf F hl hH hlo (fun r h' pc' ls' H' locs' q => K r h' pc' ls' H' locs' (hq r h' q))
set_option maxRecDepth 100000 in
set_option maxHeartbeats 4000000 in
theorem c_X5_run_b {h : zhp} {S : Nat → Nat → Int32} {P PI : Nat → Nat → Nat} (hK : KK h S P PI) {q : Nat → Int32} {m : Nat} (hP : zPd h q m) (hf : ¬ fT q m = -6) : MM iX5_run [.ref 4] h (zrQ (zrn h) (zN h) (-3)) := by
  refine MM_of (by decide +kernel) (Nat.le_of_ble_eq_true rfl) ?_
  refine tt_new (ci := 2) dX5_run_0 (by decide) (by decide) kX5_75 kI2 kN2 (Nat.le_of_ble_eq_true rfl) (Nat.le_of_ble_eq_true rfl) ?_
  have hKn := KK_new hK (t := 2) (n := 0) (f := fun _ => 0)
  refine tt_dup dX5_run_3 rfl ?_
  refine tt_aload_n dX5_run_4 rfl ?_
  refine tt_getR dX5_run_5 fX5_26 rfl hKn.1.2.2.1.1 hKn.1.2.2.1.2.2.2.1 ?_
  refine tt_callI (c_X2_init (znw_T (h) 2 0 _)) dX5_run_8 cX5_77 rfl rfl (by decide) (Nat.le_of_ble_eq_true rfl) (Nat.le_of_ble_eq_true rfl) (Nat.le_of_ble_eq_true rfl) (fun r1 h1x q1 => ?_)
  obtain ⟨rfl, rfl⟩ := q1
  refine (show TT iX5_run 11 _ _ (zrn (h)) 1 9 _ from ?_)
  refine tt_hp (zrn_r (h)).symm ?_
  refine tt_callV (c_X2_findFault (zRd_n hK.1.1 hP) (fun _ => 0) rfl rfl) dX5_run_11 vX5_80 rfl rfl (if_pos rfl) (by decide) rfl (by decide) (Nat.le_of_ble_eq_true rfl) (Nat.le_of_ble_eq_true rfl) (Nat.le_of_ble_eq_true rfl) (fun r1 h1x q1 => ?_)
  obtain ⟨rfl, R1, rfl⟩ := q1
  refine (show TT iX5_run 14 _ _ _ 1 9 _ from ?_)
  refine tt_bipush (-6) dX5_run_14 rfl ?_
  refine tt_icmp_eq (tgt := 22) dX5_run_16 (by decide) (fun c_16 => ?_) (fun c_16 => ?_)
  · exact absurd c_16 hf
  · refine tt_bipush (-3) dX5_run_19 rfl ?_
    exact tt_ireturn dX5_run_21 rfl rfl (Nat.le_of_ble_eq_true rfl) (Nat.le_of_ble_eq_true rfl) ⟨rfl, R1, rfl⟩
set_option maxRecDepth 100000 in
set_option maxHeartbeats 4000000 in
theorem c_X5_run_g {h : zhp} {S : Nat → Nat → Int32} {P PI : Nat → Nat → Nat} (hK : KK h S P PI) {o c : Nat} (hH : zHi h o c) {n : Nat} (hw : sWF (S 0) n) {q : Nat → Int32} {m : Nat} (hP : zPd h q m) (J : (Nat → Int32) → Prop) (hJ : ∀ s, J s → sWF s (nS s)) (hJs : ∀ s k, J s → (rdO q m k).2.2.2 = false → J (kEx s (nS s) (rdO q m k)).2) (hJ0 : J (S 0)) (hf : fT q m = -6) : MM iX5_run [.ref 4] h (fun r0 h1 => ∃ R1, zgQ2 (zrn (zPr (zr (zrn h) (zN h) R1) S P PI n o c)) (zN h + 1) o c (kGo q m 60 0 0 (S 0)) r0 h1) := by
  refine MM_of (by decide +kernel) (Nat.le_of_ble_eq_true rfl) ?_
  refine tt_new (ci := 2) dX5_run_0 (by decide) (by decide) kX5_75 kI2 kN2 (Nat.le_of_ble_eq_true rfl) (Nat.le_of_ble_eq_true rfl) ?_
  have hKn := KK_new hK (t := 2) (n := 0) (f := fun _ => 0)
  refine tt_dup dX5_run_3 rfl ?_
  refine tt_aload_n dX5_run_4 rfl ?_
  refine tt_getR dX5_run_5 fX5_26 rfl hKn.1.2.2.1.1 hKn.1.2.2.1.2.2.2.1 ?_
  refine tt_callI (c_X2_init (znw_T (h) 2 0 _)) dX5_run_8 cX5_77 rfl rfl (by decide) (Nat.le_of_ble_eq_true rfl) (Nat.le_of_ble_eq_true rfl) (Nat.le_of_ble_eq_true rfl) (fun r1 h1x q1 => ?_)
  obtain ⟨rfl, rfl⟩ := q1
  refine (show TT iX5_run 11 _ _ (zrn (h)) 1 9 _ from ?_)
  refine tt_hp (zrn_r (h)).symm ?_
  refine tt_callV (c_X2_findFault (zRd_n hK.1.1 hP) (fun _ => 0) rfl rfl) dX5_run_11 vX5_80 rfl rfl (if_pos rfl) (by decide) rfl (by decide) (Nat.le_of_ble_eq_true rfl) (Nat.le_of_ble_eq_true rfl) (Nat.le_of_ble_eq_true rfl) (fun r1 h1x q1 => ?_)
  obtain ⟨rfl, R1, rfl⟩ := q1
  refine (show TT iX5_run 14 _ _ _ 1 9 _ from ?_)
  refine tt_bipush (-6) dX5_run_14 rfl ?_
  refine tt_icmp_eq (tgt := 22) dX5_run_16 (by decide) (fun c_16 => ?_) (fun c_16 => ?_)
  · have sma : zSm h (zr (zrn h) (zN h) R1) := (zSm_rn hK.1.1).trans (zSm_r R1 hK.1.1)
    have hKa := KK_sm sma hK
    have hHa := zHi_sm sma hH
    have hPa := zPd_sm sma hP
    have hKp := KK_pr hKa n o c
    have hHp : zHi (zPr (zr (zrn h) (zN h) R1) S P PI n o c) o c := zHi_t hHa (by omega) _ _ _
    have hPp : zPd (zPr (zr (zrn h) (zN h) R1) S P PI n o c) q m := zPd_t hPa (by omega) _ _ _
    have hKq := KK_new hKp (t := 2) (n := 0) (f := fun _ => 0)
    have hKb := KK_sm (zSm_rn hKp.1.1) hKp
    have hHb := zHi_sm (zSm_rn hKp.1.1) hHp
    have hRb := zRd_n hKp.1.1 hPp
    refine tt_aload_n dX5_run_22 rfl ?_
    refine tt_getR dX5_run_23 fX5_19 rfl hKa.1.2.2.1.1 hKa.1.2.2.1.2.2.1 ?_
    refine tt_aload_n dX5_run_26 rfl ?_
    refine tt_getR dX5_run_27 fX5_10 rfl hKa.1.2.2.1.1 hKa.1.2.2.1.2.1 ?_
    refine tt_fVv (c_X0_prepare hKa hHa hw) dX5_run_30 vX5_38 rfl rfl hKa.1.2.2.2.1.1 (by decide) rfl (by decide) ⟨rfl, rfl⟩ (Nat.le_of_ble_eq_true rfl) (Nat.le_of_ble_eq_true rfl) (Nat.le_of_ble_eq_true rfl) ?_
    refine (show TT iX5_run 33 _ _ (zPr (zr (zrn h) (zN h) R1) S P PI n o c) 1 9 _ from ?_)
    refine tt_new (ci := 2) dX5_run_33 (by decide) (by decide) kX5_75 kI2 kN2 (Nat.le_of_ble_eq_true rfl) (Nat.le_of_ble_eq_true rfl) ?_
    refine tt_dup dX5_run_36 rfl ?_
    refine tt_aload_n dX5_run_37 rfl ?_
    refine tt_getR dX5_run_38 fX5_26 rfl hKq.1.2.2.1.1 hKq.1.2.2.1.2.2.2.1 ?_
    refine tt_callI (c_X2_init (znw_T (zPr (zr (zrn h) (zN h) R1) S P PI n o c) 2 0 _)) dX5_run_41 cX5_77 rfl rfl (by decide) (Nat.le_of_ble_eq_true rfl) (Nat.le_of_ble_eq_true rfl) (Nat.le_of_ble_eq_true rfl) (fun r1 h1x q1 => ?_)
    obtain ⟨rfl, rfl⟩ := q1
    refine (show TT iX5_run 44 _ _ (zrn (zPr (zr (zrn h) (zN h) R1) S P PI n o c)) 2 18 _ from ?_)
    refine tt_astore_n dX5_run_44 rfl (Nat.le_of_ble_eq_true rfl) rfl ?_
    refine tt_iconst (nI 0) dX5_run_45 rfl ?_
    refine tt_istore_n dX5_run_46 rfl (Nat.le_of_ble_eq_true rfl) rfl ?_
    refine tt_iconst (nI 0) dX5_run_47 rfl ?_
    refine tt_istore_n dX5_run_48 rfl (Nat.le_of_ble_eq_true rfl) rfl ?_
    have hKc : KK (zr (zrn (zPr (zr (zrn h) (zN h) R1) S P PI n o c)) (zN h + 1) (fun _ => 0)) _ _ _ := KK_sm (zSm_r _ (by have := hK.1.1; omega)) hKb
    have ht0 := KK_t hKc (t := 0) (by omega)
    rw [up_n (by omega), up_n (by omega), up_n (by omega)] at ht0
    have hgf : (gE q m 61 0).2 = false := by
      rw [(gE_k (r := 61) (Or.inl ⟨rfl, rfl⟩)).1]
      exact (fT_iff hP.2.2.1.1).mp c_16
    have key := g_X5_run hKb hHb (r := zN h + 1) hRb J hJ hJs 60 0 0 0 (fun _ => 0) (S 0) (hK.2 0 (by omega)).2.1 rfl (by omega) (by omega) rfl rfl hJ0 hgf
    have e1 : zt (zr (zrn (zPr (zr (zrn h) (zN h) R1) S P PI n o c)) (zN h + 1) (fun _ => 0)) 5 (S 0) (P 0) (PI 0) = zrn (zPr (zr (zrn h) (zN h) R1) S P PI n o c) := ht0.trans (zrn_r (zPr (zr (zrn h) (zN h) R1) S P PI n o c))
    rw [e1] at key
    exact key.post (fun r0 h1 hq => ⟨R1, hq⟩)
  · exact absurd hf c_16
