/-! the class: a town, its changes -/
def zSt (h : zhp) : Prop := (∀ c, c < 3 → zT h c = 7 ∧ zL h c = 8) ∧ (∀ k, k < 8 → zI h 1 k = if nI k = nI 6 then nI 1 else nI 0) ∧ ∀ k, k < 8 → zI h 2 k = sMost (nI k)
theorem zt_I {h : zhp} {b : Nat} {s : Nat → Int32} {p pi : Nat → Nat} {x k : Nat} (hx : x < b ∨ b + 17 ≤ x) : zI (zt h b s p pi) x k = zI h x k := if_neg (by omega)
section
variable {i j : zmi} {pc : Nat} {L : List (Option Value)} {st stk : List Value} {h h0 : zhp} {cc sc : Nat} {Q : Option Value → zhp → Prop} {av : List Value} {b : Nat} {s : Nat → Int32} {p pi : Nat → Nat}
theorem tt_li1 {k : Nat} (d : decode (mC i) pc = .ok (.iaload, 1)) (hL : zSt h ∧ 4 ≤ b) (hk : k < 8) (kt : TT i (pc + 1) L (.int (if nI k = nI 6 then nI 1 else nI 0) :: st) (zt h b s p pi) cc sc Q) : TT i pc L (.int (nI k) :: .ref 1 :: st) (zt h b s p pi) cc sc Q := by
  obtain ⟨h2, h3⟩ := hL.1.1 1 (by omega)
  refine tt_iald d h2 (vp_in_nI (by show k < zL h 1; omega) (by show zL h 1 < _; omega)) ?_
  rw [nI_clamp (by omega), zt_I (by have := hL.2; omega), hL.1.2.1 k hk]
  exact kt
theorem tt_li2 {k : Nat} (d : decode (mC i) pc = .ok (.iaload, 1)) (hL : zSt h ∧ 4 ≤ b) (hk : k < 8) (kt : TT i (pc + 1) L (.int (sMost (nI k)) :: st) (zt h b s p pi) cc sc Q) : TT i pc L (.int (nI k) :: .ref 2 :: st) (zt h b s p pi) cc sc Q := by
  obtain ⟨h2, h3⟩ := hL.1.1 2 (by omega)
  refine tt_iald d h2 (vp_in_nI (by show k < zL h 2; omega) (by show zL h 2 < _; omega)) ?_
  rw [nI_clamp (by omega), zt_I (by have := hL.2; omega), hL.1.2.2 k hk]
  exact kt
end
def kSwj (s : Nat → Int32) (j c : Nat) : Int32 × (Nat → Int32) := if kTl s = 0 then (-5, s) else (kMt s j c (34 + 10 * j + 3), kTp (kMt s j c) j c)
def kSw (s : Nat → Int32) (v : Int32) : Int32 × (Nat → Int32) := if nI 0 ≤ v ∧ v ≤ s 33 - nI 1 then kSwj s v.toNatClampNeg (cuN s v.toNatClampNeg) else (-1, s)
def kPej (s : Nat → Int32) (j c : Nat) (d : Int32) : Int32 × (Nat → Int32) := if nI 1 ≤ d ∧ d ≤ nI 99 then (if s (34 + 10 * j + 2) = nI 5 then (-5, s) else
    (let fr := if s 8 ≤ s (34 + 10 * j + 6) then s (34 + 10 * j + 6) else s 8 - nI 1
     let s1 := upd s (34 + 10 * j + 6) (fr + d)
     let s2 := sCh s1 j c (s1 1 * d)
     (s2 (34 + 10 * j + 6), s2))) else (-2, s)
def kPe (s : Nat → Int32) (v d : Int32) : Int32 × (Nat → Int32) := if nI 0 ≤ v ∧ v ≤ s 33 - nI 1 then kPej s v.toNatClampNeg (cuN s v.toNatClampNeg) d else (-1, s)
def kPu (s : Nat → Int32) (n c : Nat) (z st g : Int32) : Nat → Int32 :=
  let s1 := kBg s n (nI c) z st g
  let s2 := upd s1 (34 + 10 * n + 5) (s1 6)
  let s3 := upd s2 (34 + 10 * n + 8) (s2 8)
  let s4 := upd s3 33 (s3 33 + nI 1)
  kMt s4 n c
def kPuts (s : Nat → Int32) (n : Nat) (cu z st g : Int32) : Int32 × (Nat → Int32) := if (nI 0 ≤ cu ∧ cu ≤ nI 5) ∧ (nI 0 ≤ st ∧ st ≤ nI 5) then (if (nI 0 ≤ z ∧ z ≤ nI 3) ∧ (nI 0 ≤ g ∧ g ≤ nI 30) then
    (if (st = nI 5 ∨ nI (kCs s n st) < s (10 + st.toNatClampNeg)) ∧ ¬ kTl s = 0 then (if s 33 < nI 10 then (nI n, kPu s n cu.toNatClampNeg z st g) else (-4, s)) else (-5, s)) else (-2, s)) else (-1, s)
def kDy (s : Nat → Int32) (n : Nat) (d : Int32) : Int32 × (Nat → Int32) := zlp (fun j (x : Int32 × (Nat → Int32)) => (x.1 + (kHi x.2 j d + kFi x.2 j d), kPd x.2 j (cuN x.2 j) d)) n 0 (nI 0, s)
def kPas (s : Nat → Int32) (n : Nat) (d : Int32) : Int32 × (Nat → Int32) := if nI 1 ≤ d ∧ d ≤ nI 99 then (if s 8 + d ≤ nI 9999 then ((kDy s n d).1, upd (upd (kDy s n d).2 8 ((kDy s n d).2 8 + d)) 9 (nI 0)) else (-4, s)) else (-2, s)
theorem kAg_ne {s : Nat → Int32} {n k : Nat} {d : Int32} (h1 : k ≠ 34 + 10 * n + 3) (h2 : k ≠ 34 + 10 * n + 7) (h3 : k ≠ 34 + 10 * n + 5) : kAg s n d k = s k := by
  unfold kAg
  split
  · rw [pk_un h2, pk_un h1]
  · rw [pk_un h3, pk_un h2, pk_un h1]
theorem kPd_ne {s : Nat → Int32} {n c k : Nat} {d : Int32} (h1 : k ≠ 34 + 10 * n + 3) (h2 : k ≠ 34 + 10 * n + 7) (h3 : k ≠ 134) (h4 : k ≠ 34 + 10 * n + 9) (h5 : k ≠ 34 + 10 * n + 5) (h6 : k ≠ 15 + 3 * c) (h7 : k ≠ 15 + 3 * c + 2) : kPd s n c d k = s k := by
  unfold kPd
  rw [pk_un h3, kAg_ne h1 h2 h5, pk_un h7, sCh_ne h4 h6]
theorem kPd_WF {s : Nat → Int32} {n k c : Nat} {d : Int32} (h : sWF s n) (hk : k < n) (hc : c < 6) : sWF (kPd s k c d) n := by
  have hn := h.1
  exact h.of (kPd_ne (by omega) (by omega) (by omega) (by omega) (by omega) (by omega) (by omega)) (fun j hj => kPd_ne (by omega) (by omega) (by omega) (by omega) (by omega) (by omega) (by omega))
theorem kDyI {n : Nat} {d : Int32} (k : Nat) (x : Nat → Int32) (hk : k < n) (hx : sWF x n) : sWF (kPd x k (cuN x k) d) n := by
  obtain ⟨c, hc, hcu⟩ := hx.2.2 k hk
  rw [cuN_eq hc hcu]
  exact kPd_WF hx hk hc
set_option maxRecDepth 100000 in
set_option maxHeartbeats 4000000 in
theorem c_X4_findSkip_y {h : zhp} {b : Nat} (hS : zTS h b) (s : Nat → Int32) {p pi : Nat → Nat} (hp : zPm p pi) (n : Nat) (hw : sWF s n) (j : Nat) (hj : j < n) : MM iX4_findSkip [.ref b, .int (nI j)] (zt h b s p pi) (zfr (.ref (b + (7 + p j))) (zt h b s p pi)) := by
  have hn10 := hw.1
  refine MM_of (by decide +kernel) (Nat.le_of_ble_eq_true rfl) ?_
  refine tt_iload_n dX4_findSkip_0 rfl ?_
  refine tt_if_lt (tgt := 21) dX4_findSkip_1 (by decide) (fun c_1 => ?_) (fun c_1 => ?_)
  · exact absurd c_1 (znn (by omega))
  · refine tt_iload_n dX4_findSkip_4 rfl ?_
    refine tt_aload_n dX4_findSkip_5 rfl ?_
    refine tt_tI dX4_findSkip_6 fX4_48 rfl hS rfl ?_
    refine tt_eq hw.2.1 ?_
    refine tt_icmp_geN (tgt := 21) dX4_findSkip_9 (by decide) (by omega) (by omega) (fun c_9 => ?_) (fun c_9 => ?_)
    · exact absurd c_9 (by omega)
    · refine tt_aload_n dX4_findSkip_12 rfl ?_
      refine tt_tA (c := 6) dX4_findSkip_13 fX4_37 rfl hS (by decide) rfl ?_
      refine tt_iload_n dX4_findSkip_16 rfl ?_
      refine tt_tsk dX4_findSkip_17 hS (by omega) ?_
      refine tt_goto (tgt := 22) dX4_findSkip_18 (by decide) ?_
      exact tt_areturn dX4_findSkip_22 rfl (Nat.zero_le _) (Nat.zero_le _) ⟨rfl, rfl⟩
set_option maxRecDepth 100000 in
set_option maxHeartbeats 4000000 in
theorem c_X4_findSkip_n {h : zhp} {b : Nat} (hS : zTS h b) (s : Nat → Int32) {p pi : Nat → Nat} (hp : zPm p pi) (n : Nat) (hw : sWF s n) (v : Int32) (hq : ¬ (nI 0 ≤ v ∧ v ≤ s 33 - nI 1)) : MM iX4_findSkip [.ref b, .int v] (zt h b s p pi) (zfr .null (zt h b s p pi)) := by
  have hn10 := hw.1
  refine MM_of (by decide +kernel) (Nat.le_of_ble_eq_true rfl) ?_
  refine tt_iload_n dX4_findSkip_0 rfl ?_
  refine tt_if_lt (tgt := 21) dX4_findSkip_1 (by decide) (fun c_1 => ?_) (fun c_1 => ?_)
  · refine tt_null dX4_findSkip_21 ?_
    exact tt_areturnN dX4_findSkip_22 rfl (Nat.zero_le _) (Nat.zero_le _) ⟨rfl, rfl⟩
  · refine tt_iload_n dX4_findSkip_4 rfl ?_
    refine tt_aload_n dX4_findSkip_5 rfl ?_
    refine tt_tI dX4_findSkip_6 fX4_48 rfl hS rfl ?_
    refine tt_eq hw.2.1 ?_
    refine tt_icmp_ge (tgt := 21) dX4_findSkip_9 (by decide) (fun c_9 => ?_) (fun c_9 => ?_)
    · refine tt_null dX4_findSkip_21 ?_
      exact tt_areturnN dX4_findSkip_22 rfl (Nat.zero_le _) (Nat.zero_le _) ⟨rfl, rfl⟩
    · exact absurd (by obtain ⟨j, hj, rfl⟩ := zin_of hn10 c_1 c_9; exact zin_to hn10 hw.2.1 hj) hq
set_option maxRecDepth 100000 in
set_option maxHeartbeats 4000000 in
theorem c_X4_swapSkip_y {h : zhp} {b : Nat} (hS : zTS h b) (s : Nat → Int32) {p pi : Nat → Nat} (hp : zPm p pi) (n : Nat) (hw : sWF s n) (j : Nat) (hj : j < n) (c : Nat) (hc : c < 6) (hcu : s (34 + 10 * j + 0) = nI c) : MM iX4_swapSkip [.ref b, .int (nI j)] (zt h b s p pi) (zfi (kSwj s j c).1 (zt h b (kSwj s j c).2 p pi)) := by
  have hn10 := hw.1
  refine MM_of (by decide +kernel) (Nat.le_of_ble_eq_true rfl) ?_
  refine tt_aload_n dX4_swapSkip_0 rfl ?_
  refine tt_iload_n dX4_swapSkip_1 rfl ?_
  refine tt_fVr (c_X4_findSkip_y hS _ hp _ hw _ hj) dX4_swapSkip_2 vX4_96 rfl rfl (zTS_tw hS) (by decide) rfl (by decide) ⟨rfl, rfl⟩ (Nat.zero_le _) (Nat.zero_le _) (Nat.le_of_ble_eq_true rfl) ?_
  refine tt_astore_n dX4_swapSkip_5 rfl (Nat.le_of_ble_eq_true rfl) rfl ?_
  refine tt_aload_n dX4_swapSkip_6 rfl ?_
  refine tt_ifnonnull (tgt := 12) dX4_swapSkip_7 (by decide) ?_
  refine tt_aload_n dX4_swapSkip_12 rfl ?_
  refine tt_fVi (c_X4_tripsLeft hS _ hp) dX4_swapSkip_13 vX4_79 rfl rfl (zTS_tw hS) (by decide) rfl (by decide) ⟨rfl, rfl⟩ (Nat.zero_le _) (Nat.zero_le _) (Nat.le_of_ble_eq_true rfl) ?_
  refine tt_if_ne (tgt := 22) dX4_swapSkip_16 (by decide) (fun c_16 => ?_) (fun c_16 => ?_)
  · refine tt_aload_n dX4_swapSkip_22 rfl ?_
    refine tt_aload_n dX4_swapSkip_23 rfl ?_
    refine tt_fVv (c_X4_makeTrip hS _ hp _ (by omega) _ hc hcu) dX4_swapSkip_24 vX4_93 rfl rfl (zTS_tw hS) (by decide) rfl (by decide) ⟨rfl, rfl⟩ (Nat.zero_le _) (Nat.zero_le _) (Nat.le_of_ble_eq_true rfl) ?_
    refine tt_aload_n dX4_swapSkip_27 rfl ?_
    refine tt_aload_n dX4_swapSkip_28 rfl ?_
    refine tt_fVi (c_X4_tipLoad hS _ hp _ (by omega) _ hc (by unfold kMt; rw [sCh_ne (by omega) (by omega), pk_un (by omega)]; exact hcu)) dX4_swapSkip_29 vX4_100 rfl rfl (zTS_tw hS) (by decide) rfl (by decide) ⟨rfl, rfl⟩ (Nat.zero_le _) (Nat.zero_le _) (Nat.le_of_ble_eq_true rfl) ?_
    exact tt_ireturn dX4_swapSkip_32 rfl rfl (Nat.zero_le _) (Nat.zero_le _) (by unfold kSwj; rw [if_neg c_16]; exact ⟨rfl, rfl⟩)
  · refine tt_bipush (-5) dX4_swapSkip_19 rfl ?_
    exact tt_ireturn dX4_swapSkip_21 rfl rfl (Nat.zero_le _) (Nat.zero_le _) (by unfold kSwj; rw [if_pos c_16]; exact ⟨rfl, rfl⟩)
set_option maxRecDepth 100000 in
set_option maxHeartbeats 4000000 in
theorem c_X4_swapSkip_n {h : zhp} {b : Nat} (hS : zTS h b) (s : Nat → Int32) {p pi : Nat → Nat} (hp : zPm p pi) (n : Nat) (hw : sWF s n) (v : Int32) (hq : ¬ (nI 0 ≤ v ∧ v ≤ s 33 - nI 1)) : MM iX4_swapSkip [.ref b, .int v] (zt h b s p pi) (zfi (-1) (zt h b s p pi)) := by
  refine MM_of (by decide +kernel) (Nat.le_of_ble_eq_true rfl) ?_
  refine tt_aload_n dX4_swapSkip_0 rfl ?_
  refine tt_iload_n dX4_swapSkip_1 rfl ?_
  refine tt_fVr (c_X4_findSkip_n hS _ hp _ hw _ hq) dX4_swapSkip_2 vX4_96 rfl rfl (zTS_tw hS) (by decide) rfl (by decide) ⟨rfl, rfl⟩ (Nat.zero_le _) (Nat.zero_le _) (Nat.le_of_ble_eq_true rfl) ?_
  refine tt_astore_nN dX4_swapSkip_5 rfl (Nat.le_of_ble_eq_true rfl) rfl ?_
  refine tt_aload_nN dX4_swapSkip_6 rfl ?_
  refine tt_ifnonnullN dX4_swapSkip_7 ?_
  refine tt_iconst (-1) dX4_swapSkip_10 rfl ?_
  exact tt_ireturn dX4_swapSkip_11 rfl rfl (Nat.zero_le _) (Nat.zero_le _) ⟨rfl, rfl⟩
theorem c_X4_swapSkip {h : zhp} {b : Nat} (hS : zTS h b) (s : Nat → Int32) {p pi : Nat → Nat} (hp : zPm p pi) (n : Nat) (hw : sWF s n) (v : Int32) : MM iX4_swapSkip [.ref b, .int v] (zt h b s p pi) (zfi (kSw s v).1 (zt h b (kSw s v).2 p pi)) := by
  unfold kSw
  by_cases q : nI 0 ≤ v ∧ v ≤ s 33 - nI 1
  · rw [if_pos q]
    have hn10 := hw.1
    obtain ⟨j, hj, rfl⟩ := zskip hw.1 hw.2.1 q
    obtain ⟨c, hc, hcu⟩ := hw.2.2 j hj
    rw [nI_clamp (show j < 2 ^ 31 by omega), cuN_eq hc hcu]
    exact c_X4_swapSkip_y hS s hp n hw j hj c hc hcu 
  · rw [if_neg q]
    exact c_X4_swapSkip_n hS s hp n hw v q 
set_option maxRecDepth 100000 in
set_option maxHeartbeats 4000000 in
theorem c_X4_prolongPermit_y {h : zhp} {b : Nat} (hS : zTS h b) (s : Nat → Int32) {p pi : Nat → Nat} (hp : zPm p pi) (n : Nat) (hw : sWF s n) (j : Nat) (hj : j < n) (c : Nat) (hc : c < 6) (hcu : s (34 + 10 * j + 0) = nI c) (d : Int32) : MM iX4_prolongPermit [.ref b, .int (nI j), .int d] (zt h b s p pi) (zfi (kPej s j c d).1 (zt h b (kPej s j c d).2 p pi)) := by
  have hn10 := hw.1
  refine MM_of (by decide +kernel) (Nat.le_of_ble_eq_true rfl) ?_
  refine tt_aload_n dX4_prolongPermit_0 rfl ?_
  refine tt_iload_n dX4_prolongPermit_1 rfl ?_
  refine tt_fVr (c_X4_findSkip_y hS _ hp _ hw _ hj) dX4_prolongPermit_2 vX4_96 rfl rfl (zTS_tw hS) (by decide) rfl (by decide) ⟨rfl, rfl⟩ (Nat.zero_le _) (Nat.zero_le _) (Nat.le_of_ble_eq_true rfl) ?_
  refine tt_astore_n dX4_prolongPermit_5 rfl (Nat.le_of_ble_eq_true rfl) rfl ?_
  refine tt_aload_n dX4_prolongPermit_6 rfl ?_
  refine tt_ifnonnull (tgt := 12) dX4_prolongPermit_7 (by decide) ?_
  refine tt_iload_n dX4_prolongPermit_12 rfl ?_
  refine tt_iconst (nI 1) dX4_prolongPermit_13 rfl ?_
  refine tt_bipush (nI 99) dX4_prolongPermit_14 rfl ?_
  refine tt_fSNi (c_X5_isWithin _ _ _ _) dX4_prolongPermit_16 sX4_65 rfl rfl (by decide) ⟨rfl, rfl⟩ (Nat.zero_le _) (Nat.zero_le _) (Nat.le_of_ble_eq_true rfl) ?_
  refine tt_if_neB (tgt := 25) dX4_prolongPermit_19 (by decide) (fun c_19 => ?_) (fun c_19 => ?_)
  · refine tt_aload_n dX4_prolongPermit_25 rfl ?_
    refine tt_fVi (c_X3_isOnDrive hS _ hp _ (by omega)) dX4_prolongPermit_26 vX4_112 rfl rfl (zTS_sk hS hp (by omega)) (by decide) rfl (by decide) ⟨rfl, rfl⟩ (Nat.zero_le _) (Nat.zero_le _) (Nat.le_of_ble_eq_true rfl) ?_
    refine tt_if_eqB (tgt := 35) dX4_prolongPermit_29 (by decide) (fun c_29 => ?_) (fun c_29 => ?_)
    · refine tt_aload_n dX4_prolongPermit_35 rfl ?_
      refine tt_aload_n dX4_prolongPermit_36 rfl ?_
      refine tt_tI dX4_prolongPermit_37 fX4_56 rfl hS rfl ?_
      refine tt_fVi (c_X3_hasPermitFor hS _ hp _ (by omega) _) dX4_prolongPermit_40 vX4_116 rfl rfl (zTS_sk hS hp (by omega)) (by decide) rfl (by decide) ⟨rfl, rfl⟩ (Nat.zero_le _) (Nat.zero_le _) (Nat.le_of_ble_eq_true rfl) ?_
      refine tt_c1 (tgt := 59) (x := if s 8 ≤ s (34 + 10 * j + 6) then s (34 + 10 * j + 6) else s 8 - nI 1) ?_ (fun key_59 => ?_)
      · refine tt_istore dX4_prolongPermit_59 rfl (Nat.le_of_ble_eq_true rfl) rfl ?_
        refine tt_aload_n dX4_prolongPermit_61 rfl ?_
        refine tt_iload dX4_prolongPermit_62 rfl ?_
        refine tt_iload_n dX4_prolongPermit_64 rfl ?_
        refine tt_iadd dX4_prolongPermit_65 ?_
        refine tt_sp dX4_prolongPermit_66 fX4_119 rfl rfl hS hp (by omega) (by decide) ?_
        refine tt_aload_n dX4_prolongPermit_69 rfl ?_
        refine tt_aload_n dX4_prolongPermit_70 rfl ?_
        refine tt_aload_n dX4_prolongPermit_71 rfl ?_
        refine tt_tA (c := 1) dX4_prolongPermit_72 fX4_18 rfl hS (by decide) rfl ?_
        refine tt_iconst (nI 1) dX4_prolongPermit_75 rfl ?_
        refine tt_tl1 dX4_prolongPermit_76 hS (by omega) ?_
        refine tt_iload_n dX4_prolongPermit_77 rfl ?_
        refine tt_imul dX4_prolongPermit_78 ?_
        refine tt_fVv (c_X4_charge hS _ hp _ (by omega) _ hc (by rw [pk_un (by omega)]; exact hcu) _) dX4_prolongPermit_79 vX4_122 rfl rfl (zTS_tw hS) (by decide) rfl (by decide) ⟨rfl, rfl⟩ (Nat.zero_le _) (Nat.zero_le _) (Nat.le_of_ble_eq_true rfl) ?_
        refine tt_aload_n dX4_prolongPermit_82 rfl ?_
        refine tt_sI dX4_prolongPermit_83 fX4_119 rfl hS hp (by omega) (by decide) ?_
        exact tt_ireturn dX4_prolongPermit_86 rfl rfl (Nat.zero_le _) (Nat.zero_le _) (by unfold kPej; rw [if_pos c_19, if_neg c_29]; exact ⟨rfl, rfl⟩)
      · refine tt_if_eqB (tgt := 53) dX4_prolongPermit_43 (by decide) (fun c_43 => ?_) (fun c_43 => ?_)
        · refine tt_aload_n dX4_prolongPermit_53 rfl ?_
          refine tt_tI dX4_prolongPermit_54 fX4_56 rfl hS rfl ?_
          refine tt_iconst (nI 1) dX4_prolongPermit_57 rfl ?_
          refine tt_isub dX4_prolongPermit_58 ?_
          exact key_59 _ (by first | exact (if_pos (by assumption)).symm | exact (if_neg (by assumption)).symm | simp_all)
        · refine tt_aload_n dX4_prolongPermit_46 rfl ?_
          refine tt_sI dX4_prolongPermit_47 fX4_119 rfl hS hp (by omega) (by decide) ?_
          refine tt_goto (tgt := 59) dX4_prolongPermit_50 (by decide) ?_
          exact key_59 _ (by first | exact (if_pos (by assumption)).symm | exact (if_neg (by assumption)).symm | simp_all)
    · refine tt_bipush (-5) dX4_prolongPermit_32 rfl ?_
      exact tt_ireturn dX4_prolongPermit_34 rfl rfl (Nat.zero_le _) (Nat.zero_le _) (by unfold kPej; rw [if_pos c_19, if_pos c_29]; exact ⟨rfl, rfl⟩)
  · refine tt_bipush (-2) dX4_prolongPermit_22 rfl ?_
    exact tt_ireturn dX4_prolongPermit_24 rfl rfl (Nat.zero_le _) (Nat.zero_le _) (by unfold kPej; rw [if_neg c_19]; exact ⟨rfl, rfl⟩)
set_option maxRecDepth 100000 in
set_option maxHeartbeats 4000000 in
theorem c_X4_prolongPermit_n {h : zhp} {b : Nat} (hS : zTS h b) (s : Nat → Int32) {p pi : Nat → Nat} (hp : zPm p pi) (n : Nat) (hw : sWF s n) (v : Int32) (hq : ¬ (nI 0 ≤ v ∧ v ≤ s 33 - nI 1)) (d : Int32) : MM iX4_prolongPermit [.ref b, .int v, .int d] (zt h b s p pi) (zfi (-1) (zt h b s p pi)) := by
  refine MM_of (by decide +kernel) (Nat.le_of_ble_eq_true rfl) ?_
  refine tt_aload_n dX4_prolongPermit_0 rfl ?_
  refine tt_iload_n dX4_prolongPermit_1 rfl ?_
  refine tt_fVr (c_X4_findSkip_n hS _ hp _ hw _ hq) dX4_prolongPermit_2 vX4_96 rfl rfl (zTS_tw hS) (by decide) rfl (by decide) ⟨rfl, rfl⟩ (Nat.zero_le _) (Nat.zero_le _) (Nat.le_of_ble_eq_true rfl) ?_
  refine tt_astore_nN dX4_prolongPermit_5 rfl (Nat.le_of_ble_eq_true rfl) rfl ?_
  refine tt_aload_nN dX4_prolongPermit_6 rfl ?_
  refine tt_ifnonnullN dX4_prolongPermit_7 ?_
  refine tt_iconst (-1) dX4_prolongPermit_10 rfl ?_
  exact tt_ireturn dX4_prolongPermit_11 rfl rfl (Nat.zero_le _) (Nat.zero_le _) ⟨rfl, rfl⟩
theorem c_X4_prolongPermit {h : zhp} {b : Nat} (hS : zTS h b) (s : Nat → Int32) {p pi : Nat → Nat} (hp : zPm p pi) (n : Nat) (hw : sWF s n) (v : Int32) (d : Int32) : MM iX4_prolongPermit [.ref b, .int v, .int d] (zt h b s p pi) (zfi (kPe s v d).1 (zt h b (kPe s v d).2 p pi)) := by
  unfold kPe
  by_cases q : nI 0 ≤ v ∧ v ≤ s 33 - nI 1
  · rw [if_pos q]
    have hn10 := hw.1
    obtain ⟨j, hj, rfl⟩ := zskip hw.1 hw.2.1 q
    obtain ⟨c, hc, hcu⟩ := hw.2.2 j hj
    rw [nI_clamp (show j < 2 ^ 31 by omega), cuN_eq hc hcu]
    exact c_X4_prolongPermit_y hS s hp n hw j hj c hc hcu d
  · rw [if_neg q]
    exact c_X4_prolongPermit_n hS s hp n hw v q d
set_option maxRecDepth 100000 in
set_option maxHeartbeats 4000000 in
theorem c_X4_fillLamp_y {h : zhp} {b : Nat} (hS : zTS h b) (s : Nat → Int32) {p pi : Nat → Nat} (hp : zPm p pi) (n : Nat) (hw : sWF s n) (j : Nat) (hj : j < n) : MM iX4_fillLamp [.ref b, .int (nI j)] (zt h b s p pi) (zfi (s (34 + 10 * j + 5)) (zt h b (upd s (34 + 10 * j + 5) (s 6)) p pi)) := by
  have hn10 := hw.1
  refine MM_of (by decide +kernel) (Nat.le_of_ble_eq_true rfl) ?_
  refine tt_aload_n dX4_fillLamp_0 rfl ?_
  refine tt_iload_n dX4_fillLamp_1 rfl ?_
  refine tt_fVr (c_X4_findSkip_y hS _ hp _ hw _ hj) dX4_fillLamp_2 vX4_96 rfl rfl (zTS_tw hS) (by decide) rfl (by decide) ⟨rfl, rfl⟩ (Nat.zero_le _) (Nat.zero_le _) (Nat.le_of_ble_eq_true rfl) ?_
  refine tt_astore_n dX4_fillLamp_5 rfl (Nat.le_of_ble_eq_true rfl) rfl ?_
  refine tt_aload_n dX4_fillLamp_6 rfl ?_
  refine tt_ifnonnull (tgt := 12) dX4_fillLamp_7 (by decide) ?_
  refine tt_aload_n dX4_fillLamp_12 rfl ?_
  refine tt_sI dX4_fillLamp_13 fX4_87 rfl hS hp (by omega) (by decide) ?_
  refine tt_istore_n dX4_fillLamp_16 rfl (Nat.le_of_ble_eq_true rfl) rfl ?_
  refine tt_aload_n dX4_fillLamp_17 rfl ?_
  refine tt_aload_n dX4_fillLamp_18 rfl ?_
  refine tt_tA (c := 1) dX4_fillLamp_19 fX4_18 rfl hS (by decide) rfl ?_
  refine tt_bipush (nI 6) dX4_fillLamp_22 rfl ?_
  refine tt_tl1 dX4_fillLamp_24 hS (by omega) ?_
  refine tt_sp dX4_fillLamp_25 fX4_87 rfl rfl hS hp (by omega) (by decide) ?_
  refine tt_iload_n dX4_fillLamp_28 rfl ?_
  exact tt_ireturn dX4_fillLamp_29 rfl rfl (Nat.zero_le _) (Nat.zero_le _) ⟨rfl, rfl⟩
set_option maxRecDepth 100000 in
set_option maxHeartbeats 4000000 in
theorem c_X4_fillLamp_n {h : zhp} {b : Nat} (hS : zTS h b) (s : Nat → Int32) {p pi : Nat → Nat} (hp : zPm p pi) (n : Nat) (hw : sWF s n) (v : Int32) (hq : ¬ (nI 0 ≤ v ∧ v ≤ s 33 - nI 1)) : MM iX4_fillLamp [.ref b, .int v] (zt h b s p pi) (zfi (-1) (zt h b s p pi)) := by
  refine MM_of (by decide +kernel) (Nat.le_of_ble_eq_true rfl) ?_
  refine tt_aload_n dX4_fillLamp_0 rfl ?_
  refine tt_iload_n dX4_fillLamp_1 rfl ?_
  refine tt_fVr (c_X4_findSkip_n hS _ hp _ hw _ hq) dX4_fillLamp_2 vX4_96 rfl rfl (zTS_tw hS) (by decide) rfl (by decide) ⟨rfl, rfl⟩ (Nat.zero_le _) (Nat.zero_le _) (Nat.le_of_ble_eq_true rfl) ?_
  refine tt_astore_nN dX4_fillLamp_5 rfl (Nat.le_of_ble_eq_true rfl) rfl ?_
  refine tt_aload_nN dX4_fillLamp_6 rfl ?_
  refine tt_ifnonnullN dX4_fillLamp_7 ?_
  refine tt_iconst (-1) dX4_fillLamp_10 rfl ?_
  exact tt_ireturn dX4_fillLamp_11 rfl rfl (Nat.zero_le _) (Nat.zero_le _) ⟨rfl, rfl⟩
theorem c_X4_fillLamp {h : zhp} {b : Nat} (hS : zTS h b) (s : Nat → Int32) {p pi : Nat → Nat} (hp : zPm p pi) (n : Nat) (hw : sWF s n) (v : Int32) : MM iX4_fillLamp [.ref b, .int v] (zt h b s p pi) (zfi (sOi s v).1 (zt h b (sOi s v).2 p pi)) := by
  unfold sOi
  by_cases q : nI 0 ≤ v ∧ v ≤ s 33 - nI 1
  · rw [if_pos q]
    have hn10 := hw.1
    obtain ⟨j, hj, rfl⟩ := zskip hw.1 hw.2.1 q
    obtain ⟨c, hc, hcu⟩ := hw.2.2 j hj
    rw [nI_clamp (show j < 2 ^ 31 by omega)]
    exact c_X4_fillLamp_y hS s hp n hw j hj 
  · rw [if_neg q]
    exact c_X4_fillLamp_n hS s hp n hw v q 
set_option maxRecDepth 100000 in
set_option maxHeartbeats 4000000 in
theorem c_X4_changeGrowth_y {h : zhp} {b : Nat} (hS : zTS h b) (s : Nat → Int32) {p pi : Nat → Nat} (hp : zPm p pi) (n : Nat) (hw : sWF s n) (j : Nat) (hj : j < n) (d : Int32) : MM iX4_changeGrowth [.ref b, .int (nI j), .int d] (zt h b s p pi) (zfi (if nI 0 ≤ d ∧ d ≤ nI 30 then (s (34 + 10 * j + 4), upd s (34 + 10 * j + 4) d) else (-2, s)).1 (zt h b (if nI 0 ≤ d ∧ d ≤ nI 30 then (s (34 + 10 * j + 4), upd s (34 + 10 * j + 4) d) else (-2, s)).2 p pi)) := by
  have hn10 := hw.1
  refine MM_of (by decide +kernel) (Nat.le_of_ble_eq_true rfl) ?_
  refine tt_aload_n dX4_changeGrowth_0 rfl ?_
  refine tt_iload_n dX4_changeGrowth_1 rfl ?_
  refine tt_fVr (c_X4_findSkip_y hS _ hp _ hw _ hj) dX4_changeGrowth_2 vX4_96 rfl rfl (zTS_tw hS) (by decide) rfl (by decide) ⟨rfl, rfl⟩ (Nat.zero_le _) (Nat.zero_le _) (Nat.le_of_ble_eq_true rfl) ?_
  refine tt_astore_n dX4_changeGrowth_5 rfl (Nat.le_of_ble_eq_true rfl) rfl ?_
  refine tt_aload_n dX4_changeGrowth_6 rfl ?_
  refine tt_ifnonnull (tgt := 12) dX4_changeGrowth_7 (by decide) ?_
  refine tt_iload_n dX4_changeGrowth_12 rfl ?_
  refine tt_iconst (nI 0) dX4_changeGrowth_13 rfl ?_
  refine tt_bipush (nI 30) dX4_changeGrowth_14 rfl ?_
  refine tt_fSNi (c_X5_isWithin _ _ _ _) dX4_changeGrowth_16 sX4_65 rfl rfl (by decide) ⟨rfl, rfl⟩ (Nat.zero_le _) (Nat.zero_le _) (Nat.le_of_ble_eq_true rfl) ?_
  refine tt_if_neB (tgt := 25) dX4_changeGrowth_19 (by decide) (fun c_19 => ?_) (fun c_19 => ?_)
  · refine tt_aload_n dX4_changeGrowth_25 rfl ?_
    refine tt_sI dX4_changeGrowth_26 fX4_126 rfl hS hp (by omega) (by decide) ?_
    refine tt_istore dX4_changeGrowth_29 rfl (Nat.le_of_ble_eq_true rfl) rfl ?_
    refine tt_aload_n dX4_changeGrowth_31 rfl ?_
    refine tt_iload_n dX4_changeGrowth_32 rfl ?_
    refine tt_sp dX4_changeGrowth_33 fX4_126 rfl rfl hS hp (by omega) (by decide) ?_
    refine tt_iload dX4_changeGrowth_36 rfl ?_
    exact tt_ireturn dX4_changeGrowth_38 rfl rfl (Nat.zero_le _) (Nat.zero_le _) (by rw [if_pos c_19]; exact ⟨rfl, rfl⟩)
  · refine tt_bipush (-2) dX4_changeGrowth_22 rfl ?_
    exact tt_ireturn dX4_changeGrowth_24 rfl rfl (Nat.zero_le _) (Nat.zero_le _) (by rw [if_neg c_19]; exact ⟨rfl, rfl⟩)
set_option maxRecDepth 100000 in
set_option maxHeartbeats 4000000 in
theorem c_X4_changeGrowth_n {h : zhp} {b : Nat} (hS : zTS h b) (s : Nat → Int32) {p pi : Nat → Nat} (hp : zPm p pi) (n : Nat) (hw : sWF s n) (v : Int32) (hq : ¬ (nI 0 ≤ v ∧ v ≤ s 33 - nI 1)) (d : Int32) : MM iX4_changeGrowth [.ref b, .int v, .int d] (zt h b s p pi) (zfi (-1) (zt h b s p pi)) := by
  refine MM_of (by decide +kernel) (Nat.le_of_ble_eq_true rfl) ?_
  refine tt_aload_n dX4_changeGrowth_0 rfl ?_
  refine tt_iload_n dX4_changeGrowth_1 rfl ?_
  refine tt_fVr (c_X4_findSkip_n hS _ hp _ hw _ hq) dX4_changeGrowth_2 vX4_96 rfl rfl (zTS_tw hS) (by decide) rfl (by decide) ⟨rfl, rfl⟩ (Nat.zero_le _) (Nat.zero_le _) (Nat.le_of_ble_eq_true rfl) ?_
  refine tt_astore_nN dX4_changeGrowth_5 rfl (Nat.le_of_ble_eq_true rfl) rfl ?_
  refine tt_aload_nN dX4_changeGrowth_6 rfl ?_
  refine tt_ifnonnullN dX4_changeGrowth_7 ?_
  refine tt_iconst (-1) dX4_changeGrowth_10 rfl ?_
  exact tt_ireturn dX4_changeGrowth_11 rfl rfl (Nat.zero_le _) (Nat.zero_le _) ⟨rfl, rfl⟩
theorem c_X4_changeGrowth {h : zhp} {b : Nat} (hS : zTS h b) (s : Nat → Int32) {p pi : Nat → Nat} (hp : zPm p pi) (n : Nat) (hw : sWF s n) (v : Int32) (d : Int32) : MM iX4_changeGrowth [.ref b, .int v, .int d] (zt h b s p pi) (zfi (sGro s v d).1 (zt h b (sGro s v d).2 p pi)) := by
  unfold sGro
  by_cases q : nI 0 ≤ v ∧ v ≤ s 33 - nI 1
  · rw [if_pos q]
    have hn10 := hw.1
    obtain ⟨j, hj, rfl⟩ := zskip hw.1 hw.2.1 q
    obtain ⟨c, hc, hcu⟩ := hw.2.2 j hj
    rw [nI_clamp (show j < 2 ^ 31 by omega)]
    exact c_X4_changeGrowth_y hS s hp n hw j hj d
  · rw [if_neg q]
    exact c_X4_changeGrowth_n hS s hp n hw v q d
set_option maxRecDepth 100000 in
set_option maxHeartbeats 4000000 in
theorem c_X4_changeSetting {h : zhp} {b : Nat} (hS : zTS h b) (s : Nat → Int32) {p pi : Nat → Nat} (hp : zPm p pi) (hL : zSt h ∧ 4 ≤ b) (v w : Int32) : MM iX4_changeSetting [.ref b, .int v, .int w] (zt h b s p pi) (zfi (sSet s v w).1 (zt h b (sSet s v w).2 p pi)) := by
  refine MM_of (by decide +kernel) (Nat.le_of_ble_eq_true rfl) ?_
  refine tt_iload_n dX4_changeSetting_0 rfl ?_
  refine tt_iconst (nI 0) dX4_changeSetting_1 rfl ?_
  refine tt_bipush (nI 7) dX4_changeSetting_2 rfl ?_
  refine tt_fSNi (c_X5_isWithin _ _ _ _) dX4_changeSetting_4 sX4_65 rfl rfl (by decide) ⟨rfl, rfl⟩ (Nat.zero_le _) (Nat.zero_le _) (Nat.le_of_ble_eq_true rfl) ?_
  refine tt_if_neB (tgt := 13) dX4_changeSetting_7 (by decide) (fun c_7 => ?_) (fun c_7 => ?_)
  · have c_7b := c_7
    obtain ⟨k, hk, rfl⟩ := zrng (x := v) (b := 7) (by omega) c_7
    refine tt_iload_n dX4_changeSetting_13 rfl ?_
    refine tt_getsN (j0 := 1) dX4_changeSetting_14 (by decide) (fun U q => q.2.2.2.2.2.2.2.1) ?_
    refine tt_iload_n dX4_changeSetting_17 rfl ?_
    refine tt_li1 dX4_changeSetting_18 hL (by omega) ?_
    refine tt_getsN (j0 := 2) dX4_changeSetting_19 (by decide) (fun U q => q.2.2.2.2.2.2.2.2.1) ?_
    refine tt_iload_n dX4_changeSetting_22 rfl ?_
    refine tt_li2 dX4_changeSetting_23 hL (by omega) ?_
    refine tt_fSNi (c_X5_isWithin _ _ _ _) dX4_changeSetting_24 sX4_65 rfl rfl (by decide) ⟨rfl, rfl⟩ (Nat.zero_le _) (Nat.zero_le _) (Nat.le_of_ble_eq_true rfl) ?_
    refine tt_if_neB (tgt := 33) dX4_changeSetting_27 (by decide) (fun c_27 => ?_) (fun c_27 => ?_)
    · refine tt_aload_n dX4_changeSetting_33 rfl ?_
      refine tt_tA (c := 1) dX4_changeSetting_34 fX4_18 rfl hS (by decide) rfl ?_
      refine tt_iload_n dX4_changeSetting_37 rfl ?_
      refine tt_tl1 dX4_changeSetting_38 hS (by omega) ?_
      refine tt_istore_n dX4_changeSetting_39 rfl (Nat.le_of_ble_eq_true rfl) rfl ?_
      refine tt_aload_n dX4_changeSetting_40 rfl ?_
      refine tt_tA (c := 1) dX4_changeSetting_41 fX4_18 rfl hS (by decide) rfl ?_
      refine tt_iload_n dX4_changeSetting_44 rfl ?_
      refine tt_iload_n dX4_changeSetting_45 rfl ?_
      refine tt_ts1 dX4_changeSetting_46 hS hp (by omega) ?_
      refine tt_iload_n dX4_changeSetting_47 rfl ?_
      exact tt_ireturn dX4_changeSetting_48 rfl rfl (Nat.zero_le _) (Nat.zero_le _) (by unfold sSet; rw [if_pos c_7b, if_pos c_27, nI_clamp (by omega)]; exact ⟨rfl, rfl⟩)
    · refine tt_bipush (-2) dX4_changeSetting_30 rfl ?_
      exact tt_ireturn dX4_changeSetting_32 rfl rfl (Nat.zero_le _) (Nat.zero_le _) (by unfold sSet; rw [if_pos c_7b, if_neg c_27]; exact ⟨rfl, rfl⟩)
  · refine tt_bipush (-2) dX4_changeSetting_10 rfl ?_
    exact tt_ireturn dX4_changeSetting_12 rfl rfl (Nat.zero_le _) (Nat.zero_le _) (by unfold sSet; rw [if_neg c_7]; exact ⟨rfl, rfl⟩)
set_option maxRecDepth 100000 in
set_option maxHeartbeats 4000000 in
theorem c_X4_changePlaces {h : zhp} {b : Nat} (hS : zTS h b) (s : Nat → Int32) {p pi : Nat → Nat} (hp : zPm p pi) (v w : Int32) : MM iX4_changePlaces [.ref b, .int v, .int w] (zt h b s p pi) (zfi (sPlaces s v w).1 (zt h b (sPlaces s v w).2 p pi)) := by
  refine MM_of (by decide +kernel) (Nat.le_of_ble_eq_true rfl) ?_
  refine tt_iload_n dX4_changePlaces_0 rfl ?_
  refine tt_iconst (nI 0) dX4_changePlaces_1 rfl ?_
  refine tt_iconst (nI 4) dX4_changePlaces_2 rfl ?_
  refine tt_fSNi (c_X5_isWithin _ _ _ _) dX4_changePlaces_3 sX4_65 rfl rfl (by decide) ⟨rfl, rfl⟩ (Nat.zero_le _) (Nat.zero_le _) (Nat.le_of_ble_eq_true rfl) ?_
  refine tt_if_neB (tgt := 11) dX4_changePlaces_6 (by decide) (fun c_6 => ?_) (fun c_6 => ?_)
  · have c_6b := c_6
    obtain ⟨k, hk, rfl⟩ := zrng (x := v) (b := 4) (by omega) c_6
    refine tt_iload_n dX4_changePlaces_11 rfl ?_
    refine tt_iconst (nI 1) dX4_changePlaces_12 rfl ?_
    refine tt_iconst (nI 4) dX4_changePlaces_13 rfl ?_
    refine tt_fSNi (c_X5_isWithin _ _ _ _) dX4_changePlaces_14 sX4_65 rfl rfl (by decide) ⟨rfl, rfl⟩ (Nat.zero_le _) (Nat.zero_le _) (Nat.le_of_ble_eq_true rfl) ?_
    refine tt_if_neB (tgt := 23) dX4_changePlaces_17 (by decide) (fun c_17 => ?_) (fun c_17 => ?_)
    · refine tt_aload_n dX4_changePlaces_23 rfl ?_
      refine tt_tA (c := 2) dX4_changePlaces_24 fX4_23 rfl hS (by decide) rfl ?_
      refine tt_iload_n dX4_changePlaces_27 rfl ?_
      refine tt_tl2 dX4_changePlaces_28 hS (by omega) ?_
      refine tt_istore_n dX4_changePlaces_29 rfl (Nat.le_of_ble_eq_true rfl) rfl ?_
      refine tt_aload_n dX4_changePlaces_30 rfl ?_
      refine tt_tA (c := 2) dX4_changePlaces_31 fX4_23 rfl hS (by decide) rfl ?_
      refine tt_iload_n dX4_changePlaces_34 rfl ?_
      refine tt_iload_n dX4_changePlaces_35 rfl ?_
      refine tt_ts2 dX4_changePlaces_36 hS hp (by omega) ?_
      refine tt_iload_n dX4_changePlaces_37 rfl ?_
      exact tt_ireturn dX4_changePlaces_38 rfl rfl (Nat.zero_le _) (Nat.zero_le _) (by unfold sPlaces; rw [if_pos c_6b, if_pos c_17, nI_clamp (by omega)]; exact ⟨rfl, rfl⟩)
    · refine tt_bipush (-2) dX4_changePlaces_20 rfl ?_
      exact tt_ireturn dX4_changePlaces_22 rfl rfl (Nat.zero_le _) (Nat.zero_le _) (by unfold sPlaces; rw [if_pos c_6b, if_neg c_17]; exact ⟨rfl, rfl⟩)
  · refine tt_iconst (-1) dX4_changePlaces_9 rfl ?_
    exact tt_ireturn dX4_changePlaces_10 rfl rfl (Nat.zero_le _) (Nat.zero_le _) (by unfold sPlaces; rw [if_neg c_6]; exact ⟨rfl, rfl⟩)
set_option maxRecDepth 100000 in
set_option maxHeartbeats 4000000 in
theorem c_X4_hasPlace {h : zhp} {b : Nat} (hS : zTS h b) (s : Nat → Int32) {p pi : Nat → Nat} (hp : zPm p pi) (n : Nat) (hw : sWF s n) (st : Nat) (hst : st ≤ 5) : MM iX4_hasPlace [.ref b, .int (nI st)] (zt h b s p pi) (zfi (zb (nI st = nI 5 ∨ nI (kCs s n (nI st)) < s (10 + st))) (zt h b s p pi)) := by
  refine MM_of (by decide +kernel) (Nat.le_of_ble_eq_true rfl) ?_
  refine tt_iload_n dX4_hasPlace_0 rfl ?_
  refine tt_iconst (nI 5) dX4_hasPlace_1 rfl ?_
  refine tt_icmp_eq (tgt := 19) dX4_hasPlace_2 (by decide) (fun c_2 => ?_) (fun c_2 => ?_)
  · refine tt_iconst (nI 1) dX4_hasPlace_19 rfl ?_
    refine tt_goto (tgt := 24) dX4_hasPlace_20 (by decide) ?_
    exact tt_ireturn dX4_hasPlace_24 rfl rfl (Nat.zero_le _) (Nat.zero_le _) ⟨congrArg (fun z => some (Value.int z)) (by first | exact (if_pos (Or.inl c_2)).symm | exact (if_pos (Or.inr c_16)).symm | exact (if_pos (Or.inr (Int32.not_le.mp c_16))).symm | exact (zb_f (fun q => q.elim c_2 (fun z => Int32.not_lt.mpr c_16 z))).symm), rfl⟩
  · have hne : st ≠ 5 := fun q => c_2 (by rw [q])
    refine tt_aload_n dX4_hasPlace_5 rfl ?_
    refine tt_iload_n dX4_hasPlace_6 rfl ?_
    refine tt_fVi (c_X4_skipsIn hS _ hp _ hw _) dX4_hasPlace_7 vX4_155 rfl rfl (zTS_tw hS) (by decide) rfl (by decide) ⟨rfl, rfl⟩ (Nat.zero_le _) (Nat.zero_le _) (Nat.le_of_ble_eq_true rfl) ?_
    refine tt_aload_n dX4_hasPlace_10 rfl ?_
    refine tt_tA (c := 2) dX4_hasPlace_11 fX4_23 rfl hS (by decide) rfl ?_
    refine tt_iload_n dX4_hasPlace_14 rfl ?_
    refine tt_tl2 dX4_hasPlace_15 hS (by omega) ?_
    refine tt_icmp_ge (tgt := 23) dX4_hasPlace_16 (by decide) (fun c_16 => ?_) (fun c_16 => ?_)
    · refine tt_iconst (nI 0) dX4_hasPlace_23 rfl ?_
      exact tt_ireturn dX4_hasPlace_24 rfl rfl (Nat.zero_le _) (Nat.zero_le _) ⟨congrArg (fun z => some (Value.int z)) (by first | exact (if_pos (Or.inl c_2)).symm | exact (if_pos (Or.inr c_16)).symm | exact (if_pos (Or.inr (Int32.not_le.mp c_16))).symm | exact (zb_f (fun q => q.elim c_2 (fun z => Int32.not_lt.mpr c_16 z))).symm), rfl⟩
    · refine tt_iconst (nI 1) dX4_hasPlace_19 rfl ?_
      refine tt_goto (tgt := 24) dX4_hasPlace_20 (by decide) ?_
      exact tt_ireturn dX4_hasPlace_24 rfl rfl (Nat.zero_le _) (Nat.zero_le _) ⟨congrArg (fun z => some (Value.int z)) (by first | exact (if_pos (Or.inl c_2)).symm | exact (if_pos (Or.inr c_16)).symm | exact (if_pos (Or.inr (Int32.not_le.mp c_16))).symm | exact (zb_f (fun q => q.elim c_2 (fun z => Int32.not_lt.mpr c_16 z))).symm), rfl⟩
set_option maxRecDepth 100000 in
set_option maxHeartbeats 4000000 in
theorem c_X4_bringSkip {h : zhp} {b : Nat} (hS : zTS h b) (s : Nat → Int32) {p pi : Nat → Nat} (hp : zPm p pi) (n : Nat) (hw : sWF s n) (cu z st g : Int32) : MM iX4_bringSkip [.ref b, .int cu, .int z, .int st, .int g] (zt h b s p pi) (zfi (kPuts s n cu z st g).1 (zt h b (kPuts s n cu z st g).2 p pi)) := by
  have hn10 := hw.1
  refine MM_of (by decide +kernel) (Nat.le_of_ble_eq_true rfl) ?_
  refine tt_iload_n dX4_bringSkip_0 rfl ?_
  refine tt_iconst (nI 0) dX4_bringSkip_1 rfl ?_
  refine tt_iconst (nI 5) dX4_bringSkip_2 rfl ?_
  refine tt_fSNi (c_X5_isWithin _ _ _ _) dX4_bringSkip_3 sX4_65 rfl rfl (by decide) ⟨rfl, rfl⟩ (Nat.zero_le _) (Nat.zero_le _) (Nat.le_of_ble_eq_true rfl) ?_
  refine tt_if_eqB (tgt := 18) dX4_bringSkip_6 (by decide) (fun c_6 => ?_) (fun c_6 => ?_)
  · refine tt_iconst (-1) dX4_bringSkip_18 rfl ?_
    exact tt_ireturn dX4_bringSkip_19 rfl rfl (Nat.zero_le _) (Nat.zero_le _) (by unfold kPuts; rw [if_neg (fun q => by first | exact c_6 q.1 | exact c_15 q.2)]; exact ⟨rfl, rfl⟩)
  · refine tt_iload_n dX4_bringSkip_9 rfl ?_
    refine tt_iconst (nI 0) dX4_bringSkip_10 rfl ?_
    refine tt_iconst (nI 5) dX4_bringSkip_11 rfl ?_
    refine tt_fSNi (c_X5_isWithin _ _ _ _) dX4_bringSkip_12 sX4_65 rfl rfl (by decide) ⟨rfl, rfl⟩ (Nat.zero_le _) (Nat.zero_le _) (Nat.le_of_ble_eq_true rfl) ?_
    refine tt_if_neB (tgt := 20) dX4_bringSkip_15 (by decide) (fun c_15 => ?_) (fun c_15 => ?_)
    · have c_15b := c_15
      obtain ⟨sn, hsn, rfl⟩ := zrng (x := st) (b := 5) (by omega) c_15
      refine tt_iload_n dX4_bringSkip_20 rfl ?_
      refine tt_iconst (nI 0) dX4_bringSkip_21 rfl ?_
      refine tt_iconst (nI 3) dX4_bringSkip_22 rfl ?_
      refine tt_fSNi (c_X5_isWithin _ _ _ _) dX4_bringSkip_23 sX4_65 rfl rfl (by decide) ⟨rfl, rfl⟩ (Nat.zero_le _) (Nat.zero_le _) (Nat.le_of_ble_eq_true rfl) ?_
      refine tt_if_eqB (tgt := 40) dX4_bringSkip_26 (by decide) (fun c_26 => ?_) (fun c_26 => ?_)
      · refine tt_bipush (-2) dX4_bringSkip_40 rfl ?_
        exact tt_ireturn dX4_bringSkip_42 rfl rfl (Nat.zero_le _) (Nat.zero_le _) (by unfold kPuts; rw [if_pos ⟨c_6, c_15b⟩, if_neg (fun q => by first | exact c_26 q.1 | exact c_37 q.2)]; exact ⟨rfl, rfl⟩)
      · refine tt_iload dX4_bringSkip_29 rfl ?_
        refine tt_iconst (nI 0) dX4_bringSkip_31 rfl ?_
        refine tt_bipush (nI 30) dX4_bringSkip_32 rfl ?_
        refine tt_fSNi (c_X5_isWithin _ _ _ _) dX4_bringSkip_34 sX4_65 rfl rfl (by decide) ⟨rfl, rfl⟩ (Nat.zero_le _) (Nat.zero_le _) (Nat.le_of_ble_eq_true rfl) ?_
        refine tt_if_neB (tgt := 43) dX4_bringSkip_37 (by decide) (fun c_37 => ?_) (fun c_37 => ?_)
        · refine tt_aload_n dX4_bringSkip_43 rfl ?_
          refine tt_iload_n dX4_bringSkip_44 rfl ?_
          refine tt_fVi (c_X4_hasPlace hS _ hp _ hw _ (by omega)) dX4_bringSkip_45 vX4_75 rfl rfl (zTS_tw hS) (by decide) rfl (by decide) ⟨rfl, rfl⟩ (Nat.zero_le _) (Nat.zero_le _) (Nat.le_of_ble_eq_true rfl) ?_
          refine tt_if_eqB (tgt := 58) dX4_bringSkip_48 (by decide) (fun c_48 => ?_) (fun c_48 => ?_)
          · refine tt_bipush (-5) dX4_bringSkip_58 rfl ?_
            exact tt_ireturn dX4_bringSkip_60 rfl rfl (Nat.zero_le _) (Nat.zero_le _) (by unfold kPuts; rw [if_pos ⟨c_6, c_15b⟩, if_pos ⟨c_26, c_37⟩, if_neg (fun q => by first | exact q.2 c_55 | (rw [nI_clamp (by omega)] at q; exact c_48 q.1))]; exact ⟨rfl, rfl⟩)
          · refine tt_aload_n dX4_bringSkip_51 rfl ?_
            refine tt_fVi (c_X4_tripsLeft hS _ hp) dX4_bringSkip_52 vX4_79 rfl rfl (zTS_tw hS) (by decide) rfl (by decide) ⟨rfl, rfl⟩ (Nat.zero_le _) (Nat.zero_le _) (Nat.le_of_ble_eq_true rfl) ?_
            refine tt_if_ne (tgt := 61) dX4_bringSkip_55 (by decide) (fun c_55 => ?_) (fun c_55 => ?_)
            · refine tt_aload_n dX4_bringSkip_61 rfl ?_
              refine tt_tI dX4_bringSkip_62 fX4_48 rfl hS rfl ?_
              refine tt_bipush (nI 10) dX4_bringSkip_65 rfl ?_
              skip
              refine tt_icmp_lt (tgt := 73) dX4_bringSkip_67 (by decide) (fun c_67 => ?_) (fun c_67 => ?_)
              · have hn9 : n < 10 := (nI_ltI (by omega) (by omega)).mp (by rw [← hw.2.1]; exact c_67)
                obtain ⟨cn, hcn, rfl⟩ := zrng (x := cu) (b := 5) (by omega) c_6
                have hcc2 : cn < 6 := by omega
                refine tt_aload_n dX4_bringSkip_73 rfl ?_
                refine tt_tI dX4_bringSkip_74 fX4_48 rfl hS rfl ?_
                refine tt_eq hw.2.1 ?_
                refine tt_istore dX4_bringSkip_77 rfl (Nat.le_of_ble_eq_true rfl) rfl ?_
                refine tt_aload_n dX4_bringSkip_79 rfl ?_
                refine tt_tA (c := 6) dX4_bringSkip_80 fX4_37 rfl hS (by decide) rfl ?_
                refine tt_iload dX4_bringSkip_83 rfl ?_
                refine tt_tsk dX4_bringSkip_85 hS (by omega) ?_
                refine tt_astore dX4_bringSkip_86 rfl (Nat.le_of_ble_eq_true rfl) rfl ?_
                refine tt_aload dX4_bringSkip_88 rfl ?_
                refine tt_iload_n dX4_bringSkip_90 rfl ?_
                refine tt_iload_n dX4_bringSkip_91 rfl ?_
                refine tt_iload_n dX4_bringSkip_92 rfl ?_
                refine tt_iload dX4_bringSkip_93 rfl ?_
                refine tt_fVv (c_X3_begin hS _ hp _ (by omega) _ _ _ _) dX4_bringSkip_95 vX4_83 rfl rfl (zTS_sk hS hp (by omega)) (by decide) rfl (by decide) ⟨rfl, rfl⟩ (Nat.zero_le _) (Nat.zero_le _) (Nat.le_of_ble_eq_true rfl) ?_
                refine tt_aload dX4_bringSkip_98 rfl ?_
                refine tt_aload_n dX4_bringSkip_100 rfl ?_
                refine tt_tA (c := 1) dX4_bringSkip_101 fX4_18 rfl hS (by decide) rfl ?_
                refine tt_bipush (nI 6) dX4_bringSkip_104 rfl ?_
                refine tt_tl1 dX4_bringSkip_106 hS (by omega) ?_
                refine tt_sp dX4_bringSkip_107 fX4_87 rfl rfl hS hp (by omega) (by decide) ?_
                refine tt_aload dX4_bringSkip_110 rfl ?_
                refine tt_aload_n dX4_bringSkip_112 rfl ?_
                refine tt_tI dX4_bringSkip_113 fX4_56 rfl hS rfl ?_
                refine tt_sp dX4_bringSkip_116 fX4_90 rfl rfl hS hp (by omega) (by decide) ?_
                refine tt_aload_n dX4_bringSkip_119 rfl ?_
                refine tt_dup dX4_bringSkip_120 rfl ?_
                refine tt_tI dX4_bringSkip_121 fX4_48 rfl hS rfl ?_
                refine tt_iconst (nI 1) dX4_bringSkip_124 rfl ?_
                refine tt_iadd dX4_bringSkip_125 ?_
                refine tt_tp dX4_bringSkip_126 fX4_48 rfl rfl hS hp rfl ?_
                refine tt_aload_n dX4_bringSkip_129 rfl ?_
                refine tt_aload dX4_bringSkip_130 rfl ?_
                refine tt_fVv (c_X4_makeTrip hS _ hp _ (by omega) _ hcc2 (by rw [pk_un (by omega), pk_un (by omega), pk_un (by omega)]; unfold kBg; rw [pk_un (by omega), pk_un (by omega), pk_un (by omega), pk_un (by omega), pk_un (by omega), pk_un (by omega), pk_un (by omega), pk_us]) ) dX4_bringSkip_132 vX4_93 rfl rfl (zTS_tw hS) (by decide) rfl (by decide) ⟨rfl, rfl⟩ (Nat.zero_le _) (Nat.zero_le _) (Nat.le_of_ble_eq_true rfl) ?_
                refine tt_iload dX4_bringSkip_135 rfl ?_
                exact tt_ireturn dX4_bringSkip_137 rfl rfl (Nat.zero_le _) (Nat.zero_le _) (by unfold kPuts; rw [if_pos ⟨c_6, c_15b⟩, if_pos ⟨c_26, c_37⟩, if_pos ⟨by rw [nI_clamp (by omega)]; exact c_48, c_55⟩, if_pos c_67, nI_clamp (show cn < 2 ^ 31 by omega)]; exact ⟨rfl, rfl⟩)
              · refine tt_bipush (-4) dX4_bringSkip_70 rfl ?_
                exact tt_ireturn dX4_bringSkip_72 rfl rfl (Nat.zero_le _) (Nat.zero_le _) (by unfold kPuts; rw [if_pos ⟨c_6, c_15b⟩, if_pos ⟨c_26, c_37⟩, if_pos ⟨by rw [nI_clamp (by omega)]; exact c_48, c_55⟩, if_neg c_67]; exact ⟨rfl, rfl⟩)
            · refine tt_bipush (-5) dX4_bringSkip_58 rfl ?_
              exact tt_ireturn dX4_bringSkip_60 rfl rfl (Nat.zero_le _) (Nat.zero_le _) (by unfold kPuts; rw [if_pos ⟨c_6, c_15b⟩, if_pos ⟨c_26, c_37⟩, if_neg (fun q => by first | exact q.2 c_55 | (rw [nI_clamp (by omega)] at q; exact c_48 q.1))]; exact ⟨rfl, rfl⟩)
        · refine tt_bipush (-2) dX4_bringSkip_40 rfl ?_
          exact tt_ireturn dX4_bringSkip_42 rfl rfl (Nat.zero_le _) (Nat.zero_le _) (by unfold kPuts; rw [if_pos ⟨c_6, c_15b⟩, if_neg (fun q => by first | exact c_26 q.1 | exact c_37 q.2)]; exact ⟨rfl, rfl⟩)
    · refine tt_iconst (-1) dX4_bringSkip_18 rfl ?_
      exact tt_ireturn dX4_bringSkip_19 rfl rfl (Nat.zero_le _) (Nat.zero_le _) (by unfold kPuts; rw [if_neg (fun q => by first | exact c_6 q.1 | exact c_15 q.2)]; exact ⟨rfl, rfl⟩)
set_option maxRecDepth 100000 in
set_option maxHeartbeats 4000000 in
theorem c_X4_passDays {h : zhp} {b : Nat} (hS : zTS h b) (s : Nat → Int32) {p pi : Nat → Nat} (hp : zPm p pi) (n : Nat) (hw : sWF s n) (d : Int32) : MM iX4_passDays [.ref b, .int d] (zt h b s p pi) (zfi (kPas s n d).1 (zt h b (kPas s n d).2 p pi)) := by
  refine MM_of (by decide +kernel) (Nat.le_of_ble_eq_true rfl) ?_
  refine tt_iload_n dX4_passDays_0 rfl ?_
  refine tt_iconst (nI 1) dX4_passDays_1 rfl ?_
  refine tt_bipush (nI 99) dX4_passDays_2 rfl ?_
  refine tt_fSNi (c_X5_isWithin _ _ _ _) dX4_passDays_4 sX4_65 rfl rfl (by decide) ⟨rfl, rfl⟩ (Nat.zero_le _) (Nat.zero_le _) (Nat.le_of_ble_eq_true rfl) ?_
  refine tt_if_neB (tgt := 13) dX4_passDays_7 (by decide) (fun c_7 => ?_) (fun c_7 => ?_)
  · refine tt_aload_n dX4_passDays_13 rfl ?_
    refine tt_tI dX4_passDays_14 fX4_56 rfl hS rfl ?_
    refine tt_iload_n dX4_passDays_17 rfl ?_
    refine tt_iadd dX4_passDays_18 ?_
    refine tt_sipush (nI 9999) dX4_passDays_19 rfl ?_
    refine tt_icmp_le (tgt := 28) dX4_passDays_22 (by decide) (fun c_22 => ?_) (fun c_22 => ?_)
    · refine tt_iconst (nI 0) dX4_passDays_28 rfl ?_
      refine tt_istore_n dX4_passDays_29 rfl (Nat.le_of_ble_eq_true rfl) rfl ?_
      refine tt_iconst (nI 0) dX4_passDays_30 rfl ?_
      refine tt_istore_n dX4_passDays_31 rfl (Nat.le_of_ble_eq_true rfl) rfl ?_
      refine tt_loop (fun j (x : Int32 × (Nat → Int32)) => (x.1 + (kHi x.2 j d + kFi x.2 j d), kPd x.2 j (cuN x.2 j) d)) n (fun _ x => sWF x.2 n) (fun k x => [some (.ref b), some (.int d), some (.int x.1), some (.int (nI k))]) (fun _ x => zt h b x.2 p pi) (nI 0, s) hw (fun k x hk hx => kDyI k x.2 hk hx) (fun hx => ?_) (fun k x hk hI ih => ?_)
      · have hn10 := hw.1
        have hn33 := hx.2.1
        refine tt_iload_n dX4_passDays_32 rfl ?_
        refine tt_aload_n dX4_passDays_33 rfl ?_
        refine tt_tI dX4_passDays_34 fX4_48 rfl hS rfl ?_
        refine tt_eq hn33 ?_
        refine tt_icmp_geN (tgt := 60) dX4_passDays_37 (by decide) (by omega) (by omega) (fun c_37 => ?_) (fun c_37 => ?_)
        · refine tt_aload_n dX4_passDays_60 rfl ?_
          refine tt_dup dX4_passDays_61 rfl ?_
          refine tt_tI dX4_passDays_62 fX4_56 rfl hS rfl ?_
          refine tt_iload_n dX4_passDays_65 rfl ?_
          refine tt_iadd dX4_passDays_66 ?_
          refine tt_tp dX4_passDays_67 fX4_56 rfl rfl hS hp rfl ?_
          refine tt_aload_n dX4_passDays_70 rfl ?_
          refine tt_iconst (nI 0) dX4_passDays_71 rfl ?_
          refine tt_tp dX4_passDays_72 fX4_59 rfl rfl hS hp rfl ?_
          refine tt_iload_n dX4_passDays_75 rfl ?_
          exact tt_ireturn dX4_passDays_76 rfl rfl (Nat.zero_le _) (Nat.zero_le _) (by unfold kPas; rw [if_pos c_7, if_pos c_22]; exact ⟨rfl, rfl⟩)
        · exact absurd c_37 (by omega)
      · have hn10 := hw.1
        have hn33 := hI.2.1
        obtain ⟨c, hc, hcu⟩ := hI.2.2 k hk
        rw [cuN_eq hc hcu] at ih
        refine tt_iload_n dX4_passDays_32 rfl ?_
        refine tt_aload_n dX4_passDays_33 rfl ?_
        refine tt_tI dX4_passDays_34 fX4_48 rfl hS rfl ?_
        refine tt_eq hn33 ?_
        refine tt_icmp_geN (tgt := 60) dX4_passDays_37 (by decide) (by omega) (by omega) (fun c_37 => ?_) (fun c_37 => ?_)
        · exact absurd c_37 (by omega)
        · refine tt_iload_n dX4_passDays_40 rfl ?_
          refine tt_aload_n dX4_passDays_41 rfl ?_
          refine tt_aload_n dX4_passDays_42 rfl ?_
          refine tt_tA (c := 6) dX4_passDays_43 fX4_37 rfl hS (by decide) rfl ?_
          refine tt_iload_n dX4_passDays_46 rfl ?_
          refine tt_tsk dX4_passDays_47 hS (by omega) ?_
          refine tt_iload_n dX4_passDays_48 rfl ?_
          refine tt_fVi (c_X4_passDaysOf hS _ hp _ (by omega) _ hc hcu _) dX4_passDays_49 vX4_129 rfl rfl (zTS_tw hS) (by decide) rfl (by decide) ⟨rfl, rfl⟩ (Nat.zero_le _) (Nat.zero_le _) (Nat.le_of_ble_eq_true rfl) ?_
          refine tt_iadd dX4_passDays_52 ?_
          refine tt_istore_n dX4_passDays_53 rfl (Nat.le_of_ble_eq_true rfl) rfl ?_
          refine tt_iincN dX4_passDays_54 rfl rfl (Nat.le_of_ble_eq_true rfl) rfl ?_
          refine tt_goto (tgt := 32) dX4_passDays_57 (by decide) ?_
          exact ih
    · refine tt_bipush (-4) dX4_passDays_25 rfl ?_
      exact tt_ireturn dX4_passDays_27 rfl rfl (Nat.zero_le _) (Nat.zero_le _) (by unfold kPas; rw [if_pos c_7, if_neg c_22]; exact ⟨rfl, rfl⟩)
  · refine tt_bipush (-2) dX4_passDays_10 rfl ?_
    exact tt_ireturn dX4_passDays_12 rfl rfl (Nat.zero_le _) (Nat.zero_le _) (by unfold kPas; rw [if_neg c_7]; exact ⟨rfl, rfl⟩)

