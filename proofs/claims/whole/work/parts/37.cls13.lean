/-! the class: an order is done; a reader is made; fault -/
section
variable {i j : zmi} {pc : Nat} {L : List (Option Value)} {st stk : List Value} {h h0 : zhp} {cc sc : Nat} {Q : Option Value → zhp → Prop} {av : List Value} {b r : Nat} {s R : Nat → Int32} {p pi : Nat → Nat}
def zRo (h : zhp) (b r : Nat) (R : Nat → Int32) : Prop := zT h r = 2 ∧ b + 17 ≤ r ∧ ∀ k, zI h r k = R k
theorem tt_rO {fk idx : Nat} (d : decode (mC i) pc = .ok (.getfield idx, 3)) (f : zFL (mY i).cls idx 2 fk) (hr : zisR (zty 2 fk) = false) (hR : zRo h b r R) (kt : TT i (pc + 3) L (.int (R fk) :: st) (zt h b s p pi) cc sc Q) : TT i pc L (.ref r :: st) (zt h b s p pi) cc sc Q := by
  refine tt_getI d f hr hR.1 ?_
  rw [show zI (zt h b s p pi) r fk = R fk from (zt_I (by have := hR.2.1; omega)).trans (hR.2.2 fk)]
  exact kt
end
/-- what the class does with an order -/
def kEx (s : Nat → Int32) (n : Nat) (o : Int32 × (Int32 × Int32 × Int32 × Int32) × Nat × Bool) : Int32 × (Nat → Int32) :=
  if o.1 = nI 43 then kPuts s n o.2.1.1 o.2.1.2.1 o.2.1.2.2.1 o.2.1.2.2.2 else if o.1 = nI 119 then kSw s o.2.1.1 else if o.1 = nI 45 then kTk s n o.2.1.1 else if o.1 = nI 112 then kPe s o.2.1.1 o.2.1.2.2.2 else if o.1 = nI 111 then sOi s o.2.1.1 else kPas s n o.2.1.2.2.2
set_option maxRecDepth 100000 in
set_option maxHeartbeats 4000000 in
theorem c_X4_obey_43 {h : zhp} {b : Nat} (hS : zTS h b) (s : Nat → Int32) {p pi : Nat → Nat} (hp : zPm p pi) {r : Nat} {R : Nat → Int32} (hR : zRo h b r R) (n : Nat) (hw : sWF s n) (hs : R 2 = nI 43) : MM iX4_obey [.ref b, .ref r] (zt h b s p pi) (zfp (kPuts s n (R 3) (R 4) (R 5) (R 7)).1 h b (kPuts s n (R 3) (R 4) (R 5) (R 7)).2) := by
  refine MM_of (by decide +kernel) (Nat.le_of_ble_eq_true rfl) ?_
  refine tt_aload_n dX4_obey_0 rfl ?_
  refine tt_rO dX4_obey_1 fX4_168 rfl hR ?_
  refine tt_eq (hs) ?_
  refine tt_lookup (off := 52) (tgt := 56) dX4_obey_4 (by decide) (by decide) (by decide) ?_
  refine tt_aload_n dX4_obey_56 rfl ?_
  refine tt_aload_n dX4_obey_57 rfl ?_
  refine tt_rO dX4_obey_58 fX4_173 rfl hR ?_
  refine tt_aload_n dX4_obey_61 rfl ?_
  refine tt_rO dX4_obey_62 fX4_174 rfl hR ?_
  refine tt_aload_n dX4_obey_65 rfl ?_
  refine tt_rO dX4_obey_66 fX4_175 rfl hR ?_
  refine tt_aload_n dX4_obey_69 rfl ?_
  refine tt_rO dX4_obey_70 fX4_178 rfl hR ?_
  refine tt_fVi (c_X4_bringSkip hS _ hp n hw _ _ _ _) dX4_obey_73 vX4_181 rfl rfl (zTS_tw hS) (by decide) rfl (by decide) ⟨rfl, rfl⟩ (Nat.zero_le _) (Nat.zero_le _) (Nat.le_of_ble_eq_true rfl) ?_
  exact tt_ireturn dX4_obey_76 rfl rfl (Nat.zero_le _) (Nat.zero_le _) ⟨rfl, _, _, hp, rfl⟩
set_option maxRecDepth 100000 in
set_option maxHeartbeats 4000000 in
theorem c_X4_obey_119 {h : zhp} {b : Nat} (hS : zTS h b) (s : Nat → Int32) {p pi : Nat → Nat} (hp : zPm p pi) {r : Nat} {R : Nat → Int32} (hR : zRo h b r R) (n : Nat) (hw : sWF s n) (hs : R 2 = nI 119) : MM iX4_obey [.ref b, .ref r] (zt h b s p pi) (zfp (kSw s (R 6)).1 h b (kSw s (R 6)).2) := by
  refine MM_of (by decide +kernel) (Nat.le_of_ble_eq_true rfl) ?_
  refine tt_aload_n dX4_obey_0 rfl ?_
  refine tt_rO dX4_obey_1 fX4_168 rfl hR ?_
  refine tt_eq (hs) ?_
  refine tt_lookup (off := 73) (tgt := 77) dX4_obey_4 (by decide) (by decide) (by decide) ?_
  refine tt_aload_n dX4_obey_77 rfl ?_
  refine tt_aload_n dX4_obey_78 rfl ?_
  refine tt_rO dX4_obey_79 fX4_185 rfl hR ?_
  refine tt_fVi (c_X4_swapSkip hS _ hp n hw _) dX4_obey_82 vX4_104 rfl rfl (zTS_tw hS) (by decide) rfl (by decide) ⟨rfl, rfl⟩ (Nat.zero_le _) (Nat.zero_le _) (Nat.le_of_ble_eq_true rfl) ?_
  exact tt_ireturn dX4_obey_85 rfl rfl (Nat.zero_le _) (Nat.zero_le _) ⟨rfl, _, _, hp, rfl⟩
set_option maxRecDepth 100000 in
set_option maxHeartbeats 4000000 in
theorem c_X4_obey_45 {h : zhp} {b : Nat} (hS : zTS h b) (s : Nat → Int32) {p pi : Nat → Nat} (hp : zPm p pi) {r : Nat} {R : Nat → Int32} (hR : zRo h b r R) (n : Nat) (hw : sWF s n) (hs : R 2 = nI 45) : MM iX4_obey [.ref b, .ref r] (zt h b s p pi) (zfp (kTk s n (R 6)).1 h b (kTk s n (R 6)).2) := by
  refine MM_of (by decide +kernel) (Nat.le_of_ble_eq_true rfl) ?_
  refine tt_aload_n dX4_obey_0 rfl ?_
  refine tt_rO dX4_obey_1 fX4_168 rfl hR ?_
  refine tt_eq (hs) ?_
  refine tt_lookup (off := 82) (tgt := 86) dX4_obey_4 (by decide) (by decide) (by decide) ?_
  refine tt_aload_n dX4_obey_86 rfl ?_
  refine tt_aload_n dX4_obey_87 rfl ?_
  refine tt_rO dX4_obey_88 fX4_185 rfl hR ?_
  refine tt_callV (c_X4_takeSkip hS s hp n hw (R 6)) dX4_obey_91 vX4_188 rfl rfl (zTS_tw hS) (by decide) rfl (by decide) (Nat.le_of_ble_eq_true rfl) (Nat.le_of_ble_eq_true rfl) (Nat.le_of_ble_eq_true rfl) (fun r1 h1x q1 => ?_)
  obtain ⟨rfl, p1, pi1, hp1, rfl⟩ := q1
  refine (show TT iX4_obey 94 _ _ _ 0 0 _ from ?_)
  exact tt_ireturn dX4_obey_94 rfl rfl (Nat.zero_le _) (Nat.zero_le _) ⟨rfl, _, _, hp1, rfl⟩
set_option maxRecDepth 100000 in
set_option maxHeartbeats 4000000 in
theorem c_X4_obey_112 {h : zhp} {b : Nat} (hS : zTS h b) (s : Nat → Int32) {p pi : Nat → Nat} (hp : zPm p pi) {r : Nat} {R : Nat → Int32} (hR : zRo h b r R) (n : Nat) (hw : sWF s n) (hs : R 2 = nI 112) : MM iX4_obey [.ref b, .ref r] (zt h b s p pi) (zfp (kPe s (R 6) (R 7)).1 h b (kPe s (R 6) (R 7)).2) := by
  refine MM_of (by decide +kernel) (Nat.le_of_ble_eq_true rfl) ?_
  refine tt_aload_n dX4_obey_0 rfl ?_
  refine tt_rO dX4_obey_1 fX4_168 rfl hR ?_
  refine tt_eq (hs) ?_
  refine tt_lookup (off := 91) (tgt := 95) dX4_obey_4 (by decide) (by decide) (by decide) ?_
  refine tt_aload_n dX4_obey_95 rfl ?_
  refine tt_aload_n dX4_obey_96 rfl ?_
  refine tt_rO dX4_obey_97 fX4_185 rfl hR ?_
  refine tt_aload_n dX4_obey_100 rfl ?_
  refine tt_rO dX4_obey_101 fX4_178 rfl hR ?_
  refine tt_fVi (c_X4_prolongPermit hS _ hp n hw _ _) dX4_obey_104 vX4_191 rfl rfl (zTS_tw hS) (by decide) rfl (by decide) ⟨rfl, rfl⟩ (Nat.zero_le _) (Nat.zero_le _) (Nat.le_of_ble_eq_true rfl) ?_
  exact tt_ireturn dX4_obey_107 rfl rfl (Nat.zero_le _) (Nat.zero_le _) ⟨rfl, _, _, hp, rfl⟩
set_option maxRecDepth 100000 in
set_option maxHeartbeats 4000000 in
theorem c_X4_obey_111 {h : zhp} {b : Nat} (hS : zTS h b) (s : Nat → Int32) {p pi : Nat → Nat} (hp : zPm p pi) {r : Nat} {R : Nat → Int32} (hR : zRo h b r R) (n : Nat) (hw : sWF s n) (hs : R 2 = nI 111) : MM iX4_obey [.ref b, .ref r] (zt h b s p pi) (zfp (sOi s (R 6)).1 h b (sOi s (R 6)).2) := by
  refine MM_of (by decide +kernel) (Nat.le_of_ble_eq_true rfl) ?_
  refine tt_aload_n dX4_obey_0 rfl ?_
  refine tt_rO dX4_obey_1 fX4_168 rfl hR ?_
  refine tt_eq (hs) ?_
  refine tt_lookup (off := 104) (tgt := 108) dX4_obey_4 (by decide) (by decide) (by decide) ?_
  refine tt_aload_n dX4_obey_108 rfl ?_
  refine tt_aload_n dX4_obey_109 rfl ?_
  refine tt_rO dX4_obey_110 fX4_185 rfl hR ?_
  refine tt_fVi (c_X4_fillLamp hS _ hp n hw _) dX4_obey_113 vX4_194 rfl rfl (zTS_tw hS) (by decide) rfl (by decide) ⟨rfl, rfl⟩ (Nat.zero_le _) (Nat.zero_le _) (Nat.le_of_ble_eq_true rfl) ?_
  exact tt_ireturn dX4_obey_116 rfl rfl (Nat.zero_le _) (Nat.zero_le _) ⟨rfl, _, _, hp, rfl⟩
set_option maxRecDepth 100000 in
set_option maxHeartbeats 4000000 in
theorem c_X4_obey_46 {h : zhp} {b : Nat} (hS : zTS h b) (s : Nat → Int32) {p pi : Nat → Nat} (hp : zPm p pi) {r : Nat} {R : Nat → Int32} (hR : zRo h b r R) (n : Nat) (hw : sWF s n) (hs : R 2 = nI 46) : MM iX4_obey [.ref b, .ref r] (zt h b s p pi) (zfp (kPas s n (R 7)).1 h b (kPas s n (R 7)).2) := by
  refine MM_of (by decide +kernel) (Nat.le_of_ble_eq_true rfl) ?_
  refine tt_aload_n dX4_obey_0 rfl ?_
  refine tt_rO dX4_obey_1 fX4_168 rfl hR ?_
  refine tt_eq (hs) ?_
  refine tt_lookup (off := 113) (tgt := 117) dX4_obey_4 (by decide) (by decide) (by decide) ?_
  refine tt_aload_n dX4_obey_117 rfl ?_
  refine tt_aload_n dX4_obey_118 rfl ?_
  refine tt_rO dX4_obey_119 fX4_178 rfl hR ?_
  refine tt_fVi (c_X4_passDays hS _ hp n hw _) dX4_obey_122 vX4_197 rfl rfl (zTS_tw hS) (by decide) rfl (by decide) ⟨rfl, rfl⟩ (Nat.zero_le _) (Nat.zero_le _) (Nat.le_of_ble_eq_true rfl) ?_
  exact tt_ireturn dX4_obey_125 rfl rfl (Nat.zero_le _) (Nat.zero_le _) ⟨rfl, _, _, hp, rfl⟩
theorem c_X4_obey {h : zhp} {b : Nat} (hS : zTS h b) (s : Nat → Int32) {p pi : Nat → Nat} (hp : zPm p pi) {r : Nat} {R : Nat → Int32} (hR : zRo h b r R) (n : Nat) (hw : sWF s n) {q : Nat → Int32} {m k : Nat} (hz : zoR R (rdO q m k)) (hf : (rdO q m k).2.2.2 = false) : MM iX4_obey [.ref b, .ref r] (zt h b s p pi) (zfp (kEx s n (rdO q m k)).1 h b (kEx s n (rdO q m k)).2) := by
  have hsg := rdO_sg hf
  obtain ⟨-, -, hz⟩ := hz
  obtain ⟨z1, z2, z3, z4⟩ := hz hf
  generalize rdO q m k = o at hsg z1 z2 z3 z4 ⊢
  unfold kEx
  rcases hsg with y | y | y | y | y | y
  · obtain ⟨e1, e2, e3⟩ := z2 y
    have e4 := z4 (Or.inl y)
    rw [if_pos y, ← e1, ← e2, ← e3, ← e4]
    exact c_X4_obey_43 hS s hp hR n hw (z1.trans y)
  · have e1 := z3 (by rw [y]; decide) (by rw [y]; decide)
    rw [if_neg (by rw [y]; decide), if_pos y, ← e1]
    exact c_X4_obey_119 hS s hp hR n hw (z1.trans y)
  · have e1 := z3 (by rw [y]; decide) (by rw [y]; decide)
    rw [if_neg (by rw [y]; decide), if_neg (by rw [y]; decide), if_pos y, ← e1]
    exact c_X4_obey_45 hS s hp hR n hw (z1.trans y)
  · have e1 := z3 (by rw [y]; decide) (by rw [y]; decide)
    have e4 := z4 (Or.inr (Or.inl y))
    rw [if_neg (by rw [y]; decide), if_neg (by rw [y]; decide), if_neg (by rw [y]; decide), if_pos y, ← e1, ← e4]
    exact c_X4_obey_112 hS s hp hR n hw (z1.trans y)
  · have e1 := z3 (by rw [y]; decide) (by rw [y]; decide)
    rw [if_neg (by rw [y]; decide), if_neg (by rw [y]; decide), if_neg (by rw [y]; decide), if_neg (by rw [y]; decide), if_pos y, ← e1]
    exact c_X4_obey_111 hS s hp hR n hw (z1.trans y)
  · have e4 := z4 (Or.inr (Or.inr y))
    rw [if_neg (by rw [y]; decide), if_neg (by rw [y]; decide), if_neg (by rw [y]; decide), if_neg (by rw [y]; decide), if_neg (by rw [y]; decide), ← e4]
    exact c_X4_obey_46 hS s hp hR n hw (z1.trans y)
/-- a reader is made -/
def zrn (h : zhp) : zhp := zsR (znw h 2 0 (fun _ => 0)) (zN h) 0 (some 143)
theorem zrn_I {h : zhp} {x k : Nat} (hx : x < zN h) : zI (zrn h) x k = zI h x k := if_neg (by show ¬ x = zN h; omega)
theorem zrn_R {h : zhp} {x k : Nat} (hx : x < zN h) : zR (zrn h) x k = zR h x k := (if_neg (fun q => by have := q.1; omega)).trans (if_neg (by show ¬ x = zN h; omega))
theorem zrn_T {h : zhp} {x : Nat} (hx : x < zN h) : zT (zrn h) x = zT h x := if_neg (by show ¬ x = zN h; omega)
theorem zrn_L {h : zhp} {x : Nat} (hx : x < zN h) : zL (zrn h) x = zL h x := if_neg (by show ¬ x = zN h; omega)
theorem zrn_r (h : zhp) : zr (zrn h) (zN h) (fun _ => 0) = zrn h := by
  unfold zr
  show (_, _, _, _, _) = zrn h
  unfold zrn zsR znw
  congr 4
  funext x k
  dsimp only
  by_cases hx : x = zN h
  · rw [if_pos hx]; exact (if_pos hx).symm
  · rw [if_neg hx]
/-- cells below 187 stand as they were -/
def zSm (h h1 : zhp) : Prop := zN h ≤ zN h1 ∧ ∀ x, x < 187 → zT h1 x = zT h x ∧ zL h1 x = zL h x ∧ ∀ k, zI h1 x k = zI h x k ∧ zR h1 x k = zR h x k
theorem zSm.trans {a b c : zhp} (h : zSm a b) (h2 : zSm b c) : zSm a c := ⟨Nat.le_trans h.1 h2.1, fun x hx => ⟨((h2.2 x hx).1).trans (h.2 x hx).1, ((h2.2 x hx).2.1).trans (h.2 x hx).2.1, fun k => ⟨(((h2.2 x hx).2.2 k).1).trans ((h.2 x hx).2.2 k).1, (((h2.2 x hx).2.2 k).2).trans ((h.2 x hx).2.2 k).2⟩⟩⟩
theorem zSm_rn {h : zhp} (hN : 187 ≤ zN h) : zSm h (zrn h) := ⟨Nat.le_succ _, fun x hx => ⟨zrn_T (by omega), zrn_L (by omega), fun k => ⟨zrn_I (by omega), zrn_R (by omega)⟩⟩⟩
theorem zSm_r {h : zhp} {r : Nat} (R : Nat → Int32) (hr : 187 ≤ r) : zSm h (zr h r R) := ⟨Nat.le_refl _, fun x hx => ⟨rfl, rfl, fun k => ⟨if_neg (by omega), rfl⟩⟩⟩
theorem KK_sm {h h1 : zhp} {S : Nat → Nat → Int32} {P PI : Nat → Nat → Nat} (hs : zSm h h1) (hK : KK h S P PI) : KK h1 S P PI := by
  obtain ⟨⟨b1, b2, b3, b4, b5, b6, b7⟩, hT⟩ := hK
  obtain ⟨sN, hs⟩ := hs
  have eT : ∀ x, x < 187 → zT h1 x = zT h x := fun x hx => (hs x hx).1
  have eL : ∀ x, x < 187 → zL h1 x = zL h x := fun x hx => (hs x hx).2.1
  have eI : ∀ x k, x < 187 → zI h1 x k = zI h x k := fun x k hx => ((hs x hx).2.2 k).1
  have eR : ∀ x k, x < 187 → zR h1 x k = zR h x k := fun x k hx => ((hs x hx).2.2 k).2
  refine ⟨⟨by omega, ⟨fun c hc => ⟨(eT c (by omega)).trans (b2.1 c hc).1, (eL c (by omega)).trans (b2.1 c hc).2⟩, fun k hk => (eI _ _ (by omega)).trans (b2.2.1 k hk), fun k hk => (eI _ _ (by omega)).trans (b2.2.2 k hk)⟩,
    ⟨(eT _ (by omega)).trans b3.1, (eR _ _ (by omega)).trans b3.2.1, (eR _ _ (by omega)).trans b3.2.2.1, (eR _ _ (by omega)).trans b3.2.2.2.1, (eR _ _ (by omega)).trans b3.2.2.2.2.1, (eR _ _ (by omega)).trans b3.2.2.2.2.2⟩,
    ⟨(eT _ (by omega)).trans b4.1, (eR _ _ (by omega)).trans b4.2.1, (eT _ (by omega)).trans b4.2.2.1, (eL _ (by omega)).trans b4.2.2.2.1, fun r hr => (eR _ _ (by omega)).trans (b4.2.2.2.2 r hr)⟩,
    ⟨(eT _ (by omega)).trans b5.1, (eR _ _ (by omega)).trans b5.2.1, (eT _ (by omega)).trans b5.2.2.1, (eL _ (by omega)).trans b5.2.2.2⟩,
    ⟨(eT _ (by omega)).trans b6.1, (eL _ (by omega)).trans b6.2.1, fun r hr => (eR _ _ (by omega)).trans (b6.2.2 r hr)⟩, (eT _ (by omega)).trans b7.1, (eL _ (by omega)).trans b7.2⟩, fun u hu => ?_⟩
  have rg := zbs_rg hu
  exact zt_same (fun x k h1 h2 => eI x k (by omega)) (fun x k h1 h2 => eR x k (by omega)) (fun x h1 h2 => eT x (by omega)) (fun x h1 h2 => eL x (by omega)) (hT u hu)
theorem zHi_sm {h h1 : zhp} (hs : zSm h h1) {o c : Nat} (hH : zHi h o c) : zHi h1 o c := ⟨((hs.2 22 (by omega)).2.2 1).1.trans hH.1, ((hs.2 22 (by omega)).2.2 2).1.trans hH.2.1, hH.2.2⟩
theorem zPd_sm {h h1 : zhp} (hs : zSm h h1) {q : Nat → Int32} {m : Nat} (hP : zPd h q m) : zPd h1 q m := ⟨⟨((hs.2 143 (by omega)).1).trans hP.1.1, ((hs.2 143 (by omega)).2.2 0).2.trans hP.1.2.1, ((hs.2 144 (by omega)).1).trans hP.1.2.2.1, ((hs.2 144 (by omega)).2.1).trans hP.1.2.2.2⟩, ((hs.2 143 (by omega)).2.2 1).1.trans hP.2.1, hP.2.2.1, fun k hk => ((hs.2 144 (by omega)).2.2 k).1.trans (hP.2.2.2 k hk)⟩
theorem zRd_n {h : zhp} (hN : 187 ≤ zN h) {q : Nat → Int32} {m : Nat} (hP : zPd h q m) : zRd (zrn h) (zN h) q m := ⟨hN, if_pos rfl, if_pos ⟨rfl, rfl⟩, zPd_sm (zSm_rn hN) hP⟩
set_option maxRecDepth 100000 in
set_option maxHeartbeats 4000000 in
theorem c_X2_init {h : zhp} {r : Nat} (ht : zT h r = 2) : MM iX2_init [.ref r, .ref 143] h (zfn (zsR h r 0 (some 143))) := by
  refine MM_of (by decide +kernel) (Nat.le_of_ble_eq_true rfl) ?_
  refine tt_aload_n dX2_init_0 rfl ?_
  refine tt_objInit dX2_init_1 oX2_3 oInst oCode (Nat.le_of_ble_eq_true rfl) (Nat.le_of_ble_eq_true rfl) ?_
  refine tt_aload_n dX2_init_4 rfl ?_
  refine tt_aload_n dX2_init_5 rfl ?_
  refine tt_putRF dX2_init_6 fX2_9 rfl rfl rfl rfl ht ?_
  exact tt_return dX2_init_9 rfl (Nat.zero_le _) (Nat.zero_le _) ⟨rfl, rfl⟩
