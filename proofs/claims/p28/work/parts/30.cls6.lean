/-! the class: all its cells; its history, its pad -/
def zbs (t : Nat) : Nat := if t = 0 then 5 else if t < 8 then 7 + 17 * t else 11 + 17 * t
/-- the class's object is cell 4, its town 5, its history 22, the row of the history's towns 23, its pad 143, the pad's signs 144, the row of slots 145, what is saved 146 -/
def zKl (h : zhp) : Prop := 181 ≤ zN h ∧ zSt h ∧ (zT h 4 = 5 ∧ zR h 4 0 = some 5 ∧ zR h 4 1 = some 22 ∧ zR h 4 2 = some 143 ∧ zR h 4 3 = some 145 ∧ zR h 4 4 = some 146)
  ∧ (zT h 22 = 0 ∧ zR h 22 0 = some 23 ∧ zT h 23 = 10 ∧ zL h 23 = 7 ∧ ∀ r, r < 7 → zR h 23 r = some (zbs (1 + r)))
  ∧ (zT h 143 = 1 ∧ zR h 143 0 = some 144 ∧ zT h 144 = 9 ∧ zL h 144 = 60)
  ∧ (zT h 145 = 10 ∧ zL h 145 = 2 ∧ ∀ r, r < 2 → zR h 145 r = some (zbs (8 + r))) ∧ (zT h 146 = 8 ∧ zL h 146 = 2)
def KK (h : zhp) (S : Nat → Nat → Int32) (P PI : Nat → Nat → Nat) : Prop := zKl h ∧ ∀ t, t < 10 → zTw h (zbs t) (S t) (P t) (PI t)
def up {α : Type} (f : Nat → α) (t : Nat) (x : α) : Nat → α := fun i => if i = t then x else f i
theorem up_s {α : Type} {f : Nat → α} {t : Nat} {x : α} : up f t x t = x := if_pos rfl
theorem up_n {α : Type} {f : Nat → α} {t i : Nat} {x : α} (h : i ≠ t) : up f t x i = f i := if_neg h
theorem zbs_dj {t u : Nat} (ht : t < 10) (hu : u < 10) (h : t ≠ u) : zDj (zbs t) (zbs u) := by
  unfold zDj zbs
  repeat' split
  all_goals omega
theorem zbs_rg {t : Nat} (ht : t < 10) : 5 ≤ zbs t ∧ zbs t + 17 ≤ 181 ∧ (zbs t + 17 ≤ 22 ∨ 24 ≤ zbs t) ∧ (zbs t + 17 ≤ 143 ∨ 147 ≤ zbs t) := by
  unfold zbs
  repeat' split
  all_goals omega
/-- the same towns in two heaps that agree on their cells -/
theorem zt_same {h h1 : zhp} {o : Nat} {s2 : Nat → Int32} {p2 pi2 : Nat → Nat} (eI : ∀ x k, o ≤ x → x < o + 17 → zI h1 x k = zI h x k) (eR : ∀ x k, o ≤ x → x < o + 17 → zR h1 x k = zR h x k) (eT : ∀ x, o ≤ x → x < o + 17 → zT h1 x = zT h x) (eL : ∀ x, o ≤ x → x < o + 17 → zL h1 x = zL h x) (hO : zTw h o s2 p2 pi2) : zTw h1 o s2 p2 pi2 := by
  obtain ⟨⟨a1, a2, a3, a4, a5, a6⟩, hp, he⟩ := hO
  refine ⟨⟨a1, by rw [eT _ (by omega) (by omega)]; exact a2, fun k hk => by rw [eR _ _ (by omega) (by omega)]; exact a3 k hk, fun c h1 h2 => by rw [eT _ (by omega) (by omega), eL _ (by omega) (by omega)]; exact a4 c h1 h2, by rw [eT _ (by omega) (by omega), eL _ (by omega) (by omega)]; exact a5, fun i hi => by rw [eT _ (by omega) (by omega)]; exact a6 i hi⟩, hp, ?_⟩
  obtain ⟨n1, t1, l1, i1, r1⟩ := h1
  unfold zt
  congr 4
  · funext x k
    dsimp only
    by_cases hr : o ≤ x ∧ x < o + 17
    · rw [if_pos hr]
      have q : (if o ≤ x ∧ x < o + 17 then zto s2 (h.2.2.2.1 x k) (zix pi2 (x - o) k) else h.2.2.2.1 x k) = h.2.2.2.1 x k := congrFun (congrFun (congrArg (fun z : zhp => z.2.2.2.1) he) x) k
      rw [if_pos hr] at q
      have e : i1 x k = h.2.2.2.1 x k := eI x k hr.1 hr.2
      rw [e]
      exact q
    · rw [if_neg hr]
  · funext x k
    dsimp only
    by_cases hr : x = o + 6 ∧ k < 10
    · rw [if_pos hr]
      have q : (if x = o + 6 ∧ k < 10 then some (o + (7 + p2 k)) else h.2.2.2.2 x k) = h.2.2.2.2 x k := congrFun (congrFun (congrArg (fun z : zhp => z.2.2.2.2) he) x) k
      rw [if_pos hr] at q
      have e : r1 x k = h.2.2.2.2 x k := eR x k (by omega) (by omega)
      rw [e]
      exact q
    · rw [if_neg hr]
theorem zt_idem (h : zhp) (b : Nat) (s s2 : Nat → Int32) (p p2 pi pi2 : Nat → Nat) (hp : zPm p pi) (hp2 : zPm p2 pi2) : zt (zt h b s p pi) b s2 p2 pi2 = zt h b s2 p2 pi2 := by
  unfold zt
  congr 4
  · funext x k
    dsimp only
    by_cases hr : b ≤ x ∧ x < b + 17
    · rw [if_pos hr, if_pos hr, if_pos hr]
      have : ∀ pi', zix pi' (x - b) k = none → zix pi2 (x - b) k = none := fun pi' => by
        unfold zix
        repeat' split
        all_goals intro q
        all_goals first | rfl | cases q
      cases e : zix pi2 (x - b) k with
      | some i => rfl
      | none =>
        have e2 : zix pi (x - b) k = none := by
          revert e
          unfold zix
          repeat' split
          all_goals intro q
          all_goals first | rfl | cases q
        rw [e2]
        rfl
    · rw [if_neg hr, if_neg hr, if_neg hr]
  · funext x k
    dsimp only
    by_cases hr : x = b + 6 ∧ k < 10
    · rw [if_pos hr, if_pos hr]
    · rw [if_neg hr, if_neg hr, if_neg hr]
/-- a town of the class changes -/
theorem KK_set {h : zhp} {S : Nat → Nat → Int32} {P PI : Nat → Nat → Nat} (hK : KK h S P PI) {t : Nat} (ht : t < 10) (s1 : Nat → Int32) {p1 pi1 : Nat → Nat} (hp : zPm p1 pi1) : KK (zt h (zbs t) s1 p1 pi1) (up S t s1) (up P t p1) (up PI t pi1) := by
  obtain ⟨⟨b1, b2, b3, b4, b5, b6, b7⟩, hT⟩ := hK
  have rg := zbs_rg ht
  have eI : ∀ x k, x < zbs t ∨ zbs t + 17 ≤ x → zI (zt h (zbs t) s1 p1 pi1) x k = zI h x k := fun x k hx => zt_I hx
  have eR : ∀ x k, x < zbs t ∨ zbs t + 17 ≤ x → zR (zt h (zbs t) s1 p1 pi1) x k = zR h x k := fun x k hx => zt_R (by omega)
  refine ⟨⟨b1, ⟨b2.1, fun k hk => by rw [eI _ _ (by omega)]; exact b2.2.1 k hk, fun k hk => by rw [eI _ _ (by omega)]; exact b2.2.2 k hk⟩, ⟨b3.1, ?_, ?_, ?_, ?_, ?_⟩, ⟨b4.1, ?_, b4.2.2.1, b4.2.2.2.1, fun r hr => ?_⟩, ⟨b5.1, ?_, b5.2.2.1, b5.2.2.2⟩, ⟨b6.1, b6.2.1, fun r hr => ?_⟩, b7⟩, fun u hu => ?_⟩
  · rw [eR _ _ (by omega)]; exact b3.2.1
  · rw [eR _ _ (by omega)]; exact b3.2.2.1
  · rw [eR _ _ (by omega)]; exact b3.2.2.2.1
  · rw [eR _ _ (by omega)]; exact b3.2.2.2.2.1
  · rw [eR _ _ (by omega)]; exact b3.2.2.2.2.2
  · rw [eR _ _ (by omega)]; exact b4.2.1
  · rw [eR _ _ (by omega)]; exact b4.2.2.2.2 r hr
  · rw [eR _ _ (by omega)]; exact b5.2.1
  · rw [eR _ _ (by omega)]; exact b6.2.2 r hr
  · by_cases q : u = t
    · subst q
      rw [up_s, up_s, up_s]
      obtain ⟨⟨c1, c2, c3, c4, c5, c6⟩, hp0, he⟩ := hT u hu
      exact ⟨⟨c1, c2, fun k hk => (zt_R (by omega)).trans (c3 k hk), c4, c5, c6⟩, hp, zt_idem _ _ _ _ _ _ _ _ hp hp⟩
    · rw [up_n q, up_n q, up_n q]
      have dj := zbs_dj hu ht q
      unfold zDj at dj
      exact zt_same (fun x k h1 h2 => eI x k (by omega)) (fun x k h1 h2 => eR x k (by omega)) (fun _ _ _ => rfl) (fun _ _ _ => rfl) (hT u hu)
/-- a number outside the towns and the statics changes -/
theorem KK_sI {h : zhp} {S : Nat → Nat → Int32} {P PI : Nat → Nat → Nat} (hK : KK h S P PI) {a k : Nat} (v : Int32) (ha : a = 22 ∨ a = 143 ∨ a = 144 ∨ a = 146 ∨ 181 ≤ a) : KK (zsI h a k v) S P PI := by
  obtain ⟨⟨b1, b2, b3, b4, b5, b6, b7⟩, hT⟩ := hK
  have eI : ∀ x j, x ≠ a → zI (zsI h a k v) x j = zI h x j := fun x j hx => if_neg (fun q => hx q.1)
  refine ⟨⟨b1, ⟨b2.1, fun k hk => by rw [eI _ _ (by omega)]; exact b2.2.1 k hk, fun k hk => by rw [eI _ _ (by omega)]; exact b2.2.2 k hk⟩, b3, b4, b5, b6, b7⟩, fun u hu => ?_⟩
  have rg := zbs_rg hu
  exact zt_same (fun x j h1 h2 => eI x j (by omega)) (fun _ _ _ _ => rfl) (fun _ _ _ => rfl) (fun _ _ _ => rfl) (hT u hu)
theorem z7 : ∀ a, a < 14 → nI a - nI a / nI 7 * nI 7 = nI (a % 7) := by decide
/-- the history's two numbers -/
def zHi (h : zhp) (o c : Nat) : Prop := zI h 22 1 = nI o ∧ zI h 22 2 = nI c ∧ o < 7 ∧ c ≤ 6
theorem KK_t {h : zhp} {S : Nat → Nat → Int32} {P PI : Nat → Nat → Nat} (hK : KK h S P PI) {t : Nat} (ht : t < 10) : zt h (zbs t) (S t) (P t) (PI t) = h := (hK.2 t ht).2.2
/-- behind settle(v) -/
def zSe (h : zhp) (o c : Nat) (v : Int32) : zhp := if v < 0 then h else if c < 6 then zsI h 22 2 (nI (c + 1)) else zsI h 22 1 (nI ((o + 1) % 7))
set_option maxRecDepth 100000 in
set_option maxHeartbeats 4000000 in
theorem c_X0_prepare {h : zhp} {S : Nat → Nat → Int32} {P PI : Nat → Nat → Nat} (hK : KK h S P PI) {o c : Nat} (hH : zHi h o c) {n : Nat} (hw : sWF (S 0) n) : MM iX0_prepare [.ref 22, .ref 5] h (zfn (zt h (zbs (1 + (o + c) % 7)) (kBm (S (1 + (o + c) % 7)) (S 0) n) (P (1 + (o + c) % 7)) (PI (1 + (o + c) % 7)))) := by
  have hlt : 1 + (o + c) % 7 < 10 := by omega
  refine MM_of (by decide +kernel) (Nat.le_of_ble_eq_true rfl) ?_
  refine tt_aload_n dX0_prepare_0 rfl ?_
  refine tt_getR dX0_prepare_1 fX0_13 rfl hK.1.2.2.2.1.1 hK.1.2.2.2.1.2.1 ?_
  refine tt_aload_n dX0_prepare_4 rfl ?_
  refine tt_getI dX0_prepare_5 fX0_18 rfl hK.1.2.2.2.1.1 ?_
  refine tt_eq hH.1 ?_
  refine tt_aload_n dX0_prepare_8 rfl ?_
  refine tt_getI dX0_prepare_9 fX0_22 rfl hK.1.2.2.2.1.1 ?_
  refine tt_eq hH.2.1 ?_
  refine tt_iaddN dX0_prepare_12 ?_
  refine tt_bipush (nI 7) dX0_prepare_13 rfl ?_
  refine tt_irem dX0_prepare_15 (by decide) ?_
  refine tt_eq (z7 _ (by have := hH.2.2; omega)) ?_
  refine tt_aald dX0_prepare_16 hK.1.2.2.2.1.2.2.1 (Or.inl rfl) (by decide) (vp_in_nI (by rw [hK.1.2.2.2.1.2.2.2.1]; omega) (by rw [hK.1.2.2.2.1.2.2.2.1]; omega)) (b := zbs (1 + (o + c) % 7)) (by rw [nI_clamp (by omega)]; exact hK.1.2.2.2.1.2.2.2.2 _ (by omega)) ?_
  refine tt_aload_n dX0_prepare_17 rfl ?_
  refine tt_hp (KK_t hK hlt).symm ?_
  refine tt_fVv (c_X4_become (hK.2 _ hlt).1 _ (hK.2 _ hlt).2.1 (hK.2 0 (by omega)) (zbs_dj hlt (by omega) (by omega)) n hw.1 hw.2.1) dX0_prepare_18 vX0_25 rfl rfl (hK.2 _ hlt).1.2.1 (by decide) rfl (by decide) ⟨rfl, rfl⟩ (Nat.zero_le _) (Nat.zero_le _) (Nat.le_of_ble_eq_true rfl) ?_
  exact tt_return dX0_prepare_21 rfl (Nat.zero_le _) (Nat.zero_le _) ⟨rfl, rfl⟩
set_option maxRecDepth 100000 in
set_option maxHeartbeats 4000000 in
theorem c_X0_settle {h : zhp} {S : Nat → Nat → Int32} {P PI : Nat → Nat → Nat} (hK : KK h S P PI) {o c : Nat} (hH : zHi h o c) (v : Int32) : MM iX0_settle [.ref 22, .int v] h (zfi v (zSe h o c v)) := by
  refine MM_of (by decide +kernel) (Nat.le_of_ble_eq_true rfl) ?_
  refine tt_iload_n dX0_settle_0 rfl ?_
  refine tt_if_lt (tgt := 39) dX0_settle_1 (by decide) (fun c_1 => ?_) (fun c_1 => ?_)
  · refine tt_iload_n dX0_settle_39 rfl ?_
    exact tt_ireturn dX0_settle_40 rfl rfl (Nat.zero_le _) (Nat.zero_le _) (by unfold zSe; first | (rw [if_pos c_1]; exact ⟨rfl, rfl⟩) | (rw [if_neg c_1, if_pos c_10]; exact ⟨rfl, rfl⟩) | (rw [if_neg c_1, if_neg (by omega)]; exact ⟨rfl, rfl⟩))
  · refine tt_aload_n dX0_settle_4 rfl ?_
    refine tt_getI dX0_settle_5 fX0_22 rfl hK.1.2.2.2.1.1 ?_
    refine tt_eq hH.2.1 ?_
    refine tt_bipush (nI 6) dX0_settle_8 rfl ?_
    have hc6 := hH.2.2.2
    refine tt_icmp_geN (tgt := 26) dX0_settle_10 (by decide) (by omega) (by omega) (fun c_10 => ?_) (fun c_10 => ?_)
    · refine tt_aload_n dX0_settle_26 rfl ?_
      refine tt_aload_n dX0_settle_27 rfl ?_
      refine tt_getI dX0_settle_28 fX0_18 rfl hK.1.2.2.2.1.1 ?_
      refine tt_eq hH.1 ?_
      refine tt_iconst (nI 1) dX0_settle_31 rfl ?_
      refine tt_iaddN dX0_settle_32 ?_
      refine tt_bipush (nI 7) dX0_settle_33 rfl ?_
      refine tt_irem dX0_settle_35 (by decide) ?_
      refine tt_eq (z7 (o + 1) (by have := hH.2.2; omega)) ?_
      refine tt_putI dX0_settle_36 fX0_18 rfl rfl rfl rfl hK.1.2.2.2.1.1 ?_
      refine tt_iload_n dX0_settle_39 rfl ?_
      exact tt_ireturn dX0_settle_40 rfl rfl (Nat.zero_le _) (Nat.zero_le _) (by unfold zSe; first | (rw [if_pos c_1]; exact ⟨rfl, rfl⟩) | (rw [if_neg c_1, if_pos c_10]; exact ⟨rfl, rfl⟩) | (rw [if_neg c_1, if_neg (by omega)]; exact ⟨rfl, rfl⟩))
    · refine tt_aload_n dX0_settle_13 rfl ?_
      refine tt_dup dX0_settle_14 rfl ?_
      refine tt_getI dX0_settle_15 fX0_22 rfl hK.1.2.2.2.1.1 ?_
      refine tt_eq hH.2.1 ?_
      refine tt_iconst (nI 1) dX0_settle_18 rfl ?_
      refine tt_iaddN dX0_settle_19 ?_
      refine tt_putI dX0_settle_20 fX0_22 rfl rfl rfl rfl hK.1.2.2.2.1.1 ?_
      refine tt_goto (tgt := 39) dX0_settle_23 (by decide) ?_
      refine tt_iload_n dX0_settle_39 rfl ?_
      exact tt_ireturn dX0_settle_40 rfl rfl (Nat.zero_le _) (Nat.zero_le _) (by unfold zSe; first | (rw [if_pos c_1]; exact ⟨rfl, rfl⟩) | (rw [if_neg c_1, if_pos c_10]; exact ⟨rfl, rfl⟩) | (rw [if_neg c_1, if_neg (by omega)]; exact ⟨rfl, rfl⟩))

