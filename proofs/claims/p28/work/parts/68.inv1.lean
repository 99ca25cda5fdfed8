/-! both pictures in one heap: what lies below cell 181 is the class's, cells 181 to 186 are the reference's -/
def zLo (h h1 : zhp) : Prop := zN h ≤ zN h1 ∧ ∀ x, x < 181 → zT h1 x = zT h x ∧ zL h1 x = zL h x ∧ ∀ k, zI h1 x k = zI h x k ∧ zR h1 x k = zR h x k
def zRs (h h1 : zhp) : Prop := zN h ≤ zN h1 ∧ ∀ x, (x = 3 ∨ 181 ≤ x) → x < 187 → zT h1 x = zT h x ∧ zL h1 x = zL h x ∧ ∀ k, zI h1 x k = zI h x k ∧ zR h1 x k = zR h x k
theorem zRs.refl (h : zhp) : zRs h h := ⟨Nat.le_refl _, fun _ _ _ => ⟨rfl, rfl, fun _ => ⟨rfl, rfl⟩⟩⟩
theorem zRs.trans {a b c : zhp} (h : zRs a b) (h2 : zRs b c) : zRs a c := ⟨Nat.le_trans h.1 h2.1, fun x h0 hx => ⟨((h2.2 x h0 hx).1).trans (h.2 x h0 hx).1, ((h2.2 x h0 hx).2.1).trans (h.2 x h0 hx).2.1, fun k => ⟨(((h2.2 x h0 hx).2.2 k).1).trans ((h.2 x h0 hx).2.2 k).1, (((h2.2 x h0 hx).2.2 k).2).trans ((h.2 x h0 hx).2.2 k).2⟩⟩⟩
theorem zRs_t {h : zhp} {t : Nat} (ht : t < 10) (s : Nat → Int32) (p pi : Nat → Nat) : zRs h (zt h (zbs t) s p pi) := ⟨Nat.le_refl _, fun x h0 hx => ⟨rfl, rfl, fun k => ⟨zt_I (by have := zbs_rg ht; omega), zt_R (by have := zbs_rg ht; omega)⟩⟩⟩
theorem zRs_I {h : zhp} {a k : Nat} (v : Int32) (ha : 4 ≤ a ∧ a < 181) : zRs h (zsI h a k v) := ⟨Nat.le_refl _, fun x h0 hx => ⟨rfl, rfl, fun j => ⟨if_neg (by omega), rfl⟩⟩⟩
theorem zRs_Se {h : zhp} {o c : Nat} {v : Int32} : zRs h (zSe h o c v) := by
  unfold zSe
  split
  · exact zRs.refl h
  · split
    · exact zRs_I _ (by omega)
    · exact zRs_I _ (by omega)
/-- the class's picture -/
def CI (h : zhp) (S : Nat → Nat → Int32) (P PI : Nat → Nat → Nat) (o c m : Nat) (p : Nat → Int32) (sv : Nat → Bool) : Prop := KK h S P PI ∧ zHi h o c ∧ zPd h p m ∧ zSv h sv
theorem CI.lo {h h1 : zhp} {S : Nat → Nat → Int32} {P PI : Nat → Nat → Nat} {o c m : Nat} {p : Nat → Int32} {sv : Nat → Bool} (x : CI h S P PI o c m p sv) (hs : zLo h h1) : CI h1 S P PI o c m p sv := by
  obtain ⟨⟨⟨b1, b2, b3, b4, b5, b6, b7⟩, hT⟩, hH, hP, hV⟩ := x
  obtain ⟨sN, hs⟩ := hs
  have eT : ∀ x, x < 181 → zT h1 x = zT h x := fun x hx => (hs x hx).1
  have eL : ∀ x, x < 181 → zL h1 x = zL h x := fun x hx => (hs x hx).2.1
  have eI : ∀ x k, x < 181 → zI h1 x k = zI h x k := fun x k hx => ((hs x hx).2.2 k).1
  have eR : ∀ x k, x < 181 → zR h1 x k = zR h x k := fun x k hx => ((hs x hx).2.2 k).2
  refine ⟨⟨⟨by omega, ⟨fun c hc => ⟨(eT c (by omega)).trans (b2.1 c hc).1, (eL c (by omega)).trans (b2.1 c hc).2⟩, fun k hk => (eI _ _ (by omega)).trans (b2.2.1 k hk), fun k hk => (eI _ _ (by omega)).trans (b2.2.2 k hk)⟩,
    ⟨(eT _ (by omega)).trans b3.1, (eR _ _ (by omega)).trans b3.2.1, (eR _ _ (by omega)).trans b3.2.2.1, (eR _ _ (by omega)).trans b3.2.2.2.1, (eR _ _ (by omega)).trans b3.2.2.2.2.1, (eR _ _ (by omega)).trans b3.2.2.2.2.2⟩,
    ⟨(eT _ (by omega)).trans b4.1, (eR _ _ (by omega)).trans b4.2.1, (eT _ (by omega)).trans b4.2.2.1, (eL _ (by omega)).trans b4.2.2.2.1, fun r hr => (eR _ _ (by omega)).trans (b4.2.2.2.2 r hr)⟩,
    ⟨(eT _ (by omega)).trans b5.1, (eR _ _ (by omega)).trans b5.2.1, (eT _ (by omega)).trans b5.2.2.1, (eL _ (by omega)).trans b5.2.2.2⟩,
    ⟨(eT _ (by omega)).trans b6.1, (eL _ (by omega)).trans b6.2.1, fun r hr => (eR _ _ (by omega)).trans (b6.2.2 r hr)⟩, (eT _ (by omega)).trans b7.1, (eL _ (by omega)).trans b7.2⟩, fun u hu => ?_⟩,
    ⟨(eI _ _ (by omega)).trans hH.1, (eI _ _ (by omega)).trans hH.2.1, hH.2.2⟩,
    ⟨⟨(eT _ (by omega)).trans hP.1.1, (eR _ _ (by omega)).trans hP.1.2.1, (eT _ (by omega)).trans hP.1.2.2.1, (eL _ (by omega)).trans hP.1.2.2.2⟩, (eI _ _ (by omega)).trans hP.2.1, hP.2.2.1, fun k hk => (eI _ _ (by omega)).trans (hP.2.2.2 k hk)⟩,
    fun i hi => (eI _ _ (by omega)).trans (hV i hi)⟩
  have rg := zbs_rg hu
  exact zt_same (fun x k h1 h2 => eI x k (by omega)) (fun x k h1 h2 => eR x k (by omega)) (fun x h1 h2 => eT x (by omega)) (fun x h1 h2 => eL x (by omega)) (hT u hu)
/-- a town changes -/
theorem CI_t {h : zhp} {S : Nat → Nat → Int32} {P PI : Nat → Nat → Nat} {o c m : Nat} {p : Nat → Int32} {sv : Nat → Bool} (x : CI h S P PI o c m p sv) {t : Nat} (ht : t < 10) (s1 : Nat → Int32) {p1 pi1 : Nat → Nat} (hp : zPm p1 pi1) : CI (zt h (zbs t) s1 p1 pi1) (up S t s1) (up P t p1) (up PI t pi1) o c m p sv := by
  have rg := zbs_rg ht
  exact ⟨KK_set x.1 ht s1 hp, zHi_t x.2.1 ht _ _ _, zPd_t x.2.2.1 ht _ _ _, fun i hi => (zt_I (by omega)).trans (x.2.2.2 i hi)⟩
/-- the history's numbers behind a change -/
def hO (o c : Nat) (e : Int32) : Nat := if e < 0 then o else if c < 6 then o else (o + 1) % 7
def hC (c : Nat) (e : Int32) : Nat := if e < 0 then c else if c < 6 then c + 1 else c
theorem CI_Se {h : zhp} {S : Nat → Nat → Int32} {P PI : Nat → Nat → Nat} {o c m : Nat} {p : Nat → Int32} {sv : Nat → Bool} (x : CI h S P PI o c m p sv) (e : Int32) : CI (zSe h o c e) S P PI (hO o c e) (hC c e) m p sv := by
  obtain ⟨hK, hH, hP, hV⟩ := x
  unfold zSe hO hC
  by_cases q : e < 0
  · rw [if_pos q, if_pos q, if_pos q]; exact ⟨hK, hH, hP, hV⟩
  · rw [if_neg q, if_neg q, if_neg q]
    have hH3 := hH.2.2.1
    have hH4 := hH.2.2.2
    by_cases q2 : c < 6
    · rw [if_pos q2, if_pos q2, if_pos q2]
      exact ⟨KK_sI hK _ (by omega), ⟨(zsI_ne (by omega)).trans hH.1, zsI_at, hH3, by omega⟩, ⟨hP.1, (zsI_ne (by omega)).trans hP.2.1, hP.2.2.1, fun k hk => (zsI_ne (by omega)).trans (hP.2.2.2 k hk)⟩, fun i hi => (zsI_ne (by omega)).trans (hV i hi)⟩
    · rw [if_neg q2, if_neg q2, if_neg q2]
      exact ⟨KK_sI hK _ (by omega), ⟨zsI_at, (zsI_ne (by omega)).trans hH.2.1, Nat.mod_lt _ (by omega), hH4⟩, ⟨hP.1, (zsI_ne (by omega)).trans hP.2.1, hP.2.2.1, fun k hk => (zsI_ne (by omega)).trans (hP.2.2.2 k hk)⟩, fun i hi => (zsI_ne (by omega)).trans (hV i hi)⟩
/-- the towns behind a change that leaves s1 -/
def uS (S : Nat → Nat → Int32) (n o c : Nat) (s1 : Nat → Int32) : Nat → Nat → Int32 := up (up S (1 + (o + c) % 7) (kBm (S (1 + (o + c) % 7)) (S 0) n)) 0 s1
theorem CI_cQ {h : zhp} {S : Nat → Nat → Int32} {P PI : Nat → Nat → Nat} {o c m : Nat} {p : Nat → Int32} {sv : Nat → Bool} (x : CI h S P PI o c m p sv) {n : Nat} {e : Int32} {s1 : Nat → Int32} {r : Option Value} {h1 : zhp} (q : zcQ h S P PI n o c e s1 r h1) : r = some (.int e) ∧ (∃ P1 PI1, CI h1 (uS S n o c s1) P1 PI1 (hO o c e) (hC c e) m p sv) ∧ zRs h h1 := by
  obtain ⟨hr, p1, pi1, hp, rfl⟩ := q
  have x1 : CI (zPr h S P PI n o c) _ _ _ o c m p sv := CI_t x (t := 1 + (o + c) % 7) (by omega) (kBm (S (1 + (o + c) % 7)) (S 0) n) (x.1.2 _ (by omega)).2.1
  have x2 := CI_t x1 (t := 0) (by omega) s1 hp
  exact ⟨hr, ⟨_, _, CI_Se x2 e⟩, ((zRs_t (by omega) _ _ _).trans (zRs_t (t := 0) (by omega) _ _ _)).trans zRs_Se⟩

