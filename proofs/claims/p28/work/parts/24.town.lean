/-! THE TOWN'S PICTURE: cell b a town, b+1 to b+5 its rows of ints, b+6 its row of skips, b+7 to b+16 the skips; p tells where the skip of a number lies, pi the number of what lies there -/
def zPm (p pi : Nat → Nat) : Prop := ∀ j, j < 10 → p j < 10 ∧ pi j < 10 ∧ pi (p j) = j ∧ p (pi j) = j
def ztl (c : Nat) : Nat := match c with
  | 1 => 8
  | 2 => 5
  | _ => 6
def zTS (h : zhp) (b : Nat) : Prop := 4 ≤ b ∧ zT h b = 4 ∧ (∀ k, k < 6 → zR h b k = some (b + (1 + k))) ∧ (∀ c, 1 ≤ c → c < 6 → zT h (b + c) = 7 ∧ zL h (b + c) = ztl c) ∧ (zT h (b + 6) = 11 ∧ zL h (b + 6) = 10) ∧ ∀ i, i < 10 → zT h (b + (7 + i)) = 3
/-- where a town keeps what -/
def zix (pi : Nat → Nat) (c k : Nat) : Option Nat :=
  if c = 0 then (if k = 6 then some 33 else if k = 7 then some 8 else if k = 8 then some 9 else if k = 9 then some 134 else none)
  else if c = 1 then (if k < 8 then some k else none)
  else if c = 2 then (if k < 5 then some (10 + k) else none)
  else if c = 3 then (if k < 6 then some (15 + 3 * k + 0) else none)
  else if c = 4 then (if k < 6 then some (15 + 3 * k + 1) else none)
  else if c = 5 then (if k < 6 then some (15 + 3 * k + 2) else none)
  else if 7 ≤ c ∧ c < 17 then (if k < 10 then some (34 + 10 * pi (c - 7) + k) else none)
  else none
def zto (s : Nat → Int32) (d : Int32) (o : Option Nat) : Int32 := match o with
  | some i => s i
  | none => d
def zt (h : zhp) (b : Nat) (s : Nat → Int32) (p pi : Nat → Nat) : zhp := (h.1, h.2.1, h.2.2.1, fun x k => if b ≤ x ∧ x < b + 17 then zto s (h.2.2.2.1 x k) (zix pi (x - b) k) else h.2.2.2.1 x k, fun x k => if x = b + 6 ∧ k < 10 then some (b + (7 + p k)) else h.2.2.2.2 x k)
/-- from a cell's place back to what the index tells: the class of the index, and the place in it -/
def zcl (pi p : Nat → Nat) (i : Nat) : Nat × Nat :=
  if i = 33 then (0, 6) else if i = 8 then (0, 7) else if i = 9 then (0, 8) else if i = 134 then (0, 9)
  else if i < 8 then (1, i) else if i < 15 then (2, i - 10) else if i < 33 then (3 + (i - 15) % 3, (i - 15) / 3) else (7 + p ((i - 34) / 10), (i - 34) % 10)
theorem zcl_ix {p pi : Nat → Nat} (hp : zPm p pi) {c k i : Nat} (h : zix pi c k = some i) : zcl pi p i = (c, k) := by
  unfold zix at h
  split at h
  · next hc =>
    subst hc
    split at h
    · next q => cases h; subst q; rfl
    · split at h
      · next q => cases h; subst q; rfl
      · split at h
        · next q => cases h; subst q; rfl
        · split at h
          · next q => cases h; subst q; rfl
          · cases h
  · split at h
    · next hc =>
      subst hc
      split at h
      · next q => cases h; unfold zcl; rw [if_neg (by omega), if_neg (by omega), if_neg (by omega), if_neg (by omega), if_pos (by omega)]
      · cases h
    · split at h
      · next hc =>
        subst hc
        split at h
        · next q => cases h; unfold zcl; rw [if_neg (by omega), if_neg (by omega), if_neg (by omega), if_neg (by omega), if_neg (by omega), if_pos (by omega), show 10 + k - 10 = k by omega]
        · cases h
      · split at h
        · next hc =>
          subst hc
          split at h
          · next q => cases h; unfold zcl; rw [if_neg (by omega), if_neg (by omega), if_neg (by omega), if_neg (by omega), if_neg (by omega), if_neg (by omega), if_pos (by omega), show 3 + (15 + 3 * k + 0 - 15) % 3 = 3 by omega, show (15 + 3 * k + 0 - 15) / 3 = k by omega]
          · cases h
        · split at h
          · next hc =>
            subst hc
            split at h
            · next q => cases h; unfold zcl; rw [if_neg (by omega), if_neg (by omega), if_neg (by omega), if_neg (by omega), if_neg (by omega), if_neg (by omega), if_pos (by omega), show 3 + (15 + 3 * k + 1 - 15) % 3 = 4 by omega, show (15 + 3 * k + 1 - 15) / 3 = k by omega]
            · cases h
          · split at h
            · next hc =>
              subst hc
              split at h
              · next q => cases h; unfold zcl; rw [if_neg (by omega), if_neg (by omega), if_neg (by omega), if_neg (by omega), if_neg (by omega), if_neg (by omega), if_pos (by omega), show 3 + (15 + 3 * k + 2 - 15) % 3 = 5 by omega, show (15 + 3 * k + 2 - 15) / 3 = k by omega]
              · cases h
            · split at h
              · next hc =>
                split at h
                · next q =>
                  cases h
                  obtain ⟨a1, a2, a3, a4⟩ := hp (c - 7) (by omega)
                  unfold zcl
                  rw [if_neg (by omega), if_neg (by omega), if_neg (by omega), if_neg (by omega), if_neg (by omega), if_neg (by omega), if_neg (by omega), show (34 + 10 * pi (c - 7) + k - 34) / 10 = pi (c - 7) by omega, show (34 + 10 * pi (c - 7) + k - 34) % 10 = k by omega, a4, show 7 + (c - 7) = c by omega]
                · cases h
              · cases h
theorem zt_get {h : zhp} {b : Nat} {s : Nat → Int32} {p pi : Nat → Nat} {c k i : Nat} (hc : c < 17) (e : zix pi c k = some i) : zI (zt h b s p pi) (b + c) k = s i := by
  show (if b ≤ b + c ∧ b + c < b + 17 then zto s (h.2.2.2.1 (b + c) k) (zix pi (b + c - b) k) else h.2.2.2.1 (b + c) k) = s i
  rw [if_pos (by omega), Nat.add_sub_cancel_left, e]
  rfl
theorem zt_set {h : zhp} {b : Nat} {s : Nat → Int32} {p pi : Nat → Nat} (hp : zPm p pi) {c k i : Nat} (hc : c < 17) (e : zix pi c k = some i) (v : Int32) : zsI (zt h b s p pi) (b + c) k v = zt h b (upd s i v) p pi := by
  unfold zsI zt
  congr 4
  funext x j
  show (if x = b + c ∧ j = k then v else if b ≤ x ∧ x < b + 17 then zto s (h.2.2.2.1 x j) (zix pi (x - b) j) else h.2.2.2.1 x j) = if b ≤ x ∧ x < b + 17 then zto (upd s i v) (h.2.2.2.1 x j) (zix pi (x - b) j) else h.2.2.2.1 x j
  by_cases hx : x = b + c ∧ j = k
  · obtain ⟨rfl, rfl⟩ := hx
    rw [if_pos ⟨rfl, rfl⟩, if_pos (by omega), Nat.add_sub_cancel_left, e]
    exact (pk_us).symm
  · rw [if_neg hx]
    by_cases hr : b ≤ x ∧ x < b + 17
    · rw [if_pos hr, if_pos hr]
      cases ho : zix pi (x - b) j with
      | none => rfl
      | some i' =>
        show s i' = upd s i v i'
        rw [pk_un]
        intro hi
        subst hi
        have q := (zcl_ix hp e).symm.trans (zcl_ix hp ho)
        have q1 := congrArg Prod.fst q
        have q2 := congrArg Prod.snd q
        dsimp only at q1 q2
        exact hx ⟨by omega, q2.symm⟩
    · rw [if_neg hr, if_neg hr]
theorem zt_R {h : zhp} {b : Nat} {s : Nat → Int32} {p pi : Nat → Nat} {x k : Nat} (hx : x ≠ b + 6) : zR (zt h b s p pi) x k = zR h x k := if_neg (fun q => hx q.1)
theorem zix_sk {p pi : Nat → Nat} (hp : zPm p pi) {j k : Nat} (hj : j < 10) (hk : k < 10) : zix pi (7 + p j) k = some (34 + 10 * j + k) := by
  have h := hp j hj
  unfold zix
  rw [if_neg (by omega), if_neg (by omega), if_neg (by omega), if_neg (by omega), if_neg (by omega), if_neg (by omega), if_pos (by omega), if_pos hk, show 7 + p j - 7 = p j by omega, h.2.2.1]
section
variable {i j : zmi} {pc : Nat} {L : List (Option Value)} {st stk : List Value} {h h0 : zhp} {cc sc : Nat} {Q : Option Value → zhp → Prop} {av : List Value} {b : Nat} {s : Nat → Int32} {p pi : Nat → Nat}
theorem tt_tI {fk ix idx : Nat} (d : decode (mC i) pc = .ok (.getfield idx, 3)) (f : zFL (mY i).cls idx 4 fk) (hr : zisR (zty 4 fk) = false) (hS : zTS h b) (e : zix pi 0 fk = some ix) (kt : TT i (pc + 3) L (.int (s ix) :: st) (zt h b s p pi) cc sc Q) : TT i pc L (.ref b :: st) (zt h b s p pi) cc sc Q := by
  refine tt_getI d f hr hS.2.1 ?_
  rw [show zI (zt h b s p pi) b fk = s ix from zt_get (c := 0) (by omega) e]
  exact kt
theorem tt_tA {fk c idx : Nat} (d : decode (mC i) pc = .ok (.getfield idx, 3)) (f : zFL (mY i).cls idx 4 fk) (hr : zisR (zty 4 fk) = true) (hS : zTS h b) (hk : fk < 6) (hc : c = 1 + fk) (kt : TT i (pc + 3) L (.ref (b + c) :: st) (zt h b s p pi) cc sc Q) : TT i pc L (.ref b :: st) (zt h b s p pi) cc sc Q := by
  subst hc
  exact tt_getR d f hr hS.2.1 ((zt_R (by omega)).trans (hS.2.2.1 fk hk)) kt
theorem tt_tp {k ix idx : Nat} {v : Int32} (d : decode (mC i) pc = .ok (.putfield idx, 3)) (f : zFL (mY i).cls idx 4 k) (hr : zty 4 k = .int) (hfin : (TX4 k).2.2.2 = false) (hS : zTS h b) (hp : zPm p pi) (e : zix pi 0 k = some ix) (kt : TT i (pc + 3) L st (zt h b (upd s ix v) p pi) cc sc Q) : TT i pc L (.int v :: .ref b :: st) (zt h b s p pi) cc sc Q := tt_putI d f (by rw [hr]; rfl) (by rw [hr]; rfl) (by rw [hr]; rfl) hfin hS.2.1 (by
  rw [show zsI (zt h b s p pi) b k v = _ from zt_set (c := 0) hp (by omega) e v]; exact kt)
theorem tt_sI {n fk idx : Nat} (d : decode (mC i) pc = .ok (.getfield idx, 3)) (f : zFL (mY i).cls idx 3 fk) (hr : zisR (zty 3 fk) = false) (hS : zTS h b) (hp : zPm p pi) (hn : n < 10) (hk : fk < 10) (kt : TT i (pc + 3) L (.int (s (34 + 10 * n + fk)) :: st) (zt h b s p pi) cc sc Q) : TT i pc L (.ref (b + (7 + p n)) :: st) (zt h b s p pi) cc sc Q := by
  have hb := (hp n hn).1
  refine tt_getI d f hr (hS.2.2.2.2.2 (p n) hb) ?_
  rw [zt_get (by omega) (zix_sk hp hn hk)]
  exact kt
theorem tt_sp {n k idx : Nat} {v : Int32} (d : decode (mC i) pc = .ok (.putfield idx, 3)) (f : zFL (mY i).cls idx 3 k) (hr : zty 3 k = .int) (hfin : (TX3 k).2.2.2 = false) (hS : zTS h b) (hp : zPm p pi) (hn : n < 10) (hk : k < 10) (kt : TT i (pc + 3) L st (zt h b (upd s (34 + 10 * n + k) v) p pi) cc sc Q) : TT i pc L (.int v :: .ref (b + (7 + p n)) :: st) (zt h b s p pi) cc sc Q := by
  have hb := (hp n hn).1
  refine tt_putI d f (by rw [hr]; rfl) (by rw [hr]; rfl) (by rw [hr]; rfl) hfin (hS.2.2.2.2.2 (p n) hb) ?_
  rw [zt_set hp (by omega) (zix_sk hp hn hk)]
  exact kt
theorem tt_tsk {k : Nat} (d : decode (mC i) pc = .ok (.aaload, 1)) (hS : zTS h b) (hk : k < 10) (kt : TT i (pc + 1) L (.ref (b + (7 + p k)) :: st) (zt h b s p pi) cc sc Q) : TT i pc L (.int (nI k) :: .ref (b + 6) :: st) (zt h b s p pi) cc sc Q := by
  have h3 : zL h (b + 6) = 10 := hS.2.2.2.2.1.2
  have h4 := hS.1
  refine tt_aald d hS.2.2.2.2.1.1 (Or.inr rfl) (by omega) (vp_in_nI (by show k < zL h (b + 6); omega) (by show zL h (b + 6) < _; omega)) ?_ kt
  rw [nI_clamp (by omega)]
  exact if_pos ⟨rfl, hk⟩
theorem tt_tl1 {k : Nat} (d : decode (mC i) pc = .ok (.iaload, 1)) (hS : zTS h b) (hk : k < 8) (kt : TT i (pc + 1) L (.int (s k) :: st) (zt h b s p pi) cc sc Q) : TT i pc L (.int (nI k) :: .ref (b + 1) :: st) (zt h b s p pi) cc sc Q := by
  obtain ⟨h2, h3⟩ := hS.2.2.2.1 1 (by omega) (by omega)
  have h3 : zL h (b + 1) = 8 := h3
  refine tt_iald d h2 (vp_in_nI (by show k < zL h (b + 1); omega) (by show zL h (b + 1) < _; omega)) ?_
  rw [nI_clamp (by omega), zt_get (by omega) (show zix pi 1 k = some k from if_pos hk)]
  exact kt
theorem tt_ts1 {k : Nat} {v : Int32} (d : decode (mC i) pc = .ok (.iastore, 1)) (hS : zTS h b) (hp : zPm p pi) (hk : k < 8) (kt : TT i (pc + 1) L st (zt h b (upd s k v) p pi) cc sc Q) : TT i pc L (.int v :: .int (nI k) :: .ref (b + 1) :: st) (zt h b s p pi) cc sc Q := by
  obtain ⟨h2, h3⟩ := hS.2.2.2.1 1 (by omega) (by omega)
  have h3 : zL h (b + 1) = 8 := h3
  have h4 := hS.1
  refine tt_iast d h2 (by omega) (vp_in_nI (by show k < zL h (b + 1); omega) (by show zL h (b + 1) < _; omega)) ?_
  rw [nI_clamp (by omega), zt_set hp (by omega) (show zix pi 1 k = some k from if_pos hk)]
  exact kt
theorem tt_tl2 {k : Nat} (d : decode (mC i) pc = .ok (.iaload, 1)) (hS : zTS h b) (hk : k < 5) (kt : TT i (pc + 1) L (.int (s (10 + k)) :: st) (zt h b s p pi) cc sc Q) : TT i pc L (.int (nI k) :: .ref (b + 2) :: st) (zt h b s p pi) cc sc Q := by
  obtain ⟨h2, h3⟩ := hS.2.2.2.1 2 (by omega) (by omega)
  have h3 : zL h (b + 2) = 5 := h3
  refine tt_iald d h2 (vp_in_nI (by show k < zL h (b + 2); omega) (by show zL h (b + 2) < _; omega)) ?_
  rw [nI_clamp (by omega), zt_get (by omega) (show zix pi 2 k = some (10 + k) from if_pos hk)]
  exact kt
theorem tt_ts2 {k : Nat} {v : Int32} (d : decode (mC i) pc = .ok (.iastore, 1)) (hS : zTS h b) (hp : zPm p pi) (hk : k < 5) (kt : TT i (pc + 1) L st (zt h b (upd s (10 + k) v) p pi) cc sc Q) : TT i pc L (.int v :: .int (nI k) :: .ref (b + 2) :: st) (zt h b s p pi) cc sc Q := by
  obtain ⟨h2, h3⟩ := hS.2.2.2.1 2 (by omega) (by omega)
  have h3 : zL h (b + 2) = 5 := h3
  have h4 := hS.1
  refine tt_iast d h2 (by omega) (vp_in_nI (by show k < zL h (b + 2); omega) (by show zL h (b + 2) < _; omega)) ?_
  rw [nI_clamp (by omega), zt_set hp (by omega) (show zix pi 2 k = some (10 + k) from if_pos hk)]
  exact kt
theorem tt_tl3 {k : Nat} (d : decode (mC i) pc = .ok (.iaload, 1)) (hS : zTS h b) (hk : k < 6) (kt : TT i (pc + 1) L (.int (s (15 + 3 * k + 0)) :: st) (zt h b s p pi) cc sc Q) : TT i pc L (.int (nI k) :: .ref (b + 3) :: st) (zt h b s p pi) cc sc Q := by
  obtain ⟨h2, h3⟩ := hS.2.2.2.1 3 (by omega) (by omega)
  have h3 : zL h (b + 3) = 6 := h3
  refine tt_iald d h2 (vp_in_nI (by show k < zL h (b + 3); omega) (by show zL h (b + 3) < _; omega)) ?_
  rw [nI_clamp (by omega), zt_get (by omega) (show zix pi 3 k = some (15 + 3 * k + 0) from if_pos hk)]
  exact kt
theorem tt_ts3 {k : Nat} {v : Int32} (d : decode (mC i) pc = .ok (.iastore, 1)) (hS : zTS h b) (hp : zPm p pi) (hk : k < 6) (kt : TT i (pc + 1) L st (zt h b (upd s (15 + 3 * k + 0) v) p pi) cc sc Q) : TT i pc L (.int v :: .int (nI k) :: .ref (b + 3) :: st) (zt h b s p pi) cc sc Q := by
  obtain ⟨h2, h3⟩ := hS.2.2.2.1 3 (by omega) (by omega)
  have h3 : zL h (b + 3) = 6 := h3
  have h4 := hS.1
  refine tt_iast d h2 (by omega) (vp_in_nI (by show k < zL h (b + 3); omega) (by show zL h (b + 3) < _; omega)) ?_
  rw [nI_clamp (by omega), zt_set hp (by omega) (show zix pi 3 k = some (15 + 3 * k + 0) from if_pos hk)]
  exact kt
theorem tt_tl4 {k : Nat} (d : decode (mC i) pc = .ok (.iaload, 1)) (hS : zTS h b) (hk : k < 6) (kt : TT i (pc + 1) L (.int (s (15 + 3 * k + 1)) :: st) (zt h b s p pi) cc sc Q) : TT i pc L (.int (nI k) :: .ref (b + 4) :: st) (zt h b s p pi) cc sc Q := by
  obtain ⟨h2, h3⟩ := hS.2.2.2.1 4 (by omega) (by omega)
  have h3 : zL h (b + 4) = 6 := h3
  refine tt_iald d h2 (vp_in_nI (by show k < zL h (b + 4); omega) (by show zL h (b + 4) < _; omega)) ?_
  rw [nI_clamp (by omega), zt_get (by omega) (show zix pi 4 k = some (15 + 3 * k + 1) from if_pos hk)]
  exact kt
theorem tt_ts4 {k : Nat} {v : Int32} (d : decode (mC i) pc = .ok (.iastore, 1)) (hS : zTS h b) (hp : zPm p pi) (hk : k < 6) (kt : TT i (pc + 1) L st (zt h b (upd s (15 + 3 * k + 1) v) p pi) cc sc Q) : TT i pc L (.int v :: .int (nI k) :: .ref (b + 4) :: st) (zt h b s p pi) cc sc Q := by
  obtain ⟨h2, h3⟩ := hS.2.2.2.1 4 (by omega) (by omega)
  have h3 : zL h (b + 4) = 6 := h3
  have h4 := hS.1
  refine tt_iast d h2 (by omega) (vp_in_nI (by show k < zL h (b + 4); omega) (by show zL h (b + 4) < _; omega)) ?_
  rw [nI_clamp (by omega), zt_set hp (by omega) (show zix pi 4 k = some (15 + 3 * k + 1) from if_pos hk)]
  exact kt
theorem tt_tl5 {k : Nat} (d : decode (mC i) pc = .ok (.iaload, 1)) (hS : zTS h b) (hk : k < 6) (kt : TT i (pc + 1) L (.int (s (15 + 3 * k + 2)) :: st) (zt h b s p pi) cc sc Q) : TT i pc L (.int (nI k) :: .ref (b + 5) :: st) (zt h b s p pi) cc sc Q := by
  obtain ⟨h2, h3⟩ := hS.2.2.2.1 5 (by omega) (by omega)
  have h3 : zL h (b + 5) = 6 := h3
  refine tt_iald d h2 (vp_in_nI (by show k < zL h (b + 5); omega) (by show zL h (b + 5) < _; omega)) ?_
  rw [nI_clamp (by omega), zt_get (by omega) (show zix pi 5 k = some (15 + 3 * k + 2) from if_pos hk)]
  exact kt
theorem tt_ts5 {k : Nat} {v : Int32} (d : decode (mC i) pc = .ok (.iastore, 1)) (hS : zTS h b) (hp : zPm p pi) (hk : k < 6) (kt : TT i (pc + 1) L st (zt h b (upd s (15 + 3 * k + 2) v) p pi) cc sc Q) : TT i pc L (.int v :: .int (nI k) :: .ref (b + 5) :: st) (zt h b s p pi) cc sc Q := by
  obtain ⟨h2, h3⟩ := hS.2.2.2.1 5 (by omega) (by omega)
  have h3 : zL h (b + 5) = 6 := h3
  have h4 := hS.1
  refine tt_iast d h2 (by omega) (vp_in_nI (by show k < zL h (b + 5); omega) (by show zL h (b + 5) < _; omega)) ?_
  rw [nI_clamp (by omega), zt_set hp (by omega) (show zix pi 5 k = some (15 + 3 * k + 2) from if_pos hk)]
  exact kt
end
