/-! the class: a town gives up a skip, a town becomes as another -/
def kSg (j n i : Nat) : Nat := if i < j then i else if i + 1 < n then i + 1 else if i + 1 = n then j else i
def kSi (j n m : Nat) : Nat := if m < j then m else if m = j then n - 1 else if m < n then m - 1 else m
theorem kSg_lt {j n i : Nat} (hj : j < n) (hn : n ≤ 10) (hi : i < 10) : kSg j n i < 10 ∧ kSi j n i < 10 ∧ kSi j n (kSg j n i) = i ∧ kSg j n (kSi j n i) = i := by
  unfold kSg kSi
  refine ⟨?_, ?_, ?_, ?_⟩ <;> (repeat' split) <;> omega
theorem kSg_pm {j n : Nat} {p pi : Nat → Nat} (hj : j < n) (hn : n ≤ 10) (hp : zPm p pi) : zPm (fun i => p (kSg j n i)) (fun q => kSi j n (pi q)) := by
  intro i hi
  obtain ⟨a1, a2, a3, a4⟩ := hp i hi
  obtain ⟨b1, b2, b3, b4⟩ := kSg_lt hj hn hi
  obtain ⟨c1, c2, c3, c4⟩ := kSg_lt hj hn a2
  refine ⟨(hp _ b1).1, c2, ?_, ?_⟩
  · show kSi j n (pi (p (kSg j n i))) = i
    rw [(hp _ b1).2.2.1, b3]
  · show p (kSg j n (kSi j n (pi i))) = i
    rw [c4, a4]
/-- the skips behind the one that goes come one place nearer; its row lies behind them -/
def kRo (s : Nat → Int32) (j n : Nat) : Nat → Int32 := fun i => if 34 ≤ i ∧ i < 134 then s (34 + 10 * kSg j n ((i - 34) / 10) + (i - 34) % 10) else s i
theorem zix_ro {s : Nat → Int32} {d : Int32} {j n : Nat} {p pi : Nat → Nat} (hj : j < n) (hn : n ≤ 10) (hp : zPm p pi) (c k : Nat) : zto s d (zix pi c k) = zto (kRo s j n) d (zix (fun q => kSi j n (pi q)) c k) := by
  have low : ∀ i, i < 34 ∨ i = 134 → s i = kRo s j n i := fun i hi => by
    unfold kRo
    rw [if_neg (by omega)]
  unfold zix
  split
  · split
    · exact low _ (by omega)
    · split
      · exact low _ (by omega)
      · split
        · exact low _ (by omega)
        · split
          · exact low _ (by omega)
          · rfl
  · split
    · split
      · exact low _ (by omega)
      · rfl
    · split
      · split
        · exact low _ (by omega)
        · rfl
      · split
        · split
          · exact low _ (by omega)
          · rfl
        · split
          · split
            · exact low _ (by omega)
            · rfl
          · split
            · split
              · exact low _ (by omega)
              · rfl
            · split
              · next hc =>
                split
                · next hk =>
                  obtain ⟨a1, a2, a3, a4⟩ := hp (c - 7) (by omega)
                  obtain ⟨c1, c2, c3, c4⟩ := kSg_lt hj hn a2
                  show s (34 + 10 * pi (c - 7) + k) = kRo s j n (34 + 10 * kSi j n (pi (c - 7)) + k)
                  unfold kRo
                  rw [if_pos (by omega), show (34 + 10 * kSi j n (pi (c - 7)) + k - 34) / 10 = kSi j n (pi (c - 7)) by omega, show (34 + 10 * kSi j n (pi (c - 7)) + k - 34) % 10 = k by omega, c4]
                · rfl
              · rfl
theorem zt_ro {h : zhp} {b : Nat} {s : Nat → Int32} {j n : Nat} {p pi : Nat → Nat} (hj : j < n) (hn : n ≤ 10) (hp : zPm p pi) (q : Nat → Nat) : zt h b s q pi = zt h b (kRo s j n) q (fun q => kSi j n (pi q)) := by
  unfold zt
  congr 4
  funext x k
  rw [zix_ro hj hn hp]
section
variable {i j : zmi} {pc : Nat} {L : List (Option Value)} {st stk : List Value} {h h0 : zhp} {cc sc : Nat} {Q : Option Value → zhp → Prop} {av : List Value} {b o : Nat} {s s2 : Nat → Int32} {p pi p2 pi2 : Nat → Nat}
theorem tt_ts6 {k m : Nat} (d : decode (mC i) pc = .ok (.aastore, 1)) (hS : zTS h b) (hk : k < 10) (hm : m < 10) (kt : TT i (pc + 1) L st (zt h b s (fun i => if i = k then m else p i) pi) cc sc Q) : TT i pc L (.ref (b + (7 + m)) :: .int (nI k) :: .ref (b + 6) :: st) (zt h b s p pi) cc sc Q := by
  have h3 : zL h (b + 6) = 10 := hS.2.2.2.2.1.2
  have h4 := hS.1
  refine tt_aast d hS.2.2.2.2.1.1 (Or.inr ⟨rfl, hS.2.2.2.2.2 m hm⟩) (by omega) (vp_in_nI (by show k < zL h (b + 6); omega) (by show zL h (b + 6) < _; omega)) ?_
  rw [nI_clamp (by omega)]
  refine tt_hp ?_ kt
  unfold zsR zt
  congr 4
  funext x y
  show (if x = b + 6 ∧ y = k then some (b + (7 + m)) else if x = b + 6 ∧ y < 10 then some (b + (7 + p y)) else h.2.2.2.2 x y) = if x = b + 6 ∧ y < 10 then some (b + (7 + (if y = k then m else p y))) else h.2.2.2.2 x y
  by_cases hx : x = b + 6
  · by_cases hy : y = k
    · rw [if_pos ⟨hx, hy⟩, if_pos ⟨hx, by omega⟩, if_pos hy]
    · rw [if_neg (fun q => hy q.2), if_neg hy]
  · rw [if_neg (fun q => hx q.1), if_neg (fun q => hx q.1), if_neg (fun q => hx q.1)]
/-- another town stands at o -/
def zTw (h : zhp) (o : Nat) (s2 : Nat → Int32) (p2 pi2 : Nat → Nat) : Prop := zTS h o ∧ zPm p2 pi2 ∧ zt h o s2 p2 pi2 = h
def zDj (b o : Nat) : Prop := o + 17 ≤ b ∨ b + 17 ≤ o
theorem zo_get (hO : zTw h o s2 p2 pi2) (hd : zDj b o) {c k ix : Nat} (hc : c < 17) (e : zix pi2 c k = some ix) : zI (zt h b s p pi) (o + c) k = s2 ix := by
  rw [zt_I (by unfold zDj at hd; omega)]
  have := zt_get (h := h) (b := o) (s := s2) (p := p2) hc e
  rw [hO.2.2] at this
  exact this
theorem zo_R (hO : zTw h o s2 p2 pi2) (hd : zDj b o) {k : Nat} (hk : k < 10) : zR (zt h b s p pi) (o + 6) k = some (o + (7 + p2 k)) := by
  rw [zt_R (by unfold zDj at hd; omega)]
  have : zR (zt h o s2 p2 pi2) (o + 6) k = some (o + (7 + p2 k)) := if_pos ⟨rfl, hk⟩
  rw [hO.2.2] at this
  exact this
theorem tt_oI {fk ix idx : Nat} (d : decode (mC i) pc = .ok (.getfield idx, 3)) (f : zFL (mY i).cls idx 4 fk) (hr : zisR (zty 4 fk) = false) (hO : zTw h o s2 p2 pi2) (hd : zDj b o) (e : zix pi2 0 fk = some ix) (kt : TT i (pc + 3) L (.int (s2 ix) :: st) (zt h b s p pi) cc sc Q) : TT i pc L (.ref o :: st) (zt h b s p pi) cc sc Q := by
  refine tt_getI d f hr hO.1.2.1 ?_
  rw [show zI (zt h b s p pi) o fk = s2 ix from zo_get (c := 0) hO hd (by omega) e]
  exact kt
theorem tt_oA {fk c idx : Nat} (d : decode (mC i) pc = .ok (.getfield idx, 3)) (f : zFL (mY i).cls idx 4 fk) (hr : zisR (zty 4 fk) = true) (hO : zTw h o s2 p2 pi2) (hd : zDj b o) (hk : fk < 6) (hc : c = 1 + fk) (kt : TT i (pc + 3) L (.ref (o + c) :: st) (zt h b s p pi) cc sc Q) : TT i pc L (.ref o :: st) (zt h b s p pi) cc sc Q := by
  subst hc
  exact tt_getR d f hr hO.1.2.1 ((zt_R (by unfold zDj at hd; omega)).trans (hO.1.2.2.1 fk hk)) kt
theorem tt_oS {n fk idx : Nat} (d : decode (mC i) pc = .ok (.getfield idx, 3)) (f : zFL (mY i).cls idx 3 fk) (hr : zisR (zty 3 fk) = false) (hO : zTw h o s2 p2 pi2) (hd : zDj b o) (hn : n < 10) (hk : fk < 10) (kt : TT i (pc + 3) L (.int (s2 (34 + 10 * n + fk)) :: st) (zt h b s p pi) cc sc Q) : TT i pc L (.ref (o + (7 + p2 n)) :: st) (zt h b s p pi) cc sc Q := by
  have hb := (hO.2.1 n hn).1
  refine tt_getI d f hr (hO.1.2.2.2.2.2 (p2 n) hb) ?_
  rw [zo_get hO hd (by omega) (zix_sk hO.2.1 hn hk)]
  exact kt
theorem tt_osk {k : Nat} (d : decode (mC i) pc = .ok (.aaload, 1)) (hO : zTw h o s2 p2 pi2) (hd : zDj b o) (hk : k < 10) (kt : TT i (pc + 1) L (.ref (o + (7 + p2 k)) :: st) (zt h b s p pi) cc sc Q) : TT i pc L (.int (nI k) :: .ref (o + 6) :: st) (zt h b s p pi) cc sc Q := by
  have h3 : zL h (o + 6) = 10 := hO.1.2.2.2.2.1.2
  have h4 := hO.1.1
  refine tt_aald d hO.1.2.2.2.2.1.1 (Or.inr rfl) (by omega) (vp_in_nI (by show k < zL h (o + 6); omega) (by show zL h (o + 6) < _; omega)) ?_ kt
  rw [nI_clamp (by omega)]
  exact zo_R hO hd hk
/-- which row of ints an index lies in -/
def kCl (i : Nat) : Nat := if i = 33 ∨ i = 8 ∨ i = 9 ∨ i = 134 then 0 else if i < 8 then 1 else if i < 15 then 2 else if i < 33 then 3 + (i - 15) % 3 else 7
def kAr (s s2 : Nat → Int32) (c : Nat) : Nat → Int32 := fun i => if kCl i = c then s2 i else s i
theorem zix_cl (hp : zPm p pi) {c k ix : Nat} (e : zix pi c k = some ix) : kCl ix = if c < 7 then c else 7 := by
  have h1 := zcl_ix hp e
  have h2 := congrArg Prod.fst h1
  dsimp only at h2
  rw [← h2]
  unfold zcl kCl
  by_cases q1 : ix = 33
  · rw [if_pos (Or.inl q1), if_pos q1]; rfl
  · rw [if_neg q1]
    by_cases q2 : ix = 8
    · rw [if_pos (Or.inr (Or.inl q2)), if_pos q2]; rfl
    · rw [if_neg q2]
      by_cases q3 : ix = 9
      · rw [if_pos (Or.inr (Or.inr (Or.inl q3))), if_pos q3]; rfl
      · rw [if_neg q3]
        by_cases q4 : ix = 134
        · rw [if_pos (Or.inr (Or.inr (Or.inr q4))), if_pos q4]; rfl
        · rw [if_neg q4, if_neg (by omega)]
          by_cases q5 : ix < 8
          · rw [if_pos q5, if_pos q5]; rfl
          · rw [if_neg q5, if_neg q5]
            by_cases q6 : ix < 15
            · rw [if_pos q6, if_pos q6]; rfl
            · rw [if_neg q6, if_neg q6]
              by_cases q7 : ix < 33
              · rw [if_pos q7, if_pos q7]
                dsimp only
                rw [if_pos (by omega)]
              · rw [if_neg q7, if_neg q7]
                dsimp only
                rw [if_neg (by omega)]
theorem zt_cpy (hp : zPm p pi) (hO : zTw h o s2 p2 pi2) (hd : zDj b o) {c : Nat} (h1 : 1 ≤ c) (h6 : c < 6) : zcp (zt h b s p pi) (b + c) (va_cpy (zI (zt h b s p pi) (o + c)) (zI (zt h b s p pi) (b + c)) 0 0 (ztl c)) = zt h b (kAr s s2 c) p pi := by
  have hix : ∀ (q : Nat → Nat) k, zix q c k = if k < ztl c then some (if c = 1 then k else if c = 2 then 10 + k else 15 + 3 * k + (c - 3)) else none := by
    intro q k
    rcases (show c = 1 ∨ c = 2 ∨ c = 3 ∨ c = 4 ∨ c = 5 by omega) with rfl | rfl | rfl | rfl | rfl <;> rfl
  unfold zcp
  show (_, _, _, _, _) = zt h b (kAr s s2 c) p pi
  unfold zt
  congr 4
  funext x k
  dsimp only
  by_cases hx : x = b + c
  · subst hx
    rw [if_pos rfl, if_pos (by omega), Nat.add_sub_cancel_left]
    unfold va_cpy
    by_cases hk : k < ztl c
    · rw [if_pos ⟨Nat.zero_le _, by omega⟩]
      have e1 := hix pi2 k
      rw [if_pos hk] at e1
      have e2 := hix pi k
      rw [if_pos hk] at e2
      rw [show 0 + (k - 0) = k by omega]
      refine Eq.trans (zo_get (h := h) (b := b) (s := s) (p := p) (pi := pi) hO hd (by omega) e1) ?_
      have e3 := zix_cl hp e2
      rw [if_pos (show c < 7 by omega)] at e3
      rw [e2]
      show _ = kAr s s2 c _
      unfold kAr
      rw [if_pos e3]
    · rw [if_neg (by omega)]
      have e2 := hix pi k
      rw [if_neg hk] at e2
      show (if b ≤ b + c ∧ b + c < b + 17 then zto s (h.2.2.2.1 (b + c) k) (zix pi (b + c - b) k) else h.2.2.2.1 (b + c) k) = _
      rw [if_pos (by omega), Nat.add_sub_cancel_left, e2]
      rfl
  · rw [if_neg hx]
    by_cases hr : b ≤ x ∧ x < b + 17
    · rw [if_pos hr, if_pos hr]
      cases ho : zix pi (x - b) k with
      | none => rfl
      | some ix =>
        show s ix = kAr s s2 c ix
        have e3 := zix_cl hp ho
        unfold kAr
        rw [if_neg]
        rw [e3]
        split <;> omega
    · rw [if_neg hr, if_neg hr]
theorem tt_cpT {c n idx : Nat} (d : decode (mC i) pc = .ok (.invokestatic idx, 3)) (w1 : Cond.methodLink (mY i).cls idx arraycopyName ∈ zW) (hS : zTS h b) (hp : zPm p pi) (hO : zTw h o s2 p2 pi2) (hd : zDj b o) (h1 : 1 ≤ c) (h6 : c < 6) (hn : n = ztl c) (hh : 1 ≤ mH i) (h8 : (st.map fun v => v.category).sum ≤ 8)
    (kt : TT i (pc + 3) L st (zt h b (kAr s s2 c) p pi) cc sc Q) : TT i pc L (.int (nI n) :: .int (nI 0) :: .ref (b + c) :: .int (nI 0) :: .ref (o + c) :: st) (zt h b s p pi) cc sc Q := by
  subst hn
  obtain ⟨a1, a2⟩ := hS.2.2.2.1 c h1 h6
  obtain ⟨b1, b2⟩ := hO.1.2.2.2.1 c h1 h6
  have hb := hS.1
  have ho := hO.1.1
  have hl : ztl c ≤ 8 := by
    rcases (show c = 1 ∨ c = 2 ∨ c = 3 ∨ c = 4 ∨ c = 5 by omega) with rfl | rfl | rfl | rfl | rfl <;> decide
  have n0 : (nI 0).toNatClampNeg = 0 := by decide
  have n1 : (nI (ztl c)).toNatClampNeg = ztl c := nI_clamp (by omega)
  refine tt_copy d w1 jac2 jac3 jac4 b1 a1 (by omega) (by omega) (by decide) (by decide) (znn (by omega)) ?_ ?_ hh h8 ?_
  · rw [n0, n1]
    show 0 + ztl c ≤ zL h (o + c)
    omega
  · rw [n0, n1]
    show 0 + ztl c ≤ zL h (b + c)
    omega
  · rw [n0, n1, zt_cpy hp hO hd h1 h6]
    exact kt
end
def kBc (s s2 : Nat → Int32) (n : Nat) : Nat → Int32 := upd (upd (upd (upd (upd (upd (upd (upd (upd (upd s (34 + 10 * n + 0) (s2 (34 + 10 * n + 0))) (34 + 10 * n + 1) (s2 (34 + 10 * n + 1))) (34 + 10 * n + 2) (s2 (34 + 10 * n + 2))) (34 + 10 * n + 3) (s2 (34 + 10 * n + 3))) (34 + 10 * n + 4) (s2 (34 + 10 * n + 4))) (34 + 10 * n + 5) (s2 (34 + 10 * n + 5))) (34 + 10 * n + 6) (s2 (34 + 10 * n + 6))) (34 + 10 * n + 7) (s2 (34 + 10 * n + 7))) (34 + 10 * n + 8) (s2 (34 + 10 * n + 8))) (34 + 10 * n + 9) (s2 (34 + 10 * n + 9))
theorem kBc_at (s s2 : Nat → Int32) (n i : Nat) : kBc s s2 n i = if 34 + 10 * n ≤ i ∧ i < 34 + 10 * n + 10 then s2 i else s i := by
  have u : ∀ (x : Nat → Int32) (a : Nat), upd x a (s2 a) i = if i = a then s2 i else x i := fun x a => by
    by_cases q : i = a
    · subst q; rw [if_pos rfl, pk_us]
    · rw [if_neg q, pk_un q]
  unfold kBc
  rw [u, u, u, u, u, u, u, u, u, u]
  repeat' split
  all_goals first | rfl | omega
theorem kBcs_at (s2 : Nat → Int32) (i : Nat) : ∀ (r k : Nat) (x : Nat → Int32), zlp (fun j x => kBc x s2 j) r k x i = if 34 + 10 * k ≤ i ∧ i < 34 + 10 * (k + r) then s2 i else x i
  | 0, k, x => by
    rw [if_neg (by omega)]
    rfl
  | r + 1, k, x => by
    show zlp (fun j x => kBc x s2 j) r (k + 1) (kBc x s2 k) i = _
    rw [kBcs_at s2 i r (k + 1), kBc_at]
    repeat' split
    all_goals first | rfl | omega
/-- the town as the other: its skips as far as they stand there -/
def kBm (s s2 : Nat → Int32) (n2 : Nat) : Nat → Int32 := fun i => if i < 34 + 10 * n2 ∨ i = 134 then s2 i else s i
theorem kBm_eq {s s2 : Nat → Int32} {n2 : Nat} (hn2 : n2 ≤ 10) : kBm s s2 n2 = upd (upd (upd (upd (zlp (fun j x => kBc x s2 j) n2 0 (kAr (kAr (kAr (kAr (kAr s s2 1) s2 2) s2 3) s2 4) s2 5)) 33 (s2 33)) 8 (s2 8)) 9 (s2 9)) 134 (s2 134) := by
  funext i
  have u : ∀ (x : Nat → Int32) (a : Nat), upd x a (s2 a) i = if i = a then s2 i else x i := fun x a => by
    by_cases q : i = a
    · subst q; rw [if_pos rfl, pk_us]
    · rw [if_neg q, pk_un q]
  rw [u, u, u, u, kBcs_at]
  unfold kBm
  by_cases q : 34 + 10 * 0 ≤ i ∧ i < 34 + 10 * (0 + n2)
  · rw [if_pos (by omega), if_neg (by omega), if_neg (by omega), if_neg (by omega), if_neg (by omega), if_pos q]
  · rw [if_neg q]
    by_cases q0 : i = 134
    · rw [if_pos (Or.inr q0), if_pos q0]
    · by_cases q1 : i < 34
      · rw [if_pos (by omega)]
        unfold kAr
        by_cases z1 : i = 9
        · rw [if_neg (by omega), if_pos z1]
        · by_cases z2 : i = 8
          · rw [if_neg (by omega), if_neg z1, if_pos z2]
          · by_cases z3 : i = 33
            · rw [if_neg (by omega), if_neg z1, if_neg z2, if_pos z3]
            · rw [if_neg (by omega), if_neg z1, if_neg z2, if_neg z3]
              have : kCl i = 1 ∨ kCl i = 2 ∨ kCl i = 3 ∨ kCl i = 4 ∨ kCl i = 5 := by
                unfold kCl
                rw [if_neg (by omega)]
                by_cases y1 : i < 8
                · rw [if_pos y1]; omega
                · rw [if_neg y1]
                  by_cases y2 : i < 15
                  · rw [if_pos y2]; omega
                  · rw [if_neg y2, if_pos (by omega)]; omega
              repeat' split
              all_goals first | rfl | omega
      · rw [if_neg (by omega), if_neg (by omega), if_neg (by omega), if_neg (by omega), if_neg (by omega)]
        have hc : kCl i = 7 := by
          unfold kCl
          rw [if_neg (by omega), if_neg (by omega), if_neg (by omega), if_neg (by omega)]
        unfold kAr
        rw [hc, if_neg (by decide), if_neg (by decide), if_neg (by decide), if_neg (by decide), if_neg (by decide)]
set_option maxRecDepth 100000 in
set_option maxHeartbeats 4000000 in
theorem c_X3_become {h : zhp} {b : Nat} (hS : zTS h b) (s : Nat → Int32) {p pi : Nat → Nat} (hp : zPm p pi) {o : Nat} {s2 : Nat → Int32} {p2 pi2 : Nat → Nat} (hO : zTw h o s2 p2 pi2) (hd : zDj b o) (n : Nat) (hn : n < 10) : MM iX3_become [.ref (b + (7 + p n)), .ref (o + (7 + p2 n))] (zt h b s p pi) (zfn (zt h b (kBc s s2 n) p pi)) := by
  refine MM_of (by decide +kernel) (Nat.le_of_ble_eq_true rfl) ?_
  refine tt_aload_n dX3_become_0 rfl ?_
  refine tt_aload_n dX3_become_1 rfl ?_
  refine tt_oS dX3_become_2 fX3_9 rfl hO hd (by omega) (by decide) ?_
  refine tt_sp dX3_become_5 fX3_9 rfl rfl hS hp (by omega) (by decide) ?_
  refine tt_aload_n dX3_become_8 rfl ?_
  refine tt_aload_n dX3_become_9 rfl ?_
  refine tt_oS dX3_become_10 fX3_15 rfl hO hd (by omega) (by decide) ?_
  refine tt_sp dX3_become_13 fX3_15 rfl rfl hS hp (by omega) (by decide) ?_
  refine tt_aload_n dX3_become_16 rfl ?_
  refine tt_aload_n dX3_become_17 rfl ?_
  refine tt_oS dX3_become_18 fX3_18 rfl hO hd (by omega) (by decide) ?_
  refine tt_sp dX3_become_21 fX3_18 rfl rfl hS hp (by omega) (by decide) ?_
  refine tt_aload_n dX3_become_24 rfl ?_
  refine tt_aload_n dX3_become_25 rfl ?_
  refine tt_oS dX3_become_26 fX3_24 rfl hO hd (by omega) (by decide) ?_
  refine tt_sp dX3_become_29 fX3_24 rfl rfl hS hp (by omega) (by decide) ?_
  refine tt_aload_n dX3_become_32 rfl ?_
  refine tt_aload_n dX3_become_33 rfl ?_
  refine tt_oS dX3_become_34 fX3_21 rfl hO hd (by omega) (by decide) ?_
  refine tt_sp dX3_become_37 fX3_21 rfl rfl hS hp (by omega) (by decide) ?_
  refine tt_aload_n dX3_become_40 rfl ?_
  refine tt_aload_n dX3_become_41 rfl ?_
  refine tt_oS dX3_become_42 fX3_36 rfl hO hd (by omega) (by decide) ?_
  refine tt_sp dX3_become_45 fX3_36 rfl rfl hS hp (by omega) (by decide) ?_
  refine tt_aload_n dX3_become_48 rfl ?_
  refine tt_aload_n dX3_become_49 rfl ?_
  refine tt_oS dX3_become_50 fX3_27 rfl hO hd (by omega) (by decide) ?_
  refine tt_sp dX3_become_53 fX3_27 rfl rfl hS hp (by omega) (by decide) ?_
  refine tt_aload_n dX3_become_56 rfl ?_
  refine tt_aload_n dX3_become_57 rfl ?_
  refine tt_oS dX3_become_58 fX3_30 rfl hO hd (by omega) (by decide) ?_
  refine tt_sp dX3_become_61 fX3_30 rfl rfl hS hp (by omega) (by decide) ?_
  refine tt_aload_n dX3_become_64 rfl ?_
  refine tt_aload_n dX3_become_65 rfl ?_
  refine tt_oS dX3_become_66 fX3_39 rfl hO hd (by omega) (by decide) ?_
  refine tt_sp dX3_become_69 fX3_39 rfl rfl hS hp (by omega) (by decide) ?_
  refine tt_aload_n dX3_become_72 rfl ?_
  refine tt_aload_n dX3_become_73 rfl ?_
  refine tt_oS dX3_become_74 fX3_33 rfl hO hd (by omega) (by decide) ?_
  refine tt_sp dX3_become_77 fX3_33 rfl rfl hS hp (by omega) (by decide) ?_
  exact tt_return dX3_become_80 rfl (Nat.zero_le _) (Nat.zero_le _) ⟨rfl, rfl⟩
set_option maxRecDepth 100000 in
set_option maxHeartbeats 4000000 in
theorem c_X4_become {h : zhp} {b : Nat} (hS : zTS h b) (s : Nat → Int32) {p pi : Nat → Nat} (hp : zPm p pi) {o : Nat} {s2 : Nat → Int32} {p2 pi2 : Nat → Nat} (hO : zTw h o s2 p2 pi2) (hd : zDj b o) (n2 : Nat) (hn2 : n2 ≤ 10) (h33 : s2 33 = nI n2) : MM iX4_become [.ref b, .ref o] (zt h b s p pi) (zfn (zt h b (kBm s s2 n2) p pi)) := by
  refine MM_of (by decide +kernel) (Nat.le_of_ble_eq_true rfl) ?_
  refine tt_aload_n dX4_become_0 rfl ?_
  refine tt_oA (c := 1) dX4_become_1 fX4_18 rfl hO hd (by decide) rfl ?_
  refine tt_iconst (nI 0) dX4_become_4 rfl ?_
  refine tt_aload_n dX4_become_5 rfl ?_
  refine tt_tA (c := 1) dX4_become_6 fX4_18 rfl hS (by decide) rfl ?_
  refine tt_iconst (nI 0) dX4_become_9 rfl ?_
  refine tt_bipush (nI 8) dX4_become_10 rfl ?_
  refine tt_cpT (c := 1) dX4_become_12 jX4_42 hS hp hO hd (by decide) (by decide) rfl (Nat.le_of_ble_eq_true rfl) (Nat.le_of_ble_eq_true rfl) ?_
  refine tt_aload_n dX4_become_15 rfl ?_
  refine tt_oA (c := 2) dX4_become_16 fX4_23 rfl hO hd (by decide) rfl ?_
  refine tt_iconst (nI 0) dX4_become_19 rfl ?_
  refine tt_aload_n dX4_become_20 rfl ?_
  refine tt_tA (c := 2) dX4_become_21 fX4_23 rfl hS (by decide) rfl ?_
  refine tt_iconst (nI 0) dX4_become_24 rfl ?_
  refine tt_iconst (nI 5) dX4_become_25 rfl ?_
  refine tt_cpT (c := 2) dX4_become_26 jX4_42 hS hp hO hd (by decide) (by decide) rfl (Nat.le_of_ble_eq_true rfl) (Nat.le_of_ble_eq_true rfl) ?_
  refine tt_aload_n dX4_become_29 rfl ?_
  refine tt_oA (c := 3) dX4_become_30 fX4_26 rfl hO hd (by decide) rfl ?_
  refine tt_iconst (nI 0) dX4_become_33 rfl ?_
  refine tt_aload_n dX4_become_34 rfl ?_
  refine tt_tA (c := 3) dX4_become_35 fX4_26 rfl hS (by decide) rfl ?_
  refine tt_iconst (nI 0) dX4_become_38 rfl ?_
  refine tt_bipush (nI 6) dX4_become_39 rfl ?_
  refine tt_cpT (c := 3) dX4_become_41 jX4_42 hS hp hO hd (by decide) (by decide) rfl (Nat.le_of_ble_eq_true rfl) (Nat.le_of_ble_eq_true rfl) ?_
  refine tt_aload_n dX4_become_44 rfl ?_
  refine tt_oA (c := 4) dX4_become_45 fX4_29 rfl hO hd (by decide) rfl ?_
  refine tt_iconst (nI 0) dX4_become_48 rfl ?_
  refine tt_aload_n dX4_become_49 rfl ?_
  refine tt_tA (c := 4) dX4_become_50 fX4_29 rfl hS (by decide) rfl ?_
  refine tt_iconst (nI 0) dX4_become_53 rfl ?_
  refine tt_bipush (nI 6) dX4_become_54 rfl ?_
  refine tt_cpT (c := 4) dX4_become_56 jX4_42 hS hp hO hd (by decide) (by decide) rfl (Nat.le_of_ble_eq_true rfl) (Nat.le_of_ble_eq_true rfl) ?_
  refine tt_aload_n dX4_become_59 rfl ?_
  refine tt_oA (c := 5) dX4_become_60 fX4_32 rfl hO hd (by decide) rfl ?_
  refine tt_iconst (nI 0) dX4_become_63 rfl ?_
  refine tt_aload_n dX4_become_64 rfl ?_
  refine tt_tA (c := 5) dX4_become_65 fX4_32 rfl hS (by decide) rfl ?_
  refine tt_iconst (nI 0) dX4_become_68 rfl ?_
  refine tt_bipush (nI 6) dX4_become_69 rfl ?_
  refine tt_cpT (c := 5) dX4_become_71 jX4_42 hS hp hO hd (by decide) (by decide) rfl (Nat.le_of_ble_eq_true rfl) (Nat.le_of_ble_eq_true rfl) ?_
  refine tt_iconst (nI 0) dX4_become_74 rfl ?_
  refine tt_istore_n dX4_become_75 rfl (Nat.le_of_ble_eq_true rfl) rfl ?_
  refine tt_loop (fun j x => kBc x s2 j) n2 (fun _ _ => True) (fun k x => [some (.ref b), some (.ref o), some (.int (nI k))]) (fun _ x => zt h b x p pi) (kAr (kAr (kAr (kAr (kAr s s2 1) s2 2) s2 3) s2 4) s2 5) trivial (fun _ _ _ _ => trivial) (fun hx => ?_) (fun k x hk hI ih => ?_)
  · refine tt_iload_n dX4_become_76 rfl ?_
    refine tt_aload_n dX4_become_77 rfl ?_
    refine tt_oI dX4_become_78 fX4_48 rfl hO hd rfl ?_
    refine tt_eq h33 ?_
    refine tt_icmp_geN (tgt := 105) dX4_become_81 (by decide) (by omega) (by omega) (fun c_81 => ?_) (fun c_81 => ?_)
    · refine tt_aload_n dX4_become_105 rfl ?_
      refine tt_aload_n dX4_become_106 rfl ?_
      refine tt_oI dX4_become_107 fX4_48 rfl hO hd rfl ?_
      refine tt_tp dX4_become_110 fX4_48 rfl rfl hS hp rfl ?_
      refine tt_aload_n dX4_become_113 rfl ?_
      refine tt_aload_n dX4_become_114 rfl ?_
      refine tt_oI dX4_become_115 fX4_56 rfl hO hd rfl ?_
      refine tt_tp dX4_become_118 fX4_56 rfl rfl hS hp rfl ?_
      refine tt_aload_n dX4_become_121 rfl ?_
      refine tt_aload_n dX4_become_122 rfl ?_
      refine tt_oI dX4_become_123 fX4_59 rfl hO hd rfl ?_
      refine tt_tp dX4_become_126 fX4_59 rfl rfl hS hp rfl ?_
      refine tt_aload_n dX4_become_129 rfl ?_
      refine tt_aload_n dX4_become_130 rfl ?_
      refine tt_oI dX4_become_131 fX4_62 rfl hO hd rfl ?_
      refine tt_tp dX4_become_134 fX4_62 rfl rfl hS hp rfl ?_
      exact tt_return dX4_become_137 rfl (Nat.zero_le _) (Nat.zero_le _) ⟨rfl, congrArg (fun z => zt h b z p pi) (kBm_eq hn2).symm⟩
    · exact absurd c_81 (by omega)
  · refine tt_iload_n dX4_become_76 rfl ?_
    refine tt_aload_n dX4_become_77 rfl ?_
    refine tt_oI dX4_become_78 fX4_48 rfl hO hd rfl ?_
    refine tt_eq h33 ?_
    refine tt_icmp_geN (tgt := 105) dX4_become_81 (by decide) (by omega) (by omega) (fun c_81 => ?_) (fun c_81 => ?_)
    · exact absurd c_81 (by omega)
    · refine tt_aload_n dX4_become_84 rfl ?_
      refine tt_tA (c := 6) dX4_become_85 fX4_37 rfl hS (by decide) rfl ?_
      refine tt_iload_n dX4_become_88 rfl ?_
      refine tt_tsk dX4_become_89 hS (by omega) ?_
      refine tt_aload_n dX4_become_90 rfl ?_
      refine tt_oA (c := 6) dX4_become_91 fX4_37 rfl hO hd (by decide) rfl ?_
      refine tt_iload_n dX4_become_94 rfl ?_
      refine tt_osk dX4_become_95 hO hd (by omega) ?_
      refine tt_fVv (c_X3_become hS _ hp hO hd _ (by omega)) dX4_become_96 vX4_52 rfl rfl (zTS_sk hS hp (by omega)) (by decide) rfl (by decide) ⟨rfl, rfl⟩ (Nat.zero_le _) (Nat.zero_le _) (Nat.le_of_ble_eq_true rfl) ?_
      refine tt_iincN dX4_become_99 rfl rfl (Nat.le_of_ble_eq_true rfl) rfl ?_
      refine tt_goto (tgt := 76) dX4_become_102 (by decide) ?_
      exact ih

