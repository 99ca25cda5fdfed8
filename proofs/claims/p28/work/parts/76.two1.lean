/-! TWO OBJECTS: o's cells are 4 to 180, p's are 181 to 357; seen from p they are cells 4 to 180 -/
def zup (b : Nat) : Nat := if b < 4 then b else b + 177
def zdw (b : Nat) : Nat := if b < 4 then b else b - 177
theorem zup_lt {b : Nat} (h : b < 4) : zup b = b := if_pos h
theorem zup_ge {b : Nat} (h : 4 ≤ b) : zup b = b + 177 := if_neg (by omega)
theorem zdw_lt {b : Nat} (h : b < 4) : zdw b = b := if_pos h
theorem zdw_ge {b : Nat} (h : 4 ≤ b) : zdw b = b - 177 := if_neg (by omega)
theorem zdw_up (b : Nat) : zdw (zup b) = b := by
  rcases Nat.lt_or_ge b 4 with q | q
  · rw [zup_lt q, zdw_lt q]
  · rw [zup_ge q, zdw_ge (by omega)]
    omega
theorem zup_dw {b : Nat} (h : b < 4 ∨ 181 ≤ b) : zup (zdw b) = b := by
  rcases h with q | q
  · rw [zdw_lt q, zup_lt q]
  · rw [zdw_ge (by omega), zup_ge (by omega)]
    omega
def upV (v : Value) : Value := match v with
  | .ref a => .ref (zup a)
  | w => w
/-- the heap as p sees it -/
def zdn (h : zhp) : zhp := (h.1 - 177, fun a => h.2.1 (zup a), fun a => h.2.2.1 (zup a), fun a k => h.2.2.2.1 (zup a) k, fun a k => (h.2.2.2.2 (zup a) k).map zdw)
/-- o's cells of h, all else of x, as p sees it -/
def zmg (h x : zhp) : zhp := (x.1 + 177, fun a => if 4 ≤ a ∧ a < 181 then h.2.1 a else x.2.1 (zdw a), fun a => if 4 ≤ a ∧ a < 181 then h.2.2.1 a else x.2.2.1 (zdw a), fun a k => if 4 ≤ a ∧ a < 181 then h.2.2.2.1 a k else x.2.2.2.1 (zdw a) k, fun a k => if 4 ≤ a ∧ a < 181 then h.2.2.2.2 a k else (x.2.2.2.2 (zdw a) k).map zup)
/-- no cell of p leads to o's -/
def zRf (h : zhp) : Prop := 181 ≤ zN h ∧ ∀ a, (a < 4 ∨ 181 ≤ a) → ∀ k b, zR h a k = some b → b < 4 ∨ 181 ≤ b
theorem zmap_ud (o : Option Nat) : (o.map zup).map zdw = o := by
  cases o with
  | none => rfl
  | some b => exact congrArg some (zdw_up b)
theorem zmap_du {o : Option Nat} (h : ∀ b, o = some b → b < 4 ∨ 181 ≤ b) : (o.map zdw).map zup = o := by
  cases o with
  | none => rfl
  | some b => exact congrArg some (zup_dw (h b rfl))
theorem zup_no (a : Nat) : ¬ (4 ≤ zup a ∧ zup a < 181) := by
  rcases Nat.lt_or_ge a 4 with q | q
  · rw [zup_lt q]; omega
  · rw [zup_ge q]; omega
set_option maxRecDepth 100000 in
theorem zdn_mg (h x : zhp) : zdn (zmg h x) = x := by
  obtain ⟨n1, t1, l1, i1, r1⟩ := x
  unfold zdn zmg
  dsimp only
  congr 1
  congr 1
  · funext a
    rw [if_neg (zup_no a), zdw_up]
  congr 1
  · funext a
    rw [if_neg (zup_no a), zdw_up]
  congr 1
  · funext a k
    rw [if_neg (zup_no a), zdw_up]
  · funext a k
    rw [if_neg (zup_no a), zdw_up, zmap_ud]
set_option maxRecDepth 100000 in
theorem zmg_dn {h : zhp} (hr : zRf h) : zmg h (zdn h) = h := by
  obtain ⟨hN, hR⟩ := hr
  obtain ⟨n1, t1, l1, i1, r1⟩ := h
  have hN : 181 ≤ n1 := hN
  unfold zdn zmg
  dsimp only
  congr 1
  · omega
  congr 1
  · funext a
    by_cases q : 4 ≤ a ∧ a < 181
    · rw [if_pos q]
    · rw [if_neg q, zup_dw (by omega)]
  congr 1
  · funext a
    by_cases q : 4 ≤ a ∧ a < 181
    · rw [if_pos q]
    · rw [if_neg q, zup_dw (by omega)]
  congr 1
  · funext a k
    by_cases q : 4 ≤ a ∧ a < 181
    · rw [if_pos q]
    · rw [if_neg q, zup_dw (by omega)]
  · funext a k
    by_cases q : 4 ≤ a ∧ a < 181
    · rw [if_pos q]
    · rw [if_neg q, zup_dw (by omega)]
      exact zmap_du (fun b hb => hR a (by omega) k b hb)
set_option maxRecDepth 100000 in
theorem zRf_mg {h x : zhp} (hx : 4 ≤ zN x) : zRf (zmg h x) := by
  refine ⟨by show 181 ≤ x.1 + 177; unfold zN at hx; omega, fun a ha k b hb => ?_⟩
  have hb : (if 4 ≤ a ∧ a < 181 then h.2.2.2.2 a k else (x.2.2.2.2 (zdw a) k).map zup) = some b := hb
  rw [if_neg (by omega)] at hb
  cases e : x.2.2.2.2 (zdw a) k with
  | none => rw [e] at hb; cases hb
  | some c =>
    rw [e] at hb
    have hb : some (zup c) = some b := hb
    cases hb
    rcases Nat.lt_or_ge c 4 with q | q
    · rw [zup_lt q]; omega
    · rw [zup_ge q]; omega
def zG2 (G : zcx) : zcx := (G.1, G.2.1, G.2.2.1 + 177, G.2.2.2)
theorem zsh_2 (G : zcx) (a : Nat) : zsh (zG2 G) a = zsh G (zup a) := by
  rcases Nat.lt_or_ge a 4 with q | q
  · rw [zup_lt q, zsh_lt q, zsh_lt q]; rfl
  · rw [zup_ge q, zsh_ge q, zsh_ge (by omega)]
    show zB G + 177 + (a - 4) = _
    omega
theorem zV_2 (G : zcx) (v : Value) : zV (zG2 G) v = zV G (upV v) := by
  cases v <;> first | rfl | exact congrArg Value.ref (zsh_2 G _)
theorem zVm_2 (G : zcx) (av : List Value) : av.map (zV (zG2 G)) = (av.map upV).map (zV G) := by
  rw [List.map_map]
  exact List.map_congr_left (fun v _ => zV_2 G v)
theorem zmp_2 {G : zcx} {o : Option Nat} (h : ∀ b, o = some b → b < 4 ∨ 181 ≤ b) : (o.map zdw).map (zsh (zG2 G)) = o.map (zsh G) := by
  cases o with
  | none => rfl
  | some b =>
    show some (zsh (zG2 G) (zdw b)) = some (zsh G b)
    rw [zsh_2, zup_dw (h b rfl)]
theorem zmp_3 {G : zcx} (o : Option Nat) : (o.map zup).map (zsh G) = o.map (zsh (zG2 G)) := by
  cases o with
  | none => rfl
  | some b =>
    show some (zsh G (zup b)) = some (zsh (zG2 G) b)
    rw [zsh_2]
/-- a cell of p, seen from both sides -/
theorem zat_2 {G : zcx} {h x : zhp} {a a2 : Nat} {H : Heap} (es : zsh (zG2 G) a2 = zsh G a) (eT : zT x a2 = zT h a) (eL : zL x a2 = zL h a) (eI : ∀ k, zI x a2 k = zI h a k) (eR : ∀ k, (zR x a2 k).map (zsh (zG2 G)) = (zR h a k).map (zsh G)) : zat (zG2 G) x a2 H ↔ zat G h a H := by
  have e1 : ∀ ci, zfv (zG2 G) x ci a2 = zfv G h ci a := fun ci => by
    funext k
    unfold zfv
    rw [eI, eR]
  have e2 : zar (zG2 G) x a2 = zar G h a := by
    unfold zar
    rw [eT, eL, show zI x a2 = zI h a from funext eI, show (fun k => (zR x a2 k).map (zsh (zG2 G))) = (fun k => (zR h a k).map (zsh G)) from funext eR]
  unfold zat
  rw [eT, es, e1, e2]
  exact Iff.rfl
set_option maxRecDepth 100000 in
theorem zHR_dn {G : zcx} {U : State} {h : zhp} {H : Heap} (hr : zRf h) (x : zHR G U h H) : zHR (zG2 G) U (zdn h) H := by
  obtain ⟨hN, hR⟩ := hr
  obtain ⟨h1, h2, h3, h4, h5, h6⟩ := x
  have eN : zN (zdn h) = zN h - 177 := rfl
  have eB : zB (zG2 G) = zB G + 177 := rfl
  refine ⟨by rw [eN, eB]; omega, by rw [eN]; omega, fun a ha => ?_, fun a ha => ?_, fun a ha1 ha2 => ?_, fun j hj => ?_⟩
  · rw [eN] at ha
    show zT h (zup a) = 12
    rw [zup_ge (by omega)]
    exact h3 _ (by omega)
  · obtain ⟨q1, q2⟩ := h4 a ha
    have eu := zup_lt ha
    refine ⟨by rw [eB]; exact Nat.lt_of_lt_of_le q1 (by omega), ?_⟩
    show zT h (zup a) = 7 ∧ ∃ cell : Cell, H[zE G a]? = some cell ∧ U.isArrayOf cell .int ∧ cell.vm ≠ .unknown ∧ cell.slots.size = zL h (zup a) ∧ (∀ k, k < zL h (zup a) → cell.slots[k]? = some (.int (zI h (zup a) k))) ∧ (a < 3 → cell.cls = zK G 7)
    rw [eu]
    exact q2
  · rw [eN] at ha2
    obtain ⟨q1, q2⟩ := h5 (a + 177) (by omega) (by omega)
    have eu := zup_ge ha1
    refine ⟨by show zT h (zup a) < 12; rw [eu]; exact q1, ?_⟩
    refine (zat_2 (a := a + 177) (by rw [zsh_2, eu]) (by show zT h (zup a) = _; rw [eu]) (by show zL h (zup a) = _; rw [eu]) (fun k => by show zI h (zup a) k = _; rw [eu]) (fun k => ?_)).mpr q2
    show ((zR h (zup a) k).map zdw).map (zsh (zG2 G)) = _
    rw [eu]
    exact zmp_2 (fun b hb => hR (a + 177) (by omega) k b hb)
  · exact (h6 j hj).narrow (fun q hq => by
      have hq : zB G + 177 ≤ q := hq
      show zB G ≤ q
      omega)
set_option maxRecDepth 100000 in
theorem zHR_mg {G : zcx} {U t : State} {h x : zhp} {H0 H : Heap} (hr : zRf h) (y0 : zHR G U h H0) (y : zHR (zG2 G) t x H) (hvm : U.vm.Alike t.vm) (hf : ∀ a : Nat, a < H0.size → a < zB G + 177 → H[a]? = H0[a]?) : zHR G t (zmg h x) H := by
  obtain ⟨g1, g2, g3, g4, g5, g6⟩ := y0
  obtain ⟨h1, h2, h3, h4, h5, h6⟩ := y
  have hN := hr.1
  have eN : zN (zmg h x) = zN x + 177 := rfl
  have eB : zB (zG2 G) = zB G + 177 := rfl
  rw [eB] at h1
  have tT : ∀ a, ¬ (4 ≤ a ∧ a < 181) → zT (zmg h x) a = zT x (zdw a) := fun a ha => if_neg ha
  have tL : ∀ a, ¬ (4 ≤ a ∧ a < 181) → zL (zmg h x) a = zL x (zdw a) := fun a ha => if_neg ha
  have tI : ∀ a k, ¬ (4 ≤ a ∧ a < 181) → zI (zmg h x) a k = zI x (zdw a) k := fun a k ha => if_neg ha
  have tR : ∀ a k, ¬ (4 ≤ a ∧ a < 181) → zR (zmg h x) a k = (zR x (zdw a) k).map zup := fun a k ha => if_neg ha
  refine ⟨by rw [eN]; omega, by rw [eN]; omega, fun a ha => ?_, fun a ha => ?_, fun a ha1 ha2 => ?_, fun j hj => ?_⟩
  · rw [eN] at ha
    rw [tT a (by omega), zdw_ge (by omega)]
    exact h3 _ (by omega)
  · obtain ⟨q1, q2, cell, q3, q4, q5, q6, q7, q8⟩ := h4 a ha
    refine ⟨(g4 a ha).1, by rw [tT a (by omega), zdw_lt ha]; exact q2, cell, q3, q4, q5, by rw [tL a (by omega), zdw_lt ha]; exact q6, fun k hk => ?_, q8⟩
    rw [tL a (by omega), zdw_lt ha] at hk
    rw [tI a k (by omega), zdw_lt ha]
    exact q7 k hk
  · rw [eN] at ha2
    rcases Nat.lt_or_ge a 181 with q | q
    · obtain ⟨q1, q2⟩ := g5 a ha1 (by omega)
      have c : 4 ≤ a ∧ a < 181 := ⟨ha1, q⟩
      refine ⟨by rw [show zT (zmg h x) a = zT h a from if_pos c]; exact q1, q2.kept (if_pos c) (if_pos c) (fun k => if_pos c) (fun k => if_pos c) (hf _ ?_ ?_)⟩
      · rw [zsh_ge ha1]; omega
      · rw [zsh_ge ha1]; omega
    · obtain ⟨q1, q2⟩ := h5 (a - 177) (by omega) (by omega)
      have ed := zdw_ge (show 4 ≤ a by omega)
      refine ⟨by rw [tT a (by omega), ed]; exact q1, (zat_2 (a2 := a - 177) ?_ (by rw [tT a (by omega), ed]) (by rw [tL a (by omega), ed]) (fun k => by rw [tI a k (by omega), ed]) (fun k => ?_)).mp q2⟩
      · rw [zsh_2, zup_ge (by omega), show a - 177 + 177 = a by omega]
      · rw [tR a k (by omega), ed, zmp_3]
  · exact ((g6 j hj).moved hvm).kept (fun a ha hna => hf a ha (by
      have hna : ¬ zB G ≤ a := hna
      omega))
/-- cells that no place of L lies in stand -/
theorem zsbn {s s' : State} {L : List Loc} {cells slots : Nat} (h : s.sameButNew s' L cells slots) {a : Addr} (ha : a < s.heap.size) (hL : ∀ q ∈ L, q.base ≠ a) : s'.heap[a]? = s.heap[a]? := by
  obtain ⟨c, hc⟩ : ∃ c, s.heap[a]? = some c := ⟨_, Array.getElem?_eq_getElem ha⟩
  obtain ⟨c', h1, h2, -, h4⟩ := h.2.2.2.2.2 a c hc
  have hsl : c'.slots = c.slots := Array.ext_getElem? fun i => h4 i (fun z => hL _ z rfl)
  have hcc : c' = c := by rw [h2, hsl]
  rw [h1, hc, hcc]
set_option maxRecDepth 100000 in
theorem MM_up {j : zmi} {av : List Value} {h : zhp} {Q : Option Value → zhp → Prop} (hr : zRf h) (hM : MM j av (zdn h) Q) : MM j (av.map upV) h (fun r h1 => ∃ r0 x, Q r0 x ∧ r = r0.map upV ∧ h1 = zmg h x) := fun G l => MetFree.mono (hM (zG2 G) l) (fun a s x => by
  obtain ⟨e, q1, q2, q3⟩ := x
  exact ⟨by rw [e, zVm_2], zHR_dn hr q1, q2, q3⟩) (fun _ _ _ _ _ x => x) (fun a s o t p x => by
  obtain ⟨⟨r, h1, e, q, z⟩, L, ⟨f1, f2, f3⟩, hL⟩ := x
  obtain ⟨-, p1, p2, p3⟩ := p
  refine ⟨⟨r.map upV, zmg h h1, ?_, ⟨r, h1, q, rfl, rfl⟩, ?_⟩, L, ⟨f1, f2, f3⟩, fun q hq => ?_⟩
  · rw [e]
    congr 1
    cases r with
    | none => rfl
    | some v => exact congrArg some (zV_2 G v)
  · refine zHR_mg hr p1 z f2.alike (fun b hb1 hb2 => zsbn f3 hb1 (fun q hq => ?_))
    have := hL q hq
    have k1 : zB G + 177 ≤ q.base := this
    intro hz
    rw [hz] at k1
    exact absurd hb2 (Nat.not_lt.mpr k1)
  · have := hL q hq
    have : zB G + 177 ≤ q.base := this
    show zB G ≤ q.base
    omega)
set_option maxRecDepth 100000 in
theorem MM_upf {j : zmi} {av : List Value} {h : zhp} {e : Int32} (hr : zRf h) (hav : av.map upV = av) (hM : MM j (.ref 4 :: av) (zdn h) (zfi e (zdn h))) : MM j (.ref 181 :: av) h (zfi e h) := by
  have k := MM_up hr hM
  have e1 : (Value.ref 4 :: av).map upV = .ref 181 :: av := by
    rw [List.map_cons, hav]
    rfl
  rw [e1] at k
  refine MM_post k (fun r h1 q => ?_)
  obtain ⟨r0, x, ⟨q1, q2⟩, q3, q4⟩ := q
  rw [q1] at q3
  rw [q2, zmg_dn hr] at q4
  exact ⟨q3, q4⟩
