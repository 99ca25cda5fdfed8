/-! ROWS OF THE JUDGEMENT: stores into arrays, what is made, calls -/
theorem zcat (G : zcx) (st : List Value) : ((st.map (zV G)).map fun v => v.category).sum = (st.map fun v => v.category).sum := by
  rw [List.map_map]
  congr 1
  exact List.map_congr_left (fun v _ => zV_cat G v)
theorem zlo {G : zcx} {locs : List Loc} {a k : Nat} (ha : 4 ≤ a) (hlo : ∀ q ∈ locs, zB G ≤ q.base) : ∀ q ∈ locs ++ [⟨zsh G a, k⟩], zB G ≤ q.base := by
  intro q hq
  rcases List.mem_append.mp hq with z | z
  · exact hlo q z
  · rw [List.mem_singleton.mp z]
    show zB G ≤ zsh G a
    rw [zsh_ge ha]; omega
theorem zat_st {G : zcx} {h : zhp} {a t k : Nat} {v : Int32} {H1 : Heap} (ht : zT h a = t) (h7 : 7 ≤ t) (h10 : t < 10) (e : H1[zsh G a]? = some ((vp_cell (zK G t) (zL h a, .inl (zI h a))).setSlot k (.int v))) : zat G (zsI h a k v) a H1 := by
  have ht' : zT (zsI h a k v) a = t := ht
  unfold zat
  rw [ht', if_neg (by omega), e, zar_i ht' h10, vp_cell_i, vp_cell_i, arrV_store]
  show some (arrV _ (zL h a) _) = some (arrV _ (zL h a) _)
  congr 2
  funext q
  by_cases hq : q = k
  · subst hq
    simp [updV, zI, zsI]
  · simp [updV, zI, zsI, hq]
section
variable {i : zmi} {pc : Nat} {L : List (Option Value)} {st : List Value} {h : zhp} {cc sc : Nat} {Q : Option Value → zhp → Prop}
theorem tt_iast {a : Nat} {j v : Int32} (d : decode (mC i) pc = .ok (.iastore, 1)) (ht : zT h a = 7) (ha : 4 ≤ a) (hin : vp_in j (zL h a)) (kt : TT i (pc + 1) L st (zsI h a j.toNatClampNeg v) cc sc Q) : TT i pc L (.int v :: .int j :: .ref a :: st) h cc sc Q := by
  intro G p l e R s m args below meth c ls H locs Qf F hl hH hlo K
  obtain ⟨hn, hc⟩ := hH.arr ht (by omega) (by omega) ha
  rw [zar_i ht (by omega)] at hc
  exact W.iast F.1 F.2.1 hc ((F.2.2.2.2.2.2.1.2 7 (by omega) (by omega)).1 (zL h a) (fun j => .int (zI h a j))) (fun q => by cases q) (by show ¬ (j < 0 ∨ (arrV _ _ _).slots.size ≤ _); rw [arrV_size]; exact hin) rfl rfl d fun H1 e1 z1 o1 =>
    kt G p l e R s m args below meth c ls H1 _ Qf F hl (hH.upd (h' := zsI h a j.toNatClampNeg v) ha hn rfl (fun _ => rfl) (fun _ => rfl) (fun q k hq => if_neg (fun z => hq z.1)) (fun _ _ _ => rfl) z1 o1 (zat_st ht (by omega) (by omega) e1)) (zlo ha hlo) K
theorem tt_zast {a : Nat} {j v : Int32} (d : decode (mC i) pc = .ok (.bastore, 1)) (ht : zT h a = 8) (ha : 4 ≤ a) (hin : vp_in j (zL h a)) (hv : narrow .boolean (.int v) = .int v) (kt : TT i (pc + 1) L st (zsI h a j.toNatClampNeg v) cc sc Q) : TT i pc L (.int v :: .int j :: .ref a :: st) h cc sc Q := by
  intro G p l e R s m args below meth c ls H locs Qf F hl hH hlo K
  obtain ⟨hn, hc⟩ := hH.arr ht (by omega) (by omega) ha
  rw [zar_i ht (by omega)] at hc
  exact W.zast F.1 F.2.1 hc ((F.2.2.2.2.2.2.1.2 8 (by omega) (by omega)).1 (zL h a) (fun j => .int (zI h a j))) (fun q => by cases q) (by show ¬ (j < 0 ∨ (arrV _ _ _).slots.size ≤ _); rw [arrV_size]; exact hin) rfl rfl d fun H1 e1 z1 o1 =>
    kt G p l e R s m args below meth c ls H1 _ Qf F hl (hH.upd (h' := zsI h a j.toNatClampNeg v) ha hn rfl (fun _ => rfl) (fun _ => rfl) (fun q k hq => if_neg (fun z => hq z.1)) (fun _ _ _ => rfl) z1 o1 (zat_st ht (by omega) (by omega) (by rw [hv] at e1; exact e1))) (zlo ha hlo) K
theorem tt_cast {a : Nat} {j v : Int32} (d : decode (mC i) pc = .ok (.castore, 1)) (ht : zT h a = 9) (ha : 4 ≤ a) (hin : vp_in j (zL h a)) (hv : narrow .char (.int v) = .int v) (kt : TT i (pc + 1) L st (zsI h a j.toNatClampNeg v) cc sc Q) : TT i pc L (.int v :: .int j :: .ref a :: st) h cc sc Q := by
  intro G p l e R s m args below meth c ls H locs Qf F hl hH hlo K
  obtain ⟨hn, hc⟩ := hH.arr ht (by omega) (by omega) ha
  rw [zar_i ht (by omega)] at hc
  exact W.cast F.1 F.2.1 hc ((F.2.2.2.2.2.2.1.2 9 (by omega) (by omega)).1 (zL h a) (fun j => .int (zI h a j))) (fun q => by cases q) (by show ¬ (j < 0 ∨ (arrV _ _ _).slots.size ≤ _); rw [arrV_size]; exact hin) rfl rfl d fun H1 e1 z1 o1 =>
    kt G p l e R s m args below meth c ls H1 _ Qf F hl (hH.upd (h' := zsI h a j.toNatClampNeg v) ha hn rfl (fun _ => rfl) (fun _ => rfl) (fun q k hq => if_neg (fun z => hq z.1)) (fun _ _ _ => rfl) z1 o1 (zat_st ht (by omega) (by omega) (by rw [hv] at e1; exact e1))) (zlo ha hlo) K
theorem tt_aast {a b t : Nat} {j : Int32} (d : decode (mC i) pc = .ok (.aastore, 1)) (ht : zT h a = t) (htb : (t = 10 ∧ zT h b = 4) ∨ (t = 11 ∧ zT h b = 3)) (ha : 4 ≤ a) (hin : vp_in j (zL h a)) (kt : TT i (pc + 1) L st (zsR h a j.toNatClampNeg (some b)) cc sc Q) : TT i pc L (.ref b :: .int j :: .ref a :: st) h cc sc Q := by
  intro G p l e R s m args below meth c ls H locs Qf F hl hH hlo K
  have hlt : j.toNatClampNeg < zL h a := Nat.not_le.mp fun q => hin (Or.inr q)
  have h0 : ¬ j < 0 := fun q => hin (Or.inl q)
  obtain ⟨hn, hc⟩ := hH.arr ht (by omega) (by omega) ha
  rw [zar_r ht (by omega)] at hc
  have hK := F.2.2.2.2.2.2.1
  have ht' : zT (zsR h a j.toNatClampNeg (some b)) a = t := ht
  have fin : ∀ (H1 : Heap), H1[zsh G a]? = some ((vp_cell (zK G t) (zL h a, .inr (.inr (.inr (.inr (fun k => (zR h a k).map (zsh G))))))).setSlot j.toNatClampNeg (.ref (zsh G b))) → zat G (zsR h a j.toNatClampNeg (some b)) a H1 := by
    intro H1 e1
    unfold zat
    rw [ht', if_neg (by omega), e1, zar_r ht' (by omega), vp_cell_q, vp_cell_q, arrV_store]
    show some (arrV _ (zL h a) _) = some (arrV _ (zL h a) _)
    congr 2
    funext q
    by_cases hq : q = j.toNatClampNeg
    · subst hq
      simp [updV, zR, zsR, va_rf]
    · simp [updV, zR, zsR, hq]
  have main : ∀ (tb : Nat) (C : String), zT h b = tb → tb < 7 → (zC tb).1 = C → zaT t = .object C → W p l e R s m args below meth c H locs cc sc Qf (F0 m pc ls ((.ref b :: .int j :: .ref a :: st).map (zV G))) := by
    intro tb C htb h7 hC hT
    obtain ⟨-, -, cellV, g1, g2, g3, -⟩ := hH.obj htb h7
    have hcls := (hK.1 tb h7).2
    rw [hC] at hcls
    have hRA := (hK.2 t (by omega) (by omega)).2
    rw [hT] at hRA
    obtain ⟨kA, comp, k1, k2, k3, -⟩ := hRA
    have hcomp : comp = (zD G).1 tb := Option.some.inj (k3.symm.trans hcls.1)
    subst hcomp
    obtain ⟨kC, hkC, -⟩ := hcls.2
    exact W.aast F.1 F.2.1 hc (fun q h => by cases h) (fun h => by cases h) k1 k2 rfl hkC ⟨h0, by show _ < (arrV _ _ _).slots.size; rw [arrV_size]; exact hlt⟩ g1 (fun q h => by rw [g3] at h; cases h) (by rw [g2]; exact hkC) (by rw [g2]; exact va_assign hcls) rfl rfl d fun H1 e1 z1 o1 =>
      kt G p l e R s m args below meth c ls H1 _ Qf F hl (hH.upd (h' := zsR h a j.toNatClampNeg (some b)) ha hn rfl (fun _ => rfl) (fun _ => rfl) (fun _ _ _ => rfl) (fun q k hq => if_neg (fun z => hq z.1)) z1 o1 (fin H1 e1)) (zlo ha hlo) K
  rcases htb with ⟨z1, z2⟩ | ⟨z1, z2⟩ <;> subst z1
  · exact main 4 RX4 z2 (by omega) rfl rfl
  · exact main 3 RX3 z2 (by omega) rfl rfl
theorem tt_alen {a : Nat} (d : decode (mC i) pc = .ok (.arraylength, 1)) (ht : zT h a = 7) (kt : TT i (pc + 1) L (.int (Int32.ofNat (zL h a)) :: st) h cc sc Q) : TT i pc L (.ref a :: st) h cc sc Q :=
  kt.w fun G p l e R s m args below meth c ls H locs Qf F hl hH kk => by
    rcases Nat.lt_or_ge a 4 with ha | ha
    · obtain ⟨h1, h2, cell, h3, h4, h5, h6, h7, -⟩ := hH.2.2.2.1 a ha
      exact W.alen (n := Int32.ofNat (zL h a)) F.1 F.2.1 (by rw [zsh_lt ha]; exact h3) h4 (by rw [h6] <;> rfl) rfl rfl d kk
    · have hc := (hH.arr ht (by omega) (by omega) ha).2
      rw [zar_i ht (by omega)] at hc
      exact W.alen (n := Int32.ofNat (zL h a)) F.1 F.2.1 hc ((F.2.2.2.2.2.2.1.2 7 (by omega) (by omega)).1 (zL h a) (fun j => .int (zI h a j))) (by rw [vp_cell_i, arrV_size] <;> rfl) rfl rfl d kk
/-! what is made -/
theorem znw_T (h : zhp) (t n : Nat) (f : Nat → Int32) : zT (znw h t n f) (zN h) = t := if_pos rfl
theorem znw_L (h : zhp) (t n : Nat) (f : Nat → Int32) : zL (znw h t n f) (zN h) = n := if_pos rfl
theorem znw_I (h : zhp) (t n : Nat) (f : Nat → Int32) (k : Nat) : zI (znw h t n f) (zN h) k = f k := if_pos rfl
theorem znw_R (h : zhp) (t n : Nat) (f : Nat → Int32) (k : Nat) : zR (znw h t n f) (zN h) k = none := if_pos rfl
theorem zHR.sz {G : zcx} {U : State} {h : zhp} {H : Heap} (x : zHR G U h H) : zsh G (zN h) = H.size := by
  have := x.1
  have := x.2.1
  rw [zsh_ge (by omega)]
  omega
/-- what the class of a new object needs: its default fields are zeros and nulls -/
def zdef (ci : Nat) : Bool := (List.range (zC ci).2.2).all (fun k => defaultValue (zty ci k) == (if zisR (zty ci k) = true then .null else .int 0))
theorem tt_new {ci idx : Nat} (d : decode (mC i) pc = .ok (.new idx, 3)) (hc : ci < 7) (hd : zdef ci = true) (hl1 : Cond.classLink (mY i).cls idx (zC ci).1 ∈ zW) (hl2 : Cond.instantiable (zC ci).1 (zC ci).2.2 ∈ zW) (hl3 : Cond.initialized (zC ci).1 ∈ zW) (hcc : cc + 1 ≤ mA i) (hsc : sc + (zC ci).2.2 ≤ mS i)
    (kt : TT i (pc + 3) L (.ref (zN h) :: st) (znw h ci 0 (fun _ => 0)) (cc + 1) (sc + (zC ci).2.2) Q) : TT i pc L st h cc sc Q := by
  intro G p l e R s m args below meth c ls H locs Qf F hl hH hlo K
  obtain ⟨hx, hb, hml, hown, hts, hNF, hK, hnm, hfr, hlc, hcl, hsl⟩ := id F
  have hKn := hK.1 ci hc
  have hz := hH.sz
  refine W.newcK hx hb hown (hts _ hl1) (hts _ hl2) (hts _ hl3) rfl d (by omega) (by omega) hKn.2.1 hz.symm fun H1 kC hkC e1 z1 o1 => ?_
  refine kt G p l e R s m args below meth c ls H1 locs Qf F hl (hH.push (by omega) (by rw [z1, hz]) (fun q hq => o1 q (by rw [hz]; exact hq)) ?_) hlo K
  unfold zat
  rw [znw_T, if_pos hc]
  refine (u_born (zty ci) hts (zu ci hc) hKn hkC e1 (ztk ci hc)).to (fun k hk => ?_)
  have h1 := List.all_eq_true.mp hd k (List.mem_range.mpr hk)
  have h2 : defaultValue (zty ci k) = (if zisR (zty ci k) = true then .null else .int 0) := by simpa using h1
  rw [h2]
  unfold zfv
  rw [znw_R, znw_I]
  by_cases hr : zisR (zty ci k) = true
  · rw [if_pos hr, if_pos hr]; rfl
  · rw [if_neg hr, if_neg hr]
theorem tt_newa {t : Nat} {at0 : ArrayType} {n : Nat} (d : decode (mC i) pc = .ok (.newarray at0, 2)) (h7 : 7 ≤ t) (h10 : t < 10) (hty : newarray.typeOf at0 = zaT t) (hdv : defaultValue (zaT t) = .int 0) (hnm : ∀ (G : zcx) (U : State), zKK G U → U.vm.findClass ("[" ++ (zaT t).toString) = some (zK G t)) (hl1 : Cond.arrayClass (zaT t) ∈ zW) (hn : n < 2 ^ 31) (hby : n * componentBytes (zaT t) ≤ 536870912) (hcc : cc + 1 ≤ mA i) (hsc : sc + n ≤ mS i)
    (kt : TT i (pc + 2) L (.ref (zN h) :: st) (znw h t n (fun _ => 0)) (cc + 1) (sc + n) Q) : TT i pc L (.int (nI n) :: st) h cc sc Q := by
  intro G p l e R s m args below meth c ls H locs Qf F hl hH hlo K
  obtain ⟨hx, hb, hml, hown, hts, hNF, hK, hnm2, hfr, hlc, hcl, hsl⟩ := id F
  have hz := hH.sz
  refine va_newaK (N := n) hx hb (by rw [hty]; exact hts _ hl1) rfl d rfl (nI_pos hn) (nI_clamp hn) (by rw [hty]; exact hby) (by omega) (by omega) hz.symm fun H1 cA e1 z1 o1 hAr hNm => ?_
  rw [hty] at hNm e1
  have hcA : cA = zK G t := Option.some.inj (hNm.symm.trans (hnm G s hK))
  subst hcA
  refine kt G p l e R s m args below meth c ls H1 locs Qf F hl (hH.push (by omega) (by rw [z1, hz]) (fun q hq => o1 q (by rw [hz]; exact hq)) ?_) hlo K
  unfold zat
  rw [znw_T, if_neg (by omega), zar_i (znw_T h t n _) h10, e1, vp_cell_i, hdv, znw_L]
  congr 2
  funext k
  rw [znw_I]
theorem tt_anew {t idx : Nat} {C : String} {n : Nat} (d : decode (mC i) pc = .ok (.anewarray idx, 3)) (ht : (t = 10 ∧ C = RX4) ∨ (t = 11 ∧ C = RX3)) (hl1 : Cond.classLink (mY i).cls idx C ∈ zW) (hn : n < 2 ^ 27) (hcc : cc + 1 ≤ mA i) (hsc : sc + n ≤ mS i)
    (kt : TT i (pc + 3) L (.ref (zN h) :: st) (znw h t n (fun _ => 0)) (cc + 1) (sc + n) Q) : TT i pc L (.int (nI n) :: st) h cc sc Q := by
  intro G p l e R s m args below meth c ls H locs Qf F hl hH hlo K
  obtain ⟨hx, hb, hml, hown, hts, hNF, hK, hnm2, hfr, hlc, hcl, hsl⟩ := id F
  have hz := hH.sz
  have hover : va_AO C s := by
    rcases ht with ⟨-, z⟩ | ⟨-, z⟩ <;> subst z
    · exact hNF.2.2.2.2.2.2.2.2.2.2.1
    · exact hNF.2.2.2.2.2.2.2.2.2.2.2
  have hT : zaT t = .object C := by
    rcases ht with ⟨z1, z⟩ | ⟨z1, z⟩ <;> subst z <;> subst z1 <;> rfl
  have hRA := (hK.2 t (by omega) (by omega)).2
  rw [hT] at hRA
  obtain ⟨kA0, comp0, k1, k2, k3, k4⟩ := hRA
  refine W.anew hx hb hown (hts _ hl1) (va_AO.use hover) rfl d rfl (nI_pos (by omega)) (by rw [nI_clamp (by omega)]; omega) (by omega) (by rw [nI_clamp (by omega)]; omega) fun cA kA comp f1 f2 f3 f4 => ?_
  have hcA : cA = zK G t := Option.some.inj (f1.symm.trans k4)
  subst hcA
  rw [nI_clamp (by omega)]
  have z1 : (H.push ({ cls := zK G t, slots := Array.replicate n .null, vm := .none } : Cell)).size = H.size + 1 := Array.size_push ..
  have e1 : (H.push ({ cls := zK G t, slots := Array.replicate n .null, vm := .none } : Cell))[H.size]? = some (arrV (zK G t) n (fun _ => .null)) := by rw [Array.getElem?_push_size, ← arrV_new]
  have o1 : ∀ q : Nat, q < H.size → (H.push ({ cls := zK G t, slots := Array.replicate n .null, vm := .none } : Cell))[q]? = H[q]? := fun q hq => by rw [Array.getElem?_push, if_neg (Nat.ne_of_lt hq)]
  rw [← hz]
  refine kt G p l e R s m args below meth c ls _ locs Qf F hl (hH.push (by omega) z1 o1 ?_) hlo K
  unfold zat
  rw [znw_T, if_neg (by omega), zar_r (znw_T h t n _) (by omega), hz, e1, vp_cell_q, znw_L]
  congr 2
  funext k
  rw [znw_R]
  rfl
end
