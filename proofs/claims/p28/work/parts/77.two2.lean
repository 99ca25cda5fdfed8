/-! the frame of a change of o; the law's cell, low, act -/
def zFx (h h1 : zhp) : Prop := zN h1 = zN h ∧ ∀ x, (x < 4 ∨ 181 ≤ x) → zT h1 x = zT h x ∧ zL h1 x = zL h x ∧ ∀ k, zI h1 x k = zI h x k ∧ zR h1 x k = zR h x k
theorem zFx.refl (h : zhp) : zFx h h := ⟨rfl, fun _ _ => ⟨rfl, rfl, fun _ => ⟨rfl, rfl⟩⟩⟩
theorem zFx.trans {a b c : zhp} (h : zFx a b) (h2 : zFx b c) : zFx a c := ⟨h2.1.trans h.1, fun x hx => ⟨((h2.2 x hx).1).trans (h.2 x hx).1, ((h2.2 x hx).2.1).trans (h.2 x hx).2.1, fun k => ⟨(((h2.2 x hx).2.2 k).1).trans ((h.2 x hx).2.2 k).1, (((h2.2 x hx).2.2 k).2).trans ((h.2 x hx).2.2 k).2⟩⟩⟩
theorem zFx_t {h : zhp} {t : Nat} (ht : t < 10) (s : Nat → Int32) (p pi : Nat → Nat) : zFx h (zt h (zbs t) s p pi) := ⟨rfl, fun x hx => ⟨rfl, rfl, fun k => ⟨zt_I (by have := zbs_rg ht; omega), zt_R (by have := zbs_rg ht; omega)⟩⟩⟩
theorem zFx_I {h : zhp} {a k : Nat} (v : Int32) (ha : 4 ≤ a ∧ a < 181) : zFx h (zsI h a k v) := ⟨rfl, fun x hx => ⟨rfl, rfl, fun j => ⟨if_neg (by omega), rfl⟩⟩⟩
theorem zFx_Se {h : zhp} {o c : Nat} {v : Int32} : zFx h (zSe h o c v) := by
  unfold zSe
  split
  · exact zFx.refl h
  · split
    · exact zFx_I _ (by omega)
    · exact zFx_I _ (by omega)
theorem zFx_cQ {h h1 : zhp} {S : Nat → Nat → Int32} {P PI : Nat → Nat → Nat} {n o c : Nat} {e : Int32} {s1 : Nat → Int32} {r : Option Value} (q : zcQ h S P PI n o c e s1 r h1) : zFx h h1 := by
  obtain ⟨hr, p1, pi1, hp, rfl⟩ := q
  exact ((zFx_t (by omega) _ _ _).trans (zFx_t (t := 0) (by omega) _ _ _)).trans zFx_Se
set_option maxRecDepth 100000 in
theorem zdn_fx {h h1 : zhp} (q : zFx h h1) : zdn h1 = zdn h := by
  obtain ⟨hN, hA⟩ := q
  obtain ⟨n1, t1, l1, i1, r1⟩ := h
  obtain ⟨n2, t2, l2, i2, r2⟩ := h1
  have hN : n2 = n1 := hN
  have c : ∀ a, zup a < 4 ∨ 181 ≤ zup a := fun a => by
    rcases Nat.lt_or_ge a 4 with q | q
    · rw [zup_lt q]; omega
    · rw [zup_ge q]; omega
  unfold zdn
  dsimp only
  rw [hN]
  congr 1
  congr 1
  · funext a
    exact (hA _ (c a)).1
  congr 1
  · funext a
    exact (hA _ (c a)).2.1
  congr 1
  · funext a k
    exact ((hA _ (c a)).2.2 k).1
  · funext a k
    exact congrArg (Option.map zdw) ((hA _ (c a)).2.2 k).2
theorem zRf_fx {h h1 : zhp} (hr : zRf h) (q : zFx h h1) : zRf h1 := ⟨by rw [q.1]; exact hr.1, fun a ha k b hb => hr.2 a ha k b (by rw [← ((q.2 a ha).2.2 k).2]; exact hb)⟩
set_option maxRecDepth 100000 in
theorem zLo_mg {h x : zhp} (hr : zRf h) (hf : zFx (zdn h) x) : zLo h (zmg h x) := by
  have hN : zN (zmg h x) = zN h := by
    have e1 : zN (zmg h x) = zN x + 177 := rfl
    have e2 : zN (zdn h) = zN h - 177 := rfl
    have := hr.1
    rw [e1, hf.1, e2]
    omega
  refine ⟨by rw [hN]; exact Nat.le_refl _, fun a ha => ?_⟩
  by_cases q : 4 ≤ a
  · have c : 4 ≤ a ∧ a < 181 := ⟨q, ha⟩
    exact ⟨if_pos c, if_pos c, fun k => ⟨if_pos c, if_pos c⟩⟩
  · have c : ¬ (4 ≤ a ∧ a < 181) := fun z => q z.1
    have a4 : a < 4 := by omega
    obtain ⟨f1, f2, f3⟩ := hf.2 a (Or.inl a4)
    have eu := zup_lt a4
    refine ⟨?_, ?_, fun k => ⟨?_, ?_⟩⟩
    · refine (if_neg c).trans ?_
      rw [zdw_lt a4]
      refine f1.trans ?_
      show zT h (zup a) = _
      rw [eu]
    · refine (if_neg c).trans ?_
      rw [zdw_lt a4]
      refine f2.trans ?_
      show zL h (zup a) = _
      rw [eu]
    · refine (if_neg c).trans ?_
      rw [zdw_lt a4]
      refine (f3 k).1.trans ?_
      show zI h (zup a) k = _
      rw [eu]
    · refine (if_neg c).trans ?_
      rw [zdw_lt a4]
      refine (congrArg (Option.map zup) (f3 k).2).trans ?_
      show ((zR h (zup a) k).map zdw).map zup = _
      rw [eu]
      exact zmap_du (fun b hb => hr.2 a (Or.inl a4) k b hb)
/-- both objects, in one heap -/
abbrev CJ (h : zhp) (S : Nat → Nat → Int32) (P PI : Nat → Nat → Nat) (o c : Nat) : Prop := CI h S P PI o c 0 (fun _ => 0) (fun _ => false)
def TW (h : zhp) (S : Nat → Nat → Int32) (P PI : Nat → Nat → Nat) (o c : Nat) (S2 : Nat → Nat → Int32) (P2 PI2 : Nat → Nat → Nat) (o2 c2 : Nat) : Prop := zRf h ∧ CJ h S P PI o c ∧ CJ (zdn h) S2 P2 PI2 o2 c2
theorem TW.o {h h1 : zhp} {S S1 S2 : Nat → Nat → Int32} {P PI P1 PI1 P2 PI2 : Nat → Nat → Nat} {o c o1 c1 o2 c2 : Nat} (x : TW h S P PI o c S2 P2 PI2 o2 c2) (f : zFx h h1) (y : CJ h1 S1 P1 PI1 o1 c1) : TW h1 S1 P1 PI1 o1 c1 S2 P2 PI2 o2 c2 := ⟨zRf_fx x.1 f, y, by rw [zdn_fx f]; exact x.2.2⟩
theorem TW.p {h x1 : zhp} {S S1 S2 : Nat → Nat → Int32} {P PI P1 PI1 P2 PI2 : Nat → Nat → Nat} {o c o1 c1 o2 c2 : Nat} (x : TW h S P PI o c S2 P2 PI2 o2 c2) (f : zFx (zdn h) x1) (y : CJ x1 S1 P1 PI1 o1 c1) : TW (zmg h x1) S P PI o c S1 P1 PI1 o1 c1 := ⟨zRf_mg (by have := y.1.1.1; omega), x.2.1.lo (zLo_mg x.1 f), by rw [zdn_mg]; exact y⟩
theorem zSc.fx {h h1 : zhp} {N : Nat} {X : Nat → Int32} (x : zSc h N X) (f : zFx h h1) : zSc h1 N X := ⟨(f.2 3 (by omega)).1.trans x.1, (f.2 3 (by omega)).2.1.trans x.2.1, fun k => ((f.2 3 (by omega)).2.2 k).1.trans (x.2.2 k)⟩
theorem tt_ldc {i : zmi} {pc : Nat} {L : List (Option Value)} {st : List Value} {h : zhp} {cc sc : Nat} {Q : Option Value → zhp → Prop} {idx : Nat} {v : Int32} (d : decode (mC i) pc = .ok (.ldc idx, 2)) (hw : Cond.constant (mY i).cls idx v ∈ zW) (k : TT i (pc + 2) L (.int v :: st) h cc sc Q) : TT i pc L st h cc sc Q :=
  k.w fun G p l e R s m args below meth c ls H locs Qf F hl hH kk => lv_ldc F.1 F.2.1 F.2.2.2.1 (F.2.2.2.2.1 _ hw) d kk
def cX (N : Nat) (X : Nat → Int32) (k : Nat) : Int32 := if k < N then X k else nI 7919 * nI (k + 7) * nI (k + 191)
set_option maxRecDepth 100000 in
set_option maxHeartbeats 4000000 in
theorem c_L_cell {h : zhp} {N : Nat} {X : Nat → Int32} (hX : zSc h N X) (hN : N ≤ 260) {k : Nat} (hk : k < 48) : MM iL_cell [.ref 3, .int (nI k)] h (zfi (cX N X k) h) := by
  refine MM_of (by decide +kernel) (Nat.le_of_ble_eq_true rfl) ?_
  refine tt_iload_n dL_cell_0 rfl ?_
  refine tt_aload_n dL_cell_1 rfl ?_
  refine tt_alen dL_cell_2 hX.1 ?_
  refine tt_eq (y := nI N) (by rw [hX.2.1]; rfl) ?_
  refine tt_icmp_geN (tgt := 12) dL_cell_3 (by decide) (by omega) (by omega) (fun c_3 => ?_) (fun c_3 => ?_)
  · refine tt_sipush (nI 7919) dL_cell_12 rfl ?_
    refine tt_iload_n dL_cell_15 rfl ?_
    refine tt_bipush (nI 7) dL_cell_16 rfl ?_
    refine tt_iaddN dL_cell_18 ?_
    refine tt_imul dL_cell_19 ?_
    refine tt_iload_n dL_cell_20 rfl ?_
    refine tt_sipush (nI 191) dL_cell_21 rfl ?_
    refine tt_iaddN dL_cell_24 ?_
    refine tt_imul dL_cell_25 ?_
    exact tt_ireturn dL_cell_26 rfl rfl (Nat.zero_le _) (Nat.zero_le _) ⟨by first | (unfold cX; rw [if_neg (by omega)]) | (unfold cX; rw [if_pos c_3, nI_clamp (by omega), hX.2.2]), rfl⟩
  · refine tt_aload_n dL_cell_6 rfl ?_
    refine tt_iload_n dL_cell_7 rfl ?_
    refine tt_iald dL_cell_8 hX.1 (vp_in_nI (by rw [hX.2.1]; omega) (by rw [hX.2.1]; omega)) ?_
    refine tt_goto (tgt := 26) dL_cell_9 (by decide) ?_
    exact tt_ireturn dL_cell_26 rfl rfl (Nat.zero_le _) (Nat.zero_le _) ⟨by first | (unfold cX; rw [if_neg (by omega)]) | (unfold cX; rw [if_pos c_3, nI_clamp (by omega), hX.2.2]), rfl⟩
set_option maxRecDepth 100000 in
set_option maxHeartbeats 4000000 in
theorem c_L_low (v w : Int32) (hw : ¬ w = 0) (h : zhp) : MM iL_low [.int v, .int w] h (zfi (lo v w) h) := by
  refine MM_of (by decide +kernel) (Nat.le_of_ble_eq_true rfl) ?_
  refine tt_iload_n dL_low_0 rfl ?_
  refine tt_ldc dL_low_1 lL_7 ?_
  refine tt_iand dL_low_3 ?_
  refine tt_iload_n dL_low_4 rfl ?_
  refine tt_irem dL_low_5 hw ?_
  exact tt_ireturn dL_low_6 rfl rfl (Nat.zero_le _) (Nat.zero_le _) ⟨rfl, rfl⟩
