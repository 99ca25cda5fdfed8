/-! ROWS OF THE JUDGEMENT: calls, the JDK's own members, statics -/
/-- a virtual (static, special) call's words, in the pool of own under idx -/
def zMB (own : String) (idx : Nat) (j : zmi) (n : Nat) : Prop := Cond.methodLink own idx (mY j) ∈ zW ∧ Cond.initialized (mY j).cls ∈ zW ∧ Cond.code (mY j) (mC j) (mL j) (mR j) ∈ zW ∧ ((mY j).cls ≠ "java/lang/invoke/MethodHandle" ∧ (mY j).cls ≠ "java/lang/invoke/VarHandle" ∧ (parseMethodDescriptor (mY j).desc).map (fun d => d.parameters.length) = some n)
def zMV (own : String) (idx : Nat) (j : zmi) (n : Nat) : Prop := zMB own idx j n ∧ Cond.instanceMethod (mY j) ∈ zW ∧ Cond.selects (mY j).cls (mY j) (mY j) ∈ zW
def zMS (own : String) (idx : Nat) (j : zmi) (n : Nat) : Prop := zMB own idx j n ∧ Cond.static (mY j) ∈ zW
def zMI (own : String) (idx : Nat) (j : zmi) (n : Nat) : Prop := zMB own idx j n ∧ Cond.instanceMethod (mY j) ∈ zW ∧ (mY j).name = "<init>" ∧ mR j = none
/-- a nest mate's: the link is a word of the state -/
def zMNB (own : String) (idx : Nat) (j : zmi) (n : Nat) : Prop := (∀ U : State, zNF U → va_Nw (.methodLinkNest own idx (mY j) RX5) U) ∧ Cond.initialized (mY j).cls ∈ zW ∧ Cond.code (mY j) (mC j) (mL j) (mR j) ∈ zW ∧ ((mY j).cls ≠ "java/lang/invoke/MethodHandle" ∧ (mY j).cls ≠ "java/lang/invoke/VarHandle" ∧ (parseMethodDescriptor (mY j).desc).map (fun d => d.parameters.length) = some n)
def zMNS (own : String) (idx : Nat) (j : zmi) (n : Nat) : Prop := zMNB own idx j n ∧ Cond.static (mY j) ∈ zW
def zMNI (own : String) (idx : Nat) (j : zmi) (n : Nat) : Prop := zMNB own idx j n ∧ Cond.instanceMethod (mY j) ∈ zW ∧ (mY j).name = "<init>" ∧ mR j = none
theorem zWs_good {j : zmi} (hc : Cond.code (mY j) (mC j) (mL j) (mR j) ∈ zW) : GoodIn zW (zWs j) := zW_good (fun w hw => by
  rcases List.mem_cons.mp hw with z | z
  · rw [z]; exact hc
  · exact z)
section
variable {i j : zmi} {pc : Nat} {L : List (Option Value)} {st stk : List Value} {h : zhp} {cc sc : Nat} {Q Qj : Option Value → zhp → Prop} {av : List Value}
theorem zcall {G : zcx} {p : Program} {l : Launch} {e : Env} {R : Room} {s : State} {m : MethodId} {args : Array Value} {below : List Frame} {meth : Method} {c : Code} {H : Heap} {ls : Array Slot} {locs : List Loc} {Qf : State → Prop} {st0 : List Value} (F : zFr G i p R s m args meth c) (hl : zLR G (mL i) ls L) (hlo : ∀ q ∈ locs, zB G ≤ q.base)
    (hrun : va_Run p l e R s m args below meth c H locs cc sc (mA j) (mS j) (F0 m pc ls st0) (st.map (zV G)) (fun (_ : State) (o : Outcome) (t : State) => ∃ (r : Option Value) (h' : zhp), o = .returned (r.map (zV G)) ∧ Qj r h' ∧ zHR G t h' t.heap) (fun q => zB G ≤ q))
    (k : ∀ r h', Qj r h' → TT i (pc + 3) L (r.toList ++ st) h' (cc + mA j) (sc + mS j) Q)
    (K : ∀ (r : Option Value) (h' : zhp) (pc' : Nat) (ls' : Array Slot) (H' : Heap) (locs' : List Loc), Q r h' → zRD i pc' r → zHR G s h' H' → (∀ q ∈ locs', zB G ≤ q.base) → W p l e R s m args below meth c H' locs' (mA i) (mS i) Qf (F0 m pc' ls' ((r.map (zV G)).toList))) : W p l e R s m args below meth c H locs cc sc Qf (F0 m pc ls st0) := by
  intro T hT X
  obtain ⟨v, st₀, t, T', Lc, h0, X', hL, e1, e2, ⟨r, h', hr, hq, hHt⟩, stp⟩ := hrun T hT X
  have hv : v = r.map (zV G) := Outcome.returned.inj hr
  have hW : s.vm.Alike T'.vm := X'.warmed.alike
  have hH' : zHR G s h' T'.heap := by
    rw [e1]
    refine hHt.moved ?_
    rw [← e2]
    exact hW.symm
  obtain ⟨t2, a1, b1⟩ := k r h' hq G p l e R s m args below meth c ls T'.heap (locs ++ Lc) Qf F hl hH' (fun q hq => by
    rcases List.mem_append.mp hq with z | z
    · exact hlo q z
    · exact hL q z) K T' rfl X'
  refine ⟨t2, stp t2 ?_, b1⟩
  have e3 : (r.toList ++ st).map (zV G) = v.toList ++ st.map (zV G) := by
    rw [hv]
    cases r <;> rfl
  rw [e3] at a1
  exact a1
theorem zblind {G : zcx} {h : zhp} {a : List Value} : FrameBlind (va_Pc a (fun U => zHR G U h U.heap ∧ zKK G U ∧ zNF U)) := fun _ U _ _ q => ⟨q.1, q.2.1.moved (Vm.Alike.refl U.vm), q.2.2.1.moved (Vm.Alike.refl U.vm), q.2.2.2.same rfl⟩
theorem zpre {G : zcx} {h : zhp} {a : List Value} {s : State} {H : Heap} (hH : zHR G s h H) (hK : zKK G s) (hN : zNF s) : ∀ U : State, U.heap = H → s.WarmedH U.vm → va_Pc a (fun U => zHR G U h U.heap ∧ zKK G U ∧ zNF U) a.toArray U := fun U hU hW => ⟨rfl, by rw [hU]; exact hH.moved hW.alike, hK.moved hW.alike, hN.warm hW⟩
theorem tt_callV {b ci idx n : Nat} (hM : MM j (.ref b :: av) h Qj) (d : decode (mC i) pc = .ok (.invokevirtual idx, 3)) (hw : zMV (mY i).cls idx j n) (hst : stk = av.reverse ++ .ref b :: st) (hn : av.length = n) (ht : zT h b = ci) (hc7 : ci < 7) (hcl : (zC ci).1 = (mY j).cls) (hh : mH j < mH i ∧ mL j + 19 + 36 * mH j ≤ 36 * mH i) (hc : cc + mA j ≤ mA i) (hs : sc + mS j ≤ mS i) (h8 : (st.map fun v => v.category).sum ≤ 8)
    (k : ∀ r h', Qj r h' → TT i (pc + 3) L (r.toList ++ st) h' (cc + mA j) (sc + mS j) Q) : TT i pc L stk h cc sc Q := by
  subst hst
  intro G p l e R s m args below meth c ls H locs Qf F hl hH hlo K
  obtain ⟨hx, hb, hml, hown, hts, hNF, hK, hnm2, hfr, hlc, hclR, hslR⟩ := id F
  obtain ⟨⟨w1, w2, w3, w4⟩, w5, w6⟩ := hw
  refine zcall F hl hlo ?_ k K
  refine va_runV (C := (mY j).cls) (b := zsh G b) (As := av.map (zV G)) (rest := st.map (zV G)) ⟨hx, hb, hml, hown, hts⟩ (hM G l) (cwV (own := (mY i).cls) (index := idx) (ws' := zW) n hts (zW_good (fun w hw => ?_)) rfl rfl rfl ⟨rfl, w4⟩ ⟨?_, ?_⟩) ⟨zblind, ?_, zpre hH hK hNF⟩ rfl (by rw [List.length_map]; exact hn) hl.1 ?_ (lv_room (by rw [zcat]; exact h8)) d ⟨?_, ?_⟩
  · unfold wsV at hw
    rcases List.mem_append.mp hw with z | z
    · rcases List.mem_cons.mp z with z | z
      · rw [z]; exact w1
      · rcases List.mem_cons.mp z with z | z
        · rw [z]; exact w5
        · rcases List.mem_cons.mp z with z | z
          · rw [z]; exact w6
          · rw [List.mem_singleton.mp z]; exact w2
    · exact (zWs_good w3 w z).1
  · show mH j + 1 ≤ R.frames
    omega
  · show 8 + (mL j + 11) + 36 * mH j ≤ R.locals
    omega
  · obtain ⟨-, -, cell, q1, q2, q3, -⟩ := hH.obj ht hc7
    exact ⟨cell, q1, by rw [q3]; rfl, by rw [q2, ← hcl]; exact (hK.1 ci hc7).2.1⟩
  · show (av.reverse ++ .ref b :: st).map (zV G) = _
    rw [List.map_append, List.map_reverse]
    rfl
  · omega
  · omega
theorem tt_callS {idx n : Nat} (hM : MM j av h Qj) (d : decode (mC i) pc = .ok (.invokestatic idx, 3)) (hw : zMS (mY i).cls idx j n) (hst : stk = av.reverse ++ st) (hn : av.length = n) (hh : mH j < mH i ∧ mL j + 19 + 36 * mH j ≤ 36 * mH i) (hc : cc + mA j ≤ mA i) (hs : sc + mS j ≤ mS i) (h8 : (st.map fun v => v.category).sum ≤ 8)
    (k : ∀ r h', Qj r h' → TT i (pc + 3) L (r.toList ++ st) h' (cc + mA j) (sc + mS j) Q) : TT i pc L stk h cc sc Q := by
  subst hst
  intro G p l e R s m args below meth c ls H locs Qf F hl hH hlo K
  obtain ⟨hx, hb, hml, hown, hts, hNF, hK, hnm2, hfr, hlc, hclR, hslR⟩ := id F
  obtain ⟨⟨w1, w2, w3, w4⟩, w5⟩ := hw
  refine zcall F hl hlo ?_ k K
  refine va_runS (As := av.map (zV G)) (rest := st.map (zV G)) ⟨hx, hb, hml, hown, hts⟩ (hM G l) (va_cwS (own := (mY i).cls) (index := idx) (ws' := zW) n hts (zW_good (fun w hw => ?_)) rfl rfl rfl w4 ⟨?_, ?_⟩) ⟨zblind, zpre hH hK hNF⟩ rfl (by rw [List.length_map]; exact hn) hl.1 ?_ (lv_room (by rw [zcat]; exact h8)) d ⟨?_, ?_⟩
  · unfold va_wsS at hw
    rcases List.mem_append.mp hw with z | z
    · rcases List.mem_cons.mp z with z | z
      · rw [z]; exact w1
      · rcases List.mem_cons.mp z with z | z
        · rw [z]; exact w5
        · rw [List.mem_singleton.mp z]; exact w2
    · exact (zWs_good w3 w z).1
  · show mH j + 1 ≤ R.frames
    omega
  · show 8 + (mL j + 11) + 36 * mH j ≤ R.locals
    omega
  · show (av.reverse ++ st).map (zV G) = _
    rw [List.map_append, List.map_reverse]
  · omega
  · omega
theorem tt_callSN {idx n : Nat} (hM : MM j av h Qj) (d : decode (mC i) pc = .ok (.invokestatic idx, 3)) (hw : zMNS (mY i).cls idx j n) (hst : stk = av.reverse ++ st) (hn : av.length = n) (hh : mH j < mH i ∧ mL j + 19 + 36 * mH j ≤ 36 * mH i) (hc : cc + mA j ≤ mA i) (hs : sc + mS j ≤ mS i) (h8 : (st.map fun v => v.category).sum ≤ 8)
    (k : ∀ r h', Qj r h' → TT i (pc + 3) L (r.toList ++ st) h' (cc + mA j) (sc + mS j) Q) : TT i pc L stk h cc sc Q := by
  subst hst
  intro G p l e R s m args below meth c ls H locs Qf F hl hH hlo K
  obtain ⟨hx, hb, hml, hown, hts, hNF, hK, hnm2, hfr, hlc, hclR, hslR⟩ := id F
  obtain ⟨⟨w1, w2, w3, w4⟩, w5⟩ := hw
  refine zcall F hl hlo ?_ k K
  refine va_runSN (As := av.map (zV G)) (rest := st.map (zV G)) ⟨hx, hb, hml, hown, hts⟩ (hM G l) ⟨va_cnB (own := (mY i).cls) (index := idx) (host := RX5) (ws' := zW) n hts (zWs_good w3) rfl rfl rfl (w1 s hNF) (hts _ w2) w4 ⟨?_, ?_⟩, hts _ w5, trivial⟩ ⟨zblind, zpre hH hK hNF⟩ rfl (by rw [List.length_map]; exact hn) hl.1 ?_ (lv_room (by rw [zcat]; exact h8)) d ⟨?_, ?_⟩
  · show mH j + 1 ≤ R.frames
    omega
  · show 8 + (mL j + 11) + 36 * mH j ≤ R.locals
    omega
  · show (av.reverse ++ st).map (zV G) = _
    rw [List.map_append, List.map_reverse]
  · omega
  · omega
theorem tt_callI {b idx n : Nat} (hM : MM j (.ref b :: av) h Qj) (d : decode (mC i) pc = .ok (.invokespecial idx, 3)) (hw : zMI (mY i).cls idx j n) (hst : stk = av.reverse ++ .ref b :: st) (hn : av.length = n) (hh : mH j < mH i ∧ mL j + 19 + 36 * mH j ≤ 36 * mH i) (hc : cc + mA j ≤ mA i) (hs : sc + mS j ≤ mS i) (h8 : (st.map fun v => v.category).sum ≤ 8)
    (k : ∀ r h', Qj r h' → TT i (pc + 3) L (r.toList ++ st) h' (cc + mA j) (sc + mS j) Q) : TT i pc L stk h cc sc Q := by
  subst hst
  intro G p l e R s m args below meth c ls H locs Qf F hl hH hlo K
  obtain ⟨hx, hb, hml, hown, hts, hNF, hK, hnm2, hfr, hlc, hclR, hslR⟩ := id F
  obtain ⟨⟨w1, w2, w3, w4⟩, w5, w6, w7⟩ := hw
  refine zcall F hl hlo ?_ k K
  refine va_runI (b := zsh G b) (As := av.map (zV G)) (rest := st.map (zV G)) ⟨hx, hb, hml, hown, hts⟩ (hM G l) (cwI (own := (mY i).cls) (index := idx) (bytes := mC j) (maxL := mL j) (ws' := zW) n hts (zWs_good w3) (by unfold zWs; rw [w7]) rfl rfl (hts _ w2) (hts _ w1) (hts _ w5) w6 w4 ⟨?_, ?_⟩) ⟨zblind, zpre hH hK hNF⟩ rfl (by rw [List.length_map]; exact hn) hl.1 ?_ (lv_room (by rw [zcat]; exact h8)) d ⟨?_, ?_⟩
  · show mH j + 1 ≤ R.frames
    omega
  · show 8 + (mL j + 11) + 36 * mH j ≤ R.locals
    omega
  · show (av.reverse ++ .ref b :: st).map (zV G) = _
    rw [List.map_append, List.map_reverse]
    rfl
  · omega
  · omega
theorem tt_callIN {b idx n : Nat} (hM : MM j (.ref b :: av) h Qj) (d : decode (mC i) pc = .ok (.invokespecial idx, 3)) (hw : zMNI (mY i).cls idx j n) (hst : stk = av.reverse ++ .ref b :: st) (hn : av.length = n) (hh : mH j < mH i ∧ mL j + 19 + 36 * mH j ≤ 36 * mH i) (hc : cc + mA j ≤ mA i) (hs : sc + mS j ≤ mS i) (h8 : (st.map fun v => v.category).sum ≤ 8)
    (k : ∀ r h', Qj r h' → TT i (pc + 3) L (r.toList ++ st) h' (cc + mA j) (sc + mS j) Q) : TT i pc L stk h cc sc Q := by
  subst hst
  intro G p l e R s m args below meth c ls H locs Qf F hl hH hlo K
  obtain ⟨hx, hb, hml, hown, hts, hNF, hK, hnm2, hfr, hlc, hclR, hslR⟩ := id F
  obtain ⟨⟨w1, w2, w3, w4⟩, w5, w6, w7⟩ := hw
  refine zcall F hl hlo ?_ k K
  refine va_runIN (host := RX5) (b := zsh G b) (As := av.map (zV G)) (rest := st.map (zV G)) ⟨hx, hb, hml, hown, hts⟩ (hM G l) ⟨va_cnB (own := (mY i).cls) (index := idx) (host := RX5) (bytes := mC j) (maxL := mL j) (ret := none) (ws' := zW) n hts (zWs_good w3) (by unfold zWs; rw [w7]) rfl rfl (w1 s hNF) (hts _ w2) w4 ⟨?_, ?_⟩, w6, hts _ w5⟩ ⟨zblind, zpre hH hK hNF⟩ rfl (by rw [List.length_map]; exact hn) hl.1 ?_ (lv_room (by rw [zcat]; exact h8)) d ⟨?_, ?_⟩
  · show mH j + 1 ≤ R.frames
    omega
  · show 8 + (mL j + 11) + 36 * mH j ≤ R.locals
    omega
  · show (av.reverse ++ .ref b :: st).map (zV G) = _
    rw [List.map_append, List.map_reverse]
    rfl
  · omega
  · omega
/-! the JDK's -/
theorem tt_objInit {a idx : Nat} (d : decode (mC i) pc = .ok (.invokespecial idx, 3)) (w1 : Cond.methodLink (mY i).cls idx objectInit ∈ zW) (w2 : Cond.instanceMethod objectInit ∈ zW) (w3 : Cond.code objectInit ⟨#[0xb1]⟩ 1 none ∈ zW) (hh : 1 ≤ mH i) (h8 : (st.map fun v => v.category).sum ≤ 8) (k : TT i (pc + 3) L st h cc sc Q) : TT i pc L (.ref a :: st) h cc sc Q :=
  k.w fun G p l e R s m args below meth c ls H locs Qf F hl hH kk => by
    obtain ⟨hx, hb, hml, hown, hts, hNF, hK, hnm2, hfr, hlc, hclR, hslR⟩ := F
    refine W.objInit hx hb hown (hts _ w1) (hts _ w2) (hts _ w3) rfl (hl.1.trans hml.symm) rfl d (by omega) ?_ kk
    show 2 * 0 + _ + 12 ≤ _
    rw [zcat]
    omega
theorem tt_max {x y : Int32} {idx : Nat} (d : decode (mC i) pc = .ok (.invokestatic idx, 3)) (w1 : Cond.methodLink (mY i).cls idx Lib.Math.max.name ∈ zW) (w2 : Cond.static Lib.Math.max.name ∈ zW) (w3 : Cond.initialized "java/lang/Math" ∈ zW) (w4 : Cond.code Lib.Math.max.name Lib.Math.max.code 2 (some .int) ∈ zW) (hh : 1 ≤ mH i) (h8 : (st.map fun v => v.category).sum ≤ 8) (hc : cc ≤ mA i) (hs : sc ≤ mS i) (k : TT i (pc + 3) L (.int (if x < y then y else x) :: st) h cc sc Q) : TT i pc L (.int y :: .int x :: st) h cc sc Q :=
  k.w fun G p l e R s m args below meth c ls H locs Qf F hl hH kk => by
    obtain ⟨hx, hb, hml, hown, hts, hNF, hK, hnm2, hfr, hlc, hclR, hslR⟩ := F
    exact va_mmax hx hb (hml.trans hl.1.symm) hown (hts _ w1) (hts _ w2) (hts _ w3) (hts _ w4) (by omega) (by rw [zcat]; omega) (by omega) (by omega) d kk
theorem tt_min {x y : Int32} {idx : Nat} (d : decode (mC i) pc = .ok (.invokestatic idx, 3)) (w1 : Cond.methodLink (mY i).cls idx Lib.Math.min.name ∈ zW) (w2 : Cond.static Lib.Math.min.name ∈ zW) (w3 : Cond.initialized "java/lang/Math" ∈ zW) (w4 : Cond.code Lib.Math.min.name Lib.Math.min.code 2 (some .int) ∈ zW) (hh : 1 ≤ mH i) (h8 : (st.map fun v => v.category).sum ≤ 8) (hc : cc ≤ mA i) (hs : sc ≤ mS i) (k : TT i (pc + 3) L (.int (if y < x then y else x) :: st) h cc sc Q) : TT i pc L (.int y :: .int x :: st) h cc sc Q :=
  k.w fun G p l e R s m args below meth c ls H locs Qf F hl hH kk => by
    obtain ⟨hx, hb, hml, hown, hts, hNF, hK, hnm2, hfr, hlc, hclR, hslR⟩ := F
    exact va_mmin hx hb (hml.trans hl.1.symm) hown (hts _ w1) (hts _ w2) (hts _ w3) (hts _ w4) (by omega) (by rw [zcat]; omega) (by omega) (by omega) d kk
theorem tt_getsN {idx j0 : Nat} (d : decode (mC i) pc = .ok (.getstatic idx, 3)) (hj : j0 < 3) (hn : ∀ U : State, zNF U → va_Nw (.fieldLinkNest (mY i).cls idx RX5 (zst j0) "[I" RX5) U) (k : TT i (pc + 3) L (.ref j0 :: st) h cc sc Q) : TT i pc L st h cc sc Q :=
  k.w fun G p l e R s m args below meth c ls H locs Qf F hl hH kk => by
    obtain ⟨hx, hb, hml, hown, hts, hNF, hK, -⟩ := F
    obtain ⟨cf, kf, fi, f, a1, cell, z1, z2, z3, z4, z5, z6, z7, z8⟩ := hH.2.2.2.2.2 j0 hj
    refine va_WgetsN hx hb hown (va_Nw.use rfl (hn s hNF)) z1 z2 z3 z4 z5 (fun e => by rw [e] at z6; cases z6) z7 rfl d ?_
    have e9 : zV G (.ref j0) = .ref (zE G j0) := by
      show Value.ref (zsh G j0) = _
      rw [zsh_lt (by omega)]
    have kk2 : W p l e R s m args below meth c H locs cc sc Qf (F0 m (pc + 3) ls (zV G (.ref j0) :: st.map (zV G))) := kk
    rw [e9] at kk2
    exact kk2
theorem tt_clone {a idx n : Nat} (d : decode (mC i) pc = .ok (.invokevirtual idx, 3)) (ha : a < 3) (hz : zL h a = n) (w1 : Cond.methodLink (mY i).cls idx ⟨"[I", "clone", "()Ljava/lang/Object;"⟩ ∈ zW) (w2 : Cond.sameMethod "[I" "java/lang/Object" "clone" "()Ljava/lang/Object;" ∈ zW) (w3 : Cond.native ⟨"java/lang/Object", "clone", "()Ljava/lang/Object;"⟩ ∈ zW) (w4 : Cond.instanceMethod ⟨"java/lang/Object", "clone", "()Ljava/lang/Object;"⟩ ∈ zW) (w5 : Cond.selects "[I" ⟨"[I", "clone", "()Ljava/lang/Object;"⟩ ⟨"java/lang/Object", "clone", "()Ljava/lang/Object;"⟩ ∈ zW) (hh : 1 ≤ mH i) (h8 : (st.map fun v => v.category).sum ≤ 8) (hcc : cc + 1 ≤ mA i) (hsc : sc + n ≤ mS i)
    (kt : TT i (pc + 3) L (.ref (zN h) :: st) (znw h 7 n (zI h a)) (cc + 1) (sc + n) Q) : TT i pc L (.ref a :: st) h cc sc Q := by
  subst hz
  intro G p l e R s m args below meth c ls H locs Qf F hl hH hlo K
  obtain ⟨hx, hb, hml, hown, hts, hNF, hK, hnm2, hfr, hlc, hclR, hslR⟩ := id F
  obtain ⟨g1, g2, cell, g3, g4, g5, g6, g7, g8⟩ := hH.2.2.2.1 a (by omega)
  obtain ⟨c0, t0, f1, f2, f3⟩ := Cond.castable_spec (va_Nw.use (A := args) rfl hNF.2.2.2.2.2.2.2.2.2.1)
  have hfi : s.vm.findClass "[I" = some (zK G 7) := (hK.2 7 (by omega) (by omega)).2
  cases hfi.symm.trans f1
  have hcls : cell.cls = zK G 7 := g8 ha
  have hz := hH.sz
  intro T hT X
  obtain ⟨hob, kS, hkS, compS, hkindS⟩ := g4
  obtain ⟨-, kA, hkA, comp, hkind⟩ := State.isArrayOf_alike X.warmed.alike (show s.isArrayOf cell .int from ⟨hob, kS, hkS, compS, hkindS⟩)
  have hcellT : T.heap[zE G a]? = some cell := by rw [hT]; exact g3
  have hsl : ∀ (k : Nat) (v : Value), cell.slots[k]? = some v → ∃ x, v = .int x := fun k v hv => by
    have hk : k < zL h a := by rw [← g6]; exact (Array.getElem?_eq_some_iff.mp hv).1
    exact ⟨_, Option.some.inj (hv.symm.trans (g7 k hk))⟩
  obtain ⟨vm', X', stp⟩ := X.cloneArray hx hown (hts _ w1) (hts _ w2) (hts _ w3) (hts _ w4) (hts _ w5) (a := zE G a) (cell := cell) hcellT hob g5 (by rw [hcls]; exact hfi) f2 (by rw [hcls]; exact f3)
    (fun k v hv => by
      obtain ⟨x, rfl⟩ := hsl k v hv
      simp [State.fitsSlot, State.slotType?, hkA, hkind, fits])
    (g := F0 m pc ls (.ref (zE G a) :: st.map (zV G))) rfl (by rw [hml]; exact hl.1) rfl (by rw [hb]; exact d) (by omega) (by show 2 * 0 + _ + 14 ≤ _; rw [zcat]; omega) (by omega) (by rw [g6]; omega) (hloader := by exact Vm.clonesLoader_of_array hkS hkindS)
  rw [g6] at X'
  generalize hH1 : H.push ({ cls := cell.cls, slots := cell.slots } : Cell) = H1
  have z1 : H1.size = H.size + 1 := by rw [← hH1, Array.size_push]
  have e1 : H1[H.size]? = some ({ cls := cell.cls, slots := cell.slots } : Cell) := by rw [← hH1, Array.getElem?_push_size]
  have o1 : ∀ q : Nat, q < H.size → H1[q]? = H[q]? := fun q hq => by rw [← hH1, Array.getElem?_push, if_neg (Nat.ne_of_lt hq)]
  have hat : zat G (znw h 7 (zL h a) (zI h a)) (zN h) H1 := by
    unfold zat
    rw [znw_T, if_neg (by omega), zar_i (znw_T h 7 _ _) (by omega), hz, e1, vp_cell_i, znw_L, hcls]
    show some _ = some (arrV (zK G 7) (zL h a) _)
    congr 1
    unfold arrV
    congr 1
    apply Array.ext_getElem?
    intro k
    rw [Array.getElem?_ofFn]
    by_cases hk : k < zL h a
    · rw [dif_pos hk, g7 k hk]
      show _ = some (Value.int (zI (znw h 7 (zL h a) (zI h a)) (zN h) k))
      rw [znw_I]
    · rw [dif_neg hk]
      have : cell.slots.size ≤ k := by omega
      simpa using this
  obtain ⟨t2, a1, b1⟩ := kt G p l e R s m args below meth c ls H1 locs Qf F hl (hH.push (by omega) z1 o1 hat) hlo K ((T.setVm vm').pushCell { cls := cell.cls, slots := cell.slots }) (by rw [← hH1, ← hT]; rfl) X'
  refine ⟨t2, ?_, b1⟩
  have e9 : (.ref a :: st : List Value).map (zV G) = .ref (zE G a) :: st.map (zV G) := by
    show Value.ref (zsh G a) :: _ = _
    rw [zsh_lt (by omega)]
  rw [e9]
  refine stp t2 ?_
  have e8 : (.ref (zN h) :: st : List Value).map (zV G) = .ref T.heap.size :: st.map (zV G) := by
    show Value.ref (zsh G (zN h)) :: _ = _
    rw [hz, hT]
  rw [e8] at a1
  exact a1
theorem tt_castA {a idx : Nat} (d : decode (mC i) pc = .ok (.checkcast idx, 3)) (ht : zT h a = 7) (ha : 4 ≤ a) (w1 : Cond.classLink (mY i).cls idx "[I" ∈ zW) (k : TT i (pc + 3) L (.ref a :: st) h cc sc Q) : TT i pc L (.ref a :: st) h cc sc Q :=
  k.w fun G p l e R s m args below meth c ls H locs Qf F hl hH kk => by
    obtain ⟨hx, hb, hml, hown, hts, hNF, hK, -⟩ := F
    have hc := (hH.arr ht (by omega) (by omega) ha).2
    rw [zar_i ht (by omega)] at hc
    have hfi : s.vm.findClass "[I" = some (zK G 7) := (hK.2 7 (by omega) (by omega)).2
    exact va_castA (D := zD G) (cl := []) (ws := [(zsh G a, .inl (zK G 7, (zL h a, .inl (zI h a))))]) (cA := zK G 7) (x := (zL h a, .inl (zI h a))) hx hb hown (hts _ w1) (fun k q hq => by
      match k, hq with
      | 0, hq => cases hq; exact hc
      | k + 1, hq => simp at hq) 0 rfl hfi d kk
theorem tt_copy {a b idx : Nat} {sp dp n : Int32} (d : decode (mC i) pc = .ok (.invokestatic idx, 3)) (w1 : Cond.methodLink (mY i).cls idx arraycopyName ∈ zW) (w2 : Cond.native arraycopyName ∈ zW) (w3 : Cond.static arraycopyName ∈ zW) (w4 : Cond.initialized "java/lang/System" ∈ zW) (hta : zT h a = 7) (htb : zT h b = 7) (ha : 4 ≤ a) (hb4 : 4 ≤ b) (h1 : ¬ sp < 0) (h2 : ¬ dp < 0) (h3 : ¬ n < 0) (h4 : sp.toNatClampNeg + n.toNatClampNeg ≤ zL h a) (h5 : dp.toNatClampNeg + n.toNatClampNeg ≤ zL h b) (hh : 1 ≤ mH i) (h8 : (st.map fun v => v.category).sum ≤ 8)
    (kt : TT i (pc + 3) L st (zcp h b (va_cpy (zI h a) (zI h b) sp.toNatClampNeg dp.toNatClampNeg n.toNatClampNeg)) cc sc Q) : TT i pc L (.int n :: .int dp :: .ref b :: .int sp :: .ref a :: st) h cc sc Q := by
  intro G p l e R s m args below meth c ls H locs Qf F hl hH hlo K
  obtain ⟨hx, hb, hml, hown, hts, hNF, hK, hnm2, hfr, hlc, hclR, hslR⟩ := id F
  have nn : ∀ z : Int32, ¬ z < 0 → z.toInt = (z.toNatClampNeg : Int) := by
    intro z hz
    have hz0 : (0 : Int) ≤ z.toInt := by
      have := Int32.not_lt.mp hz
      simpa using Int32.le_iff_toInt_le.mp this
    show z.toInt = ((z.toInt.toNat : Nat) : Int)
    omega
  have hnw : nativeFrameWords "java/lang/System" "arraycopy" 5 + 11 ≤ 28 := by decide +kernel
  obtain ⟨-, hc0⟩ := hH.arr hta (by omega) (by omega) ha
  obtain ⟨hnb, hc1⟩ := hH.arr htb (by omega) (by omega) hb4
  rw [zar_i hta (by omega)] at hc0
  rw [zar_i htb (by omega)] at hc1
  generalize hf : zI h a = f at hc0 kt
  generalize hg : zI h b = g at hc1 kt
  intro T hT X
  obtain ⟨-, k0, hk0, cm0, hkk0⟩ := (hK.2 7 (by omega) (by omega)).1 (zL h a) (fun j => .int (f j))
  obtain ⟨vm', X', step⟩ := X.arraycopy hx hown (hts _ w1) (hts _ w2) (hts _ w3) (hts _ w4) (src := zsh G a) (dst := zsh G b) (cs := vp_cell (zK G 7) (zL h a, .inl f)) (cd := vp_cell (zK G 7) (zL h b, .inl g)) (srcPos := sp) (destPos := dp) (n := n) (by rw [hT]; exact hc0) (by rw [hT]; exact hc1)
    (fun _ h => by cases h) (fun _ h => by cases h) (fun h => by cases h) (fun h => by cases h) hk0 hk0 hkk0 hkk0 (by simp) h1 h2 h3
    (by rw [nn sp h1, nn n h3]; show ¬ _ > ((arrV (zK G 7) (zL h a) (fun j => .int (f j))).slots.size : Int); rw [arrV_size]; omega)
    (by rw [nn dp h2, nn n h3]; show ¬ _ > ((arrV (zK G 7) (zL h b) (fun j => .int (g j))).slots.size : Int); rw [arrV_size]; omega)
    (fun vm₁ _ q hq => by
      have e : (vp_cell (zK G 7) (zL h a, .inl f)).slots.getD (sp.toNatClampNeg + q) .null = .int (f (sp.toNatClampNeg + q)) := by
        show (arrV (zK G 7) (zL h a) (fun j => .int (f j))).slots.getD _ _ = _
        rw [Array.getD_eq_getD_getElem?, arrV_read _ _ (by omega)]
        rfl
      refine ⟨?_, ?_⟩
      · rw [e]
        rfl
      · rw [e]
        exact trivial)
    (g := F0 m pc ls ((.int n :: .int dp :: .ref b :: .int sp :: .ref a :: st : List Value).map (zV G))) rfl (by rw [hml]; exact hl.1) (rest := st.map (zV G)) rfl (by rw [hb]; exact d) (by omega) (by show 2 * 0 + _ + _ ≤ _; rw [zcat]; omega)
  have e1 : copied (vp_cell (zK G 7) (zL h a, .inl f)) (vp_cell (zK G 7) (zL h b, .inl g)) sp dp n = vp_cell (zK G 7) (zL h b, .inl (va_cpy f g sp.toNatClampNeg dp.toNatClampNeg n.toNatClampNeg)) := va_copied (fun z => .int z) (zK G 7) (zK G 7) f g h4
  rw [e1] at X' step
  have hlt : zsh G b < H.size := (Array.getElem?_eq_some_iff.mp hc1).1
  have hheap : ((T.setVm vm').setCell (zsh G b) (vp_cell (zK G 7) (zL h b, .inl (va_cpy f g sp.toNatClampNeg dp.toNatClampNeg n.toNatClampNeg)))).heap = H.setIfInBounds (zsh G b) (vp_cell (zK G 7) (zL h b, .inl (va_cpy f g sp.toNatClampNeg dp.toNatClampNeg n.toNatClampNeg))) := by rw [← hT]; rfl
  have oq : ∀ q : Nat, q ≠ zsh G b → (H.setIfInBounds (zsh G b) (vp_cell (zK G 7) (zL h b, .inl (va_cpy f g sp.toNatClampNeg dp.toNatClampNeg n.toNatClampNeg))))[q]? = H[q]? := fun q hq => by simp [Array.getElem?_setIfInBounds, Ne.symm hq]
  have hat : zat G (zcp h b (va_cpy f g sp.toNatClampNeg dp.toNatClampNeg n.toNatClampNeg)) b (H.setIfInBounds (zsh G b) (vp_cell (zK G 7) (zL h b, .inl (va_cpy f g sp.toNatClampNeg dp.toNatClampNeg n.toNatClampNeg)))) := by
    have ht' : zT (zcp h b (va_cpy f g sp.toNatClampNeg dp.toNatClampNeg n.toNatClampNeg)) b = 7 := htb
    unfold zat
    rw [ht', if_neg (by omega), zar_i ht' (by omega)]
    have e2 : zI (zcp h b (va_cpy f g sp.toNatClampNeg dp.toNatClampNeg n.toNatClampNeg)) b = va_cpy f g sp.toNatClampNeg dp.toNatClampNeg n.toNatClampNeg := funext fun k => if_pos rfl
    rw [e2]
    show (H.setIfInBounds (zsh G b) _)[zsh G b]? = some _
    simp [Array.getElem?_setIfInBounds, hlt]
    rfl
  obtain ⟨t2, a1, b1⟩ := kt G p l e R s m args below meth c ls _ _ Qf F hl (hH.upd (h' := zcp h b (va_cpy f g sp.toNatClampNeg dp.toNatClampNeg n.toNatClampNeg)) hb4 hnb rfl (fun _ => rfl) (fun _ => rfl) (fun q k hq => if_neg hq) (fun _ _ _ => rfl) (by simp) oq hat) (fun q hq => by
      rcases List.mem_append.mp hq with z | z
      · exact hlo q z
      · obtain ⟨y, -, hy⟩ := List.mem_map.mp z
        rw [← hy]
        show zB G ≤ zsh G b
        rw [zsh_ge hb4]; omega) K _ hheap X'
  exact ⟨t2, step t2 a1, b1⟩
end
