/-! the day behind a change; calls in the law; the law's invariant -/
def AE (f : (Nat → Int32) → Nat → Int32 × (Nat → Int32)) : Prop := ∀ (s : Nat → Int32) (n B0 : Nat), zIv s n B0 → tn ((f s n).2 8) ≤ tn (s 8) + 99
theorem AE_of {f : (Nat → Int32) → Nat → Int32 × (Nat → Int32)} (h : ∀ s n B0, zIv s n B0 → (f s n).2 8 = s 8) : AE f := fun s n B0 hI => by
  rw [h s n B0 hI]
  omega
theorem sSw_8 {s : Nat → Int32} {n B0 : Nat} {v : Int32} (hI : zIv s n B0) : (sSw s v).2 8 = s 8 := by
  have hw := hI.1
  have hn := hw.1
  unfold sSw
  by_cases q : nI 0 ≤ v ∧ v ≤ s 33 - nI 1
  · rw [if_pos q]
    by_cases q2 : sTl s = 0
    · rw [if_pos q2]
    · rw [if_neg q2]
      obtain ⟨j, hj, rfl⟩ := zskip hw.1 hw.2.1 q
      obtain ⟨c, hc, hcu⟩ := hw.2.2 j hj
      rw [nI_clamp (by omega), cuN_eq hc hcu]
      unfold sTi
      dsimp only
      rw [pk_un (by omega), pk_un (by omega), sCh_ne (by omega) (by omega), pk_un (by omega)]
  · rw [if_neg q]
theorem AE_set (v w : Int32) : AE (fun s _ => sSet s v w) := AE_of (fun s n B0 hI => by
  unfold sSet
  by_cases q : nI 0 ≤ v ∧ v ≤ nI 7
  · rw [if_pos q]
    obtain ⟨j, hj, rfl⟩ := zrng (by omega) q
    rw [nI_clamp (by omega)]
    by_cases q2 : (if nI j = nI 6 then nI 1 else nI 0) ≤ w ∧ w ≤ sMost (nI j)
    · rw [if_pos q2]
      exact pk_un (by omega)
    · rw [if_neg q2]
  · rw [if_neg q])
theorem AE_places (v w : Int32) : AE (fun s _ => sPlaces s v w) := AE_of (fun s n B0 hI => by
  unfold sPlaces
  split
  · split
    · exact pk_un (by omega)
    · rfl
  · rfl)
theorem AE_oil (v : Int32) : AE (fun s _ => sOi s v) := AE_of (fun s n B0 hI => by
  unfold sOi
  split
  · exact pk_un (by omega)
  · rfl)
theorem AE_growth (v w : Int32) : AE (fun s _ => sGro s v w) := AE_of (fun s n B0 hI => by
  unfold sGro
  split
  · split
    · exact pk_un (by omega)
    · rfl
  · rfl)
theorem AE_permit (v w : Int32) : AE (fun s _ => kPe s v w) := AE_of (fun s n B0 hI => by
  have hw := hI.1
  have hn := hw.1
  rw [kPe_eq hI]
  unfold sPe
  by_cases q : nI 0 ≤ v ∧ v ≤ s 33 - nI 1
  · rw [if_pos q]
    obtain ⟨j, hj, rfl⟩ := zskip hw.1 hw.2.1 q
    obtain ⟨c, hc, hcu⟩ := hw.2.2 j hj
    rw [nI_clamp (by omega), cuN_eq hc hcu]
    split
    · split
      · dsimp only
        rw [sCh_ne (by omega) (by omega), pk_un (by omega)]
      · rfl
    · rfl
  · rw [if_neg q])
theorem AE_swap (v : Int32) : AE (fun s _ => kSw s v) := AE_of (fun s n B0 hI => by
  rw [kSw_eq hI]
  exact sSw_8 hI)
theorem AE_take (v : Int32) : AE (fun s n => kTk s n v) := AE_of (fun s n B0 hI => by
  unfold kTk
  rw [kSw_eq hI]
  split
  · exact sSw_8 hI
  · unfold kRo
    dsimp only
    rw [if_neg (by omega), pk_un (by omega)]
    exact sSw_8 hI)
theorem AE_put (cu z st g : Int32) : AE (fun s n => kPuts s n cu z st g) := AE_of (fun s n B0 hI => by
  have hw := hI.1
  have hn := hw.1
  rw [kPuts_eq hI]
  unfold sPuts
  by_cases q1 : (nI 0 ≤ cu ∧ cu ≤ nI 5) ∧ (nI 0 ≤ st ∧ st ≤ nI 5)
  · rw [if_pos q1]
    obtain ⟨c, hc, rfl⟩ := zrng (x := cu) (b := 5) (by omega) q1.1
    rw [nI_clamp (show c < 2 ^ 31 by omega)]
    split
    · split
      · split
        · rfl
        · exact sPu_in (by omega) (by omega) (by omega) (by omega) (by omega)
      · rfl
    · rfl
  · rw [if_neg q1])
theorem AE_pass (v : Int32) : AE (fun s n => kPas s n v) := fun s n B0 hI => by
  show tn ((kPas s n v).2 8) ≤ tn (s 8) + 99
  rw [kPas_eq hI]
  unfold sPas
  by_cases q : nI 1 ≤ v ∧ v ≤ nI 99
  · rw [if_pos q]
    by_cases q2 : s 8 + v ≤ nI 9999
    · rw [if_pos q2]
      obtain ⟨d, hd, rfl⟩ := zrng (x := v) (b := 99) (by omega) ⟨Int32.le_trans (by decide) q.1, q.2⟩
      obtain ⟨t, ht, hN⟩ := zNs_of hI
      rw [nI_clamp (by omega)]
      dsimp only
      rw [sPs_E hI.1 hN ht d (by omega), cE_lo (by omega), if_pos rfl, hN.1, nI_add, tn_N (by omega), tn_N (by omega)]
      omega
    · rw [if_neg q2]; dsimp only; omega
  · rw [if_neg q]; dsimp only; omega
theorem AE_n {g : Nat → (Nat → Int32) → Nat → Int32 × (Nat → Int32)} (h : ∀ i, AE (g i)) : AE (fun s n => g n s n) := fun a n B0 h1 => h n a n B0 h1
theorem AE_aG (k x : Int32) (m : Nat → Int32) : AE (aG k x m) := by
  unfold aG
  by_cases q0 : k = nI 0 ∨ k = nI 1 ∨ k = nI 2 ∨ k = nI 3
  · simp only [if_pos q0]; exact AE_put _ _ _ _
  · simp only [if_neg q0]
    by_cases q4 : k = nI 4
    · simp only [if_pos q4]; exact AE_n (g := fun i s _ => kSw s (lo x (nI (i + 1)))) (fun i => AE_swap _)
    · simp only [if_neg q4]
      by_cases q5 : k = nI 5
      · simp only [if_pos q5]; exact AE_n (g := fun i s n => kTk s n (lo x (nI (i + 1)))) (fun i => AE_take _)
      · simp only [if_neg q5]
        by_cases q6 : k = nI 6 ∨ k = nI 7
        · simp only [if_pos q6]; exact AE_n (g := fun i s _ => kPe s (lo x (nI (i + 1))) (lo (x >>> (nI 4 &&& 31)) (m 4))) (fun i => AE_permit _ _)
        · simp only [if_neg q6]
          by_cases q8 : k = nI 8
          · simp only [if_pos q8]; exact AE_n (g := fun i s _ => sOi s (lo x (nI (i + 1)))) (fun i => AE_oil _)
          · simp only [if_neg q8]
            by_cases q9 : k = nI 9
            · simp only [if_pos q9]; exact AE_n (g := fun i s _ => sGro s (lo x (nI (i + 1))) (lo (x >>> (nI 4 &&& 31)) (m 5))) (fun i => AE_growth _ _)
            · simp only [if_neg q9]
              by_cases q10 : k = nI 10
              · simp only [if_pos q10]; exact AE_places _ _
              · simp only [if_neg q10]
                by_cases q11 : k = nI 11
                · simp only [if_pos q11]; exact AE_set _ _
                · simp only [if_neg q11]; exact AE_pass _
theorem AE_aF (v : Int32) : AE (aF v) := AE_aG _ _ _
/-- calls of methods that make nothing, with any end -/
theorem tt_gS {i j : zmi} {pc : Nat} {L : List (Option Value)} {st stk : List Value} {h : zhp} {cc sc : Nat} {Q Qj : Option Value → zhp → Prop} {av : List Value} {idx n : Nat} (hM : MM j av h Qj) (d : decode (mC i) pc = .ok (.invokestatic idx, 3)) (hw : zMS (mY i).cls idx j n) (hst : stk = av.reverse ++ st) (hn : av.length = n) (hh : mH j < mH i ∧ mL j + 19 + 36 * mH j ≤ 36 * mH i) (h0m : mA j = 0 ∧ mS j = 0) (hc : cc ≤ mA i) (hs : sc ≤ mS i) (h8 : (st.map fun v => v.category).sum ≤ 8)
    (k : ∀ r h', Qj r h' → TT i (pc + 3) L (r.toList ++ st) h' cc sc Q) : TT i pc L stk h cc sc Q := by
  refine tt_callS hM d hw hst hn hh (by rw [h0m.1]; exact hc) (by rw [h0m.2]; exact hs) h8 (fun r h1 q => ?_)
  rw [h0m.1, h0m.2]
  exact k r h1 q
theorem tt_gV {i j : zmi} {pc : Nat} {L : List (Option Value)} {st stk : List Value} {h : zhp} {cc sc : Nat} {Q Qj : Option Value → zhp → Prop} {av : List Value} {b ci idx n : Nat} (hM : MM j (.ref b :: av) h Qj) (d : decode (mC i) pc = .ok (.invokevirtual idx, 3)) (hw : zMV (mY i).cls idx j n) (hst : stk = av.reverse ++ .ref b :: st) (hn : av.length = n) (ht : zT h b = ci) (hc7 : ci < 7) (hcl : (zC ci).1 = (mY j).cls) (hh : mH j < mH i ∧ mL j + 19 + 36 * mH j ≤ 36 * mH i) (h0m : mA j = 0 ∧ mS j = 0) (hc : cc ≤ mA i) (hs : sc ≤ mS i) (h8 : (st.map fun v => v.category).sum ≤ 8)
    (k : ∀ r h', Qj r h' → TT i (pc + 3) L (r.toList ++ st) h' cc sc Q) : TT i pc L stk h cc sc Q := by
  refine tt_callV hM d hw hst hn ht hc7 hcl hh (by rw [h0m.1]; exact hc) (by rw [h0m.2]; exact hs) h8 (fun r h1 q => ?_)
  rw [h0m.1, h0m.2]
  exact k r h1 q
/-- act on p -/
theorem c_L_actp {h : zhp} {S2 : Nat → Nat → Int32} {P2 PI2 : Nat → Nat → Nat} {o2 c2 : Nat} (hr : zRf h) (hC : CJ (zdn h) S2 P2 PI2 o2 c2) {n : Nat} (hw : sWF (S2 0) n) (v : Int32) : MM iL_act [.ref 181, .int v] h (fun r h1 => r = some (.int (aF v (S2 0) n).1) ∧ ∃ x, zcQ (zdn h) S2 P2 PI2 n o2 c2 (aF v (S2 0) n).1 (aF v (S2 0) n).2 r x ∧ h1 = zmg h x) := by
  refine MM_post (MM_up hr (c_L_act hC hw v)) (fun r h1 q => ?_)
  obtain ⟨r0, x, q1, q2, q3⟩ := q
  have e := q1.1
  rw [e] at q2
  subst q2
  exact ⟨rfl, x, ⟨rfl, q1.2⟩, q3⟩
/-- the law's invariant behind e acts -/
def LW (h : zhp) (N : Nat) (X : Nat → Int32) (e : Nat) : Prop := zSc h N X ∧ ∃ S P PI o c S2 P2 PI2 o2 c2 n B0 B, TW h S P PI o c S2 P2 PI2 o2 c2 ∧ sim n (S 0) (S2 0) ∧ zIv (S2 0) n B0 ∧ zJ (S2 0) n B ∧ 9999 ≤ B0 ∧ B0 ≤ 9999 + 99 * e ∧ B ≤ 600000 * e ∧ tn (S2 0 8) ≤ 99 * e
def lwQ : Option Value → zhp → Prop := fun r _ => r = some (.int (nI 1))
def lv (N : Nat) (X : Nat → Int32) (e : Nat) : Int32 := if 2 ≤ e then cX N X e else cX N X e &&& (-16)
theorem hC_left {c : Nat} {e : Int32} (he : ¬ e < 0) (hc : c ≤ 6) : hC c e - 1 = if c = 6 then 5 else c := by
  unfold hC
  rw [if_neg he]
  by_cases q : c < 6
  · rw [if_pos q, if_neg (by omega)]; omega
  · rw [if_neg q, if_pos (by omega)]; omega
theorem hC_neg {c : Nat} {e : Int32} (he : e < 0) : hC c e = c := if_pos he
theorem zSc.mg {h x : zhp} {N : Nat} {X : Nat → Int32} (hX : zSc h N X) (hr : zRf h) (f : zFx (zdn h) x) : zSc (zmg h x) N X := hX.lo (zLo_mg hr f)
