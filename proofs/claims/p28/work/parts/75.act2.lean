/-! each change; the law's act -/
theorem AP_set (v w : Int32) : AP (fun s _ => sSet s v w) := AP_of (fun s n B0 B hI hJ _ q => sSet_R hI hJ q) (fun a b n B0 B hs hI hJ h1 h2 h3 => ⟨(sim_Set hs v w).1, n, (sim_Set hs v w).2, zIv_mono (by omega) h2 (sSet_Iv hI), zJ_mono (by omega) (sSet_J hJ)⟩)
theorem AP_places (v w : Int32) : AP (fun s _ => sPlaces s v w) := AP_of (fun s n B0 B hI hJ _ q => sPlaces_R hJ q) (fun a b n B0 B hs hI hJ h1 h2 h3 => ⟨(sim_Places hs v w).1, n, (sim_Places hs v w).2, zIv_mono (by omega) h2 (sPlaces_Iv hI), zJ_mono (by omega) (sPlaces_J hJ)⟩)
theorem AP_oil (v : Int32) : AP (fun s _ => sOi s v) := AP_of (fun s n B0 B hI hJ _ q => sOi_R hI q) (fun a b n B0 B hs hI hJ h1 h2 h3 => ⟨(sim_Oi hs hI.1 v).1, n, (sim_Oi hs hI.1 v).2, zIv_mono (by omega) h2 (sOi_Iv hI), zJ_mono (by omega) (sOi_J hI.1 hJ)⟩)
theorem AP_growth (v w : Int32) : AP (fun s _ => sGro s v w) := AP_of (fun s n B0 B hI hJ _ q => sGro_R hI q) (fun a b n B0 B hs hI hJ h1 h2 h3 => ⟨(sim_Gro hs hI.1 v w).1, n, (sim_Gro hs hI.1 v w).2, zIv_mono (by omega) h2 (sGro_Iv hI), zJ_mono (by omega) (sGro_J hI.1 hJ)⟩)
theorem AP_permit (v w : Int32) : AP (fun s _ => kPe s v w) := AP_of (fun s n B0 B hI hJ _ q => by
    rw [kPe_eq hI] at q ⊢
    exact sPe_R hI q) (fun a b n B0 B hs hI hJ h1 h2 h3 => by
    rw [kPe_eq hI, kPe_eq (zIv_sim hs hI)]
    exact ⟨(sim_Pe hs hI.1 v w).1, n, (sim_Pe hs hI.1 v w).2, sPe_Iv hI h1 h2, zJ_mono (by omega) (sPe_J hI.1 hJ (by omega))⟩)
theorem AP_swap (v : Int32) : AP (fun s _ => kSw s v) := AP_of (fun s n B0 B hI hJ _ q => by
    rw [kSw_eq hI] at q ⊢
    exact sSw_R hI q) (fun a b n B0 B hs hI hJ h1 h2 h3 => by
    rw [kSw_eq hI, kSw_eq (zIv_sim hs hI)]
    exact ⟨(sim_Sw hs hI.1 v).1, n, (sim_Sw hs hI.1 v).2, zIv_mono (by omega) h2 (sSw_Iv hI), zJ_mono (by omega) (sSw_J hI hJ (by omega))⟩)
theorem AP_take (v : Int32) : AP (fun s n => kTk s n v) := AP_of (fun s n B0 B hI hJ _ q => by
    have e1 : (kTk s n v).1 = (kSw s v).1 := by
      unfold kTk
      split <;> rfl
    rw [e1] at q
    unfold kTk
    rw [if_pos q]
    rw [kSw_eq hI] at q ⊢
    exact sSw_R hI q) (fun a b n B0 B hs hI hJ h1 h2 h3 => by
    obtain ⟨ea, sa⟩ := kTk_sim (zIv_sim hs hI) v
    obtain ⟨eb, sb⟩ := kTk_sim hI v
    obtain ⟨e, s1⟩ := sim_Tk hs hI.1 v
    have en : nS (sTk a v).2 = nS (sTk b v).2 := by
      unfold nS
      rw [s1 33 (by omega)]
    rw [en] at sa
    have s2 : sim (nS (sTk b v).2) (kTk a n v).2 (kTk b n v).2 := fun k hk => ((sa k hk).trans (s1 k hk)).trans (sb k hk).symm
    exact ⟨by rw [ea, eb, e], _, s2, zIv_mono (by omega) h2 (zIv_sim sb (sTk_Iv hI)), zJ_mono (by omega) (zJ_sim sb (sTk_J hI hJ (by omega)))⟩)
theorem AP_put (cu z st g : Int32) : AP (fun s n => kPuts s n cu z st g) := AP_of (fun s n B0 B hI hJ _ q => kPuts_R hI.1 q) (fun a b n B0 B hs hI hJ h1 h2 h3 => by
    rw [kPuts_eq hI, kPuts_eq (zIv_sim hs hI)]
    exact ⟨(sim_Puts hs hI.1 cu z st g).1, _, (sim_Puts hs hI.1 cu z st g).2, zIv_mono (by omega) h2 (sPuts_Iv hI), zJ_mono (by omega) (sPuts_J hI hJ (by omega))⟩)
theorem AP_pass (v : Int32) : AP (fun s n => kPas s n v) := AP_of (fun s n B0 B hI hJ h3 q => sPas_R hI hJ h3 q) (fun a b n B0 B hs hI hJ h1 h2 h3 => by
    rw [kPas_eq hI, kPas_eq (zIv_sim hs hI)]
    exact ⟨(sim_Pas hs hI v).1, n, (sim_Pas hs hI v).2, zIv_mono (by omega) h2 (sPas_Iv hI), sPas_J hI hJ h3⟩)
/-- low(v, w) -/
def lo (v w : Int32) : Int32 := (v &&& 2147483647) - (v &&& 2147483647) / w * w
/-- the act of kind k, of x, with the moduli of the numbers -/
def aG (k x : Int32) (m : Nat → Int32) (s : Nat → Int32) (n : Nat) : Int32 × (Nat → Int32) :=
  if k = nI 0 ∨ k = nI 1 ∨ k = nI 2 ∨ k = nI 3 then kPuts s n (lo x (m 0)) (lo (x >>> (nI 3 &&& 31)) (m 1)) (lo (x >>> (nI 5 &&& 31)) (m 2)) (lo (x >>> (nI 7 &&& 31)) (m 3))
  else if k = nI 4 then kSw s (lo x (nI (n + 1)))
  else if k = nI 5 then kTk s n (lo x (nI (n + 1)))
  else if k = nI 6 ∨ k = nI 7 then kPe s (lo x (nI (n + 1))) (lo (x >>> (nI 4 &&& 31)) (m 4))
  else if k = nI 8 then sOi s (lo x (nI (n + 1)))
  else if k = nI 9 then sGro s (lo x (nI (n + 1))) (lo (x >>> (nI 4 &&& 31)) (m 5))
  else if k = nI 10 then sPlaces s (lo x (nI 6)) (lo (x >>> (nI 3 &&& 31)) (m 6))
  else if k = nI 11 then sSet s (lo x (nI 9)) (lo (x >>> (nI 4 &&& 31)) (m 7))
  else kPas s n (lo x (m 8))
def aN (b : Bool) (k : Nat) : Int32 := match k with
  | 0 => if b = true then nI 6 else nI 7
  | 1 => if b = true then nI 4 else nI 5
  | 2 => if b = true then nI 6 else nI 8
  | 3 => if b = true then nI 31 else nI 40
  | 4 => if b = true then nI 9 else nI 110
  | 5 => if b = true then nI 31 else nI 40
  | 6 => if b = true then nI 5 else nI 7
  | 7 => if b = true then nI 10 else nI 100
  | _ => if b = true then nI 6 else nI 110
def aF (v : Int32) (s : Nat → Int32) (n : Nat) : Int32 × (Nat → Int32) := aG (lo v (nI 16)) (v >>> (nI 4 &&& 31)) (aN (decide (nI 0 < lo (v >>> (nI 21 &&& 31)) (nI 6)))) s n
theorem aF_eq {v : Int32} {s : Nat → Int32} {n j : Nat} {b : Bool} (hj : lo v (nI 16) = nI j) (hb : decide (nI 0 < lo (v >>> (nI 21 &&& 31)) (nI 6)) = b) : aF v s n = aG (nI j) (v >>> (nI 4 &&& 31)) (aN b) s n := by
  unfold aF
  rw [hj, hb]
theorem lo_N (v : Int32) {m : Nat} (h0 : 0 < m) (hm : m < 2 ^ 31) : ∃ k, k < m ∧ lo v (nI m) = nI k := by
  obtain ⟨a, ha, ea⟩ := pk_andE v (m := 2147483647) 31 (by decide)
  unfold lo
  rw [ea, pk_rem ha h0 hm]
  exact ⟨a % m, Nat.mod_lt _ h0, rfl⟩
theorem AP_n {g : Nat → (Nat → Int32) → Nat → Int32 × (Nat → Int32)} (h : ∀ i, AP (g i)) : AP (fun s n => g n s n) := fun a b n B0 B h1 h2 h3 h4 h5 h6 => h n a b n B0 B h1 h2 h3 h4 h5 h6
theorem AP_aG (k x : Int32) (m : Nat → Int32) : AP (aG k x m) := by
  unfold aG
  by_cases q0 : k = nI 0 ∨ k = nI 1 ∨ k = nI 2 ∨ k = nI 3
  · simp only [if_pos q0]; exact AP_put _ _ _ _
  · simp only [if_neg q0]
    by_cases q4 : k = nI 4
    · simp only [if_pos q4]; exact AP_n (g := fun i s _ => kSw s (lo x (nI (i + 1)))) (fun i => AP_swap _)
    · simp only [if_neg q4]
      by_cases q5 : k = nI 5
      · simp only [if_pos q5]; exact AP_n (g := fun i s n => kTk s n (lo x (nI (i + 1)))) (fun i => AP_take _)
      · simp only [if_neg q5]
        by_cases q6 : k = nI 6 ∨ k = nI 7
        · simp only [if_pos q6]; exact AP_n (g := fun i s _ => kPe s (lo x (nI (i + 1))) (lo (x >>> (nI 4 &&& 31)) (m 4))) (fun i => AP_permit _ _)
        · simp only [if_neg q6]
          by_cases q8 : k = nI 8
          · simp only [if_pos q8]; exact AP_n (g := fun i s _ => sOi s (lo x (nI (i + 1)))) (fun i => AP_oil _)
          · simp only [if_neg q8]
            by_cases q9 : k = nI 9
            · simp only [if_pos q9]; exact AP_n (g := fun i s _ => sGro s (lo x (nI (i + 1))) (lo (x >>> (nI 4 &&& 31)) (m 5))) (fun i => AP_growth _ _)
            · simp only [if_neg q9]
              by_cases q10 : k = nI 10
              · simp only [if_pos q10]; exact AP_places _ _
              · simp only [if_neg q10]
                by_cases q11 : k = nI 11
                · simp only [if_pos q11]; exact AP_set _ _
                · simp only [if_neg q11]; exact AP_pass _
theorem AP_aF (v : Int32) : AP (aF v) := AP_aG _ _ _
/-- the row stays well formed -/
theorem aF_WF {v : Int32} {s : Nat → Int32} {n B0 B : Nat} (hI : zIv s n B0) (hJ : zJ s n B) (h1 : 9999 ≤ B0) (h2 : B0 + 99 ≤ 2 ^ 30) (h3 : B + 600000 ≤ 2 ^ 28) : ∃ n2, sWF (aF v s n).2 n2 := by
  obtain ⟨-, -, n2, -, h, -⟩ := AP_aF v s s n B0 B (sim_refl n s) hI hJ h1 h2 h3
  exact ⟨n2, h.1⟩
