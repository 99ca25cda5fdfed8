/-! the relation of both sides, without heaps: S the class's towns (0 the town, 1 to 7 the history's rows, 8 and 9 the slots), s the reference's row, t its history, l its slots -/
def b01 (b : Bool) (v : Int32) : Int32 := if b = true then v else nI 0
def zRL (S : Nat → Nat → Int32) (o c m : Nat) (sv : Nat → Bool) (F s t l : Nat → Int32) (n B : Nat) : Prop :=
  (o < 7 ∧ c ≤ 6) ∧ (F 3 = nI c ∧ F 7 = nI m ∧ F 5 = b01 (sv 0) (nI 1) + b01 (sv 1) (nI 2)) ∧ (sim n (S 0) s ∧ zIv s n B) ∧
  (∀ i, i < c → ∃ k, sim k (S (1 + (o + i) % 7)) (fun j => t (135 * i + j)) ∧ zIv (fun j => t (135 * i + j)) k B) ∧
  (∀ i, i < 2 → sv i = true → ∃ k, sim k (S (8 + i)) (fun j => l (135 * i + j)) ∧ zIv (fun j => l (135 * i + j)) k B)
/-- a row that is as another in its 135 numbers is like what that other is like -/
theorem row_eq {x a b : Nat → Int32} {k B : Nat} (e : ∀ j, j < 135 → a j = b j) (h : sim k x b ∧ zIv b k B) : sim k x a ∧ zIv a k B := by
  have hk := h.2.1.1
  have q : sim k a b := fun j hj => e j (by omega)
  exact ⟨fun j hj => (h.1 j hj).trans (q j hj).symm, zIv_sim q h.2⟩
theorem row_mono {x a : Nat → Int32} {k B B2 : Nat} (hB : B ≤ B2) (h2 : B2 ≤ 2 ^ 30) (h : sim k x a ∧ zIv a k B) : sim k x a ∧ zIv a k B2 := ⟨h.1, zIv_mono hB h2 h.2⟩
/-- the reference's history behind a change -/
theorem rcT_L {t a : Nat → Int32} {c i j : Nat} (hc : c < 6) (hi : i < c) (hj : j < 135) : rcT t a c (135 * i + j) = t (135 * i + j) := by
  unfold rcT
  rw [if_neg (by omega), zlp_set, if_neg (by omega)]
theorem rcT_N {t a : Nat → Int32} {c j : Nat} (hc : c < 6) (hj : j < 135) : rcT t a c (135 * c + j) = a j := by
  unfold rcT
  rw [if_neg (by omega), zlp_set, if_pos (by omega), Nat.add_sub_cancel_left]
theorem zlp_sh0 (t : Nat → Int32) (i : Nat) : zlp (fun k (x : Nat → Int32) => upd x k (x (k + 135))) 675 0 t i = if i < 675 then t (i + 135) else t i := by
  have h := zlp_shift (b := 0) (d := 135) (by omega) 675 0 t i
  have e : (fun (w : Nat) (x : Nat → Int32) => upd x (0 + w) (x (0 + w + 135))) = fun k x => upd x k (x (k + 135)) := by
    funext w x
    rw [Nat.zero_add]
  rw [e] at h
  rw [h]
  by_cases q : i < 675
  · rw [if_pos q, if_pos (by omega)]
  · rw [if_neg q, if_neg (by omega)]
theorem rcT_6 {t a : Nat → Int32} {i j : Nat} (hi : i < 5) (hj : j < 135) : rcT t a 6 (135 * i + j) = t (135 * (i + 1) + j) := by
  unfold rcT
  rw [if_pos rfl, zlp_set, if_neg (by omega), zlp_sh0, if_pos (by omega), show 135 * i + j + 135 = 135 * (i + 1) + j by omega]
theorem rcT_6N {t a : Nat → Int32} {j : Nat} (hj : j < 135) : rcT t a 6 (135 * 5 + j) = a j := by
  unfold rcT
  rw [if_pos rfl, zlp_set, if_pos (by omega), Nat.add_sub_cancel_left]
theorem rcF_3 {F : Nat → Int32} {c : Nat} (hc : c ≤ 6) (h : F 3 = nI c) : rcF F c 3 = nI (if c < 6 then c + 1 else c) := by
  unfold rcF
  by_cases q : c = 6
  · subst q
    rw [if_pos rfl, pk_us, pk_us, if_neg (by omega), h]
    rfl
  · rw [if_neg q, pk_us, h, if_pos (by omega)]
    exact nI_1 c
theorem rcF_n {F : Nat → Int32} {c k : Nat} (hk : k ≠ 3) : rcF F c k = F k := by
  unfold rcF
  split
  · rw [pk_un hk, pk_un hk]
  · rw [pk_un hk]
def rlF (F : Nat → Int32) (c : Nat) (e : Int32) : Nat → Int32 := if e < 0 then F else rcF F c
def rlT (t a : Nat → Int32) (c : Nat) (e : Int32) : Nat → Int32 := if e < 0 then t else rcT t a c
theorem uS_0 {S : Nat → Nat → Int32} {n o c : Nat} {s1 : Nat → Int32} : uS S n o c s1 0 = s1 := up_s
theorem uS_r {S : Nat → Nat → Int32} {n o c : Nat} {s1 : Nat → Int32} : uS S n o c s1 (1 + (o + c) % 7) = kBm (S (1 + (o + c) % 7)) (S 0) n := (up_n (by omega)).trans up_s
theorem uS_n {S : Nat → Nat → Int32} {n o c i : Nat} {s1 : Nat → Int32} (h0 : i ≠ 0) (h : i ≠ 1 + (o + c) % 7) : uS S n o c s1 i = S i := (up_n h0).trans (up_n h)
/-- a change: the old state is in the history, unless the answer is an error -/
theorem zRL_ch {S : Nat → Nat → Int32} {o c m : Nat} {sv : Nat → Bool} {F s t l : Nat → Int32} {n B : Nat} (x : zRL S o c m sv F s t l n B) {s1 s2 a F2 : Nat → Int32} {n2 B2 m2 : Nat} {e : Int32} (h1 : sim n2 s1 s2) (h2 : zIv s2 n2 B2) (hB : B ≤ B2) (ha : ∀ k, k < 135 → a k = s k) (f3 : F2 3 = F 3) (f5 : F2 5 = F 5) (f7 : F2 7 = nI m2) : zRL (uS S n o c s1) (hO o c e) (hC c e) m2 sv (rlF F2 c e) s2 (rlT t a c e) l n2 B2 := by
  obtain ⟨⟨ho, hc⟩, ⟨e3, e7, e5⟩, ⟨hs, hI⟩, hR, hL⟩ := x
  have h230 := h2.2.1
  have hsl : ∀ i, i < 2 → sv i = true → ∃ k, sim k (uS S n o c s1 (8 + i)) (fun j => l (135 * i + j)) ∧ zIv (fun j => l (135 * i + j)) k B2 := fun i hi hv => by
    obtain ⟨k, hk⟩ := hL i hi hv
    rw [uS_n (by omega) (by omega)]
    exact ⟨k, row_mono hB h230 hk⟩
  unfold hO hC rlF rlT
  by_cases q : e < 0
  · rw [if_pos q, if_pos q, if_pos q, if_pos q]
    refine ⟨⟨ho, hc⟩, ⟨f3.trans e3, f7, f5.trans e5⟩, ⟨by rw [uS_0]; exact h1, h2⟩, fun i hi => ?_, hsl⟩
    obtain ⟨k, hk⟩ := hR i hi
    rw [uS_n (by omega) (by omega)]
    exact ⟨k, row_mono hB h230 hk⟩
  · rw [if_neg q, if_neg q, if_neg q, if_neg q]
    have hnew : sim n (kBm (S (1 + (o + c) % 7)) (S 0) n) s ∧ zIv s n B := ⟨kBm_of hs, hI⟩
    by_cases q2 : c < 6
    · rw [if_pos q2, if_pos q2]
      refine ⟨⟨ho, by omega⟩, ⟨by rw [rcF_3 hc (f3.trans e3), if_pos q2], by rw [rcF_n (by omega)]; exact f7, by rw [rcF_n (by omega)]; exact f5.trans e5⟩, ⟨by rw [uS_0]; exact h1, h2⟩, fun i hi => ?_, hsl⟩
      by_cases qi : i = c
      · subst qi
        rw [uS_r]
        exact ⟨n, row_eq (fun j hj => (rcT_N q2 hj).trans (ha j hj)) (row_mono hB h230 hnew)⟩
      · obtain ⟨k, hk⟩ := hR i (by omega)
        rw [uS_n (by omega) (by omega)]
        exact ⟨k, row_eq (fun j hj => rcT_L q2 (by omega) hj) (row_mono hB h230 hk)⟩
    · have hc6 : c = 6 := by omega
      subst hc6
      rw [if_neg q2, if_neg q2]
      refine ⟨⟨by omega, by omega⟩, ⟨by rw [rcF_3 hc (f3.trans e3), if_neg q2], by rw [rcF_n (by omega)]; exact f7, by rw [rcF_n (by omega)]; exact f5.trans e5⟩, ⟨by rw [uS_0]; exact h1, h2⟩, fun i hi => ?_, hsl⟩
      by_cases qi : i = 5
      · subst qi
        rw [show 1 + ((o + 1) % 7 + 5) % 7 = 1 + (o + 6) % 7 by omega, uS_r]
        exact ⟨n, row_eq (fun j hj => (rcT_6N hj).trans (ha j hj)) (row_mono hB h230 hnew)⟩
      · obtain ⟨k, hk⟩ := hR (i + 1) (by omega)
        rw [show 1 + ((o + 1) % 7 + i) % 7 = 1 + (o + (i + 1)) % 7 by omega, uS_n (by omega) (by omega)]
        exact ⟨k, row_eq (fun j hj => rcT_6 (by omega) hj) (row_mono hB h230 hk)⟩
theorem zRL_F {S : Nat → Nat → Int32} {o c m m2 : Nat} {sv : Nat → Bool} {F F2 s t l : Nat → Int32} {n B : Nat} (x : zRL S o c m sv F s t l n B) (f3 : F2 3 = F 3) (f5 : F2 5 = F 5) (f7 : F2 7 = nI m2) : zRL S o c m2 sv F2 s t l n B := by
  obtain ⟨hoc, ⟨e3, e7, e5⟩, hs, hR, hL⟩ := x
  exact ⟨hoc, ⟨f3.trans e3, f7, f5.trans e5⟩, hs, hR, hL⟩
/-- the reference's row is replaced by one of the same 135 numbers -/
theorem zRL_s {S : Nat → Nat → Int32} {o c m : Nat} {sv : Nat → Bool} {F s s2 t l : Nat → Int32} {n B : Nat} (x : zRL S o c m sv F s t l n B) (e : ∀ j, j < 135 → s2 j = s j) : zRL S o c m sv F s2 t l n B := by
  obtain ⟨hoc, hF, hs, hR, hL⟩ := x
  exact ⟨hoc, hF, row_eq e hs, hR, hL⟩
theorem zRL_mono {S : Nat → Nat → Int32} {o c m : Nat} {sv : Nat → Bool} {F s t l : Nat → Int32} {n B B2 : Nat} (hB : B ≤ B2) (h2 : B2 ≤ 2 ^ 30) (x : zRL S o c m sv F s t l n B) : zRL S o c m sv F s t l n B2 := by
  obtain ⟨hoc, hF, hs, hR, hL⟩ := x
  refine ⟨hoc, hF, row_mono hB h2 hs, fun i hi => ?_, fun i hi hv => ?_⟩
  · obtain ⟨k, hk⟩ := hR i hi
    exact ⟨k, row_mono hB h2 hk⟩
  · obtain ⟨k, hk⟩ := hL i hi hv
    exact ⟨k, row_mono hB h2 hk⟩
/-- undo -/
theorem zRL_ud {S : Nat → Nat → Int32} {o c m : Nat} {sv : Nat → Bool} {F s t l : Nat → Int32} {n B : Nat} (x : zRL S o c m sv F s t l n B) (h0 : c ≠ 0) : ∃ k, sWF (S (1 + (o + (c - 1)) % 7)) k ∧ zRL (up S 0 (kBm (S 0) (S (1 + (o + (c - 1)) % 7)) k)) o (c - 1) m sv (upd F 3 (F 3 - nI 1)) (zlp (fun k x => upd x k (t (135 * (c - 1) + k))) 135 0 s) t l k B := by
  obtain ⟨⟨ho, hc⟩, ⟨e3, e7, e5⟩, ⟨hs, hI⟩, hR, hL⟩ := x
  obtain ⟨k, hk⟩ := hR (c - 1) (by omega)
  have hks := sim_WF hk.1 hk.2.1
  refine ⟨k, hks, ⟨ho, by omega⟩, ⟨?_, ?_, ?_⟩, ?_, fun i hi => ?_, fun i hi hv => ?_⟩
  · rw [pk_us, e3]; exact pk_sub (by omega)
  · rw [pk_un (by omega)]; exact e7
  · rw [pk_un (by omega)]; exact e5
  · rw [up_s]
    refine row_eq (b := fun j => t (135 * (c - 1) + j)) (fun j hj => ?_) ⟨kBm_of hk.1, hk.2⟩
    exact cpA_at (fun j => t (135 * (c - 1) + j)) s hj
  · rw [up_n (by omega)]
    exact hR i (by omega)
  · rw [up_n (by omega)]
    exact hL i hi hv
