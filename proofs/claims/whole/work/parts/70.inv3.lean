/-! the relation of both sides: slots -/
theorem b01_or : ∀ (x y : Bool), (b01 x (nI 1) + b01 y (nI 2)) ||| (nI 1 <<< (nI 0 &&& 31)) = b01 true (nI 1) + b01 y (nI 2) ∧ (b01 x (nI 1) + b01 y (nI 2)) ||| (nI 1 <<< (nI 1 &&& 31)) = b01 x (nI 1) + b01 true (nI 2) := by decide
theorem b01_get : ∀ (x y : Bool), ((((b01 x (nI 1) + b01 y (nI 2)) >>> (nI 0 &&& 31)) &&& nI 1) = 0 ↔ ¬ x = true) ∧ ((((b01 x (nI 1) + b01 y (nI 2)) >>> (nI 1 &&& 31)) &&& nI 1) = 0 ↔ ¬ y = true) := by decide
theorem zRL_sv {S : Nat → Nat → Int32} {o c m : Nat} {sv : Nat → Bool} {F s t l : Nat → Int32} {n B : Nat} (x : zRL S o c m sv F s t l n B) {i : Nat} (hi : i < 2) : zRL (up S (8 + i) (kBm (S (8 + i)) (S 0) n)) o c m (up sv i true) (upd F 5 (F 5 ||| (nI 1 <<< (nI i &&& 31)))) s t (zlp (fun k x => upd x (135 * i + k) (s k)) 135 0 l) n B := by
  obtain ⟨⟨ho, hc⟩, ⟨e3, e7, e5⟩, ⟨hs, hI⟩, hR, hL⟩ := x
  refine ⟨⟨ho, hc⟩, ⟨?_, ?_, ?_⟩, ⟨?_, hI⟩, fun j hj => ?_, fun j hj hv => ?_⟩
  · rw [pk_un (by omega)]; exact e3
  · rw [pk_un (by omega)]; exact e7
  · rw [pk_us, e5]
    rcases (show i = 0 ∨ i = 1 by omega) with rfl | rfl
    · rw [(b01_or _ _).1, up_s, up_n (by omega)]
    · rw [(b01_or _ _).2, up_s, up_n (by omega)]
  · rw [up_n (by omega)]; exact hs
  · obtain ⟨k, hk⟩ := hR j hj
    rw [up_n (by omega)]
    exact ⟨k, hk⟩
  · by_cases q : j = i
    · subst q
      rw [up_s]
      exact ⟨n, row_eq (fun k hk => by rw [zlp_set, if_pos (by omega), Nat.add_sub_cancel_left]) ⟨kBm_of hs, hI⟩⟩
    · rw [up_n q] at hv
      obtain ⟨k, hk⟩ := hL j hj hv
      rw [up_n (by omega)]
      exact ⟨k, row_eq (fun z hz => by rw [zlp_set, if_neg (by omega)]) hk⟩
theorem zRL_kept {S : Nat → Nat → Int32} {o c m : Nat} {sv : Nat → Bool} {F s t l : Nat → Int32} {n B : Nat} (x : zRL S o c m sv F s t l n B) {i : Nat} (hi : i < 2) : ((F 5 >>> (nI i &&& 31)) &&& nI 1) = 0 ↔ ¬ sv i = true := by
  rw [x.2.1.2.2]
  rcases (show i = 0 ∨ i = 1 by omega) with rfl | rfl
  · exact (b01_get _ _).1
  · exact (b01_get _ _).2
/-- restore: what the town becomes -/
theorem zRL_re {S : Nat → Nat → Int32} {o c m : Nat} {sv : Nat → Bool} {F s t l : Nat → Int32} {n B : Nat} (x : zRL S o c m sv F s t l n B) {i : Nat} (hi : i < 2) (hv : sv i = true) : ∃ k, sWF (S (8 + i)) k ∧ sim k (kBm (S 0) (S (8 + i)) k) (zlp (fun k x => upd x k (l (135 * i + k))) 135 0 s) ∧ zIv (zlp (fun k x => upd x k (l (135 * i + k))) 135 0 s) k B := by
  obtain ⟨⟨ho, hc⟩, ⟨e3, e7, e5⟩, ⟨hs, hI⟩, hR, hL⟩ := x
  obtain ⟨k, hk⟩ := hL i hi hv
  exact ⟨k, sim_WF hk.1 hk.2.1, row_eq (fun j hj => cpA_at (fun j => l (135 * i + j)) s hj) ⟨kBm_of hk.1, hk.2⟩⟩
/-! the invariant of the law; X: the script, N long -/
def zSc (h : zhp) (N : Nat) (X : Nat → Int32) : Prop := zT h 3 = 7 ∧ zL h 3 = N ∧ ∀ k, zI h 3 k = X k
theorem zSc.rs {h h1 : zhp} {N : Nat} {X : Nat → Int32} (x : zSc h N X) (hs : zRs h h1) : zSc h1 N X := ⟨(hs.2 3 (by omega) (by omega)).1.trans x.1, (hs.2 3 (by omega) (by omega)).2.1.trans x.2.1, fun k => ((hs.2 3 (by omega) (by omega)).2.2 k).1.trans (x.2.2 k)⟩
theorem zSc.lo {h h1 : zhp} {N : Nat} {X : Nat → Int32} (x : zSc h N X) (hs : zLo h h1) : zSc h1 N X := ⟨(hs.2 3 (by omega)).1.trans x.1, (hs.2 3 (by omega)).2.1.trans x.2.1, fun k => ((hs.2 3 (by omega)).2.2 k).1.trans (x.2.2 k)⟩
def LI (h : zhp) (N : Nat) (X : Nat → Int32) (B : Nat) : Prop := zSc h N X ∧ ∃ S P PI o c m sv F s a t l p n, CI h S P PI o c m p sv ∧ RI h F s a t l p ∧ zRL S o c m sv F s t l n B ∧ 9999 ≤ B
theorem LI_ref {h : zhp} {N : Nat} {X : Nat → Int32} (hX : zSc h N X) {S : Nat → Nat → Int32} {P PI : Nat → Nat → Nat} {o c m : Nat} {p p2 : Nat → Int32} {sv : Nat → Bool} (x : CI h S P PI o c m p sv) (hM : zMo h) {F s a t l : Nat → Int32} {n B : Nat} (hp : ∀ k, k < m → p2 k = p k) (y : zRL S o c m sv F s t l n B) (hB : 9999 ≤ B) : LI (zm h F s a t l p2) N X B := by
  obtain ⟨hK, hH, hP, hV⟩ := CI_zm x F s a t l p2
  exact ⟨hX.lo (zLo_zm h F s a t l p2), S, P, PI, o, c, m, sv, F, s, a, t, l, p2, n, ⟨hK, hH, ⟨hP.1, hP.2.1, ⟨hP.2.2.1.1, fun k hk => by rw [hp k hk]; exact hP.2.2.1.2 k hk⟩, fun k hk => (hP.2.2.2 k hk).trans (hp k hk).symm⟩, hV⟩, RI_zm hM F s a t l p2, y, hB⟩
theorem MM_post {j : zmi} {av : List Value} {h : zhp} {Q Q2 : Option Value → zhp → Prop} (hM : MM j av h Q) (f : ∀ r h1, Q r h1 → Q2 r h1) : MM j av h Q2 := fun G l => MetFree.mono (hM G l) (fun _ _ x => x) (fun _ _ _ _ _ x => x) (fun a s o t _ x => by
  obtain ⟨⟨r, h1, e, q, z⟩, y⟩ := x
  exact ⟨⟨r, h1, e, f r h1 q, z⟩, y⟩)
/-- both called with the same arguments: they answer alike, and the invariant stands behind the second -/
def ST (j5 j6 : zmi) (av : List Value) (h : zhp) (N : Nat) (X : Nat → Int32) (B : Nat) : Prop := MM j5 (.ref 4 :: av) h (fun r h1 => ∃ e, r = some (.int e) ∧ zSc h1 N X ∧ zT h1 181 = 6 ∧ MM j6 (.ref 181 :: av) h1 (fun r2 h2 => r2 = some (.int e) ∧ LI h2 N X B))
