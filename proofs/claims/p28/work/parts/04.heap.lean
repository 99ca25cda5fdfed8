/-! ROWS OF THE JUDGEMENT THAT TOUCH THE HEAP -/
theorem zu : ∀ ci, ci < 7 → ∀ w ∈ u_ws (zC ci).1 (zC ci).2.1 (zC ci).2.2, w ∈ zW
  | 0, _ => zu0
  | 1, _ => zu1
  | 2, _ => zu5
  | 3, _ => zu3
  | 4, _ => zu4
  | 5, _ => zu5
  | 6, _ => zu5
  | n + 7, h => absurd h (by omega)
theorem ztk : ∀ ci, ci < 7 → ∀ k, k < (zC ci).2.2 → parseFieldDescriptor ((zC ci).2.1 k).2.2.1 = some (zty ci k)
  | 0, _ => tyX0_ok
  | 1, _ => tyX1_ok
  | 2, _ => tyX5_ok
  | 3, _ => tyX3_ok
  | 4, _ => tyX4_ok
  | 5, _ => tyX5_ok
  | 6, _ => tyX5_ok
  | n + 7, h => absurd h (by omega)
theorem znm : ∀ ci, ci < 7 → ∀ a, a < (zC ci).2.2 → ∀ b, b < (zC ci).2.2 → a ≠ b → ((zC ci).2.1 a).2.1 ≠ ((zC ci).2.1 b).2.1
  | 0, _ => nmX0
  | 1, _ => nmX1
  | 2, _ => nmX5
  | 3, _ => nmX3
  | 4, _ => nmX4
  | 5, _ => nmX5
  | 6, _ => nmX5
  | n + 7, h => absurd h (by omega)
/-- a field's link: field k of class ci, under idx in own's pool -/
def zFL (own : String) (idx ci k : Nat) : Prop := ci < 7 ∧ k < (zC ci).2.2 ∧ Cond.fieldLink own idx (zC ci).1 ((zC ci).2.1 k).2.1 ((zC ci).2.1 k).2.2.1 ∈ zW ∧ ((zC ci).2.1 k).1 = (zC ci).1
theorem zapart {s : State} {args : Array Value} (hts : ∀ w ∈ zW, w.before args s = true) {G : zcx} (hK : zKK G s) {ci : Nat} (hc : ci < 7) : ∀ x y, x < (zC ci).2.2 → y < (zC ci).2.2 → x ≠ y → (zD G).2 ci x ≠ (zD G).2 ci y := by
  intro x y hx hy hne
  obtain ⟨hS, -⟩ := hK.1 ci hc
  obtain ⟨_, _, _, fa, hia, ea⟩ := hS x hx
  obtain ⟨_, _, _, fb, hib, eb⟩ := hS y hy
  rw [← ea, ← eb]
  refine u_apart (u_lays hts (zu ci hc) hx) (u_lays hts (zu ci hc) hy) hia hib ?_
  rw [(State.fieldFound?_type hia (ztk ci hc x hx)).1, (State.fieldFound?_type hib (ztk ci hc y hy)).1]
  exact znm ci hc x hx y hy hne
section
variable {G : zcx} {i : zmi} {p : Program} {l : Launch} {e : Env} {R : Room} {s : State} {m : MethodId} {args : Array Value} {below : List Frame} {meth : Method} {c : Code} {H : Heap} {locs : List Loc} {cells slots : Nat} {Qf : State → Prop} {pc : Nat} {ls : Array Slot} {rest : List Value} {h : zhp}
theorem zw_get (F : zFr G i p R s m args meth c) (hH : zHR G s h H) {a ci k idx : Nat} (f : zFL (mY i).cls idx ci k) (ht : zT h a = ci) (d : decode (mC i) pc = .ok (.getfield idx, 3)) (kk : W p l e R s m args below meth c H locs cells slots Qf (F0 m (pc + 3) ls (zfv G h ci a k :: rest))) : W p l e R s m args below meth c H locs cells slots Qf (F0 m pc ls (.ref (zsh G a) :: rest)) := by
  obtain ⟨hx, hb, hml, hown, hts, hNF, hK, -⟩ := F
  obtain ⟨hc, hk, hl, hs⟩ := f
  obtain ⟨-, -, cell, q1, q2, q3, q4⟩ := hH.obj ht hc
  obtain ⟨hS, hfc, kC, hkC, hkind⟩ := hK.1 ci hc
  obtain ⟨cf, kf, fi, fd, hi, hsl⟩ := hS k hk
  refine W.getf hx hb hown (hts _ hl) (by rw [← hs]; exact hi) (u_facts hfc hkC (u_lays hts (zu ci hc) hk) hi).1 q1 (by rw [q3]; exact fun h => by cases h) (v := zfv G h ci a k) ?_ rfl rfl d kk
  rw [hsl, q4 k hk]
theorem zw_put (F : zFr G i p R s m args meth c) (hH : zHR G s h H) {a ci k idx : Nat} {v : Value} {h1 : zhp} (f : zFL (mY i).cls idx ci k) (ht : zT h a = ci) (hfin : ((zC ci).2.1 k).2.2.2 = false) (hn : narrow (zty ci k) v = v) (hfit : fits (zty ci k) v = true) (eN : zN h1 = zN h) (eT : ∀ q, zT h1 q = zT h q) (eL : ∀ q, zL h1 q = zL h q) (eI : ∀ q k, q ≠ a → zI h1 q k = zI h q k) (eR : ∀ q k, q ≠ a → zR h1 q k = zR h q k) (ev : ∀ j, updV (zfv G h ci a) k v j = zfv G h1 ci a j) (d : decode (mC i) pc = .ok (.putfield idx, 3)) (hlo : ∀ q ∈ locs, zB G ≤ q.base)
    (kk : ∀ (H1 : Heap) (locs1 : List Loc), zHR G s h1 H1 → (∀ q ∈ locs1, zB G ≤ q.base) → W p l e R s m args below meth c H1 locs1 cells slots Qf (F0 m (pc + 3) ls rest)) : W p l e R s m args below meth c H locs cells slots Qf (F0 m pc ls (v :: .ref (zsh G a) :: rest)) := by
  obtain ⟨hx, hb, hml, hown, hts, hNF, hK, -⟩ := F
  obtain ⟨hc, hk, hl, hs⟩ := f
  obtain ⟨ha, hnn, cell, q1, q2, q3, q4⟩ := hH.obj ht hc
  have hap := zapart hts hK hc
  obtain ⟨hS, hfc, kC, hkC, hkind⟩ := hK.1 ci hc
  obtain ⟨cf, kf, fi, fd, hi, hsl⟩ := hS k hk
  have hlay := hts _ (zu ci hc _ (u_in_lay hk))
  unfold u_lay at hlay
  rw [if_neg (by rw [hfin]; decide)] at hlay
  have hst := (u_facts hfc hkC (u_lays hts (zu ci hc) hk) hi).1
  have h6 := u_store hfc hkC hkind hlay hi (ztk ci hc k hk) hn hfit
  refine W.putK hx hb (f := fd) ⟨hown, hts _ hl, ⟨_, _, _, by rw [← hs]; exact hi⟩, hst⟩ (by rw [q2]; exact h6) q1 q3 (by rw [hsl]; exact k2_hasslot (q4 k hk)) rfl rfl d fun H1 e1 e2 e3 => ?_
  rw [hsl] at e1 ⊢
  refine kk H1 _ (hH.upd ha hnn eN eT eL eI eR e2 e3 ?_) (fun q hq => ?_)
  · unfold zat
    rw [eT, ht, if_pos hc]
    exact t_OB.to (V := updV (zfv G h ci a) k v) ⟨_, e1, q2, q3, t_set q4 hap hk v⟩ (fun j _ => ev j)
  · rcases List.mem_append.mp hq with z | z
    · exact hlo q z
    · rw [List.mem_singleton.mp z]
      show zB G ≤ zsh G a
      rw [zsh_ge ha]; omega
theorem zw_putF (F : zFr G i p R s m args meth c) (hH : zHR G s h H) {a ci k idx : Nat} {v : Value} {h1 : zhp} (f : zFL (mY i).cls idx ci k) (ht : zT h a = ci) (hfin : ((zC ci).2.1 k).2.2.2 = true) (hin : (mY i).name = "<init>") (hcl : (mY i).cls = (zC ci).1) (hn : narrow (zty ci k) v = v) (hfit : fits (zty ci k) v = true) (eN : zN h1 = zN h) (eT : ∀ q, zT h1 q = zT h q) (eL : ∀ q, zL h1 q = zL h q) (eI : ∀ q k, q ≠ a → zI h1 q k = zI h q k) (eR : ∀ q k, q ≠ a → zR h1 q k = zR h q k) (ev : ∀ j, updV (zfv G h ci a) k v j = zfv G h1 ci a j) (d : decode (mC i) pc = .ok (.putfield idx, 3)) (hlo : ∀ q ∈ locs, zB G ≤ q.base)
    (kk : ∀ (H1 : Heap) (locs1 : List Loc), zHR G s h1 H1 → (∀ q ∈ locs1, zB G ≤ q.base) → W p l e R s m args below meth c H1 locs1 cells slots Qf (F0 m (pc + 3) ls rest)) : W p l e R s m args below meth c H locs cells slots Qf (F0 m pc ls (v :: .ref (zsh G a) :: rest)) := by
  obtain ⟨hx, hb, hml, hown, hts, hNF, hK, hnm, -⟩ := F
  obtain ⟨hc, hk, hl, hs⟩ := f
  obtain ⟨ha, hnn, cell, q1, q2, q3, q4⟩ := hH.obj ht hc
  have hap := zapart hts hK hc
  obtain ⟨hS, hfc, kC, hkC, hkind⟩ := hK.1 ci hc
  obtain ⟨cf, kf, fi, fd, hi, hsl⟩ := hS k hk
  have hlay := hts _ (zu ci hc _ (u_in_lay hk))
  unfold u_lay at hlay
  rw [if_pos hfin] at hlay
  have hst := (u_facts hfc hkC (u_lays hts (zu ci hc) hk) hi).1
  have hcf : m.cls = cf := by
    obtain ⟨_, _, c', _, _, _, -, -, hf', -, -, -, hown2, -⟩ := Cond.laysFinal_spec hlay
    have e1 : c' = cf := by have := hi.symm.trans hf'; simp at this; exact this.1.symm
    rw [hs, ← hcl] at hown2
    rw [← e1]; exact Option.some.inj (hown.symm.trans hown2)
  have h6 := u_fits hfc hkC hkind (Or.inr hlay) hi (ztk ci hc k hk) hn hfit
  refine W.putFinK hx hb hown (hts _ hl) (by rw [← hs]; exact hi) hst hcf (hnm.trans hin) (by rw [q2]; exact h6) q1 q3 (by rw [hsl]; exact k2_hasslot (q4 k hk)) rfl rfl d fun H1 e1 e2 e3 => ?_
  rw [hsl] at e1 ⊢
  refine kk H1 _ (hH.upd ha hnn eN eT eL eI eR e2 e3 ?_) (fun q hq => ?_)
  · unfold zat
    rw [eT, ht, if_pos hc]
    exact t_OB.to (V := updV (zfv G h ci a) k v) ⟨_, e1, q2, q3, t_set q4 hap hk v⟩ (fun j _ => ev j)
  · rcases List.mem_append.mp hq with z | z
    · exact hlo q z
    · rw [List.mem_singleton.mp z]
      show zB G ≤ zsh G a
      rw [zsh_ge ha]; omega
end
theorem zfv_i {G : zcx} {h : zhp} {ci a k : Nat} (hr : zisR (zty ci k) = false) : zfv G h ci a k = .int (zI h a k) := by
  unfold zfv
  rw [hr]; rfl
theorem zfv_r {G : zcx} {h : zhp} {ci a k : Nat} (hr : zisR (zty ci k) = true) : zfv G h ci a k = va_rf ((zR h a k).map (zsh G)) := by
  unfold zfv
  rw [hr]; rfl
theorem zupd_i {G : zcx} {h : zhp} {ci a k : Nat} {v : Int32} (hr : zisR (zty ci k) = false) (j : Nat) : updV (zfv G h ci a) k (.int v) j = zfv G (zsI h a k v) ci a j := by
  unfold updV
  by_cases hj : j = k
  · subst hj
    rw [if_pos rfl, zfv_i hr]
    show _ = Value.int (if a = a ∧ j = j then v else _)
    rw [if_pos ⟨rfl, rfl⟩]
  · rw [if_neg hj]
    unfold zfv
    have e1 : zI (zsI h a k v) a j = zI h a j := if_neg (fun q => hj q.2)
    rw [e1]; rfl
theorem zupd_r {G : zcx} {h : zhp} {ci a k : Nat} {v : Option Nat} (hr : zisR (zty ci k) = true) (j : Nat) : updV (zfv G h ci a) k (va_rf (v.map (zsh G))) j = zfv G (zsR h a k v) ci a j := by
  unfold updV
  by_cases hj : j = k
  · subst hj
    rw [if_pos rfl, zfv_r hr]
    show _ = va_rf ((if a = a ∧ j = j then v else _).map (zsh G))
    rw [if_pos ⟨rfl, rfl⟩]
  · rw [if_neg hj]
    unfold zfv
    have e1 : zR (zsR h a k v) a j = zR h a j := if_neg (fun q => hj q.2)
    rw [e1]; rfl
theorem zrf_nar {t : FieldType} {v : Option Nat} (hr : zisR t = true) : narrow t (va_rf v) = va_rf v ∧ fits t (va_rf v) = true := by
  cases t <;> first | (cases hr; done) | (cases v <;> exact ⟨rfl, rfl⟩)
section
variable {i : zmi} {pc : Nat} {L : List (Option Value)} {st : List Value} {h : zhp} {cc sc : Nat} {Q : Option Value → zhp → Prop}
theorem tt_getI {a ci k idx : Nat} (d : decode (mC i) pc = .ok (.getfield idx, 3)) (f : zFL (mY i).cls idx ci k) (hr : zisR (zty ci k) = false) (ht : zT h a = ci) (kt : TT i (pc + 3) L (.int (zI h a k) :: st) h cc sc Q) : TT i pc L (.ref a :: st) h cc sc Q :=
  kt.w fun G p l e R s m args below meth c ls H locs Qf F hl hH kk => zw_get F hH f ht d (by rw [zfv_i hr]; exact kk)
theorem tt_getR {a ci k idx b : Nat} (d : decode (mC i) pc = .ok (.getfield idx, 3)) (f : zFL (mY i).cls idx ci k) (hr : zisR (zty ci k) = true) (ht : zT h a = ci) (hb : zR h a k = some b) (kt : TT i (pc + 3) L (.ref b :: st) h cc sc Q) : TT i pc L (.ref a :: st) h cc sc Q :=
  kt.w fun G p l e R s m args below meth c ls H locs Qf F hl hH kk => zw_get F hH f ht d (by rw [zfv_r hr, hb]; exact kk)
theorem tt_putI {a ci k idx : Nat} {v : Int32} (d : decode (mC i) pc = .ok (.putfield idx, 3)) (f : zFL (mY i).cls idx ci k) (hr : zisR (zty ci k) = false) (hn : narrow (zty ci k) (.int v) = .int v) (hf : fits (zty ci k) (.int v) = true) (hfin : ((zC ci).2.1 k).2.2.2 = false) (ht : zT h a = ci) (kt : TT i (pc + 3) L st (zsI h a k v) cc sc Q) : TT i pc L (.int v :: .ref a :: st) h cc sc Q := by
  intro G p l e R s m args below meth c ls H locs Qf F hl hH hlo K
  exact zw_put (h1 := zsI h a k v) F hH f ht hfin hn hf rfl (fun _ => rfl) (fun _ => rfl) (fun q j hq => if_neg (fun z => hq z.1)) (fun _ _ _ => rfl) (zupd_i hr) d hlo (fun H1 locs1 hH1 hlo1 => kt G p l e R s m args below meth c ls H1 locs1 Qf F hl hH1 hlo1 K)
theorem tt_putR {a ci k idx b : Nat} (d : decode (mC i) pc = .ok (.putfield idx, 3)) (f : zFL (mY i).cls idx ci k) (hr : zisR (zty ci k) = true) (hfin : ((zC ci).2.1 k).2.2.2 = false) (ht : zT h a = ci) (kt : TT i (pc + 3) L st (zsR h a k (some b)) cc sc Q) : TT i pc L (.ref b :: .ref a :: st) h cc sc Q := by
  intro G p l e R s m args below meth c ls H locs Qf F hl hH hlo K
  exact zw_put (h1 := zsR h a k (some b)) (v := va_rf ((some b).map (zsh G))) F hH f ht hfin (zrf_nar hr).1 (zrf_nar hr).2 rfl (fun _ => rfl) (fun _ => rfl) (fun _ _ _ => rfl) (fun q j hq => if_neg (fun z => hq z.1)) (zupd_r hr) d hlo (fun H1 locs1 hH1 hlo1 => kt G p l e R s m args below meth c ls H1 locs1 Qf F hl hH1 hlo1 K)
theorem tt_putRF {a ci k idx b : Nat} (d : decode (mC i) pc = .ok (.putfield idx, 3)) (f : zFL (mY i).cls idx ci k) (hr : zisR (zty ci k) = true) (hfin : ((zC ci).2.1 k).2.2.2 = true) (hin : (mY i).name = "<init>") (hcl : (mY i).cls = (zC ci).1) (ht : zT h a = ci) (kt : TT i (pc + 3) L st (zsR h a k (some b)) cc sc Q) : TT i pc L (.ref b :: .ref a :: st) h cc sc Q := by
  intro G p l e R s m args below meth c ls H locs Qf F hl hH hlo K
  exact zw_putF (h1 := zsR h a k (some b)) (v := va_rf ((some b).map (zsh G))) F hH f ht hfin hin hcl (zrf_nar hr).1 (zrf_nar hr).2 rfl (fun _ => rfl) (fun _ => rfl) (fun _ _ _ => rfl) (fun q j hq => if_neg (fun z => hq z.1)) (zupd_r hr) d hlo (fun H1 locs1 hH1 hlo1 => kt G p l e R s m args below meth c ls H1 locs1 Qf F hl hH1 hlo1 K)
/-! arrays -/
theorem tt_iald {a : Nat} {j : Int32} (d : decode (mC i) pc = .ok (.iaload, 1)) (ht : zT h a = 7) (hin : vp_in j (zL h a)) (kt : TT i (pc + 1) L (.int (zI h a j.toNatClampNeg) :: st) h cc sc Q) : TT i pc L (.int j :: .ref a :: st) h cc sc Q :=
  kt.w fun G p l e R s m args below meth c ls H locs Qf F hl hH kk => by
    have hlt : j.toNatClampNeg < zL h a := Nat.not_le.mp fun q => hin (Or.inr q)
    rcases Nat.lt_or_ge a 4 with ha | ha
    · obtain ⟨h1, h2, cell, h3, h4, h5, h6, h7, -⟩ := hH.2.2.2.1 a ha
      exact W.iald (v := .int (zI h a j.toNatClampNeg)) F.1 F.2.1 (by rw [zsh_lt ha]; exact h3) h4 h5 (by rw [h6]; exact hin) (h7 _ hlt) rfl rfl d kk
    · have hc := (hH.arr ht (by omega) (by omega) ha).2
      rw [zar_i ht (by omega)] at hc
      exact W.iald (v := .int (zI h a j.toNatClampNeg)) F.1 F.2.1 hc ((F.2.2.2.2.2.2.1.2 7 (by omega) (by omega)).1 (zL h a) (fun j => .int (zI h a j))) (fun q => by cases q) (by show ¬ (j < 0 ∨ (arrV _ _ _).slots.size ≤ _); rw [arrV_size]; exact hin) (by show (arrV _ _ _).slots[_]? = _; rw [arrV_read _ _ hlt]) rfl rfl d kk
theorem tt_zald {a : Nat} {j : Int32} (d : decode (mC i) pc = .ok (.baload, 1)) (ht : zT h a = 8) (ha : 4 ≤ a) (hin : vp_in j (zL h a)) (kt : TT i (pc + 1) L (.int (zI h a j.toNatClampNeg) :: st) h cc sc Q) : TT i pc L (.int j :: .ref a :: st) h cc sc Q :=
  kt.w fun G p l e R s m args below meth c ls H locs Qf F hl hH kk => by
    have hlt : j.toNatClampNeg < zL h a := Nat.not_le.mp fun q => hin (Or.inr q)
    have hc := (hH.arr ht (by omega) (by omega) ha).2
    rw [zar_i ht (by omega)] at hc
    exact W.zald (v := .int (zI h a j.toNatClampNeg)) F.1 F.2.1 hc ((F.2.2.2.2.2.2.1.2 8 (by omega) (by omega)).1 (zL h a) (fun j => .int (zI h a j))) (fun q => by cases q) (by show ¬ (j < 0 ∨ (arrV _ _ _).slots.size ≤ _); rw [arrV_size]; exact hin) (by show (arrV _ _ _).slots[_]? = _; rw [arrV_read _ _ hlt]) rfl rfl d kk
theorem tt_cald {a : Nat} {j : Int32} (d : decode (mC i) pc = .ok (.caload, 1)) (ht : zT h a = 9) (ha : 4 ≤ a) (hin : vp_in j (zL h a)) (kt : TT i (pc + 1) L (.int (zI h a j.toNatClampNeg) :: st) h cc sc Q) : TT i pc L (.int j :: .ref a :: st) h cc sc Q :=
  kt.w fun G p l e R s m args below meth c ls H locs Qf F hl hH kk => by
    have hlt : j.toNatClampNeg < zL h a := Nat.not_le.mp fun q => hin (Or.inr q)
    have hc := (hH.arr ht (by omega) (by omega) ha).2
    rw [zar_i ht (by omega)] at hc
    exact W.cald (v := .int (zI h a j.toNatClampNeg)) F.1 F.2.1 hc ((F.2.2.2.2.2.2.1.2 9 (by omega) (by omega)).1 (zL h a) (fun j => .int (zI h a j))) (fun q => by cases q) (by show ¬ (j < 0 ∨ (arrV _ _ _).slots.size ≤ _); rw [arrV_size]; exact hin) (by show (arrV _ _ _).slots[_]? = _; rw [arrV_read _ _ hlt]) rfl rfl d kk
theorem tt_aald {a b t : Nat} {j : Int32} (d : decode (mC i) pc = .ok (.aaload, 1)) (ht : zT h a = t) (h10 : t = 10 ∨ t = 11) (ha : 4 ≤ a) (hin : vp_in j (zL h a)) (hb : zR h a j.toNatClampNeg = some b) (kt : TT i (pc + 1) L (.ref b :: st) h cc sc Q) : TT i pc L (.int j :: .ref a :: st) h cc sc Q :=
  kt.w fun G p l e R s m args below meth c ls H locs Qf F hl hH kk => by
    have hlt : j.toNatClampNeg < zL h a := Nat.not_le.mp fun q => hin (Or.inr q)
    have hc := (hH.arr ht (by omega) (by omega) ha).2
    rw [zar_r ht (by omega)] at hc
    have hA := (F.2.2.2.2.2.2.1.2 t (by omega) (by omega)).1 (zL h a) (fun j => va_rf ((zR h a j).map (zsh G)))
    have hv : (arrV (zK G t) (zL h a) (fun j => va_rf ((zR h a j).map (zsh G)))).slots[j.toNatClampNeg]? = some (.ref (zsh G b)) := by
      rw [arrV_read _ _ hlt, hb]; rfl
    rcases h10 with z | z <;> subst z
    · exact W.aald (v := .ref (zsh G b)) (ty := .object RX4) F.1 F.2.1 hc hA rfl (fun q => by cases q) (by show ¬ (j < 0 ∨ (arrV _ _ _).slots.size ≤ _); rw [arrV_size]; exact hin) hv rfl rfl d kk
    · exact W.aald (v := .ref (zsh G b)) (ty := .object RX3) F.1 F.2.1 hc hA rfl (fun q => by cases q) (by show ¬ (j < 0 ∨ (arrV _ _ _).slots.size ≤ _); rw [arrV_size]; exact hin) hv rfl rfl d kk
end
