/-! THE ABSTRACT HEAP AND ITS JUDGEMENTS. A heap: the next cell, and by cell its tag (0 to 6: an object of vwCl's class; 7 int[], 8 boolean[], 9 char[], 10 Town[], 11 Skip[]; 12: no cell), an array's length, its ints and its references by field or index. Cells 0 to 2: the static arrays, 3: the law's script; made cells from 4 on. -/
abbrev zhp : Type := Nat × (Nat → Nat) × (Nat → Nat) × (Nat → Nat → Int32) × (Nat → Nat → Option Nat)
def zN (h : zhp) : Nat := h.1
def zT (h : zhp) (a : Nat) : Nat := h.2.1 a
def zL (h : zhp) (a : Nat) : Nat := h.2.2.1 a
def zI (h : zhp) (a k : Nat) : Int32 := h.2.2.2.1 a k
def zR (h : zhp) (a k : Nat) : Option Nat := h.2.2.2.2 a k
def zsI (h : zhp) (a k : Nat) (v : Int32) : zhp := (h.1, h.2.1, h.2.2.1, fun x j => if x = a ∧ j = k then v else h.2.2.2.1 x j, h.2.2.2.2)
def zsR (h : zhp) (a k : Nat) (v : Option Nat) : zhp := (h.1, h.2.1, h.2.2.1, h.2.2.2.1, fun x j => if x = a ∧ j = k then v else h.2.2.2.2 x j)
def zcp (h : zhp) (a : Nat) (f : Nat → Int32) : zhp := (h.1, h.2.1, h.2.2.1, fun x j => if x = a then f j else h.2.2.2.1 x j, h.2.2.2.2)
def znw (h : zhp) (t n : Nat) (f : Nat → Int32) : zhp := (h.1 + 1, fun x => if x = h.1 then t else h.2.1 x, fun x => if x = h.1 then n else h.2.2.1 x, fun x j => if x = h.1 then f j else h.2.2.2.1 x j, fun x j => if x = h.1 then none else h.2.2.2.2 x j)
/-- the launch's class numbers and slots; the array classes by tag; where the made cells begin; where cells 0 to 3 lie -/
abbrev zcx : Type := va_G × (Nat → ClassId) × Nat × (Nat → Nat)
def zD (G : zcx) : va_G := G.1
def zK (G : zcx) : Nat → ClassId := G.2.1
def zB (G : zcx) : Nat := G.2.2.1
def zE (G : zcx) : Nat → Nat := G.2.2.2
def zsh (G : zcx) (a : Nat) : Nat := if a < 4 then zE G a else zB G + (a - 4)
def zV (G : zcx) (v : Value) : Value := match v with
  | .ref a => .ref (zsh G a)
  | w => w
def zC (ci : Nat) : vw_C := match ci with
  | 0 => (RX0, TX0, 3)
  | 1 => (RX1, TX1, 2)
  | 2 => (RX5, TX5, 5)
  | 3 => (RX3, TX3, 10)
  | 4 => (RX4, TX4, 10)
  | 5 => (RX5, TX5, 5)
  | _ => (RX5, TX5, 5)
def zty (ci k : Nat) : FieldType := match ci with
  | 0 => tyX0 k
  | 1 => tyX1 k
  | 2 => tyX5 k
  | 3 => tyX3 k
  | 4 => tyX4 k
  | 5 => tyX5 k
  | _ => tyX5 k
def zisR (t : FieldType) : Bool := match t with
  | .object _ => true
  | .array _ => true
  | _ => false
def zaT (t : Nat) : FieldType := match t with
  | 7 => .int
  | 8 => .boolean
  | 9 => .char
  | 10 => .object RX4
  | _ => .object RX3
def zst (j : Nat) : String := match j with
  | 0 => "FIRST_VALUES"
  | 1 => "LOWEST_VALUES"
  | _ => "HIGHEST_VALUES"
def zfv (G : zcx) (h : zhp) (ci a k : Nat) : Value := if zisR (zty ci k) = true then va_rf ((zR h a k).map (zsh G)) else .int (zI h a k)
def zar (G : zcx) (h : zhp) (a : Nat) : vp_A := if zT h a < 10 then (zL h a, .inl (zI h a)) else (zL h a, .inr (.inr (.inr (.inr (fun k => (zR h a k).map (zsh G))))))
def zat (G : zcx) (h : zhp) (a : Nat) (H : Heap) : Prop := if zT h a < 7 then t_OB (zsh G a) ((zD G).1 (zT h a)) (zC (zT h a)).2.2 ((zD G).2 (zT h a)) H (zfv G h (zT h a) a) else H[zsh G a]? = some (vp_cell (zK G (zT h a)) (zar G h a))
def zKK (G : zcx) (U : State) : Prop := (∀ ci, ci < 7 → u_Kn U (zC ci).1 (zC ci).2.1 (zC ci).2.2 ((zD G).1 ci) ((zD G).2 ci)) ∧ ∀ t, 7 ≤ t → t < 12 → ArrOfT U (zK G t) (zaT t) ∧ va_RA U (zK G t) (zaT t)
theorem zKK.moved {G : zcx} {u U : State} (hvm : u.vm.Alike U.vm) (h : zKK G u) : zKK G U := ⟨fun ci hc => u_Kn_moved hvm (h.1 ci hc), fun t h1 h2 => ⟨arrOfT_moved hvm (h.2 t h1 h2).1, (h.2 t h1 h2).2.moved hvm⟩⟩
def zHR (G : zcx) (U : State) (h : zhp) (H : Heap) : Prop :=
  H.size + 4 = zB G + zN h ∧ 4 ≤ zN h ∧ (∀ a, zN h ≤ a → zT h a = 12) ∧
  (∀ a, a < 4 → zE G a < zB G ∧ zT h a = 7 ∧ ∃ cell : Cell, H[zE G a]? = some cell ∧ U.isArrayOf cell .int ∧ cell.vm ≠ .unknown ∧ cell.slots.size = zL h a ∧ (∀ k, k < zL h a → cell.slots[k]? = some (.int (zI h a k))) ∧ (a < 3 → cell.cls = zK G 7)) ∧
  (∀ a, 4 ≤ a → a < zN h → zT h a < 12 ∧ zat G h a H) ∧
  (∀ j, j < 3 → va_Z "SkipPermits" (zst j) "[I" (.ref (zE G j)) (fun q => zB G ≤ q) U H)
theorem zHR.moved {G : zcx} {u U : State} {h : zhp} {H : Heap} (hvm : u.vm.Alike U.vm) (x : zHR G u h H) : zHR G U h H := by
  obtain ⟨h1, h2, h3, h4, h5, h6⟩ := x
  refine ⟨h1, h2, h3, fun a ha => ?_, h5, fun j hj => (h6 j hj).moved hvm⟩
  obtain ⟨q1, q2, cell, q3, q4, q5⟩ := h4 a ha
  exact ⟨q1, q2, cell, q3, State.isArrayOf_alike hvm q4, q5⟩
theorem zsh_ge {G : zcx} {a : Nat} (ha : 4 ≤ a) : zsh G a = zB G + (a - 4) := by
  unfold zsh
  rw [if_neg (by omega)]
theorem zsh_lt {G : zcx} {a : Nat} (ha : a < 4) : zsh G a = zE G a := by
  unfold zsh
  rw [if_pos ha]
theorem zat.kept {G : zcx} {h h' : zhp} {a : Nat} {H H' : Heap} (x : zat G h a H) (ht : zT h' a = zT h a) (hl : zL h' a = zL h a) (hi : ∀ k, zI h' a k = zI h a k) (hr : ∀ k, zR h' a k = zR h a k) (hH : H'[zsh G a]? = H[zsh G a]?) : zat G h' a H' := by
  have hi' : zI h' a = zI h a := funext hi
  have hr' : zR h' a = zR h a := funext hr
  have e1 : ∀ ci, zfv G h' ci a = zfv G h ci a := fun ci => by
    funext k
    unfold zfv
    rw [hi, hr]
  have e2 : zar G h' a = zar G h a := by
    unfold zar
    rw [ht, hl, hi', hr']
  unfold zat at x ⊢
  rw [ht]
  by_cases hc : zT h a < 7
  · rw [if_pos hc] at x ⊢
    rw [e1]
    exact x.kept hH
  · rw [if_neg hc] at x ⊢
    rw [hH, e2]
    exact x
/-- one made cell is written -/
theorem zHR.upd {G : zcx} {U : State} {h h' : zhp} {H H' : Heap} (x : zHR G U h H) {a : Nat} (ha : 4 ≤ a) (hn : a < zN h) (eN : zN h' = zN h) (eT : ∀ q, zT h' q = zT h q) (eL : ∀ q, zL h' q = zL h q) (eI : ∀ q k, q ≠ a → zI h' q k = zI h q k) (eR : ∀ q k, q ≠ a → zR h' q k = zR h q k) (hz : H'.size = H.size) (ho : ∀ q, q ≠ zsh G a → H'[q]? = H[q]?) (hat : zat G h' a H') : zHR G U h' H' := by
  obtain ⟨h1, h2, h3, h4, h5, h6⟩ := x
  have hb : zB G ≤ zsh G a := by rw [zsh_ge ha]; omega
  refine ⟨by rw [hz, eN]; exact h1, by rw [eN]; exact h2, fun q hq => by rw [eT]; exact h3 q (by rw [← eN]; exact hq), fun q hq => ?_, fun q hq1 hq2 => ?_, fun j hj => ?_⟩
  · obtain ⟨q1, q2, cell, q3, q4, q5, q6, q7, q8⟩ := h4 q hq
    have hne : q ≠ a := by omega
    exact ⟨q1, by rw [eT]; exact q2, cell, by rw [ho _ (by omega)]; exact q3, q4, q5, by rw [eL]; exact q6, fun k hk => by rw [eI q k hne]; exact q7 k (by rw [← eL q]; exact hk), q8⟩
  · refine ⟨by rw [eT]; exact (h5 q hq1 (by rw [← eN]; exact hq2)).1, ?_⟩
    by_cases hqa : q = a
    · subst hqa; exact hat
    · exact (h5 q hq1 (by rw [← eN]; exact hq2)).2.kept (eT q) (eL q) (fun k => eI q k hqa) (fun k => eR q k hqa) (ho _ (by rw [zsh_ge hq1, zsh_ge ha]; omega))
  · obtain ⟨cf, kf, fi, f, a1, cell, z1, z2, z3, z4, z5, z6, z7, z8⟩ := h6 j hj
    have hlt : a1 < zB G := Nat.not_le.mp z8
    exact ⟨cf, kf, fi, f, a1, cell, z1, z2, z3, z4, by rw [ho _ (by omega)]; exact z5, z6, z7, z8⟩
/-- one cell is made -/
theorem zHR.push {G : zcx} {U : State} {h : zhp} {H H' : Heap} (x : zHR G U h H) {t n : Nat} {f : Nat → Int32} (ht : t < 12) (hz : H'.size = H.size + 1) (ho : ∀ q, q < H.size → H'[q]? = H[q]?) (hat : zat G (znw h t n f) (zN h) H') : zHR G U (znw h t n f) H' := by
  obtain ⟨h1, h2, h3, h4, h5, h6⟩ := x
  have hN : zN (znw h t n f) = zN h + 1 := rfl
  have hT : ∀ q, q ≠ zN h → zT (znw h t n f) q = zT h q := fun q hq => if_neg hq
  have hL : ∀ q, q ≠ zN h → zL (znw h t n f) q = zL h q := fun q hq => if_neg hq
  have hI : ∀ q k, q ≠ zN h → zI (znw h t n f) q k = zI h q k := fun q k hq => if_neg hq
  have hR : ∀ q k, q ≠ zN h → zR (znw h t n f) q k = zR h q k := fun q k hq => if_neg hq
  refine ⟨by rw [hz, hN]; omega, by rw [hN]; omega, fun q hq => by rw [hT q (by omega)]; exact h3 q (by omega), fun q hq => ?_, fun q hq1 hq2 => ?_, fun j hj => ?_⟩
  · obtain ⟨q1, q2, cell, q3, q4, q5, q6, q7, q8⟩ := h4 q hq
    have hne : q ≠ zN h := by omega
    exact ⟨q1, by rw [hT q hne]; exact q2, cell, by rw [ho _ (by omega)]; exact q3, q4, q5, by rw [hL q hne]; exact q6, fun k hk => by rw [hI q k hne]; exact q7 k (by rw [← hL q hne]; exact hk), q8⟩
  · by_cases hqa : q = zN h
    · subst hqa
      exact ⟨by show (if zN h = zN h then t else _) < 12; rw [if_pos rfl]; exact ht, hat⟩
    · have hq3 : q < zN h := by omega
      refine ⟨by rw [hT q hqa]; exact (h5 q hq1 hq3).1, ?_⟩
      exact (h5 q hq1 hq3).2.kept (hT q hqa) (hL q hqa) (fun k => hI q k hqa) (fun k => hR q k hqa) (ho _ (by rw [zsh_ge hq1]; omega))
  · obtain ⟨cf, kf, fi, f, a1, cell, z1, z2, z3, z4, z5, z6, z7, z8⟩ := h6 j hj
    have hlt : a1 < zB G := Nat.not_le.mp z8
    exact ⟨cf, kf, fi, f, a1, cell, z1, z2, z3, z4, by rw [ho _ (by omega)]; exact z5, z6, z7, z8⟩
/-- what an object's tag tells -/
theorem zHR.obj {G : zcx} {U : State} {h : zhp} {H : Heap} (x : zHR G U h H) {a ci : Nat} (ht : zT h a = ci) (hc : ci < 7) : 4 ≤ a ∧ a < zN h ∧ t_OB (zsh G a) ((zD G).1 ci) (zC ci).2.2 ((zD G).2 ci) H (zfv G h ci a) := by
  obtain ⟨h1, h2, h3, h4, h5, h6⟩ := x
  have ha : 4 ≤ a := by
    rcases Nat.lt_or_ge a 4 with q | q
    · have := (h4 a q).2.1; omega
    · exact q
  have hn : a < zN h := by
    rcases Nat.lt_or_ge a (zN h) with q | q
    · exact q
    · have := h3 a q; omega
  have h7 := (h5 a ha hn).2
  unfold zat at h7
  rw [ht, if_pos hc] at h7
  exact ⟨ha, hn, h7⟩
theorem zHR.arr {G : zcx} {U : State} {h : zhp} {H : Heap} (x : zHR G U h H) {a t : Nat} (ht : zT h a = t) (h7 : 7 ≤ t) (h12 : t < 12) (ha : 4 ≤ a) : a < zN h ∧ H[zsh G a]? = some (vp_cell (zK G t) (zar G h a)) := by
  obtain ⟨h1, h2, h3, h4, h5, h6⟩ := x
  have hn : a < zN h := by
    rcases Nat.lt_or_ge a (zN h) with q | q
    · exact q
    · have := h3 a q; omega
  have h8 := (h5 a ha hn).2
  unfold zat at h8
  rw [ht, if_neg (by omega)] at h8
  exact ⟨hn, h8⟩
theorem zar_i {G : zcx} {h : zhp} {a t : Nat} (ht : zT h a = t) (h10 : t < 10) : zar G h a = (zL h a, .inl (zI h a)) := by
  unfold zar
  rw [ht, if_pos h10]
theorem zar_r {G : zcx} {h : zhp} {a t : Nat} (ht : zT h a = t) (h10 : 10 ≤ t) : zar G h a = (zL h a, .inr (.inr (.inr (.inr (fun k => (zR h a k).map (zsh G)))))) := by
  unfold zar
  rw [ht, if_neg (by omega)]
/-! the words of the state that are no tables' words -/
def zNF (U : State) : Prop :=
  va_Nw (.methodLinkNest RX4 41 yX3_init RX5) U ∧ va_Nw (.methodLinkNest RX5 25 yX1_init RX5) U ∧ va_Nw (.methodLinkNest RX4 65 yX5_isWithin RX5) U ∧ True ∧ va_Nw (.methodLinkNest RX4 206 yX5_sumOf RX5) U ∧ True ∧
  va_Nw (.fieldLinkNest RX4 9 RX5 "FIRST_VALUES" "[I" RX5) U ∧ va_Nw (.fieldLinkNest RX4 69 RX5 "LOWEST_VALUES" "[I" RX5) U ∧ va_Nw (.fieldLinkNest RX4 72 RX5 "HIGHEST_VALUES" "[I" RX5) U ∧ va_Nw (.castable "[I" "java/lang/Cloneable") U ∧ va_AO RX4 U ∧ va_AO RX3 U
theorem zNF.warm {s U : State} (hW : s.WarmedH U.vm) (h : zNF s) : zNF U := by
  obtain ⟨a1, a2, a3, a4, a5, a6, a7, a8, a9, a10, a11, a12⟩ := h
  exact ⟨va_Nw.warmM hW a1, va_Nw.warmM hW a2, va_Nw.warmM hW a3, trivial, va_Nw.warmM hW a5, trivial, va_Nw.warmF hW a7, va_Nw.warmF hW a8, va_Nw.warmF hW a9, va_Nw.warmC hW a10, a11.moved hW.alike, a12.moved hW.alike⟩
theorem zNF.same {s U : State} (e : s.vm = U.vm) (h : zNF s) : zNF U := by
  obtain ⟨a1, a2, a3, a4, a5, a6, a7, a8, a9, a10, a11, a12⟩ := h
  exact ⟨va_Nw.same rfl e a1, va_Nw.same rfl e a2, va_Nw.same rfl e a3, trivial, va_Nw.same rfl e a5, trivial, va_Nw.same rfl e a7, va_Nw.same rfl e a8, va_Nw.same rfl e a9, va_Nw.same rfl e a10, a11.moved (by rw [e]; exact Vm.Alike.refl _), a12.moved (by rw [e]; exact Vm.Alike.refl _)⟩
/-! locals: a list by number -/
def zlv (G : zcx) (L : List (Option Value)) : List (Nat × Value) := (List.range L.length).filterMap (fun i => match L[i]? with
  | some (some v) => some (i, zV G v)
  | _ => none)
theorem zlv_mem {G : zcx} {L : List (Option Value)} {q : Nat × Value} : q ∈ zlv G L ↔ ∃ v, L[q.1]? = some (some v) ∧ q.2 = zV G v := by
  unfold zlv
  rw [List.mem_filterMap]
  constructor
  · rintro ⟨i, hi, h⟩
    split at h
    · next v hv => cases h; exact ⟨v, hv, rfl⟩
    · cases h
  · rintro ⟨v, h1, h2⟩
    refine ⟨q.1, List.mem_range.mpr (List.getElem?_eq_some_iff.mp h1).1, ?_⟩
    rw [h1]
    show some (q.1, zV G v) = some q
    rw [← h2]
def zLR (G : zcx) (n : Nat) (ls : Array Slot) (L : List (Option Value)) : Prop := lv_has ls n (zlv G L)
theorem zLR.at {G : zcx} {n : Nat} {ls : Array Slot} {L : List (Option Value)} (h : zLR G n ls L) {i : Nat} {v : Value} (hi : L[i]? = some (some v)) : ls[i]? = some (.val (zV G v)) := h.2.2 (i, zV G v) (zlv_mem.mpr ⟨v, hi, rfl⟩)
theorem zV_cat (G : zcx) (v : Value) : (zV G v).category = v.category := by cases v <;> rfl
/-- the cell before isn't a long's -/
def zok (L : List (Option Value)) (i : Nat) : Bool := match i with
  | 0 => true
  | j + 1 => match L[j]? with
    | some (some (.long _)) => false
    | some (some (.double _)) => false
    | _ => true
theorem zLR.set {G : zcx} {n : Nat} {ls : Array Slot} {L : List (Option Value)} {i : Nat} {v : Value} (h : lv_has ls n ((i, zV G v) :: (zlv G L).filter (fun q => !(q.1 == i) && !(q.1 + 1 == i && q.2.category == 2)))) (hk : zok L i = true) : zLR G n ls (L.set i (some v)) := by
  refine ⟨h.1, h.2.1, fun q hq => h.2.2 q ?_⟩
  obtain ⟨u, h1, h2⟩ := zlv_mem.mp hq
  by_cases hqi : q.1 = i
  · have hlt : i < L.length := by
      have := (List.getElem?_eq_some_iff.mp h1).1
      rw [List.length_set] at this
      omega
    rw [hqi, List.getElem?_set_self hlt] at h1
    cases h1
    have : q = (i, zV G v) := by rw [← hqi, ← h2]
    rw [this]
    exact List.mem_cons_self
  · rw [List.getElem?_set_ne (Ne.symm hqi)] at h1
    refine List.mem_cons_of_mem _ (List.mem_filter.mpr ⟨zlv_mem.mpr ⟨u, h1, h2⟩, ?_⟩)
    have e1 : (q.1 == i) = false := by simpa using hqi
    rw [e1]
    by_cases hq1 : q.1 + 1 = i
    · have hc : u.category ≠ 2 := by
        subst hq1
        simp only [zok, h1] at hk
        cases u <;> first | (intro hh; cases hh; done) | (simp at hk; done)
      rw [h2, zV_cat]
      simp [hc]
    · have e2 : (q.1 + 1 == i) = false := by simpa using hq1
      rw [e2]; rfl
/-! the judgement: a method's row (name, code, locals, what it returns, its height, the cells and slots that it makes at most) -/
abbrev zmi : Type := MethodName × ByteArray × Nat × Option FieldType × Nat × Nat × Nat
def mY (i : zmi) : MethodName := i.1
def mC (i : zmi) : ByteArray := i.2.1
def mL (i : zmi) : Nat := i.2.2.1
def mR (i : zmi) : Option FieldType := i.2.2.2.1
def mH (i : zmi) : Nat := i.2.2.2.2.1
def mA (i : zmi) : Nat := i.2.2.2.2.2.1
def mS (i : zmi) : Nat := i.2.2.2.2.2.2
def zFr (G : zcx) (i : zmi) (p : Program) (R : Room) (s : State) (m : MethodId) (args : Array Value) (meth : Method) (c : Code) : Prop :=
  p.tables.exec = Jvm.exec ∧ c.code = mC i ∧ c.maxLocals = mL i ∧ s.vm.findClass (mY i).cls = some m.cls ∧ (∀ w ∈ zW, w.before args s = true) ∧ zNF s ∧ zKK G s ∧ meth.name = (mY i).name ∧ mH i ≤ R.frames ∧ 36 * mH i ≤ R.locals ∧ mA i ≤ R.cells ∧ mS i ≤ R.slots
def zRD (i : zmi) (pc : Nat) (r : Option Value) : Prop := match r with
  | none => decode (mC i) pc = .ok (.return_, 1) ∧ mR i = none
  | some v => match v with
    | .int x => decode (mC i) pc = .ok (.ireturn, 1) ∧ ∃ ty, mR i = some ty ∧ narrow ty (.int x) = .int x
    | w => decode (mC i) pc = .ok (.areturn, 1) ∧ (w = .null ∨ ∃ a, w = .ref a) ∧ ∃ n, mR i = some (.object n)
def TT (i : zmi) (pc : Nat) (L : List (Option Value)) (st : List Value) (h : zhp) (cc sc : Nat) (Q : Option Value → zhp → Prop) : Prop :=
  ∀ (G : zcx) (p : Program) (l : Launch) (e : Env) (R : Room) (s : State) (m : MethodId) (args : Array Value) (below : List Frame) (meth : Method) (c : Code) (ls : Array Slot) (H : Heap) (locs : List Loc) (Qf : State → Prop),
    zFr G i p R s m args meth c → zLR G (mL i) ls L → zHR G s h H → (∀ q ∈ locs, zB G ≤ q.base) →
    (∀ (r : Option Value) (h' : zhp) (pc' : Nat) (ls' : Array Slot) (H' : Heap) (locs' : List Loc), Q r h' → zRD i pc' r → zHR G s h' H' → (∀ q ∈ locs', zB G ≤ q.base) → W p l e R s m args below meth c H' locs' (mA i) (mS i) Qf (F0 m pc' ls' ((r.map (zV G)).toList))) →
    W p l e R s m args below meth c H locs cc sc Qf (F0 m pc ls (st.map (zV G)))
def zWs (j : zmi) : List Cond := Cond.code (mY j) (mC j) (mL j) (mR j) :: zW
def zRm (j : zmi) : Room := { frames := mH j, cells := mA j, slots := mS j, locals := 36 * mH j }
def MM (j : zmi) (av : List Value) (h : zhp) (Q : Option Value → zhp → Prop) : Prop :=
  ∀ (G : zcx) (l : Launch), Met l (mY j) (zWs j) (zRm j) (va_Pc (av.map (zV G)) (fun U => zHR G U h U.heap ∧ zKK G U ∧ zNF U)) (fun _ _ o t => ∃ (r : Option Value) (h' : zhp), o = .returned (r.map (zV G)) ∧ Q r h' ∧ zHR G t h' t.heap) (mA j) (mS j) (fun q => zB G ≤ q)
/-- the locals at a method's entry -/
def zin : List Value → List (Option Value)
  | [] => []
  | v :: vs => if v.category = 2 then some v :: none :: zin vs else some v :: zin vs
theorem zin_len (G : zcx) : ∀ av : List Value, (lg_sl (av.map (zV G))).length = (zin av).length
  | [] => rfl
  | v :: vs => by
    have ih := zin_len G vs
    unfold lg_sl at ih ⊢
    rw [List.map_cons, List.flatMap_cons, List.length_append, ih, zV_cat]
    show _ = (if v.category = 2 then some v :: none :: zin vs else some v :: zin vs).length
    by_cases hc : v.category = 2
    · rw [if_pos hc, if_pos hc]; simp; omega
    · rw [if_neg hc, if_neg hc]; simp; omega
theorem zin_mem (G : zcx) : ∀ (av : List Value) (k j : Nat) (u : Value), (zin av)[j]? = some (some u) → (k + j, zV G u) ∈ lv_args k (av.map (zV G))
  | [], k, j, u, h => by simp [zin] at h
  | v :: vs, k, j, u, h => by
    have h : (if v.category = 2 then some v :: none :: zin vs else some v :: zin vs)[j]? = some (some u) := h
    rw [List.map_cons]
    show _ ∈ ((k, zV G v) :: lv_args (if (zV G v).category = 2 then k + 2 else k + 1) (vs.map (zV G)))
    rw [zV_cat]
    by_cases hc : v.category = 2
    · rw [if_pos hc] at h ⊢
      match j, h with
      | 0, h => cases h; exact List.mem_cons_self
      | 1, h => cases h
      | j + 2, h =>
        have := zin_mem G vs (k + 2) j u h
        rw [show k + (j + 2) = k + 2 + j by omega]
        exact List.mem_cons_of_mem _ this
    · rw [if_neg hc] at h ⊢
      match j, h with
      | 0, h => cases h; exact List.mem_cons_self
      | j + 1, h =>
        have := zin_mem G vs (k + 1) j u h
        rw [show k + (j + 1) = k + 1 + j by omega]
        exact List.mem_cons_of_mem _ this
theorem zin_LR (G : zcx) {av : List Value} {n : Nat} {L : List (Option Value)} (hn : (zin av).length ≤ n) (hL : L = zin av ++ List.replicate (n - (zin av).length) none) : zLR G n ((lg_sl (av.map (zV G)) ++ List.replicate (n - (lg_sl (av.map (zV G))).length) Slot.unset).toArray) L := by
  have h := lv_entry (av.map (zV G)) (n := n) (by rw [zin_len]; exact hn)
  refine ⟨h.1, h.2.1, fun q hq => h.2.2 q ?_⟩
  obtain ⟨u, h1, h2⟩ := zlv_mem.mp hq
  subst hL
  have hlt : q.1 < (zin av).length := by
    rcases Nat.lt_or_ge q.1 (zin av).length with z | z
    · exact z
    · rw [List.getElem?_append_right z, List.getElem?_replicate] at h1
      split at h1 <;> cases h1
  rw [List.getElem?_append_left hlt] at h1
  have := zin_mem G av 0 q.1 u h1
  rw [Nat.zero_add] at this
  have e : q = (q.1, zV G u) := by rw [← h2]
  rw [e]
  exact this
set_option maxHeartbeats 4000000 in
theorem MM_of {i : zmi} {av : List Value} {h : zhp} {Q : Option Value → zhp → Prop} (hy : plainName (mY i).cls = true) (hn : (zin av).length ≤ mL i) (k : TT i 0 (zin av ++ List.replicate (mL i - (zin av).length) none) [] h 0 0 Q) : MM i av h Q := by
  intro G l
  refine Met.ofW (cc := mC i) (maxL := mL i) (ret := mR i) hy rfl ?_
  intro p e s m args below meth c s₁ B hml hv
  obtain ⟨rfl, hH, hK, hF⟩ := hv
  have hts := atoms_spec (ws := zWs i) B.pre
  have hx := B.exec
  have hb := B.bytes
  have hr := B.returns
  have hlocks := B.notSynchronized
  rw [lg_entry_eq]
  refine k G p l e _ s m _ below meth c _ s.heap [] _ ⟨hx, hb, hml, findClass_of_methodNamed B.named, fun w hw => hts w (List.mem_cons_of_mem _ hw), hF, hK, (name_of_methodNamed B.named B.method).1, Nat.le_refl _, Nat.le_refl _, Nat.le_refl _, Nat.le_refl _⟩ (zin_LR G hn rfl) hH (fun q hq => by cases hq) ?_
  intro r h' pc' ls' H' locs' hQ hd hH' hlo
  cases r with
  | none => exact W.vret hx hb (hr.trans hd.2) (fun t ht hW => ⟨none, h', rfl, hQ, by rw [ht]; exact hH'.moved hW.alike⟩) hlo hd.1
  | some v =>
    cases v with
    | int x =>
      obtain ⟨h1, ty, h2, h3⟩ := hd
      exact W.zret hx hb (hr.trans h2) h3 (fun t ht hW => ⟨some (.int x), h', rfl, hQ, by rw [ht]; exact hH'.moved hW.alike⟩) hlo h1
    | null =>
      obtain ⟨h1, -, n, h2⟩ := hd
      exact W.aret hx hb (hr.trans h2) (Or.inl ⟨n, rfl⟩) (Or.inl rfl) (fun t ht hW => ⟨some .null, h', rfl, hQ, by rw [ht]; exact hH'.moved hW.alike⟩) hlo h1
    | ref a =>
      obtain ⟨h1, -, n, h2⟩ := hd
      exact W.aret hx hb (hr.trans h2) (Or.inl ⟨n, rfl⟩) (Or.inr ⟨_, rfl⟩) (fun t ht hW => ⟨some (.ref a), h', rfl, hQ, by rw [ht]; exact hH'.moved hW.alike⟩) hlo h1
    | long x => obtain ⟨-, h1 | ⟨a, h1⟩, -⟩ := hd <;> cases h1
    | float x => obtain ⟨-, h1 | ⟨a, h1⟩, -⟩ := hd <;> cases h1
    | double x => obtain ⟨-, h1 | ⟨a, h1⟩, -⟩ := hd <;> cases h1
    | retAddr x => obtain ⟨-, h1 | ⟨a, h1⟩, -⟩ := hd <;> cases h1
/-- 1 row of the judgement, opened -/
theorem TT.w {i : zmi} {pc pc2 : Nat} {L : List (Option Value)} {st st2 : List Value} {h : zhp} {cc sc : Nat} {Q : Option Value → zhp → Prop} (k : TT i pc2 L st2 h cc sc Q)
    (g : ∀ (G : zcx) (p : Program) (l : Launch) (e : Env) (R : Room) (s : State) (m : MethodId) (args : Array Value) (below : List Frame) (meth : Method) (c : Code) (ls : Array Slot) (H : Heap) (locs : List Loc) (Qf : State → Prop), zFr G i p R s m args meth c → zLR G (mL i) ls L → zHR G s h H → W p l e R s m args below meth c H locs cc sc Qf (F0 m pc2 ls (st2.map (zV G))) → W p l e R s m args below meth c H locs cc sc Qf (F0 m pc ls (st.map (zV G)))) : TT i pc L st h cc sc Q :=
  fun G p l e R s m args below meth c ls H locs Qf F hl hH hlo K => g G p l e R s m args below meth c ls H locs Qf F hl hH (k G p l e R s m args below meth c ls H locs Qf F hl hH hlo K)

