/-! the claim out of one walk: the skeleton's head -/
def R_law : String := "SkipPermitsLaw"
def lw_P (b : Addr) (xs : List Int32) (args : Array Value) (s : State) : Prop := args = #[.ref b] ∧ s.IntsAt b xs ∧ xs.length ≤ 260 ∧ (Jvm.Cond.and given_1 narrow_1).before args s = true
def lw_Q (_ : Array Value) (s : State) (o : Outcome) (t : State) : Prop := o = .returned (some (.int 1)) ∧ Framed s o t [] 600000 7302250
def lw_Z (below : List Frame) (a : Array Value) (s : State) : State → Prop := fun t => ∃ o, t.status = .running ∧ Ended t below o ∧ lw_Q a s o t
/-- the law's own end, with 1 on the stack, nothing written that was there before, its room as the claim has it -/
theorem lw_ret {p : Program} {l : Launch} {e : Env} {s : State} {m : MethodId} {below : List Frame} {meth : Method} {c : Code} {b : Nat} (hx : p.tables.exec = Jvm.exec) (hb : c.code = code) (hr : meth.sig.returnType = ret) (hlocks : meth.locks = false) {pc : Nat} {H : Heap} {ls : Array Slot} (hdg : decode code pc = .ok (.ireturn, 1)) : W p l e room_1 s m #[Value.ref b] below meth c H [] 600000 7302250 (lw_Z below #[Value.ref b] s) (F0 m pc ls [.int 1]) := by
  intro T hT X
  obtain ⟨fs, hret, hrun, hended, hW, hframe⟩ := X.leave (v := some (.int 1)) (hlocks := hlocks) (fun h => by rw [hr] at h; cases h)
  have hmeth' : T.vm.method? m = some meth := X.method'
  refine ⟨T.setFrames fs, ?_, .returned (some (.int 1)), hrun, hended, rfl, ⟨_, rfl⟩, hW, hframe⟩
  jvm_step X.here [X.here.top, hx, hb, hdg, hmeth', hr, ret, narrow_b1]
  (try refine ⟨rfl, ?_⟩); (try refine ⟨rfl, ?_⟩)
  first | (intro acts; rw [hret _ acts rfl rfl rfl]) | rw [hret _ _ rfl rfl rfl]
  exact Steps.refl _
/-- what holds at the law's entry: the machine, the code, the tables' words (any of lw_tbl by 'hts w (by decide +kernel)'), the script of L ints xs at the cell b, what the Statement gives of the start (any of its parts by flat_of_before) -/
def lw_At (p : Program) (s : State) (m : MethodId) (meth : Method) (c : Code) (b L : Nat) (xs : Nat → Int32) : Prop :=
  p.tables.exec = Jvm.exec ∧ c.code = code ∧ meth.sig.returnType = ret ∧ c.maxLocals = 8 ∧ s.vm.findClass R_law = some m.cls ∧ (∀ w ∈ lw_tbl, w.before #[Value.ref b] s = true) ∧ va_X b L xs s s.heap ∧ b < s.heap.size ∧ meth.locks = false ∧ (Jvm.Cond.and given_1 narrow_1).before #[Value.ref b] s = true ∧ meth.name = "law"
/-! what the Statement gives of the start: static rows, classes, arrays, nest mates -/
theorem xw {k : Nat} {w : Cond} (h : (k = 1 ∧ w ∈ tables_1_1) ∨ (k = 2 ∧ w ∈ tables_1_2) ∨ (k = 3 ∧ w ∈ tables_1_3)) : w ∈ lw_tbl := by
  rcases h with ⟨-, h⟩ | ⟨-, h⟩ | ⟨-, h⟩
  · exact List.mem_append_right _ (List.mem_append_left _ h)
  · exact List.mem_append_right _ (List.mem_append_right _ (List.mem_append_left _ h))
  · exact List.mem_append_right _ (List.mem_append_right _ (List.mem_append_right _ h))
theorem xw1 {w : Cond} (h : w ∈ tables_1_1) : w ∈ lw_tbl := xw (k := 1) (Or.inl ⟨rfl, h⟩)
theorem xw2 {w : Cond} (h : w ∈ tables_1_2) : w ∈ lw_tbl := xw (k := 2) (Or.inr (Or.inl ⟨rfl, h⟩))
theorem xw3 {w : Cond} (h : w ∈ tables_1_3) : w ∈ lw_tbl := xw (k := 3) (Or.inr (Or.inr ⟨rfl, h⟩))
/-- a static row of eight numbers, as the Statement gives it -/
theorem st_row {args : Array Value} {s : State} {nm : String} {vals : Nat → Int32} {cA : ClassId} (hA : (Cond.arrayOf (.static "SkipPermits" nm "[I") .int).before args s = true) (hl : (Cond.eq (.length (.static "SkipPermits" nm "[I")) (.int 8)).before args s = true) (hv : ∀ k, k < 8 → ∃ i v, i = nI k ∧ v = vals k ∧ (Cond.eq (.elem (.static "SkipPermits" nm "[I") (.int i)) (.int v)).before args s = true) (hx : (Cond.exactly (.static "SkipPermits" nm "[I") "[I").before args s = true) (hK : s.vm.findClass "[I" = some cA) :
    ∃ a cell, (Term.static "SkipPermits" nm "[I").eval args s none [] s = some (.ref a) ∧ s.heap[a]? = some cell ∧ s.isArrayOf cell .int ∧ cell.vm ≠ .unknown ∧ cell.slots.size = 8 ∧ (∀ k, k < 8 → cell.slots[k]? = some (.int (vals k))) ∧ cell.cls = cA := by
  obtain ⟨a, c, cell, k, q1, q2, q3, q4, q5, q6, -⟩ := Cond.exactly_spec (args := args) (first := s) (o := none) (s := s) (idx := []) hx
  obtain ⟨z1, z2⟩ := Cond.arrayOf_spec (args := args) (first := s) (o := none) (s := s) (idx := []) hA q1 q3
  refine ⟨a, cell, q1, q3, z1, z2, ?_, fun k hk => ?_, ?_⟩
  · obtain ⟨y, y1, y2⟩ := Cond.eq_one (args := args) (first := s) (o := none) (s := s) (idx := []) hl
    obtain ⟨a2, cell2, w1, w2, w3, w4⟩ := Jvm.Free.SB.Term.length_small y1
    cases q1.symm.trans w1
    cases q3.symm.trans (State.arrayAt?_spec w2).1
    have e : y = .int 8 := (Option.some.inj y2).symm
    rw [w3] at e
    have e2 : cell.slots.size.toInt32 = 8 := Value.int.inj e
    have e3 := (nI_eqI w4 (show 8 < 2 ^ 31 by omega)).mp (show nI cell.slots.size = nI 8 from e2)
    exact e3
  · obtain ⟨i, v, hi, hvv, h⟩ := hv k hk
    obtain ⟨y, y1, y2⟩ := Cond.eq_one (args := args) (first := s) (o := none) (s := s) (idx := []) h
    obtain ⟨a2, j, cell2, w1, w2, w3, w4, w5⟩ := Term.elem_spec y1
    cases q1.symm.trans w1
    cases q3.symm.trans (State.arrayAt?_spec w3).1
    have ej : i = j := Value.int.inj (Option.some.inj w2)
    have ey : y = .int v := (Option.some.inj y2).symm
    rw [← ej, hi, nI_clamp (by omega), ey, hvv] at w5
    exact w5
  · rw [q6]
    exact Option.some.inj (q2.symm.trans hK)
theorem x_arrI {args : Array Value} {s : State} {ty : FieldType} (h : (Cond.arrayClass ty).before args s = true) (hp : ∀ cA, s.vm.findClass ("[" ++ ty.toString) = some cA → va_RA s cA ty) : ∃ cA, ArrOfT s cA ty ∧ va_RA s cA ty := by
  obtain ⟨c, k, comp, h1, h2, h3⟩ := Cond.arrayClass_spec (args := args) (first := s) (o := none) (s := s) (idx := []) h
  exact ⟨c, fun n z => ⟨(fun k h => by cases h), k, h2, comp, h3⟩, hp c h1⟩
theorem x_arrR {args : Array Value} {s : State} {C : String} (h : (Cond.arrayOver (.object C)).before args s = true) : ∃ cA, ArrOfT s cA (.object C) ∧ va_RA s cA (.object C) := by
  obtain ⟨comp, c, k, h1, h2, h3, h4, h5⟩ := Cond.arrayOver_spec (args := args) (first := s) (o := none) (s := s) (idx := []) h
  exact ⟨c, fun n z => ⟨(fun k h => by cases h), k, h3, comp, h4⟩, k, comp, h3, h4, h1, h5⟩
theorem x_NF {s : State} {A : Array Value} (hts : ∀ w ∈ lw_tbl, w.before A s = true) : zNF s :=
  ⟨va_Nw.of rfl (hts _ (xw1 (List.mem_of_getElem? (i := 34) rfl))), va_Nw.of rfl (hts _ (xw1 (List.mem_of_getElem? (i := 133) rfl))), va_Nw.of rfl (hts _ (xw1 (List.mem_of_getElem? (i := 170) rfl))), trivial, va_Nw.of rfl (hts _ (xw1 (List.mem_of_getElem? (i := 180) rfl))), trivial, va_Nw.of rfl (hts _ (xw1 (List.mem_of_getElem? (i := 22) rfl))), va_Nw.of rfl (hts _ (xw2 (List.mem_of_getElem? (i := 101) rfl))), va_Nw.of rfl (hts _ (xw2 (List.mem_of_getElem? (i := 103) rfl))), va_Nw.of rfl (hts _ (xw1 (List.mem_of_getElem? (i := 29) rfl))), va_AO.of (hts _ (xw1 (List.mem_of_getElem? (i := 118) rfl))), va_AO.of (hts _ (xw1 (List.mem_of_getElem? (i := 32) rfl)))⟩
theorem x_KK {s : State} {A : Array Value} (hts : ∀ w ∈ lw_tbl, w.before A s = true) : ∃ (D : va_G) (K : Nat → ClassId), ∀ (n : Nat) (E : Nat → Nat), zKK (D, K, n, E) s := by
  have kn : ∀ {C : String} {T : u_T} {N : Nat}, (∀ w ∈ u_ws C T N, w ∈ zW) → Cond.instantiable C N ∈ zW → ∃ (cC : ClassId) (iS : Nat → Nat), u_Kn s C T N cC iS := fun h1 h2 => u_known hts (fun w hw => zW_tbl w (h1 w hw)) (hts _ (zW_tbl _ h2))
  obtain ⟨c0, f0, k0⟩ := kn zu0 kI0
  obtain ⟨c1, f1, k1⟩ := kn zu1 kI1
  obtain ⟨c3, f3, k3⟩ := kn zu3 kI3
  obtain ⟨c4, f4, k4⟩ := kn zu4 kI4
  obtain ⟨c5, f5, k5⟩ := kn zu5 kI5
  obtain ⟨a7, p7⟩ := x_arrI (s := s) (hts _ (zW_tbl _ kA_int)) (fun _ h => h)
  obtain ⟨a8, p8⟩ := x_arrI (s := s) (hts _ (zW_tbl _ kA_boolean)) (fun _ h => h)
  obtain ⟨a9, p9⟩ := x_arrI (s := s) (hts _ (zW_tbl _ kA_char)) (fun _ h => h)
  obtain ⟨a10, p10⟩ := x_arrR (s := s) (C := RX4) (hts _ (xw1 (List.mem_of_getElem? (i := 118) rfl)))
  obtain ⟨a11, p11⟩ := x_arrR (s := s) (C := RX3) (hts _ (xw1 (List.mem_of_getElem? (i := 32) rfl)))
  refine ⟨(fun ci => match ci with
    | 0 => c0
    | 1 => c1
    | 2 => c5
    | 3 => c3
    | 4 => c4
    | 5 => c5
    | _ => c5, fun ci => match ci with
    | 0 => f0
    | 1 => f1
    | 2 => f5
    | 3 => f3
    | 4 => f4
    | 5 => f5
    | _ => f5), fun t => match t with
    | 7 => a7
    | 8 => a8
    | 9 => a9
    | 10 => a10
    | _ => a11, fun n E => ⟨fun ci hc => ?_, fun t h1 h2 => ?_⟩⟩
  · rcases (show ci = 0 ∨ ci = 1 ∨ ci = 2 ∨ ci = 3 ∨ ci = 4 ∨ ci = 5 ∨ ci = 6 by omega) with rfl | rfl | rfl | rfl | rfl | rfl | rfl
    · exact k0
    · exact k1
    · exact k5
    · exact k3
    · exact k4
    · exact k5
    · exact k5
  · rcases (show t = 7 ∨ t = 8 ∨ t = 9 ∨ t = 10 ∨ t = 11 by omega) with rfl | rfl | rfl | rfl | rfl
    · exact p7
    · exact p8
    · exact p9
    · exact p10
    · exact p11
/-- the abstract heap at the start -/
def xh (N : Nat) (X : Nat → Int32) : zhp := (4, fun a => if a < 4 then 7 else 12, fun a => if a < 3 then 8 else N, fun a k => if a = 0 then zsF k else if a = 1 then (if nI k = nI 6 then nI 1 else nI 0) else if a = 2 then sMost (nI k) else X k, fun _ _ => none)
theorem xh_St (N : Nat) (X : Nat → Int32) : zSt (xh N X) := ⟨fun c hc => ⟨if_pos (by omega), if_pos hc⟩, fun k _ => rfl, fun k _ => rfl⟩
theorem xh_Sc (N : Nat) (X : Nat → Int32) : zSc (xh N X) N X := ⟨rfl, rfl, fun _ => rfl⟩
/-- a cell of the start is one of the abstract heap's -/
def xC (G : zcx) (s : State) (a n : Nat) (v : Nat → Int32) : Prop := zE G a < zB G ∧ ∃ cell : Cell, s.heap[zE G a]? = some cell ∧ s.isArrayOf cell .int ∧ cell.vm ≠ .unknown ∧ cell.slots.size = n ∧ (∀ k, k < n → cell.slots[k]? = some (.int (v k))) ∧ (a < 3 → cell.cls = zK G 7)
theorem xh_HR {G : zcx} {s : State} {N : Nat} {X : Nat → Int32} (hB : zB G = s.heap.size) (h0 : xC G s 0 8 zsF) (h1 : xC G s 1 8 (fun k => if nI k = nI 6 then nI 1 else nI 0)) (h2 : xC G s 2 8 (fun k => sMost (nI k))) (h3 : xC G s 3 N X) (hZ : ∀ j, j < 3 → va_Z "SkipPermits" (zst j) "[I" (.ref (zE G j)) (fun q => zB G ≤ q) s s.heap) : zHR G s (xh N X) s.heap := by
  refine ⟨by rw [hB]; rfl, Nat.le_refl _, fun a ha => if_neg (by have : 4 ≤ a := ha; omega), fun a ha => ?_, fun a q1 q2 => absurd q2 (by show ¬ a < 4; omega), hZ⟩
  rcases (show a = 0 ∨ a = 1 ∨ a = 2 ∨ a = 3 by omega) with rfl | rfl | rfl | rfl
  · obtain ⟨q, cell, p1, p2, p3, p4, p5, p6⟩ := h0
    exact ⟨q, rfl, cell, p1, p2, p3, p4, p5, p6⟩
  · obtain ⟨q, cell, p1, p2, p3, p4, p5, p6⟩ := h1
    exact ⟨q, rfl, cell, p1, p2, p3, p4, p5, p6⟩
  · obtain ⟨q, cell, p1, p2, p3, p4, p5, p6⟩ := h2
    exact ⟨q, rfl, cell, p1, p2, p3, p4, p5, p6⟩
  · obtain ⟨q, cell, p1, p2, p3, p4, p5, p6⟩ := h3
    exact ⟨q, rfl, cell, p1, p2, p3, p4, p5, p6⟩
theorem x_rowF {args : Array Value} {s : State} {cA : ClassId} (hs : ∀ w ∈ flatC (Jvm.Cond.and given_1 narrow_1), w.before args s = true) (hK : s.vm.findClass "[I" = some cA) : ∃ a cell, (Term.static "SkipPermits" "FIRST_VALUES" "[I").eval args s none [] s = some (.ref a) ∧ s.heap[a]? = some cell ∧ s.isArrayOf cell .int ∧ cell.vm ≠ .unknown ∧ cell.slots.size = 8 ∧ (∀ k, k < 8 → cell.slots[k]? = some (.int (zsF k))) ∧ cell.cls = cA := by
  refine st_row (vals := zsF) (hs _ (by decide +kernel)) (hs _ (by decide +kernel)) (fun k hk => ?_) (hs _ (by decide +kernel)) hK
  rcases (show k = 0 ∨ k = 1 ∨ k = 2 ∨ k = 3 ∨ k = 4 ∨ k = 5 ∨ k = 6 ∨ k = 7 by omega) with rfl | rfl | rfl | rfl | rfl | rfl | rfl | rfl
  · exact ⟨0, 3, by decide, by decide +kernel, hs (Cond.eq (.elem (.static "SkipPermits" "FIRST_VALUES" "[I") (.int 0)) (.int 3)) (by decide +kernel)⟩
  · exact ⟨1, 2, by decide, by decide +kernel, hs (Cond.eq (.elem (.static "SkipPermits" "FIRST_VALUES" "[I") (.int 1)) (.int 2)) (by decide +kernel)⟩
  · exact ⟨2, 15, by decide, by decide +kernel, hs (Cond.eq (.elem (.static "SkipPermits" "FIRST_VALUES" "[I") (.int 2)) (.int 15)) (by decide +kernel)⟩
  · exact ⟨3, 10, by decide, by decide +kernel, hs (Cond.eq (.elem (.static "SkipPermits" "FIRST_VALUES" "[I") (.int 3)) (.int 10)) (by decide +kernel)⟩
  · exact ⟨4, 1, by decide, by decide +kernel, hs (Cond.eq (.elem (.static "SkipPermits" "FIRST_VALUES" "[I") (.int 4)) (.int 1)) (by decide +kernel)⟩
  · exact ⟨5, 25, by decide, by decide +kernel, hs (Cond.eq (.elem (.static "SkipPermits" "FIRST_VALUES" "[I") (.int 5)) (.int 25)) (by decide +kernel)⟩
  · exact ⟨6, 7, by decide, by decide +kernel, hs (Cond.eq (.elem (.static "SkipPermits" "FIRST_VALUES" "[I") (.int 6)) (.int 7)) (by decide +kernel)⟩
  · exact ⟨7, 2, by decide, by decide +kernel, hs (Cond.eq (.elem (.static "SkipPermits" "FIRST_VALUES" "[I") (.int 7)) (.int 2)) (by decide +kernel)⟩
theorem x_rowL {args : Array Value} {s : State} {cA : ClassId} (hs : ∀ w ∈ flatC (Jvm.Cond.and given_1 narrow_1), w.before args s = true) (hK : s.vm.findClass "[I" = some cA) : ∃ a cell, (Term.static "SkipPermits" "LOWEST_VALUES" "[I").eval args s none [] s = some (.ref a) ∧ s.heap[a]? = some cell ∧ s.isArrayOf cell .int ∧ cell.vm ≠ .unknown ∧ cell.slots.size = 8 ∧ (∀ k, k < 8 → cell.slots[k]? = some (.int ((fun k => if nI k = nI 6 then nI 1 else nI 0) k))) ∧ cell.cls = cA := by
  refine st_row (vals := (fun k => if nI k = nI 6 then nI 1 else nI 0)) (hs _ (by decide +kernel)) (hs _ (by decide +kernel)) (fun k hk => ?_) (hs _ (by decide +kernel)) hK
  rcases (show k = 0 ∨ k = 1 ∨ k = 2 ∨ k = 3 ∨ k = 4 ∨ k = 5 ∨ k = 6 ∨ k = 7 by omega) with rfl | rfl | rfl | rfl | rfl | rfl | rfl | rfl
  · exact ⟨0, 0, by decide, by decide +kernel, hs (Cond.eq (.elem (.static "SkipPermits" "LOWEST_VALUES" "[I") (.int 0)) (.int 0)) (by decide +kernel)⟩
  · exact ⟨1, 0, by decide, by decide +kernel, hs (Cond.eq (.elem (.static "SkipPermits" "LOWEST_VALUES" "[I") (.int 1)) (.int 0)) (by decide +kernel)⟩
  · exact ⟨2, 0, by decide, by decide +kernel, hs (Cond.eq (.elem (.static "SkipPermits" "LOWEST_VALUES" "[I") (.int 2)) (.int 0)) (by decide +kernel)⟩
  · exact ⟨3, 0, by decide, by decide +kernel, hs (Cond.eq (.elem (.static "SkipPermits" "LOWEST_VALUES" "[I") (.int 3)) (.int 0)) (by decide +kernel)⟩
  · exact ⟨4, 0, by decide, by decide +kernel, hs (Cond.eq (.elem (.static "SkipPermits" "LOWEST_VALUES" "[I") (.int 4)) (.int 0)) (by decide +kernel)⟩
  · exact ⟨5, 0, by decide, by decide +kernel, hs (Cond.eq (.elem (.static "SkipPermits" "LOWEST_VALUES" "[I") (.int 5)) (.int 0)) (by decide +kernel)⟩
  · exact ⟨6, 1, by decide, by decide +kernel, hs (Cond.eq (.elem (.static "SkipPermits" "LOWEST_VALUES" "[I") (.int 6)) (.int 1)) (by decide +kernel)⟩
  · exact ⟨7, 0, by decide, by decide +kernel, hs (Cond.eq (.elem (.static "SkipPermits" "LOWEST_VALUES" "[I") (.int 7)) (.int 0)) (by decide +kernel)⟩
theorem x_rowH {args : Array Value} {s : State} {cA : ClassId} (hs : ∀ w ∈ flatC (Jvm.Cond.and given_1 narrow_1), w.before args s = true) (hK : s.vm.findClass "[I" = some cA) : ∃ a cell, (Term.static "SkipPermits" "HIGHEST_VALUES" "[I").eval args s none [] s = some (.ref a) ∧ s.heap[a]? = some cell ∧ s.isArrayOf cell .int ∧ cell.vm ≠ .unknown ∧ cell.slots.size = 8 ∧ (∀ k, k < 8 → cell.slots[k]? = some (.int ((fun k => sMost (nI k)) k))) ∧ cell.cls = cA := by
  refine st_row (vals := (fun k => sMost (nI k))) (hs _ (by decide +kernel)) (hs _ (by decide +kernel)) (fun k hk => ?_) (hs _ (by decide +kernel)) hK
  rcases (show k = 0 ∨ k = 1 ∨ k = 2 ∨ k = 3 ∨ k = 4 ∨ k = 5 ∨ k = 6 ∨ k = 7 by omega) with rfl | rfl | rfl | rfl | rfl | rfl | rfl | rfl
  · exact ⟨0, 20, by decide, by decide +kernel, hs (Cond.eq (.elem (.static "SkipPermits" "HIGHEST_VALUES" "[I") (.int 0)) (.int 20)) (by decide +kernel)⟩
  · exact ⟨1, 20, by decide, by decide +kernel, hs (Cond.eq (.elem (.static "SkipPermits" "HIGHEST_VALUES" "[I") (.int 1)) (.int 20)) (by decide +kernel)⟩
  · exact ⟨2, 90, by decide, by decide +kernel, hs (Cond.eq (.elem (.static "SkipPermits" "HIGHEST_VALUES" "[I") (.int 2)) (.int 90)) (by decide +kernel)⟩
  · exact ⟨3, 90, by decide, by decide +kernel, hs (Cond.eq (.elem (.static "SkipPermits" "HIGHEST_VALUES" "[I") (.int 3)) (.int 90)) (by decide +kernel)⟩
  · exact ⟨4, 9, by decide, by decide +kernel, hs (Cond.eq (.elem (.static "SkipPermits" "HIGHEST_VALUES" "[I") (.int 4)) (.int 9)) (by decide +kernel)⟩
  · exact ⟨5, 90, by decide, by decide +kernel, hs (Cond.eq (.elem (.static "SkipPermits" "HIGHEST_VALUES" "[I") (.int 5)) (.int 90)) (by decide +kernel)⟩
  · exact ⟨6, 30, by decide, by decide +kernel, hs (Cond.eq (.elem (.static "SkipPermits" "HIGHEST_VALUES" "[I") (.int 6)) (.int 30)) (by decide +kernel)⟩
  · exact ⟨7, 9, by decide, by decide +kernel, hs (Cond.eq (.elem (.static "SkipPermits" "HIGHEST_VALUES" "[I") (.int 7)) (.int 9)) (by decide +kernel)⟩
