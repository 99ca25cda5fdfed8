/-! THE ROWS OF THE JUDGEMENT: an instruction, a row -/
section
variable {i : zmi} {pc : Nat} {L : List (Option Value)} {st : List Value} {h : zhp} {cc sc : Nat} {Q : Option Value → zhp → Prop}
theorem tt_iadd {x y : Int32} (d : decode (mC i) pc = .ok (.iadd, 1)) (k : TT i (pc + 1) L (.int (x + y) :: st) h cc sc Q) : TT i pc L (.int y :: .int x :: st) h cc sc Q :=
  k.w fun G p l e R s m args below meth c ls H locs Qf F hl hH kk => lv_iadd F.1 F.2.1 d kk
theorem tt_isub {x y : Int32} (d : decode (mC i) pc = .ok (.isub, 1)) (k : TT i (pc + 1) L (.int (x - y) :: st) h cc sc Q) : TT i pc L (.int y :: .int x :: st) h cc sc Q :=
  k.w fun G p l e R s m args below meth c ls H locs Qf F hl hH kk => lv_isub F.1 F.2.1 d kk
theorem tt_imul {x y : Int32} (d : decode (mC i) pc = .ok (.imul, 1)) (k : TT i (pc + 1) L (.int (x * y) :: st) h cc sc Q) : TT i pc L (.int y :: .int x :: st) h cc sc Q :=
  k.w fun G p l e R s m args below meth c ls H locs Qf F hl hH kk => lv_imul F.1 F.2.1 d kk
theorem tt_iand {x y : Int32} (d : decode (mC i) pc = .ok (.iand, 1)) (k : TT i (pc + 1) L (.int (x &&& y) :: st) h cc sc Q) : TT i pc L (.int y :: .int x :: st) h cc sc Q :=
  k.w fun G p l e R s m args below meth c ls H locs Qf F hl hH kk => lv_iand F.1 F.2.1 d kk
theorem tt_ior {x y : Int32} (d : decode (mC i) pc = .ok (.ior, 1)) (k : TT i (pc + 1) L (.int (x ||| y) :: st) h cc sc Q) : TT i pc L (.int y :: .int x :: st) h cc sc Q :=
  k.w fun G p l e R s m args below meth c ls H locs Qf F hl hH kk => lv_ior F.1 F.2.1 d kk
theorem tt_ishl {x y : Int32} (d : decode (mC i) pc = .ok (.ishl, 1)) (k : TT i (pc + 1) L (.int (x <<< (y &&& 31)) :: st) h cc sc Q) : TT i pc L (.int y :: .int x :: st) h cc sc Q :=
  k.w fun G p l e R s m args below meth c ls H locs Qf F hl hH kk => lv_ishl F.1 F.2.1 d kk
theorem tt_ishr {x y : Int32} (d : decode (mC i) pc = .ok (.ishr, 1)) (k : TT i (pc + 1) L (.int (x >>> (y &&& 31)) :: st) h cc sc Q) : TT i pc L (.int y :: .int x :: st) h cc sc Q :=
  k.w fun G p l e R s m args below meth c ls H locs Qf F hl hH kk => lv_ishr F.1 F.2.1 d kk
theorem tt_idiv {x y : Int32} (d : decode (mC i) pc = .ok (.idiv, 1)) (hne : ¬ y = 0) (k : TT i (pc + 1) L (.int (x / y) :: st) h cc sc Q) : TT i pc L (.int y :: .int x :: st) h cc sc Q :=
  k.w fun G p l e R s m args below meth c ls H locs Qf F hl hH kk => lv_idiv F.1 F.2.1 d hne kk
theorem tt_irem {x y : Int32} (d : decode (mC i) pc = .ok (.irem, 1)) (hne : ¬ y = 0) (k : TT i (pc + 1) L (.int (x - x / y * y) :: st) h cc sc Q) : TT i pc L (.int y :: .int x :: st) h cc sc Q :=
  k.w fun G p l e R s m args below meth c ls H locs Qf F hl hH kk => lv_irem F.1 F.2.1 d hne kk
theorem tt_land {x y : Int64} (d : decode (mC i) pc = .ok (.land, 1)) (k : TT i (pc + 1) L (.long (x &&& y) :: st) h cc sc Q) : TT i pc L (.long y :: .long x :: st) h cc sc Q :=
  k.w fun G p l e R s m args below meth c ls H locs Qf F hl hH kk => lv_land F.1 F.2.1 d kk
theorem tt_lor {x y : Int64} (d : decode (mC i) pc = .ok (.lor, 1)) (k : TT i (pc + 1) L (.long (x ||| y) :: st) h cc sc Q) : TT i pc L (.long y :: .long x :: st) h cc sc Q :=
  k.w fun G p l e R s m args below meth c ls H locs Qf F hl hH kk => lv_lor F.1 F.2.1 d kk
theorem tt_lshl {x : Int64} {y : Int32} (d : decode (mC i) pc = .ok (.lshl, 1)) (k : TT i (pc + 1) L (.long (x <<< (y.toInt64 &&& 63)) :: st) h cc sc Q) : TT i pc L (.int y :: .long x :: st) h cc sc Q :=
  k.w fun G p l e R s m args below meth c ls H locs Qf F hl hH kk => lv_lshl F.1 F.2.1 d rfl kk
theorem tt_lshr {x : Int64} {y : Int32} (d : decode (mC i) pc = .ok (.lshr, 1)) (k : TT i (pc + 1) L (.long (x >>> (y.toInt64 &&& 63)) :: st) h cc sc Q) : TT i pc L (.int y :: .long x :: st) h cc sc Q :=
  k.w fun G p l e R s m args below meth c ls H locs Qf F hl hH kk => lv_lshr F.1 F.2.1 d rfl kk
theorem tt_lushr {x : Int64} {y : Int32} (d : decode (mC i) pc = .ok (.lushr, 1)) (k : TT i (pc + 1) L (.long ((x.toUInt64 >>> (y.toInt64.toUInt64 &&& Int64.toUInt64 63)).toInt64) :: st) h cc sc Q) : TT i pc L (.int y :: .long x :: st) h cc sc Q :=
  k.w fun G p l e R s m args below meth c ls H locs Qf F hl hH kk => lv_lushr F.1 F.2.1 d rfl kk
theorem tt_lcmp {x y : Int64} (d : decode (mC i) pc = .ok (.lcmp, 1)) (k : TT i (pc + 1) L (.int (lg_cmp x y) :: st) h cc sc Q) : TT i pc L (.long y :: .long x :: st) h cc sc Q :=
  k.w fun G p l e R s m args below meth c ls H locs Qf F hl hH kk => W.lcmp F.1 F.2.1 d kk
theorem tt_i2l {x : Int32} (d : decode (mC i) pc = .ok (.i2l, 1)) (k : TT i (pc + 1) L (.long x.toInt64 :: st) h cc sc Q) : TT i pc L (.int x :: st) h cc sc Q :=
  k.w fun G p l e R s m args below meth c ls H locs Qf F hl hH kk => lv_i2l F.1 F.2.1 d rfl kk
theorem tt_l2i {x : Int64} (d : decode (mC i) pc = .ok (.l2i, 1)) (k : TT i (pc + 1) L (.int x.toInt32 :: st) h cc sc Q) : TT i pc L (.long x :: st) h cc sc Q :=
  k.w fun G p l e R s m args below meth c ls H locs Qf F hl hH kk => lv_l2i F.1 F.2.1 d rfl kk
theorem tt_i2c {x : Int32} (d : decode (mC i) pc = .ok (.i2c, 1)) (k : TT i (pc + 1) L (.int (x.toUInt32 % 65536).toInt32 :: st) h cc sc Q) : TT i pc L (.int x :: st) h cc sc Q :=
  k.w fun G p l e R s m args below meth c ls H locs Qf F hl hH kk => lv_i2c F.1 F.2.1 d rfl kk
theorem tt_iconst {n : Int} (v : Int32) (d : decode (mC i) pc = .ok (.iconst n, 1)) (hv : Int32.ofInt n = v) (k : TT i (pc + 1) L (.int v :: st) h cc sc Q) : TT i pc L (st) h cc sc Q :=
  k.w fun G p l e R s m args below meth c ls H locs Qf F hl hH kk => lv_iconst F.1 F.2.1 d hv kk
theorem tt_bipush {n : Int} (v : Int32) (d : decode (mC i) pc = .ok (.bipush n, 2)) (hv : (Int8.ofInt n).toInt32 = v) (k : TT i (pc + 2) L (.int v :: st) h cc sc Q) : TT i pc L (st) h cc sc Q :=
  k.w fun G p l e R s m args below meth c ls H locs Qf F hl hH kk => lv_bipush F.1 F.2.1 d hv kk
theorem tt_sipush {n : Int} (v : Int32) (d : decode (mC i) pc = .ok (.sipush n, 3)) (hv : (Int16.ofInt n).toInt32 = v) (k : TT i (pc + 3) L (.int v :: st) h cc sc Q) : TT i pc L (st) h cc sc Q :=
  k.w fun G p l e R s m args below meth c ls H locs Qf F hl hH kk => lv_sipush F.1 F.2.1 d hv kk
theorem tt_lconst {n : Fin 2} (v : Int64) (d : decode (mC i) pc = .ok (.lconst n, 1)) (hv : Int64.ofNat (n : Nat) = v) (k : TT i (pc + 1) L (.long v :: st) h cc sc Q) : TT i pc L (st) h cc sc Q :=
  k.w fun G p l e R s m args below meth c ls H locs Qf F hl hH kk => lv_lconst F.1 F.2.1 d hv kk
theorem tt_null (d : decode (mC i) pc = .ok (.aconst_null, 1)) (k : TT i (pc + 1) L (.null :: st) h cc sc Q) : TT i pc L (st) h cc sc Q :=
  k.w fun G p l e R s m args below meth c ls H locs Qf F hl hH kk => lv_null F.1 F.2.1 d kk
theorem tt_ldc2 {idx : Nat} {v : Int64} (d : decode (mC i) pc = .ok (.ldc2_w idx, 3)) (hw : Cond.constantLong (mY i).cls idx v ∈ zW) (k : TT i (pc + 3) L (.long v :: st) h cc sc Q) : TT i pc L (st) h cc sc Q :=
  k.w fun G p l e R s m args below meth c ls H locs Qf F hl hH kk => lv_ldc2 F.1 F.2.1 F.2.2.2.1 (F.2.2.2.2.1 _ hw) d kk
theorem tt_iload_n {k : Fin 4} {x : Int32} (d : decode (mC i) pc = .ok (.iload_n k, 1)) (hx : L[(k : Nat)]? = some (some (.int x))) (k : TT i (pc + 1) L (.int x :: st) h cc sc Q) : TT i pc L (st) h cc sc Q :=
  k.w fun G p l e R s m args below meth c ls H locs Qf F hl hH kk => lv_iload_n F.1 F.2.1 d rfl (hl.at hx) kk
theorem tt_iload {k : Nat} {x : Int32} (d : decode (mC i) pc = .ok (.iload k, 2)) (hx : L[k]? = some (some (.int x))) (k : TT i (pc + 2) L (.int x :: st) h cc sc Q) : TT i pc L (st) h cc sc Q :=
  k.w fun G p l e R s m args below meth c ls H locs Qf F hl hH kk => lv_iload F.1 F.2.1 d (hl.at hx) kk
theorem tt_aload_n {k : Fin 4} {x : Nat} (d : decode (mC i) pc = .ok (.aload_n k, 1)) (hx : L[(k : Nat)]? = some (some (.ref x))) (k : TT i (pc + 1) L (.ref x :: st) h cc sc Q) : TT i pc L (st) h cc sc Q :=
  k.w fun G p l e R s m args below meth c ls H locs Qf F hl hH kk => lv_aload_n F.1 F.2.1 d rfl (hl.at hx) kk
theorem tt_aload {k : Nat} {x : Nat} (d : decode (mC i) pc = .ok (.aload k, 2)) (hx : L[k]? = some (some (.ref x))) (k : TT i (pc + 2) L (.ref x :: st) h cc sc Q) : TT i pc L (st) h cc sc Q :=
  k.w fun G p l e R s m args below meth c ls H locs Qf F hl hH kk => lv_aload F.1 F.2.1 d (hl.at hx) kk
theorem tt_lload_n {k : Fin 4} {x : Int64} (d : decode (mC i) pc = .ok (.lload_n k, 1)) (hx : L[(k : Nat)]? = some (some (.long x))) (k : TT i (pc + 1) L (.long x :: st) h cc sc Q) : TT i pc L (st) h cc sc Q :=
  k.w fun G p l e R s m args below meth c ls H locs Qf F hl hH kk => lv_lload_n F.1 F.2.1 d rfl (hl.at hx) kk
theorem tt_lload {k : Nat} {x : Int64} (d : decode (mC i) pc = .ok (.lload k, 2)) (hx : L[k]? = some (some (.long x))) (k : TT i (pc + 2) L (.long x :: st) h cc sc Q) : TT i pc L (st) h cc sc Q :=
  k.w fun G p l e R s m args below meth c ls H locs Qf F hl hH kk => lv_lload F.1 F.2.1 d (hl.at hx) kk
theorem tt_aload_nN {k : Fin 4} (d : decode (mC i) pc = .ok (.aload_n k, 1)) (hx : L[(k : Nat)]? = some (some .null)) (k : TT i (pc + 1) L (.null :: st) h cc sc Q) : TT i pc L (st) h cc sc Q :=
  k.w fun G p l e R s m args below meth c ls H locs Qf F hl hH kk => lv_aload_nN F.1 F.2.1 d rfl (hl.at hx) kk
theorem tt_aloadN {k : Nat} (d : decode (mC i) pc = .ok (.aload k, 2)) (hx : L[k]? = some (some .null)) (k : TT i (pc + 2) L (.null :: st) h cc sc Q) : TT i pc L (st) h cc sc Q :=
  k.w fun G p l e R s m args below meth c ls H locs Qf F hl hH kk => lv_aloadN F.1 F.2.1 d (hl.at hx) kk
theorem tt_dup {v : Value} (d : decode (mC i) pc = .ok (.dup, 1)) (hv : v.category = 1) (k : TT i (pc + 1) L (v :: v :: st) h cc sc Q) : TT i pc L (v :: st) h cc sc Q :=
  k.w fun G p l e R s m args below meth c ls H locs Qf F hl hH kk => lv_dup F.1 F.2.1 d (by rw [zV_cat]; exact hv) kk
theorem tt_pop {v : Value} (d : decode (mC i) pc = .ok (.pop, 1)) (hv : v.category = 1) (k : TT i (pc + 1) L (st) h cc sc Q) : TT i pc L (v :: st) h cc sc Q :=
  k.w fun G p l e R s m args below meth c ls H locs Qf F hl hH kk => lv_pop F.1 F.2.1 d (by rw [zV_cat]; exact hv) kk
theorem tt_dup2 {v w : Value} (d : decode (mC i) pc = .ok (.dup2, 1)) (hv : v.category = 1) (hw : w.category = 1) (k : TT i (pc + 1) L (v :: w :: v :: w :: st) h cc sc Q) : TT i pc L (v :: w :: st) h cc sc Q :=
  k.w fun G p l e R s m args below meth c ls H locs Qf F hl hH kk => lv_dup2_11 F.1 F.2.1 d (by rw [zV_cat]; exact hv) (by rw [zV_cat]; exact hw) kk
theorem tt_istore_n {k : Fin 4} {x : Int32} {L1 : List (Option Value)} (d : decode (mC i) pc = .ok (.istore_n k, 1)) (hL : L.set (k : Nat) (some (.int x)) = L1) (hn : (k : Nat) < mL i) (hk : zok L (k : Nat) = true) (kt : TT i (pc + 1) L1 st h cc sc Q) : TT i pc L (.int x :: st) h cc sc Q := by
  subst hL
  intro G p l e R s m args below meth c ls H locs Qf F hl hH hlo K
  exact lv_istore_n F.1 F.2.1 d rfl hl hn rfl (fun ls1 hl1 => kt G p l e R s m args below meth c ls1 H locs Qf F (zLR.set (v := .int x) hl1 hk) hH hlo K)
theorem tt_istore {k : Nat} {x : Int32} {L1 : List (Option Value)} (d : decode (mC i) pc = .ok (.istore k, 2)) (hL : L.set k (some (.int x)) = L1) (hn : k < mL i) (hk : zok L k = true) (kt : TT i (pc + 2) L1 st h cc sc Q) : TT i pc L (.int x :: st) h cc sc Q := by
  subst hL
  intro G p l e R s m args below meth c ls H locs Qf F hl hH hlo K
  exact lv_istore F.1 F.2.1 d hl hn rfl (fun ls1 hl1 => kt G p l e R s m args below meth c ls1 H locs Qf F (zLR.set (v := .int x) hl1 hk) hH hlo K)
theorem tt_astore_n {k : Fin 4} {x : Nat} {L1 : List (Option Value)} (d : decode (mC i) pc = .ok (.astore_n k, 1)) (hL : L.set (k : Nat) (some (.ref x)) = L1) (hn : (k : Nat) < mL i) (hk : zok L (k : Nat) = true) (kt : TT i (pc + 1) L1 st h cc sc Q) : TT i pc L (.ref x :: st) h cc sc Q := by
  subst hL
  intro G p l e R s m args below meth c ls H locs Qf F hl hH hlo K
  exact lv_astore_n F.1 F.2.1 d rfl hl hn rfl (fun ls1 hl1 => kt G p l e R s m args below meth c ls1 H locs Qf F (zLR.set (v := .ref x) hl1 hk) hH hlo K)
theorem tt_astore {k : Nat} {x : Nat} {L1 : List (Option Value)} (d : decode (mC i) pc = .ok (.astore k, 2)) (hL : L.set k (some (.ref x)) = L1) (hn : k < mL i) (hk : zok L k = true) (kt : TT i (pc + 2) L1 st h cc sc Q) : TT i pc L (.ref x :: st) h cc sc Q := by
  subst hL
  intro G p l e R s m args below meth c ls H locs Qf F hl hH hlo K
  exact lv_astore F.1 F.2.1 d hl hn rfl (fun ls1 hl1 => kt G p l e R s m args below meth c ls1 H locs Qf F (zLR.set (v := .ref x) hl1 hk) hH hlo K)
theorem tt_astore_nN {k : Fin 4} {L1 : List (Option Value)} (d : decode (mC i) pc = .ok (.astore_n k, 1)) (hL : L.set (k : Nat) (some (.null)) = L1) (hn : (k : Nat) < mL i) (hk : zok L (k : Nat) = true) (kt : TT i (pc + 1) L1 st h cc sc Q) : TT i pc L (.null :: st) h cc sc Q := by
  subst hL
  intro G p l e R s m args below meth c ls H locs Qf F hl hH hlo K
  exact lv_astore_nN F.1 F.2.1 d rfl hl hn rfl (fun ls1 hl1 => kt G p l e R s m args below meth c ls1 H locs Qf F (zLR.set (v := .null) hl1 hk) hH hlo K)
theorem tt_iinc {k : Nat} {n : Int} {x v : Int32} {L1 : List (Option Value)} (d : decode (mC i) pc = .ok (.iinc k n, 3)) (hx : L[k]? = some (some (.int x))) (hv : x + Int32.ofInt n = v) (hL : L.set k (some (.int v)) = L1) (hn : k < mL i) (hk : zok L k = true) (kt : TT i (pc + 3) L1 st h cc sc Q) : TT i pc L st h cc sc Q := by
  subst hL
  intro G p l e R s m args below meth c ls H locs Qf F hl hH hlo K
  obtain ⟨j, hj⟩ := List.getElem?_of_mem (zlv_mem (G := G) (q := (k, .int x)) |>.mpr ⟨.int x, hx, rfl⟩)
  exact lv_iinc F.1 F.2.1 d hl hj hv hn rfl (fun ls1 hl1 => kt G p l e R s m args below meth c ls1 H locs Qf F (zLR.set (v := .int v) hl1 hk) hH hlo K)
theorem tt_if_eq {x : Int32} {off : Int} {tgt : Nat} (d : decode (mC i) pc = .ok (.ifCond .eq off, 3)) (ht : (pc : Int) + off = (tgt : Int)) (kt : x = 0 → TT i tgt L st h cc sc Q) (kf : ¬ x = 0 → TT i (pc + 3) L st h cc sc Q) : TT i pc L (.int x :: st) h cc sc Q :=
  fun G p l e R s m args below meth c ls H locs Qf F hl hH hlo K => lv_if_eq F.1 F.2.1 d ht (fun z => kt z G p l e R s m args below meth c ls H locs Qf F hl hH hlo K) (fun z => kf z G p l e R s m args below meth c ls H locs Qf F hl hH hlo K)
theorem tt_icmp_eq {x y : Int32} {off : Int} {tgt : Nat} (d : decode (mC i) pc = .ok (.if_icmp .eq off, 3)) (ht : (pc : Int) + off = (tgt : Int)) (kt : x = y → TT i tgt L st h cc sc Q) (kf : ¬ x = y → TT i (pc + 3) L st h cc sc Q) : TT i pc L (.int y :: .int x :: st) h cc sc Q :=
  fun G p l e R s m args below meth c ls H locs Qf F hl hH hlo K => lv_icmp_eq F.1 F.2.1 d ht (fun z => kt z G p l e R s m args below meth c ls H locs Qf F hl hH hlo K) (fun z => kf z G p l e R s m args below meth c ls H locs Qf F hl hH hlo K)
theorem tt_if_ne {x : Int32} {off : Int} {tgt : Nat} (d : decode (mC i) pc = .ok (.ifCond .ne off, 3)) (ht : (pc : Int) + off = (tgt : Int)) (kt : ¬ x = 0 → TT i tgt L st h cc sc Q) (kf : x = 0 → TT i (pc + 3) L st h cc sc Q) : TT i pc L (.int x :: st) h cc sc Q :=
  fun G p l e R s m args below meth c ls H locs Qf F hl hH hlo K => lv_if_ne F.1 F.2.1 d ht (fun z => kt z G p l e R s m args below meth c ls H locs Qf F hl hH hlo K) (fun z => kf z G p l e R s m args below meth c ls H locs Qf F hl hH hlo K)
theorem tt_icmp_ne {x y : Int32} {off : Int} {tgt : Nat} (d : decode (mC i) pc = .ok (.if_icmp .ne off, 3)) (ht : (pc : Int) + off = (tgt : Int)) (kt : ¬ x = y → TT i tgt L st h cc sc Q) (kf : x = y → TT i (pc + 3) L st h cc sc Q) : TT i pc L (.int y :: .int x :: st) h cc sc Q :=
  fun G p l e R s m args below meth c ls H locs Qf F hl hH hlo K => lv_icmp_ne F.1 F.2.1 d ht (fun z => kt z G p l e R s m args below meth c ls H locs Qf F hl hH hlo K) (fun z => kf z G p l e R s m args below meth c ls H locs Qf F hl hH hlo K)
theorem tt_if_lt {x : Int32} {off : Int} {tgt : Nat} (d : decode (mC i) pc = .ok (.ifCond .lt off, 3)) (ht : (pc : Int) + off = (tgt : Int)) (kt : x < 0 → TT i tgt L st h cc sc Q) (kf : ¬ x < 0 → TT i (pc + 3) L st h cc sc Q) : TT i pc L (.int x :: st) h cc sc Q :=
  fun G p l e R s m args below meth c ls H locs Qf F hl hH hlo K => lv_if_lt F.1 F.2.1 d ht (fun z => kt z G p l e R s m args below meth c ls H locs Qf F hl hH hlo K) (fun z => kf z G p l e R s m args below meth c ls H locs Qf F hl hH hlo K)
theorem tt_icmp_lt {x y : Int32} {off : Int} {tgt : Nat} (d : decode (mC i) pc = .ok (.if_icmp .lt off, 3)) (ht : (pc : Int) + off = (tgt : Int)) (kt : x < y → TT i tgt L st h cc sc Q) (kf : ¬ x < y → TT i (pc + 3) L st h cc sc Q) : TT i pc L (.int y :: .int x :: st) h cc sc Q :=
  fun G p l e R s m args below meth c ls H locs Qf F hl hH hlo K => lv_icmp_lt F.1 F.2.1 d ht (fun z => kt z G p l e R s m args below meth c ls H locs Qf F hl hH hlo K) (fun z => kf z G p l e R s m args below meth c ls H locs Qf F hl hH hlo K)
theorem tt_if_ge {x : Int32} {off : Int} {tgt : Nat} (d : decode (mC i) pc = .ok (.ifCond .ge off, 3)) (ht : (pc : Int) + off = (tgt : Int)) (kt : 0 ≤ x → TT i tgt L st h cc sc Q) (kf : ¬ 0 ≤ x → TT i (pc + 3) L st h cc sc Q) : TT i pc L (.int x :: st) h cc sc Q :=
  fun G p l e R s m args below meth c ls H locs Qf F hl hH hlo K => lv_if_ge F.1 F.2.1 d ht (fun z => kt z G p l e R s m args below meth c ls H locs Qf F hl hH hlo K) (fun z => kf z G p l e R s m args below meth c ls H locs Qf F hl hH hlo K)
theorem tt_icmp_ge {x y : Int32} {off : Int} {tgt : Nat} (d : decode (mC i) pc = .ok (.if_icmp .ge off, 3)) (ht : (pc : Int) + off = (tgt : Int)) (kt : y ≤ x → TT i tgt L st h cc sc Q) (kf : ¬ y ≤ x → TT i (pc + 3) L st h cc sc Q) : TT i pc L (.int y :: .int x :: st) h cc sc Q :=
  fun G p l e R s m args below meth c ls H locs Qf F hl hH hlo K => lv_icmp_ge F.1 F.2.1 d ht (fun z => kt z G p l e R s m args below meth c ls H locs Qf F hl hH hlo K) (fun z => kf z G p l e R s m args below meth c ls H locs Qf F hl hH hlo K)
theorem tt_if_gt {x : Int32} {off : Int} {tgt : Nat} (d : decode (mC i) pc = .ok (.ifCond .gt off, 3)) (ht : (pc : Int) + off = (tgt : Int)) (kt : 0 < x → TT i tgt L st h cc sc Q) (kf : ¬ 0 < x → TT i (pc + 3) L st h cc sc Q) : TT i pc L (.int x :: st) h cc sc Q :=
  fun G p l e R s m args below meth c ls H locs Qf F hl hH hlo K => lv_if_gt F.1 F.2.1 d ht (fun z => kt z G p l e R s m args below meth c ls H locs Qf F hl hH hlo K) (fun z => kf z G p l e R s m args below meth c ls H locs Qf F hl hH hlo K)
theorem tt_icmp_gt {x y : Int32} {off : Int} {tgt : Nat} (d : decode (mC i) pc = .ok (.if_icmp .gt off, 3)) (ht : (pc : Int) + off = (tgt : Int)) (kt : y < x → TT i tgt L st h cc sc Q) (kf : ¬ y < x → TT i (pc + 3) L st h cc sc Q) : TT i pc L (.int y :: .int x :: st) h cc sc Q :=
  fun G p l e R s m args below meth c ls H locs Qf F hl hH hlo K => lv_icmp_gt F.1 F.2.1 d ht (fun z => kt z G p l e R s m args below meth c ls H locs Qf F hl hH hlo K) (fun z => kf z G p l e R s m args below meth c ls H locs Qf F hl hH hlo K)
theorem tt_if_le {x : Int32} {off : Int} {tgt : Nat} (d : decode (mC i) pc = .ok (.ifCond .le off, 3)) (ht : (pc : Int) + off = (tgt : Int)) (kt : x ≤ 0 → TT i tgt L st h cc sc Q) (kf : ¬ x ≤ 0 → TT i (pc + 3) L st h cc sc Q) : TT i pc L (.int x :: st) h cc sc Q :=
  fun G p l e R s m args below meth c ls H locs Qf F hl hH hlo K => lv_if_le F.1 F.2.1 d ht (fun z => kt z G p l e R s m args below meth c ls H locs Qf F hl hH hlo K) (fun z => kf z G p l e R s m args below meth c ls H locs Qf F hl hH hlo K)
theorem tt_icmp_le {x y : Int32} {off : Int} {tgt : Nat} (d : decode (mC i) pc = .ok (.if_icmp .le off, 3)) (ht : (pc : Int) + off = (tgt : Int)) (kt : x ≤ y → TT i tgt L st h cc sc Q) (kf : ¬ x ≤ y → TT i (pc + 3) L st h cc sc Q) : TT i pc L (.int y :: .int x :: st) h cc sc Q :=
  fun G p l e R s m args below meth c ls H locs Qf F hl hH hlo K => lv_icmp_le F.1 F.2.1 d ht (fun z => kt z G p l e R s m args below meth c ls H locs Qf F hl hH hlo K) (fun z => kf z G p l e R s m args below meth c ls H locs Qf F hl hH hlo K)
theorem tt_goto {off : Int} {tgt : Nat} (d : decode (mC i) pc = .ok (.goto off, 3)) (ht : (pc : Int) + off = (tgt : Int)) (k : TT i tgt L st h cc sc Q) : TT i pc L st h cc sc Q :=
  k.w fun G p l e R s m args below meth c ls H locs Qf F hl hH kk => lv_goto F.1 F.2.1 d ht kk
theorem tt_ifnonnull {x : Nat} {off : Int} {tgt : Nat} (d : decode (mC i) pc = .ok (.ifnonnull off, 3)) (ht : (pc : Int) + off = (tgt : Int)) (k : TT i tgt L st h cc sc Q) : TT i pc L (.ref x :: st) h cc sc Q :=
  k.w fun G p l e R s m args below meth c ls H locs Qf F hl hH kk => lv_ifnonnull F.1 F.2.1 d ht kk
theorem tt_ifnonnullN {off : Int} (d : decode (mC i) pc = .ok (.ifnonnull off, 3)) (k : TT i (pc + 3) L st h cc sc Q) : TT i pc L (.null :: st) h cc sc Q :=
  k.w fun G p l e R s m args below meth c ls H locs Qf F hl hH kk => lv_ifnonnullN F.1 F.2.1 d kk
theorem tt_tableIn {dflt lo hi : Int} {offs : Array Int} {len : Nat} {x : Int32} {off : Int} {tgt : Nat} (d : decode (mC i) pc = .ok (.tableswitch dflt lo hi offs, len)) (h1 : ¬ x.toInt < lo) (h2 : ¬ hi < x.toInt) (ho : offs[(x.toInt - lo).toNat]? = some off) (ht : (pc : Int) + off = (tgt : Int)) (k : TT i tgt L st h cc sc Q) : TT i pc L (.int x :: st) h cc sc Q :=
  k.w fun G p l e R s m args below meth c ls H locs Qf F hl hH kk => lv_tableIn F.1 F.2.1 d h1 h2 ho ht kk
theorem tt_tableOut {dflt lo hi : Int} {offs : Array Int} {len : Nat} {x : Int32} {tgt : Nat} (d : decode (mC i) pc = .ok (.tableswitch dflt lo hi offs, len)) (h1 : x.toInt < lo ∨ hi < x.toInt) (ht : (pc : Int) + dflt = (tgt : Int)) (k : TT i tgt L st h cc sc Q) : TT i pc L (.int x :: st) h cc sc Q :=
  k.w fun G p l e R s m args below meth c ls H locs Qf F hl hH kk => lv_tableOut F.1 F.2.1 d h1 ht kk
theorem tt_lookup {dflt : Int} {ps : Array (Int × Int)} {len : Nat} {x : Int32} {off : Int} {tgt : Nat} (d : decode (mC i) pc = .ok (.lookupswitch dflt ps, len)) (hp : (ps.toList.zip (ps.toList.drop 1)).all (fun (a, next) => a.1 < next.1) = true) (ho : Op.lookupswitch.offset ps.toList dflt x.toInt = off) (ht : (pc : Int) + off = (tgt : Int)) (k : TT i tgt L st h cc sc Q) : TT i pc L (.int x :: st) h cc sc Q :=
  k.w fun G p l e R s m args below meth c ls H locs Qf F hl hH kk => lv_lookup F.1 F.2.1 d hp ho ht kk
/-! ends -/
theorem tt_ireturn {x : Int32} {ty : FieldType} (d : decode (mC i) pc = .ok (.ireturn, 1)) (hr : mR i = some ty) (hn : narrow ty (.int x) = .int x) (hc : cc ≤ mA i) (hs : sc ≤ mS i) (q : Q (some (.int x)) h) : TT i pc L [.int x] h cc sc Q := by
  intro G p l e R s m args below meth c ls H locs Qf F hl hH hlo K
  exact W.widen hc hs (K (some (.int x)) h pc ls H locs q ⟨d, ty, hr, hn⟩ hH hlo)
theorem tt_return (d : decode (mC i) pc = .ok (.return_, 1)) (hr : mR i = none) (hc : cc ≤ mA i) (hs : sc ≤ mS i) (q : Q none h) : TT i pc L [] h cc sc Q := by
  intro G p l e R s m args below meth c ls H locs Qf F hl hH hlo K
  exact W.widen hc hs (K none h pc ls H locs q ⟨d, hr⟩ hH hlo)
theorem tt_areturn {a : Nat} {n : String} (d : decode (mC i) pc = .ok (.areturn, 1)) (hr : mR i = some (.object n)) (hc : cc ≤ mA i) (hs : sc ≤ mS i) (q : Q (some (.ref a)) h) : TT i pc L [.ref a] h cc sc Q := by
  intro G p l e R s m args below meth c ls H locs Qf F hl hH hlo K
  exact W.widen hc hs (K (some (.ref a)) h pc ls H locs q ⟨d, Or.inr ⟨a, rfl⟩, n, hr⟩ hH hlo)
theorem tt_areturnN {n : String} (d : decode (mC i) pc = .ok (.areturn, 1)) (hr : mR i = some (.object n)) (hc : cc ≤ mA i) (hs : sc ≤ mS i) (q : Q (some .null) h) : TT i pc L [.null] h cc sc Q := by
  intro G p l e R s m args below meth c ls H locs Qf F hl hH hlo K
  exact W.widen hc hs (K (some .null) h pc ls H locs q ⟨d, Or.inl rfl, n, hr⟩ hH hlo)
end
