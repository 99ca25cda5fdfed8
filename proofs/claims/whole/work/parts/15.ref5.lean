/-! the reference: asides, the history, the changes -/
/-- the first 135 of s over a -/
def cpA (s a : Nat → Int32) : Nat → Int32 := zlp (fun k x => upd x k (s k)) 135 0 a
def rcT (t a : Nat → Int32) (kn : Nat) : Nat → Int32 := if kn = 6 then zlp (fun k x => upd x (135 * 5 + k) (a k)) 135 0 (zlp (fun k x => upd x k (x (k + 135))) 675 0 t) else zlp (fun k x => upd x (135 * kn + k) (a k)) 135 0 t
def rcF (F : Nat → Int32) (kn : Nat) : Nat → Int32 := if kn = 6 then upd (upd F 3 (F 3 - nI 1)) 3 (upd F 3 (F 3 - nI 1) 3 + nI 1) else upd F 3 (F 3 + nI 1)
/-- behind a change that told v: recorded, if v is no error -/
def zch (h : zhp) (F s a t l p : Nat → Int32) (kn : Nat) (v : Int32) : zhp := if v < 0 then zm h F s a t l p else zm h (rcF F kn) s a (rcT t a kn) l p
def sMost (v : Int32) : Int32 := if v = nI 0 ∨ v = nI 1 then nI 20 else if v = nI 2 ∨ v = nI 3 ∨ v = nI 5 then nI 90 else if v = nI 6 then nI 30 else nI 9
def sSet (s : Nat → Int32) (v w : Int32) : Int32 × (Nat → Int32) := if nI 0 ≤ v ∧ v ≤ nI 7 then (if (if v = nI 6 then nI 1 else nI 0) ≤ w ∧ w ≤ sMost v then (s v.toNatClampNeg, upd s v.toNatClampNeg w) else (-2, s)) else (-2, s)
def sPlaces (s : Nat → Int32) (v w : Int32) : Int32 × (Nat → Int32) := if nI 0 ≤ v ∧ v ≤ nI 4 then (if nI 1 ≤ w ∧ w ≤ nI 4 then (s (10 + v.toNatClampNeg), upd s (10 + v.toNatClampNeg) w) else (-2, s)) else (-1, s)
def sGro (s : Nat → Int32) (v w : Int32) : Int32 × (Nat → Int32) := if nI 0 ≤ v ∧ v ≤ s 33 - nI 1 then (if nI 0 ≤ w ∧ w ≤ nI 30 then (s (34 + 10 * v.toNatClampNeg + 4), upd s (34 + 10 * v.toNatClampNeg + 4) w) else (-2, s)) else (-1, s)
set_option maxRecDepth 100000 in
set_option maxHeartbeats 4000000 in
theorem c_X6_putAside {h : zhp} (hM : zMo h) (F s a t l p : Nat → Int32) : MM iX6_putAside [.ref 181] (zm h F s a t l p) (zfn (zm h F s (cpA s a) t l p)) := by
  refine MM_of (by decide +kernel) (Nat.le_of_ble_eq_true rfl) ?_
  refine tt_iconst (nI 0) dX6_putAside_0 rfl ?_
  refine tt_istore_n dX6_putAside_1 rfl (Nat.le_of_ble_eq_true rfl) rfl ?_
  refine tt_loop (fun k x => upd x k (s k)) 135 (fun _ _ => True) (fun k x => [some (.ref 181), some (.int (nI k))]) (fun _ x => zm h F s x t l p) a trivial (fun _ _ _ _ => trivial) (fun hx => ?_) (fun k x hk hI ih => ?_)
  · refine tt_iload_n dX6_putAside_2 rfl ?_
    refine tt_sipush (nI 135) dX6_putAside_3 rfl ?_
    refine tt_icmp_geN (tgt := 27) dX6_putAside_6 (by decide) (by omega) (by omega) (fun c_6 => ?_) (fun c_6 => ?_)
    · exact tt_return dX6_putAside_27 rfl (Nat.zero_le _) (Nat.zero_le _) ⟨rfl, rfl⟩
    · exact absurd c_6 (by omega)
  · refine tt_iload_n dX6_putAside_2 rfl ?_
    refine tt_sipush (nI 135) dX6_putAside_3 rfl ?_
    refine tt_icmp_geN (tgt := 27) dX6_putAside_6 (by decide) (by omega) (by omega) (fun c_6 => ?_) (fun c_6 => ?_)
    · exact absurd c_6 (by omega)
    · refine tt_aload_n dX6_putAside_9 rfl ?_
      refine tt_mA (b := 183) dX6_putAside_10 fX6_13 rfl hM hM.2.2.1 ?_
      refine tt_iload_n dX6_putAside_13 rfl ?_
      refine tt_aload_n dX6_putAside_14 rfl ?_
      refine tt_mA (b := 182) dX6_putAside_15 fX6_7 rfl hM hM.2.1 ?_
      refine tt_iload_n dX6_putAside_18 rfl ?_
      refine tt_ld1 dX6_putAside_19 hM (by omega) ?_
      refine tt_st2 dX6_putAside_20 hM (by omega) ?_
      refine tt_iincN dX6_putAside_21 rfl rfl (Nat.le_of_ble_eq_true rfl) rfl ?_
      refine tt_goto (tgt := 2) dX6_putAside_24 (by decide) ?_
      exact ih
set_option maxRecDepth 100000 in
set_option maxHeartbeats 4000000 in
theorem c_X6_putBack {h : zhp} (hM : zMo h) (F s a t l p : Nat → Int32) : MM iX6_putBack [.ref 181] (zm h F s a t l p) (zfn (zm h F (cpA a s) a t l p)) := by
  refine MM_of (by decide +kernel) (Nat.le_of_ble_eq_true rfl) ?_
  refine tt_iconst (nI 0) dX6_putBack_0 rfl ?_
  refine tt_istore_n dX6_putBack_1 rfl (Nat.le_of_ble_eq_true rfl) rfl ?_
  refine tt_loop (fun k x => upd x k (a k)) 135 (fun _ _ => True) (fun k x => [some (.ref 181), some (.int (nI k))]) (fun _ x => zm h F x a t l p) s trivial (fun _ _ _ _ => trivial) (fun hx => ?_) (fun k x hk hI ih => ?_)
  · refine tt_iload_n dX6_putBack_2 rfl ?_
    refine tt_sipush (nI 135) dX6_putBack_3 rfl ?_
    refine tt_icmp_geN (tgt := 27) dX6_putBack_6 (by decide) (by omega) (by omega) (fun c_6 => ?_) (fun c_6 => ?_)
    · exact tt_return dX6_putBack_27 rfl (Nat.zero_le _) (Nat.zero_le _) ⟨rfl, rfl⟩
    · exact absurd c_6 (by omega)
  · refine tt_iload_n dX6_putBack_2 rfl ?_
    refine tt_sipush (nI 135) dX6_putBack_3 rfl ?_
    refine tt_icmp_geN (tgt := 27) dX6_putBack_6 (by decide) (by omega) (by omega) (fun c_6 => ?_) (fun c_6 => ?_)
    · exact absurd c_6 (by omega)
    · refine tt_aload_n dX6_putBack_9 rfl ?_
      refine tt_mA (b := 182) dX6_putBack_10 fX6_7 rfl hM hM.2.1 ?_
      refine tt_iload_n dX6_putBack_13 rfl ?_
      refine tt_aload_n dX6_putBack_14 rfl ?_
      refine tt_mA (b := 183) dX6_putBack_15 fX6_13 rfl hM hM.2.2.1 ?_
      refine tt_iload_n dX6_putBack_18 rfl ?_
      refine tt_ld2 dX6_putBack_19 hM (by omega) ?_
      refine tt_st1 dX6_putBack_20 hM (by omega) ?_
      refine tt_iincN dX6_putBack_21 rfl rfl (Nat.le_of_ble_eq_true rfl) rfl ?_
      refine tt_goto (tgt := 2) dX6_putBack_24 (by decide) ?_
      exact ih
set_option maxRecDepth 100000 in
set_option maxHeartbeats 4000000 in
theorem g_X6_record_50a {h : zhp} (hM : zMo h) (F s a t l p : Nat → Int32) (kn : Nat) (hk : kn ≤ 5) (h3 : F 3 = nI kn) : TT iX6_record 50 [some (.ref 181), none] [] (zm h F s a t l p) 0 0 (zfn (zm h (upd F 3 (F 3 + nI 1)) s a (zlp (fun k x => upd x (135 * kn + k) (a k)) 135 0 t) l p)) := by
  refine tt_iconst (nI 0) dX6_record_50 rfl ?_
  refine tt_istore_n dX6_record_51 rfl (Nat.le_of_ble_eq_true rfl) rfl ?_
  refine tt_loop (fun k x => upd x (135 * kn + k) (a k)) 135 (fun _ _ => True) (fun k x => [some (.ref 181), some (.int (nI k))]) (fun _ x => zm h F s a x l p) t trivial (fun _ _ _ _ => trivial) (fun hx => ?_) (fun k x hk hI ih => ?_)
  · refine tt_iload_n dX6_record_52 rfl ?_
    refine tt_sipush (nI 135) dX6_record_53 rfl ?_
    refine tt_icmp_geN (tgt := 86) dX6_record_56 (by decide) (by omega) (by omega) (fun c_56 => ?_) (fun c_56 => ?_)
    · refine tt_aload_n dX6_record_86 rfl ?_
      refine tt_dup dX6_record_87 rfl ?_
      refine tt_mI dX6_record_88 fX6_33 rfl hM ?_
      refine tt_iconst (nI 1) dX6_record_91 rfl ?_
      refine tt_iadd dX6_record_92 ?_
      refine tt_mp dX6_record_93 fX6_33 rfl rfl hM ?_
      exact tt_return dX6_record_96 rfl (Nat.zero_le _) (Nat.zero_le _) ⟨rfl, rfl⟩
    · exact absurd c_56 (by omega)
  · refine tt_iload_n dX6_record_52 rfl ?_
    refine tt_sipush (nI 135) dX6_record_53 rfl ?_
    refine tt_icmp_geN (tgt := 86) dX6_record_56 (by decide) (by omega) (by omega) (fun c_56 => ?_) (fun c_56 => ?_)
    · exact absurd c_56 (by omega)
    · refine tt_aload_n dX6_record_59 rfl ?_
      refine tt_mA (b := 184) dX6_record_60 fX6_16 rfl hM hM.2.2.2.1 ?_
      refine tt_sipush (nI 135) dX6_record_63 rfl ?_
      refine tt_aload_n dX6_record_66 rfl ?_
      refine tt_mI dX6_record_67 fX6_33 rfl hM ?_
      refine tt_eq h3 ?_
      refine tt_imulN dX6_record_70 ?_
      refine tt_iload_n dX6_record_71 rfl ?_
      refine tt_iaddN dX6_record_72 ?_
      refine tt_aload_n dX6_record_73 rfl ?_
      refine tt_mA (b := 183) dX6_record_74 fX6_13 rfl hM hM.2.2.1 ?_
      refine tt_iload_n dX6_record_77 rfl ?_
      refine tt_ld2 dX6_record_78 hM (by omega) ?_
      refine tt_st3 dX6_record_79 hM (by omega) ?_
      refine tt_iincN dX6_record_80 rfl rfl (Nat.le_of_ble_eq_true rfl) rfl ?_
      refine tt_goto (tgt := 52) dX6_record_83 (by decide) ?_
      exact ih
set_option maxRecDepth 100000 in
set_option maxHeartbeats 4000000 in
theorem g_X6_record_50b {h : zhp} (hM : zMo h) (F s a t l p : Nat → Int32) (kn : Nat) (hk : kn ≤ 5) (h3 : F 3 = nI kn) : TT iX6_record 50 [some (.ref 181), some (.int (nI 675))] [] (zm h F s a t l p) 0 0 (zfn (zm h (upd F 3 (F 3 + nI 1)) s a (zlp (fun k x => upd x (135 * kn + k) (a k)) 135 0 t) l p)) := by
  refine tt_iconst (nI 0) dX6_record_50 rfl ?_
  refine tt_istore_n dX6_record_51 rfl (Nat.le_of_ble_eq_true rfl) rfl ?_
  refine tt_loop (fun k x => upd x (135 * kn + k) (a k)) 135 (fun _ _ => True) (fun k x => [some (.ref 181), some (.int (nI k))]) (fun _ x => zm h F s a x l p) t trivial (fun _ _ _ _ => trivial) (fun hx => ?_) (fun k x hk hI ih => ?_)
  · refine tt_iload_n dX6_record_52 rfl ?_
    refine tt_sipush (nI 135) dX6_record_53 rfl ?_
    refine tt_icmp_geN (tgt := 86) dX6_record_56 (by decide) (by omega) (by omega) (fun c_56 => ?_) (fun c_56 => ?_)
    · refine tt_aload_n dX6_record_86 rfl ?_
      refine tt_dup dX6_record_87 rfl ?_
      refine tt_mI dX6_record_88 fX6_33 rfl hM ?_
      refine tt_iconst (nI 1) dX6_record_91 rfl ?_
      refine tt_iadd dX6_record_92 ?_
      refine tt_mp dX6_record_93 fX6_33 rfl rfl hM ?_
      exact tt_return dX6_record_96 rfl (Nat.zero_le _) (Nat.zero_le _) ⟨rfl, rfl⟩
    · exact absurd c_56 (by omega)
  · refine tt_iload_n dX6_record_52 rfl ?_
    refine tt_sipush (nI 135) dX6_record_53 rfl ?_
    refine tt_icmp_geN (tgt := 86) dX6_record_56 (by decide) (by omega) (by omega) (fun c_56 => ?_) (fun c_56 => ?_)
    · exact absurd c_56 (by omega)
    · refine tt_aload_n dX6_record_59 rfl ?_
      refine tt_mA (b := 184) dX6_record_60 fX6_16 rfl hM hM.2.2.2.1 ?_
      refine tt_sipush (nI 135) dX6_record_63 rfl ?_
      refine tt_aload_n dX6_record_66 rfl ?_
      refine tt_mI dX6_record_67 fX6_33 rfl hM ?_
      refine tt_eq h3 ?_
      refine tt_imulN dX6_record_70 ?_
      refine tt_iload_n dX6_record_71 rfl ?_
      refine tt_iaddN dX6_record_72 ?_
      refine tt_aload_n dX6_record_73 rfl ?_
      refine tt_mA (b := 183) dX6_record_74 fX6_13 rfl hM hM.2.2.1 ?_
      refine tt_iload_n dX6_record_77 rfl ?_
      refine tt_ld2 dX6_record_78 hM (by omega) ?_
      refine tt_st3 dX6_record_79 hM (by omega) ?_
      refine tt_iincN dX6_record_80 rfl rfl (Nat.le_of_ble_eq_true rfl) rfl ?_
      refine tt_goto (tgt := 52) dX6_record_83 (by decide) ?_
      exact ih
set_option maxRecDepth 100000 in
set_option maxHeartbeats 4000000 in
theorem c_X6_record6 {h : zhp} (hM : zMo h) (F s a t l p : Nat → Int32) (h3 : F 3 = nI 6) : MM iX6_record [.ref 181] (zm h F s a t l p) (zfn (zm h (rcF F 6) s a (rcT t a 6) l p)) := by
  refine MM_of (by decide +kernel) (Nat.le_of_ble_eq_true rfl) ?_
  refine tt_aload_n dX6_record_0 rfl ?_
  refine tt_mI dX6_record_1 fX6_33 rfl hM ?_
  refine tt_bipush (nI 6) dX6_record_4 rfl ?_
  refine tt_icmp_ne (tgt := 50) dX6_record_6 (by decide) (fun c_6 => ?_) (fun c_6 => ?_)
  · exact absurd h3 c_6
  · refine tt_iconst (nI 0) dX6_record_9 rfl ?_
    refine tt_istore_n dX6_record_10 rfl (Nat.le_of_ble_eq_true rfl) rfl ?_
    refine tt_loop (fun k x => upd x k (x (k + 135))) 675 (fun _ _ => True) (fun k x => [some (.ref 181), some (.int (nI k))]) (fun _ x => zm h F s a x l p) t trivial (fun _ _ _ _ => trivial) (fun hx => ?_) (fun k x hk hI ih => ?_)
    · refine tt_iload_n dX6_record_11 rfl ?_
      refine tt_sipush (nI 675) dX6_record_12 rfl ?_
      refine tt_icmp_geN (tgt := 40) dX6_record_15 (by decide) (by omega) (by omega) (fun c_15 => ?_) (fun c_15 => ?_)
      · refine tt_aload_n dX6_record_40 rfl ?_
        refine tt_dup dX6_record_41 rfl ?_
        refine tt_mI dX6_record_42 fX6_33 rfl hM ?_
        refine tt_iconst (nI 1) dX6_record_45 rfl ?_
        refine tt_isub dX6_record_46 ?_
        refine tt_mp dX6_record_47 fX6_33 rfl rfl hM ?_
        exact g_X6_record_50b hM _ _ _ _ _ _ 5 (by omega) (by show F 3 - nI 1 = nI 5; rw [h3]; rfl)
      · exact absurd c_15 (by omega)
    · refine tt_iload_n dX6_record_11 rfl ?_
      refine tt_sipush (nI 675) dX6_record_12 rfl ?_
      refine tt_icmp_geN (tgt := 40) dX6_record_15 (by decide) (by omega) (by omega) (fun c_15 => ?_) (fun c_15 => ?_)
      · exact absurd c_15 (by omega)
      · refine tt_aload_n dX6_record_18 rfl ?_
        refine tt_mA (b := 184) dX6_record_19 fX6_16 rfl hM hM.2.2.2.1 ?_
        refine tt_iload_n dX6_record_22 rfl ?_
        refine tt_aload_n dX6_record_23 rfl ?_
        refine tt_mA (b := 184) dX6_record_24 fX6_16 rfl hM hM.2.2.2.1 ?_
        refine tt_iload_n dX6_record_27 rfl ?_
        refine tt_sipush (nI 135) dX6_record_28 rfl ?_
        refine tt_iaddN dX6_record_31 ?_
        refine tt_ld3 dX6_record_32 hM (by omega) ?_
        refine tt_st3 dX6_record_33 hM (by omega) ?_
        refine tt_iincN dX6_record_34 rfl rfl (Nat.le_of_ble_eq_true rfl) rfl ?_
        refine tt_goto (tgt := 11) dX6_record_37 (by decide) ?_
        exact ih
set_option maxRecDepth 100000 in
set_option maxHeartbeats 4000000 in
theorem c_X6_recordL {h : zhp} (hM : zMo h) (F s a t l p : Nat → Int32) (kn : Nat) (hk : kn < 6) (h3 : F 3 = nI kn) : MM iX6_record [.ref 181] (zm h F s a t l p) (zfn (zm h (rcF F kn) s a (rcT t a kn) l p)) := by
  refine MM_of (by decide +kernel) (Nat.le_of_ble_eq_true rfl) ?_
  refine tt_aload_n dX6_record_0 rfl ?_
  refine tt_mI dX6_record_1 fX6_33 rfl hM ?_
  refine tt_bipush (nI 6) dX6_record_4 rfl ?_
  refine tt_icmp_ne (tgt := 50) dX6_record_6 (by decide) (fun c_6 => ?_) (fun c_6 => ?_)
  · unfold rcF rcT
    rw [if_neg (by omega), if_neg (by omega)]
    exact g_X6_record_50a hM _ _ _ _ _ _ kn (by omega) h3
  · exact absurd ((nI_eq (by omega) (by omega)).mp (h3.symm.trans c_6)) (by omega)
theorem c_X6_record {h : zhp} (hM : zMo h) (F s a t l p : Nat → Int32) (kn : Nat) (hk : kn ≤ 6) (h3 : F 3 = nI kn) : MM iX6_record [.ref 181] (zm h F s a t l p) (zfn (zm h (rcF F kn) s a (rcT t a kn) l p)) := by
  rcases Nat.lt_or_ge kn 6 with q | q
  · exact c_X6_recordL hM F s a t l p kn q h3
  · have e : kn = 6 := by omega
    subst e
    exact c_X6_record6 hM F s a t l p h3
set_option maxRecDepth 100000 in
set_option maxHeartbeats 4000000 in
theorem c_X6_changed {h : zhp} (hM : zMo h) (F s a t l p : Nat → Int32) (kn : Nat) (hk : kn ≤ 6) (h3 : F 3 = nI kn) (v : Int32) : MM iX6_changed [.ref 181, .int v] (zm h F s a t l p) (zfi v (zch h F s a t l p kn v)) := by
  refine MM_of (by decide +kernel) (Nat.le_of_ble_eq_true rfl) ?_
  refine tt_iload_n dX6_changed_0 rfl ?_
  refine tt_if_lt (tgt := 8) dX6_changed_1 (by decide) (fun c_1 => ?_) (fun c_1 => ?_)
  · refine tt_iload_n dX6_changed_8 rfl ?_
    exact tt_ireturn dX6_changed_9 rfl rfl (Nat.zero_le _) (Nat.zero_le _) ⟨rfl, by first | (unfold zch; rw [if_pos c_1]; done) | (unfold zch; rw [if_neg c_1]; done)⟩
  · refine tt_aload_n dX6_changed_4 rfl ?_
    refine tt_fVv (c_X6_record hM _ _ _ _ _ _ kn hk h3) dX6_changed_5 vX6_37 rfl rfl hM.1 (by decide) rfl (by decide) ⟨rfl, rfl⟩ (Nat.zero_le _) (Nat.zero_le _) (Nat.le_of_ble_eq_true rfl) ?_
    refine tt_iload_n dX6_changed_8 rfl ?_
    exact tt_ireturn dX6_changed_9 rfl rfl (Nat.zero_le _) (Nat.zero_le _) ⟨rfl, by first | (unfold zch; rw [if_pos c_1]; done) | (unfold zch; rw [if_neg c_1]; done)⟩
set_option maxRecDepth 100000 in
set_option maxHeartbeats 4000000 in
theorem c_X6_most (v : Int32) (h : zhp) : MM iX6_most [.int v] h (zfi (sMost v) h) := by
  refine MM_of (by decide +kernel) (Nat.le_of_ble_eq_true rfl) ?_
  refine tt_iload_n dX6_most_0 rfl ?_
  by_cases q_0 : v = nI 0
  · subst q_0
    refine tt_tableIn (off := 43) (tgt := 44) dX6_most_1 (by decide) (by decide) rfl (by decide) ?_
    refine tt_bipush (nI 20) dX6_most_44 rfl ?_
    exact tt_ireturn dX6_most_46 rfl rfl (Nat.zero_le _) (Nat.zero_le _) ⟨congrArg (fun z => some (Value.int z)) (by first | decide | (unfold sMost; rw [if_neg (by simp [*]), if_neg (by simp [*]), if_neg (by simp [*])])), rfl⟩
  by_cases q_1 : v = nI 1
  · subst q_1
    refine tt_tableIn (off := 43) (tgt := 44) dX6_most_1 (by decide) (by decide) rfl (by decide) ?_
    refine tt_bipush (nI 20) dX6_most_44 rfl ?_
    exact tt_ireturn dX6_most_46 rfl rfl (Nat.zero_le _) (Nat.zero_le _) ⟨congrArg (fun z => some (Value.int z)) (by first | decide | (unfold sMost; rw [if_neg (by simp [*]), if_neg (by simp [*]), if_neg (by simp [*])])), rfl⟩
  by_cases q_2 : v = nI 2
  · subst q_2
    refine tt_tableIn (off := 46) (tgt := 47) dX6_most_1 (by decide) (by decide) rfl (by decide) ?_
    refine tt_bipush (nI 90) dX6_most_47 rfl ?_
    exact tt_ireturn dX6_most_49 rfl rfl (Nat.zero_le _) (Nat.zero_le _) ⟨congrArg (fun z => some (Value.int z)) (by first | decide | (unfold sMost; rw [if_neg (by simp [*]), if_neg (by simp [*]), if_neg (by simp [*])])), rfl⟩
  by_cases q_3 : v = nI 3
  · subst q_3
    refine tt_tableIn (off := 46) (tgt := 47) dX6_most_1 (by decide) (by decide) rfl (by decide) ?_
    refine tt_bipush (nI 90) dX6_most_47 rfl ?_
    exact tt_ireturn dX6_most_49 rfl rfl (Nat.zero_le _) (Nat.zero_le _) ⟨congrArg (fun z => some (Value.int z)) (by first | decide | (unfold sMost; rw [if_neg (by simp [*]), if_neg (by simp [*]), if_neg (by simp [*])])), rfl⟩
  by_cases q_4 : v = nI 4
  · subst q_4
    refine tt_tableIn (off := 52) (tgt := 53) dX6_most_1 (by decide) (by decide) rfl (by decide) ?_
    refine tt_bipush (nI 9) dX6_most_53 rfl ?_
    exact tt_ireturn dX6_most_55 rfl rfl (Nat.zero_le _) (Nat.zero_le _) ⟨congrArg (fun z => some (Value.int z)) (by first | decide | (unfold sMost; rw [if_neg (by simp [*]), if_neg (by simp [*]), if_neg (by simp [*])])), rfl⟩
  by_cases q_5 : v = nI 5
  · subst q_5
    refine tt_tableIn (off := 46) (tgt := 47) dX6_most_1 (by decide) (by decide) rfl (by decide) ?_
    refine tt_bipush (nI 90) dX6_most_47 rfl ?_
    exact tt_ireturn dX6_most_49 rfl rfl (Nat.zero_le _) (Nat.zero_le _) ⟨congrArg (fun z => some (Value.int z)) (by first | decide | (unfold sMost; rw [if_neg (by simp [*]), if_neg (by simp [*]), if_neg (by simp [*])])), rfl⟩
  by_cases q_6 : v = nI 6
  · subst q_6
    refine tt_tableIn (off := 49) (tgt := 50) dX6_most_1 (by decide) (by decide) rfl (by decide) ?_
    refine tt_bipush (nI 30) dX6_most_50 rfl ?_
    exact tt_ireturn dX6_most_52 rfl rfl (Nat.zero_le _) (Nat.zero_le _) ⟨congrArg (fun z => some (Value.int z)) (by first | decide | (unfold sMost; rw [if_neg (by simp [*]), if_neg (by simp [*]), if_neg (by simp [*])])), rfl⟩
  have qo : ∀ k, 0 ≤ k → k ≤ 6 → ¬ v = nI k := by
    intro k h1 h2
    rcases (show k = 0 ∨ k = 1 ∨ k = 2 ∨ k = 3 ∨ k = 4 ∨ k = 5 ∨ k = 6 by omega) with rfl | rfl | rfl | rfl | rfl | rfl | rfl <;> assumption
  refine tt_tableOut (tgt := 53) dX6_most_1 (ztab (lo := 0) (hi := 6) (by omega) qo) (by decide) ?_
  refine tt_bipush (nI 9) dX6_most_53 rfl ?_
  exact tt_ireturn dX6_most_55 rfl rfl (Nat.zero_le _) (Nat.zero_le _) ⟨congrArg (fun z => some (Value.int z)) (by first | decide | (unfold sMost; rw [if_neg (by simp [*]), if_neg (by simp [*]), if_neg (by simp [*])])), rfl⟩
set_option maxRecDepth 100000 in
set_option maxHeartbeats 4000000 in
theorem c_X6_put {h : zhp} (hM : zMo h) (F s a t l p : Nat → Int32) (n : Nat) (hw : sWF s n) (kn : Nat) (hk : kn ≤ 6) (h3 : F 3 = nI kn) (cu z stt g : Int32) : MM iX6_put [.ref 181, .int cu, .int z, .int stt, .int g] (zm h F s a t l p) (zfi (sPuts s n cu z stt g).1 (zch h F (sPuts s n cu z stt g).2 (cpA s a) t l p kn (sPuts s n cu z stt g).1)) := by
  refine MM_of (by decide +kernel) (Nat.le_of_ble_eq_true rfl) ?_
  refine tt_aload_n dX6_put_0 rfl ?_
  refine tt_fVv (c_X6_putAside hM _ _ _ _ _ _) dX6_put_1 vX6_93 rfl rfl hM.1 (by decide) rfl (by decide) ⟨rfl, rfl⟩ (Nat.zero_le _) (Nat.zero_le _) (Nat.le_of_ble_eq_true rfl) ?_
  refine tt_aload_n dX6_put_4 rfl ?_
  refine tt_aload_n dX6_put_5 rfl ?_
  refine tt_iload_n dX6_put_6 rfl ?_
  refine tt_iload_n dX6_put_7 rfl ?_
  refine tt_iload_n dX6_put_8 rfl ?_
  refine tt_iload dX6_put_9 rfl ?_
  refine tt_fVi (c_X6_puts hM _ _ _ _ _ _ n hw _ _ _ _) dX6_put_11 vX6_108 rfl rfl hM.1 (by decide) rfl (by decide) ⟨rfl, rfl⟩ (Nat.zero_le _) (Nat.zero_le _) (Nat.le_of_ble_eq_true rfl) ?_
  refine tt_fVi (c_X6_changed hM _ _ _ _ _ _ kn hk h3 _) dX6_put_14 vX6_102 rfl rfl hM.1 (by decide) rfl (by decide) ⟨rfl, rfl⟩ (Nat.zero_le _) (Nat.zero_le _) (Nat.le_of_ble_eq_true rfl) ?_
  exact tt_ireturn dX6_put_17 rfl rfl (Nat.zero_le _) (Nat.zero_le _) ⟨rfl, rfl⟩
set_option maxRecDepth 100000 in
set_option maxHeartbeats 4000000 in
theorem c_X6_swap {h : zhp} (hM : zMo h) (F s a t l p : Nat → Int32) (n : Nat) (hw : sWF s n) (kn : Nat) (hk : kn ≤ 6) (h3 : F 3 = nI kn) (v : Int32) : MM iX6_swap [.ref 181, .int v] (zm h F s a t l p) (zfi (sSw s v).1 (zch h F (sSw s v).2 (cpA s a) t l p kn (sSw s v).1)) := by
  refine MM_of (by decide +kernel) (Nat.le_of_ble_eq_true rfl) ?_
  refine tt_aload_n dX6_swap_0 rfl ?_
  refine tt_fVv (c_X6_putAside hM _ _ _ _ _ _) dX6_swap_1 vX6_93 rfl rfl hM.1 (by decide) rfl (by decide) ⟨rfl, rfl⟩ (Nat.zero_le _) (Nat.zero_le _) (Nat.le_of_ble_eq_true rfl) ?_
  refine tt_aload_n dX6_swap_4 rfl ?_
  refine tt_aload_n dX6_swap_5 rfl ?_
  refine tt_iload_n dX6_swap_6 rfl ?_
  refine tt_fVi (c_X6_swaps hM _ _ _ _ _ _ n hw _) dX6_swap_7 vX6_90 rfl rfl hM.1 (by decide) rfl (by decide) ⟨rfl, rfl⟩ (Nat.zero_le _) (Nat.zero_le _) (Nat.le_of_ble_eq_true rfl) ?_
  refine tt_fVi (c_X6_changed hM _ _ _ _ _ _ kn hk h3 _) dX6_swap_10 vX6_102 rfl rfl hM.1 (by decide) rfl (by decide) ⟨rfl, rfl⟩ (Nat.zero_le _) (Nat.zero_le _) (Nat.le_of_ble_eq_true rfl) ?_
  exact tt_ireturn dX6_swap_13 rfl rfl (Nat.zero_le _) (Nat.zero_le _) ⟨rfl, rfl⟩
set_option maxRecDepth 100000 in
set_option maxHeartbeats 4000000 in
theorem c_X6_take {h : zhp} (hM : zMo h) (F s a t l p : Nat → Int32) (n : Nat) (hw : sWF s n) (kn : Nat) (hk : kn ≤ 6) (h3 : F 3 = nI kn) (v : Int32) : MM iX6_take [.ref 181, .int v] (zm h F s a t l p) (zfi (sTk s v).1 (zch h F (sTk s v).2 (cpA s a) t l p kn (sTk s v).1)) := by
  refine MM_of (by decide +kernel) (Nat.le_of_ble_eq_true rfl) ?_
  refine tt_aload_n dX6_take_0 rfl ?_
  refine tt_fVv (c_X6_putAside hM _ _ _ _ _ _) dX6_take_1 vX6_93 rfl rfl hM.1 (by decide) rfl (by decide) ⟨rfl, rfl⟩ (Nat.zero_le _) (Nat.zero_le _) (Nat.le_of_ble_eq_true rfl) ?_
  refine tt_aload_n dX6_take_4 rfl ?_
  refine tt_aload_n dX6_take_5 rfl ?_
  refine tt_iload_n dX6_take_6 rfl ?_
  refine tt_fVi (c_X6_takes hM _ _ _ _ _ _ n hw _) dX6_take_7 vX6_112 rfl rfl hM.1 (by decide) rfl (by decide) ⟨rfl, rfl⟩ (Nat.zero_le _) (Nat.zero_le _) (Nat.le_of_ble_eq_true rfl) ?_
  refine tt_fVi (c_X6_changed hM _ _ _ _ _ _ kn hk h3 _) dX6_take_10 vX6_102 rfl rfl hM.1 (by decide) rfl (by decide) ⟨rfl, rfl⟩ (Nat.zero_le _) (Nat.zero_le _) (Nat.le_of_ble_eq_true rfl) ?_
  exact tt_ireturn dX6_take_13 rfl rfl (Nat.zero_le _) (Nat.zero_le _) ⟨rfl, rfl⟩
set_option maxRecDepth 100000 in
set_option maxHeartbeats 4000000 in
theorem c_X6_permit {h : zhp} (hM : zMo h) (F s a t l p : Nat → Int32) (n : Nat) (hw : sWF s n) (kn : Nat) (hk : kn ≤ 6) (h3 : F 3 = nI kn) (v d : Int32) : MM iX6_permit [.ref 181, .int v, .int d] (zm h F s a t l p) (zfi (sPe s v d).1 (zch h F (sPe s v d).2 (cpA s a) t l p kn (sPe s v d).1)) := by
  refine MM_of (by decide +kernel) (Nat.le_of_ble_eq_true rfl) ?_
  refine tt_aload_n dX6_permit_0 rfl ?_
  refine tt_fVv (c_X6_putAside hM _ _ _ _ _ _) dX6_permit_1 vX6_93 rfl rfl hM.1 (by decide) rfl (by decide) ⟨rfl, rfl⟩ (Nat.zero_le _) (Nat.zero_le _) (Nat.le_of_ble_eq_true rfl) ?_
  refine tt_aload_n dX6_permit_4 rfl ?_
  refine tt_aload_n dX6_permit_5 rfl ?_
  refine tt_iload_n dX6_permit_6 rfl ?_
  refine tt_iload_n dX6_permit_7 rfl ?_
  refine tt_fVi (c_X6_permits hM _ _ _ _ _ _ n hw _ _) dX6_permit_8 vX6_115 rfl rfl hM.1 (by decide) rfl (by decide) ⟨rfl, rfl⟩ (Nat.zero_le _) (Nat.zero_le _) (Nat.le_of_ble_eq_true rfl) ?_
  refine tt_fVi (c_X6_changed hM _ _ _ _ _ _ kn hk h3 _) dX6_permit_11 vX6_102 rfl rfl hM.1 (by decide) rfl (by decide) ⟨rfl, rfl⟩ (Nat.zero_le _) (Nat.zero_le _) (Nat.le_of_ble_eq_true rfl) ?_
  exact tt_ireturn dX6_permit_14 rfl rfl (Nat.zero_le _) (Nat.zero_le _) ⟨rfl, rfl⟩
set_option maxRecDepth 100000 in
set_option maxHeartbeats 4000000 in
theorem c_X6_oil {h : zhp} (hM : zMo h) (F s a t l p : Nat → Int32) (n : Nat) (hw : sWF s n) (kn : Nat) (hk : kn ≤ 6) (h3 : F 3 = nI kn) (v : Int32) : MM iX6_oil [.ref 181, .int v] (zm h F s a t l p) (zfi (sOi s v).1 (zch h F (sOi s v).2 (cpA s a) t l p kn (sOi s v).1)) := by
  refine MM_of (by decide +kernel) (Nat.le_of_ble_eq_true rfl) ?_
  refine tt_aload_n dX6_oil_0 rfl ?_
  refine tt_fVv (c_X6_putAside hM _ _ _ _ _ _) dX6_oil_1 vX6_93 rfl rfl hM.1 (by decide) rfl (by decide) ⟨rfl, rfl⟩ (Nat.zero_le _) (Nat.zero_le _) (Nat.le_of_ble_eq_true rfl) ?_
  refine tt_aload_n dX6_oil_4 rfl ?_
  refine tt_aload_n dX6_oil_5 rfl ?_
  refine tt_iload_n dX6_oil_6 rfl ?_
  refine tt_fVi (c_X6_oils hM _ _ _ _ _ _ n hw _) dX6_oil_7 vX6_118 rfl rfl hM.1 (by decide) rfl (by decide) ⟨rfl, rfl⟩ (Nat.zero_le _) (Nat.zero_le _) (Nat.le_of_ble_eq_true rfl) ?_
  refine tt_fVi (c_X6_changed hM _ _ _ _ _ _ kn hk h3 _) dX6_oil_10 vX6_102 rfl rfl hM.1 (by decide) rfl (by decide) ⟨rfl, rfl⟩ (Nat.zero_le _) (Nat.zero_le _) (Nat.le_of_ble_eq_true rfl) ?_
  exact tt_ireturn dX6_oil_13 rfl rfl (Nat.zero_le _) (Nat.zero_le _) ⟨rfl, rfl⟩
set_option maxRecDepth 100000 in
set_option maxHeartbeats 4000000 in
theorem c_X6_pass {h : zhp} (hM : zMo h) (F s a t l p : Nat → Int32) (n : Nat) (hw : sWF s n) (kn : Nat) (hk : kn ≤ 6) (h3 : F 3 = nI kn) (v : Int32) : MM iX6_pass [.ref 181, .int v] (zm h F s a t l p) (zfi (sPas s n v).1 (zch h F (sPas s n v).2 (cpA s a) t l p kn (sPas s n v).1)) := by
  refine MM_of (by decide +kernel) (Nat.le_of_ble_eq_true rfl) ?_
  refine tt_aload_n dX6_pass_0 rfl ?_
  refine tt_fVv (c_X6_putAside hM _ _ _ _ _ _) dX6_pass_1 vX6_93 rfl rfl hM.1 (by decide) rfl (by decide) ⟨rfl, rfl⟩ (Nat.zero_le _) (Nat.zero_le _) (Nat.le_of_ble_eq_true rfl) ?_
  refine tt_aload_n dX6_pass_4 rfl ?_
  refine tt_aload_n dX6_pass_5 rfl ?_
  refine tt_iload_n dX6_pass_6 rfl ?_
  refine tt_fVi (c_X6_passes hM _ _ _ _ _ _ n hw _) dX6_pass_7 vX6_121 rfl rfl hM.1 (by decide) rfl (by decide) ⟨rfl, rfl⟩ (Nat.zero_le _) (Nat.zero_le _) (Nat.le_of_ble_eq_true rfl) ?_
  refine tt_fVi (c_X6_changed hM _ _ _ _ _ _ kn hk h3 _) dX6_pass_10 vX6_102 rfl rfl hM.1 (by decide) rfl (by decide) ⟨rfl, rfl⟩ (Nat.zero_le _) (Nat.zero_le _) (Nat.le_of_ble_eq_true rfl) ?_
  exact tt_ireturn dX6_pass_13 rfl rfl (Nat.zero_le _) (Nat.zero_le _) ⟨rfl, rfl⟩
theorem zch_e {h : zhp} {F s a t l p : Nat → Int32} {kn : Nat} {v : Int32} (hv : v < 0) : zm h F s a t l p = zch h F s a t l p kn v := by
  unfold zch
  rw [if_pos hv]
set_option maxRecDepth 100000 in
set_option maxHeartbeats 4000000 in
theorem c_X6_set {h : zhp} (hM : zMo h) (F s a t l p : Nat → Int32) (n : Nat) (hw : sWF s n) (kn : Nat) (hk : kn ≤ 6) (h3 : F 3 = nI kn) (v w : Int32) : MM iX6_set [.ref 181, .int v, .int w] (zm h F s a t l p) (zfi (sSet s v w).1 (zch h F (sSet s v w).2 (cpA s a) t l p kn (sSet s v w).1)) := by
  refine MM_of (by decide +kernel) (Nat.le_of_ble_eq_true rfl) ?_
  refine tt_aload_n dX6_set_0 rfl ?_
  refine tt_fVv (c_X6_putAside hM _ _ _ _ _ _) dX6_set_1 vX6_93 rfl rfl hM.1 (by decide) rfl (by decide) ⟨rfl, rfl⟩ (Nat.zero_le _) (Nat.zero_le _) (Nat.le_of_ble_eq_true rfl) ?_
  refine tt_iload_n dX6_set_4 rfl ?_
  refine tt_iconst (nI 0) dX6_set_5 rfl ?_
  refine tt_bipush (nI 7) dX6_set_6 rfl ?_
  refine tt_fSi (c_X6_in _ _ _ _) dX6_set_8 sX6_25 rfl rfl (by decide) ⟨rfl, rfl⟩ (Nat.zero_le _) (Nat.zero_le _) (Nat.le_of_ble_eq_true rfl) ?_
  refine tt_if_eqB (tgt := 29) dX6_set_11 (by decide) (fun c_11 => ?_) (fun c_11 => ?_)
  · refine tt_bipush (-2) dX6_set_29 rfl ?_
    exact tt_ireturn dX6_set_31 rfl rfl (Nat.zero_le _) (Nat.zero_le _) (by first | (have e9 : sSet s v w = (-2, s) := (by unfold sSet; rw [if_neg c_11]); rw [e9]; exact ⟨rfl, zch_e (show (-2 : Int32) < 0 by decide)⟩) | (have e9 : sSet s v w = (-2, s) := (by unfold sSet; rw [if_pos c_11, if_neg c_26]); rw [e9]; exact ⟨rfl, zch_e (show (-2 : Int32) < 0 by decide)⟩))
  · refine tt_iload_n dX6_set_14 rfl ?_
    refine tt_iload_n dX6_set_15 rfl ?_
    refine tt_fSi (c_X6_least _ _) dX6_set_16 sX6_96 rfl rfl (by decide) ⟨rfl, rfl⟩ (Nat.zero_le _) (Nat.zero_le _) (Nat.le_of_ble_eq_true rfl) ?_
    refine tt_iload_n dX6_set_19 rfl ?_
    refine tt_fSi (c_X6_most _ _) dX6_set_20 sX6_99 rfl rfl (by decide) ⟨rfl, rfl⟩ (Nat.zero_le _) (Nat.zero_le _) (Nat.le_of_ble_eq_true rfl) ?_
    refine tt_fSi (c_X6_in _ _ _ _) dX6_set_23 sX6_25 rfl rfl (by decide) ⟨rfl, rfl⟩ (Nat.zero_le _) (Nat.zero_le _) (Nat.le_of_ble_eq_true rfl) ?_
    refine tt_if_neB (tgt := 32) dX6_set_26 (by decide) (fun c_26 => ?_) (fun c_26 => ?_)
    · obtain ⟨k0, hk0, rfl⟩ := zrng (by omega) c_11
      have hq0 : (nI k0).toNatClampNeg = k0 := nI_clamp (by omega)
      have e9 : sSet s (nI k0) w = (s k0, upd s k0 w) := by
        unfold sSet
        rw [if_pos c_11, if_pos c_26, hq0]
      rw [e9]
      refine tt_aload_n dX6_set_32 rfl ?_
      refine tt_mA (b := 182) dX6_set_33 fX6_7 rfl hM hM.2.1 ?_
      refine tt_iload_n dX6_set_36 rfl ?_
      refine tt_ld1 dX6_set_37 hM (by omega) ?_
      refine tt_istore_n dX6_set_38 rfl (Nat.le_of_ble_eq_true rfl) rfl ?_
      refine tt_aload_n dX6_set_39 rfl ?_
      refine tt_mA (b := 182) dX6_set_40 fX6_7 rfl hM hM.2.1 ?_
      refine tt_iload_n dX6_set_43 rfl ?_
      refine tt_iload_n dX6_set_44 rfl ?_
      refine tt_st1 dX6_set_45 hM (by omega) ?_
      refine tt_aload_n dX6_set_46 rfl ?_
      refine tt_iload_n dX6_set_47 rfl ?_
      refine tt_fVi (c_X6_changed hM _ _ _ _ _ _ kn hk h3 _) dX6_set_48 vX6_102 rfl rfl hM.1 (by decide) rfl (by decide) ⟨rfl, rfl⟩ (Nat.zero_le _) (Nat.zero_le _) (Nat.le_of_ble_eq_true rfl) ?_
      exact tt_ireturn dX6_set_51 rfl rfl (Nat.zero_le _) (Nat.zero_le _) ⟨rfl, rfl⟩
    · refine tt_bipush (-2) dX6_set_29 rfl ?_
      exact tt_ireturn dX6_set_31 rfl rfl (Nat.zero_le _) (Nat.zero_le _) (by first | (have e9 : sSet s v w = (-2, s) := (by unfold sSet; rw [if_neg c_11]); rw [e9]; exact ⟨rfl, zch_e (show (-2 : Int32) < 0 by decide)⟩) | (have e9 : sSet s v w = (-2, s) := (by unfold sSet; rw [if_pos c_11, if_neg c_26]); rw [e9]; exact ⟨rfl, zch_e (show (-2 : Int32) < 0 by decide)⟩))
set_option maxRecDepth 100000 in
set_option maxHeartbeats 4000000 in
theorem c_X6_places {h : zhp} (hM : zMo h) (F s a t l p : Nat → Int32) (n : Nat) (hw : sWF s n) (kn : Nat) (hk : kn ≤ 6) (h3 : F 3 = nI kn) (v w : Int32) : MM iX6_places [.ref 181, .int v, .int w] (zm h F s a t l p) (zfi (sPlaces s v w).1 (zch h F (sPlaces s v w).2 (cpA s a) t l p kn (sPlaces s v w).1)) := by
  refine MM_of (by decide +kernel) (Nat.le_of_ble_eq_true rfl) ?_
  refine tt_aload_n dX6_places_0 rfl ?_
  refine tt_fVv (c_X6_putAside hM _ _ _ _ _ _) dX6_places_1 vX6_93 rfl rfl hM.1 (by decide) rfl (by decide) ⟨rfl, rfl⟩ (Nat.zero_le _) (Nat.zero_le _) (Nat.le_of_ble_eq_true rfl) ?_
  refine tt_iload_n dX6_places_4 rfl ?_
  refine tt_fSi (c_X6_isStreet _ _) dX6_places_5 sX6_105 rfl rfl (by decide) ⟨rfl, rfl⟩ (Nat.zero_le _) (Nat.zero_le _) (Nat.le_of_ble_eq_true rfl) ?_
  refine tt_if_neB (tgt := 13) dX6_places_8 (by decide) (fun c_8 => ?_) (fun c_8 => ?_)
  · refine tt_iload_n dX6_places_13 rfl ?_
    refine tt_iconst (nI 1) dX6_places_14 rfl ?_
    refine tt_iconst (nI 4) dX6_places_15 rfl ?_
    refine tt_fSi (c_X6_in _ _ _ _) dX6_places_16 sX6_25 rfl rfl (by decide) ⟨rfl, rfl⟩ (Nat.zero_le _) (Nat.zero_le _) (Nat.le_of_ble_eq_true rfl) ?_
    refine tt_if_neB (tgt := 25) dX6_places_19 (by decide) (fun c_19 => ?_) (fun c_19 => ?_)
    · obtain ⟨k0, hk0, rfl⟩ := zrng (by omega) c_8
      have hq0 : (nI k0).toNatClampNeg = k0 := nI_clamp (by omega)
      have e9 : sPlaces s (nI k0) w = (s (10 + k0), upd s (10 + k0) w) := by
        unfold sPlaces
        rw [if_pos c_8, if_pos c_19, hq0]
      rw [e9]
      refine tt_aload_n dX6_places_25 rfl ?_
      refine tt_mA (b := 182) dX6_places_26 fX6_7 rfl hM hM.2.1 ?_
      refine tt_bipush (nI 10) dX6_places_29 rfl ?_
      refine tt_iload_n dX6_places_31 rfl ?_
      refine tt_iaddN dX6_places_32 ?_
      refine tt_ld1 dX6_places_33 hM (by omega) ?_
      refine tt_istore_n dX6_places_34 rfl (Nat.le_of_ble_eq_true rfl) rfl ?_
      refine tt_aload_n dX6_places_35 rfl ?_
      refine tt_mA (b := 182) dX6_places_36 fX6_7 rfl hM hM.2.1 ?_
      refine tt_bipush (nI 10) dX6_places_39 rfl ?_
      refine tt_iload_n dX6_places_41 rfl ?_
      refine tt_iaddN dX6_places_42 ?_
      refine tt_iload_n dX6_places_43 rfl ?_
      refine tt_st1 dX6_places_44 hM (by omega) ?_
      refine tt_aload_n dX6_places_45 rfl ?_
      refine tt_iload_n dX6_places_46 rfl ?_
      refine tt_fVi (c_X6_changed hM _ _ _ _ _ _ kn hk h3 _) dX6_places_47 vX6_102 rfl rfl hM.1 (by decide) rfl (by decide) ⟨rfl, rfl⟩ (Nat.zero_le _) (Nat.zero_le _) (Nat.le_of_ble_eq_true rfl) ?_
      exact tt_ireturn dX6_places_50 rfl rfl (Nat.zero_le _) (Nat.zero_le _) ⟨rfl, rfl⟩
    · refine tt_bipush (-2) dX6_places_22 rfl ?_
      exact tt_ireturn dX6_places_24 rfl rfl (Nat.zero_le _) (Nat.zero_le _) (by first | (have e9 : sPlaces s v w = (-1, s) := (by unfold sPlaces; rw [if_neg c_8]); rw [e9]; exact ⟨rfl, zch_e (show (-1 : Int32) < 0 by decide)⟩) | (have e9 : sPlaces s v w = (-2, s) := (by unfold sPlaces; rw [if_pos c_8, if_neg c_19]); rw [e9]; exact ⟨rfl, zch_e (show (-2 : Int32) < 0 by decide)⟩))
  · refine tt_iconst (-1) dX6_places_11 rfl ?_
    exact tt_ireturn dX6_places_12 rfl rfl (Nat.zero_le _) (Nat.zero_le _) (by first | (have e9 : sPlaces s v w = (-1, s) := (by unfold sPlaces; rw [if_neg c_8]); rw [e9]; exact ⟨rfl, zch_e (show (-1 : Int32) < 0 by decide)⟩) | (have e9 : sPlaces s v w = (-2, s) := (by unfold sPlaces; rw [if_pos c_8, if_neg c_19]); rw [e9]; exact ⟨rfl, zch_e (show (-2 : Int32) < 0 by decide)⟩))
set_option maxRecDepth 100000 in
set_option maxHeartbeats 4000000 in
theorem c_X6_growth {h : zhp} (hM : zMo h) (F s a t l p : Nat → Int32) (n : Nat) (hw : sWF s n) (kn : Nat) (hk : kn ≤ 6) (h3 : F 3 = nI kn) (v w : Int32) : MM iX6_growth [.ref 181, .int v, .int w] (zm h F s a t l p) (zfi (sGro s v w).1 (zch h F (sGro s v w).2 (cpA s a) t l p kn (sGro s v w).1)) := by
  refine MM_of (by decide +kernel) (Nat.le_of_ble_eq_true rfl) ?_
  refine tt_aload_n dX6_growth_0 rfl ?_
  refine tt_fVv (c_X6_putAside hM _ _ _ _ _ _) dX6_growth_1 vX6_93 rfl rfl hM.1 (by decide) rfl (by decide) ⟨rfl, rfl⟩ (Nat.zero_le _) (Nat.zero_le _) (Nat.le_of_ble_eq_true rfl) ?_
  refine tt_aload_n dX6_growth_4 rfl ?_
  refine tt_iload_n dX6_growth_5 rfl ?_
  refine tt_fVi (c_X6_isSkip hM _ _ _ _ _ _ _) dX6_growth_6 vX6_84 rfl rfl hM.1 (by decide) rfl (by decide) ⟨rfl, rfl⟩ (Nat.zero_le _) (Nat.zero_le _) (Nat.le_of_ble_eq_true rfl) ?_
  refine tt_if_neB (tgt := 14) dX6_growth_9 (by decide) (fun c_9 => ?_) (fun c_9 => ?_)
  · refine tt_iload_n dX6_growth_14 rfl ?_
    refine tt_iconst (nI 0) dX6_growth_15 rfl ?_
    refine tt_bipush (nI 30) dX6_growth_16 rfl ?_
    refine tt_fSi (c_X6_in _ _ _ _) dX6_growth_18 sX6_25 rfl rfl (by decide) ⟨rfl, rfl⟩ (Nat.zero_le _) (Nat.zero_le _) (Nat.le_of_ble_eq_true rfl) ?_
    refine tt_if_neB (tgt := 27) dX6_growth_21 (by decide) (fun c_21 => ?_) (fun c_21 => ?_)
    · obtain ⟨k0, hk0, rfl⟩ := zskip hw.1 hw.2.1 c_9
      have hn10 := hw.1
      have hq0 : (nI k0).toNatClampNeg = k0 := nI_clamp (by omega)
      have e9 : sGro s (nI k0) w = (s (34 + 10 * k0 + 4), upd s (34 + 10 * k0 + 4) w) := by
        unfold sGro
        rw [if_pos c_9, if_pos c_21, hq0]
      rw [e9]
      refine tt_aload_n dX6_growth_27 rfl ?_
      refine tt_mA (b := 182) dX6_growth_28 fX6_7 rfl hM hM.2.1 ?_
      refine tt_iload_n dX6_growth_31 rfl ?_
      refine tt_iconst (nI 4) dX6_growth_32 rfl ?_
      refine tt_fSi (c_X6_of _ _ _) dX6_growth_33 sX6_29 rfl rfl (by decide) ⟨rfl, rfl⟩ (Nat.zero_le _) (Nat.zero_le _) (Nat.le_of_ble_eq_true rfl) ?_
      refine tt_ld1 dX6_growth_36 hM (by omega) ?_
      refine tt_istore_n dX6_growth_37 rfl (Nat.le_of_ble_eq_true rfl) rfl ?_
      refine tt_aload_n dX6_growth_38 rfl ?_
      refine tt_mA (b := 182) dX6_growth_39 fX6_7 rfl hM hM.2.1 ?_
      refine tt_iload_n dX6_growth_42 rfl ?_
      refine tt_iconst (nI 4) dX6_growth_43 rfl ?_
      refine tt_fSi (c_X6_of _ _ _) dX6_growth_44 sX6_29 rfl rfl (by decide) ⟨rfl, rfl⟩ (Nat.zero_le _) (Nat.zero_le _) (Nat.le_of_ble_eq_true rfl) ?_
      refine tt_iload_n dX6_growth_47 rfl ?_
      refine tt_st1 dX6_growth_48 hM (by omega) ?_
      refine tt_aload_n dX6_growth_49 rfl ?_
      refine tt_iload_n dX6_growth_50 rfl ?_
      refine tt_fVi (c_X6_changed hM _ _ _ _ _ _ kn hk h3 _) dX6_growth_51 vX6_102 rfl rfl hM.1 (by decide) rfl (by decide) ⟨rfl, rfl⟩ (Nat.zero_le _) (Nat.zero_le _) (Nat.le_of_ble_eq_true rfl) ?_
      exact tt_ireturn dX6_growth_54 rfl rfl (Nat.zero_le _) (Nat.zero_le _) ⟨rfl, rfl⟩
    · refine tt_bipush (-2) dX6_growth_24 rfl ?_
      exact tt_ireturn dX6_growth_26 rfl rfl (Nat.zero_le _) (Nat.zero_le _) (by first | (have e9 : sGro s v w = (-1, s) := (by unfold sGro; rw [if_neg c_9]); rw [e9]; exact ⟨rfl, zch_e (show (-1 : Int32) < 0 by decide)⟩) | (have e9 : sGro s v w = (-2, s) := (by unfold sGro; rw [if_pos c_9, if_neg c_21]); rw [e9]; exact ⟨rfl, zch_e (show (-2 : Int32) < 0 by decide)⟩))
  · refine tt_iconst (-1) dX6_growth_12 rfl ?_
    exact tt_ireturn dX6_growth_13 rfl rfl (Nat.zero_le _) (Nat.zero_le _) (by first | (have e9 : sGro s v w = (-1, s) := (by unfold sGro; rw [if_neg c_9]); rw [e9]; exact ⟨rfl, zch_e (show (-1 : Int32) < 0 by decide)⟩) | (have e9 : sGro s v w = (-2, s) := (by unfold sGro; rw [if_pos c_9, if_neg c_21]); rw [e9]; exact ⟨rfl, zch_e (show (-2 : Int32) < 0 by decide)⟩))
