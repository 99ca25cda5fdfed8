/-! the reference: write -/
def rCd (y : Int64) (k : Nat) : Int32 := ((y >>> ((nI (8 * k)).toInt64 &&& 63)) &&& 255).toInt32
def wSt (y : Int64) (k : Nat) (m : Nat × Bool × Bool) : Nat × Bool × Bool := (m.1 + (if (m.2.1 || decide (rCd y k = 0)) = true then 0 else 1), (m.2.1 || decide (rCd y k = 0)), (m.2.2 || (if (m.2.1 || decide (rCd y k = 0)) = true then !decide (rCd y k = 0) else !decide (nI 33 ≤ rCd y k ∧ rCd y k ≤ nI 126))))
def wRs (y : Int64) : Nat × Bool × Bool := zlp (wSt y) 8 0 (0, false, decide (lg_cmp (y &&& 255) 0 = 0))
def wFp (y : Int64) (F p : Nat → Int32) (len many : Nat) : (Nat → Int32) × (Nat → Int32) := zlp (fun k x => (upd x.1 7 (x.1 7 + nI 1), upd x.2 (len + k) (rCd y (many - 1 - k)))) many 0 (F, p)
def sWr (y : Int64) (F p : Nat → Int32) (len : Nat) : Int32 × (Nat → Int32) × (Nat → Int32) := if (wRs y).2.2 = true then (-2, F, p) else if len + (wRs y).1 ≤ 60 then (nI (len + (wRs y).1), wFp y F p len (wRs y).1) else (-4, F, p)
theorem wFp_7 {y : Int64} {F p : Nat → Int32} {len many : Nat} (h : F 7 = nI len) : (wFp y F p len many).1 7 = nI (len + many) := by
  have := zlp_inv (f := fun k (x : (Nat → Int32) × (Nat → Int32)) => (upd x.1 7 (x.1 7 + nI 1), upd x.2 (len + k) (rCd y (many - 1 - k)))) (fun k x => x.1 7 = nI (len + k)) many 0 (F, p) h (fun j x _ _ q => by
    show upd x.1 7 (x.1 7 + nI 1) 7 = _
    rw [pk_us, q, nI_add, Nat.add_assoc])
  rw [Nat.zero_add] at this
  exact this
set_option maxRecDepth 100000 in
set_option maxHeartbeats 4000000 in
theorem c_X6_write {h : zhp} (hM : zMo h) (F s a t l p : Nat → Int32) (y : Int64) (len : Nat) (hlen : len ≤ 60) (h7 : F 7 = nI len) : MM iX6_write [.ref 181, .long y] (zm h F s a t l p) (zfi (sWr y F p len).1 (zm h (sWr y F p len).2.1 s a t l (sWr y F p len).2.2)) := by
  refine MM_of (by decide +kernel) (Nat.le_of_ble_eq_true rfl) ?_
  refine tt_iconst (nI 0) dX6_write_0 rfl ?_
  refine tt_istore_n dX6_write_1 rfl (Nat.le_of_ble_eq_true rfl) rfl ?_
  refine tt_iconst (nI 0) dX6_write_2 rfl ?_
  refine tt_istore dX6_write_3 rfl (Nat.le_of_ble_eq_true rfl) rfl ?_
  refine tt_lload_n dX6_write_5 rfl ?_
  refine tt_ldc2 dX6_write_6 lX6_144 ?_
  refine tt_land dX6_write_9 ?_
  refine tt_lconst 0 dX6_write_10 rfl ?_
  refine tt_lcmp dX6_write_11 ?_
  refine tt_c1 (tgt := 20) (x := zb (decide (lg_cmp (y &&& 255) 0 = 0) = true)) ?_ (fun key_20 => ?_)
  · refine tt_istore dX6_write_20 rfl (Nat.le_of_ble_eq_true rfl) rfl ?_
    refine tt_iconst (nI 0) dX6_write_22 rfl ?_
    refine tt_istore dX6_write_23 rfl (Nat.le_of_ble_eq_true rfl) rfl ?_
    refine tt_loop (fun k (x : (Nat × Bool × Bool) × Option Value) => (wSt y k x.1, some (Value.int (rCd y k)))) 8 (fun k x => x.1.1 ≤ k) (fun k x => [some (.ref 181), some (.long y), none, some (.int (nI x.1.1)), some (.int (zb (x.1.2.1 = true))), some (.int (zb (x.1.2.2 = true))), some (.int (nI k)), x.2]) (fun _ _ => zm h F s a t l p) ((0, false, decide (lg_cmp (y &&& 255) 0 = 0)), none) (Nat.le_refl 0) (fun k x _ hx => by
      show x.1.1 + (if _ then 0 else 1) ≤ k + 1
      split <;> omega) (fun hx => ?_) (fun k x hk hI ih => ?_)
    · have hz : (zlp (fun k (x : (Nat × Bool × Bool) × Option Value) => (wSt y k x.1, some (Value.int (rCd y k)))) 8 0 ((0, false, decide (lg_cmp (y &&& 255) 0 = 0)), none)).1 = wRs y := zlp_fst2 (wSt y) (fun k _ => some (Value.int (rCd y k))) 8 0 (_, none)
      generalize zlp (fun k (x : (Nat × Bool × Bool) × Option Value) => (wSt y k x.1, some (Value.int (rCd y k)))) 8 0 ((0, false, decide (lg_cmp (y &&& 255) 0 = 0)), none) = m at hx hz ⊢
      refine tt_iload dX6_write_25 rfl ?_
      refine tt_bipush (nI 8) dX6_write_27 rfl ?_
      refine tt_icmp_geN (tgt := 119) dX6_write_29 (by decide) (by omega) (by omega) (fun c_29 => ?_) (fun c_29 => ?_)
      · refine tt_iload dX6_write_119 rfl ?_
        refine tt_if_eqB (tgt := 127) dX6_write_121 (by decide) (fun c_121 => ?_) (fun c_121 => ?_)
        · refine tt_aload_n dX6_write_127 rfl ?_
          refine tt_mI dX6_write_128 fX6_134 rfl hM ?_
          refine tt_eq h7 ?_
          refine tt_iload_n dX6_write_131 rfl ?_
          refine tt_iaddN dX6_write_132 ?_
          refine tt_bipush (nI 60) dX6_write_133 rfl ?_
          refine tt_icmp_leN (tgt := 141) dX6_write_135 (by decide) (by omega) (by omega) (fun c_135 => ?_) (fun c_135 => ?_)
          · refine tt_iload_n dX6_write_141 rfl ?_
            refine tt_iconst (nI 1) dX6_write_142 rfl ?_
            refine tt_isub dX6_write_143 ?_
            refine tt_eq (show _ = nI (m.1.1 - 0) + (-1) by rw [Nat.sub_zero, Int32.sub_eq_add_neg]; rfl) ?_
            refine tt_istore dX6_write_144 rfl (Nat.le_of_ble_eq_true rfl) rfl ?_
            refine tt_loop (fun k (x : (Nat → Int32) × (Nat → Int32)) => (upd x.1 7 (x.1 7 + nI 1), upd x.2 (len + k) (rCd y (m.1.1 - 1 - k)))) m.1.1 (fun k x => x.1 7 = nI (len + k)) (fun k _ => [some (.ref 181), some (.long y), none, some (.int (nI m.1.1)), some (.int (zb (m.1.2.1 = true))), some (.int (zb (m.1.2.2 = true))), some (.int (nI (m.1.1 - k) + (-1))), m.2]) (fun _ x => zm h x.1 s a t l x.2) (F, p) h7 (fun k x _ hx => by
        show upd x.1 7 (x.1 7 + nI 1) 7 = _
        rw [pk_us, hx, nI_add, Nat.add_assoc]) (fun hx => ?_) (fun k x hk hI ih => ?_)
            · refine tt_iload dX6_write_146 rfl ?_
              try (refine tt_eq hdk ?_)
              refine tt_if_lt (tgt := 188) dX6_write_148 (by decide) (fun c_148 => ?_) (fun c_148 => ?_)
              · refine tt_aload_n dX6_write_188 rfl ?_
                refine tt_mI dX6_write_189 fX6_134 rfl hM ?_
                exact tt_ireturn dX6_write_192 rfl rfl (Nat.zero_le _) (Nat.zero_le _) (by first | (unfold sWr; rw [← hz, if_pos c_121]; exact ⟨rfl, rfl⟩) | (unfold sWr; rw [← hz, if_neg c_121, if_neg (by omega)]; exact ⟨rfl, rfl⟩) | (unfold sWr; rw [← hz, if_neg c_121, if_pos (by omega)]; exact ⟨congrArg (fun z => some (Value.int z)) (wFp_7 h7), rfl⟩))
              · exact absurd (show nI (m.1.1 - m.1.1) + (-1) < 0 by rw [Nat.sub_self]; decide) c_148
            · have hdk : nI (m.1.1 - k) + (-1) = nI (m.1.1 - 1 - k) := by
                rw [show m.1.1 - k = (m.1.1 - 1 - k) + 1 by omega]
                exact pk_m1 _
              have hdk2 : nI (m.1.1 - (k + 1)) + (-1) = nI (m.1.1 - k) + (-1) + Int32.ofInt (-1) := by
                rw [hdk, show m.1.1 - (k + 1) = m.1.1 - 1 - k by omega]
                rfl
              rw [hdk2] at ih
              refine tt_iload dX6_write_146 rfl ?_
              try (refine tt_eq hdk ?_)
              refine tt_if_lt (tgt := 188) dX6_write_148 (by decide) (fun c_148 => ?_) (fun c_148 => ?_)
              · exact absurd c_148 (nI_pos (by omega))
              · refine tt_aload_n dX6_write_151 rfl ?_
                refine tt_mA (b := 186) dX6_write_152 fX6_22 rfl hM hM.2.2.2.2.2.1 ?_
                refine tt_aload_n dX6_write_155 rfl ?_
                refine tt_mI dX6_write_156 fX6_134 rfl hM ?_
                refine tt_eq hI ?_
                refine tt_lload_n dX6_write_159 rfl ?_
                refine tt_bipush (nI 8) dX6_write_160 rfl ?_
                refine tt_iload dX6_write_162 rfl ?_
                refine tt_eq hdk ?_
                refine tt_imulN dX6_write_164 ?_
                refine tt_lshr dX6_write_165 ?_
                refine tt_ldc2 dX6_write_166 lX6_144 ?_
                refine tt_land dX6_write_169 ?_
                refine tt_l2i dX6_write_170 ?_
                refine tt_st5 dX6_write_171 hM (by omega) ?_
                refine tt_aload_n dX6_write_172 rfl ?_
                refine tt_dup dX6_write_173 rfl ?_
                refine tt_mI dX6_write_174 fX6_134 rfl hM ?_
                refine tt_iconst (nI 1) dX6_write_177 rfl ?_
                refine tt_iadd dX6_write_178 ?_
                refine tt_mp dX6_write_179 fX6_134 rfl rfl hM ?_
                refine tt_iinc dX6_write_182 rfl rfl rfl (Nat.le_of_ble_eq_true rfl) rfl ?_
                refine tt_goto (tgt := 146) dX6_write_185 (by decide) ?_
                exact ih
          · refine tt_bipush (-4) dX6_write_138 rfl ?_
            exact tt_ireturn dX6_write_140 rfl rfl (Nat.zero_le _) (Nat.zero_le _) (by first | (unfold sWr; rw [← hz, if_pos c_121]; exact ⟨rfl, rfl⟩) | (unfold sWr; rw [← hz, if_neg c_121, if_neg (by omega)]; exact ⟨rfl, rfl⟩) | (unfold sWr; rw [← hz, if_neg c_121, if_pos (by omega)]; exact ⟨congrArg (fun z => some (Value.int z)) (wFp_7 h7), rfl⟩))
        · refine tt_bipush (-2) dX6_write_124 rfl ?_
          exact tt_ireturn dX6_write_126 rfl rfl (Nat.zero_le _) (Nat.zero_le _) (by first | (unfold sWr; rw [← hz, if_pos c_121]; exact ⟨rfl, rfl⟩) | (unfold sWr; rw [← hz, if_neg c_121, if_neg (by omega)]; exact ⟨rfl, rfl⟩) | (unfold sWr; rw [← hz, if_neg c_121, if_pos (by omega)]; exact ⟨congrArg (fun z => some (Value.int z)) (wFp_7 h7), rfl⟩))
      · exact absurd c_29 (by omega)
    · refine tt_iload dX6_write_25 rfl ?_
      refine tt_bipush (nI 8) dX6_write_27 rfl ?_
      refine tt_icmp_geN (tgt := 119) dX6_write_29 (by decide) (by omega) (by omega) (fun c_29 => ?_) (fun c_29 => ?_)
      · exact absurd c_29 (by omega)
      · refine tt_lload_n dX6_write_32 rfl ?_
        refine tt_bipush (nI 8) dX6_write_33 rfl ?_
        refine tt_iload dX6_write_35 rfl ?_
        refine tt_imulN dX6_write_37 ?_
        refine tt_lshr dX6_write_38 ?_
        refine tt_ldc2 dX6_write_39 lX6_144 ?_
        refine tt_land dX6_write_42 ?_
        refine tt_l2i dX6_write_43 ?_
        refine tt_eq (show _ = rCd y k from rfl) ?_
        refine tt_istore dX6_write_44 rfl (Nat.le_of_ble_eq_true rfl) rfl ?_
        refine tt_iload dX6_write_46 rfl ?_
        refine tt_c1 (tgt := 61) (x := zb ((x.1.2.1 || decide (rCd y k = 0)) = true)) ?_ (fun key_61 => ?_)
        · refine tt_istore dX6_write_61 rfl (Nat.le_of_ble_eq_true rfl) rfl ?_
          refine tt_iload dX6_write_63 rfl ?_
          refine tt_c1 (tgt := 98) (x := zb ((x.1.2.2 || (if (x.1.2.1 || decide (rCd y k = 0)) = true then !decide (rCd y k = 0) else !decide (nI 33 ≤ rCd y k ∧ rCd y k ≤ nI 126))) = true)) ?_ (fun key_98 => ?_)
          · refine tt_istore dX6_write_98 rfl (Nat.le_of_ble_eq_true rfl) rfl ?_
            refine tt_iload_n dX6_write_100 rfl ?_
            refine tt_iload dX6_write_101 rfl ?_
            refine tt_c1 (tgt := 111) (x := nI (if (x.1.2.1 || decide (rCd y k = 0)) = true then 0 else 1)) ?_ (fun key_111 => ?_)
            · refine tt_iaddN dX6_write_111 ?_
              refine tt_istore_n dX6_write_112 rfl (Nat.le_of_ble_eq_true rfl) rfl ?_
              refine tt_iincN dX6_write_113 rfl rfl (Nat.le_of_ble_eq_true rfl) rfl ?_
              refine tt_goto (tgt := 25) dX6_write_116 (by decide) ?_
              exact ih
            · refine tt_if_eqB (tgt := 110) dX6_write_103 (by decide) (fun c_103 => ?_) (fun c_103 => ?_)
              · refine tt_iconst (nI 1) dX6_write_110 rfl ?_
                exact key_111 _ (by first | exact (if_pos (by simp_all)).symm | exact (if_neg (by simp_all)).symm | simp_all)
              · refine tt_iconst (nI 0) dX6_write_106 rfl ?_
                refine tt_goto (tgt := 111) dX6_write_107 (by decide) ?_
                exact key_111 _ (by first | exact (if_pos (by simp_all)).symm | exact (if_neg (by simp_all)).symm | simp_all)
          · refine tt_if_neB (tgt := 93) dX6_write_65 (by decide) (fun c_65 => ?_) (fun c_65 => ?_)
            · refine tt_iconst (nI 1) dX6_write_93 rfl ?_
              refine tt_goto (tgt := 98) dX6_write_94 (by decide) ?_
              exact key_98 _ (by first | exact (if_pos (by rw [if_neg c_70, decide_eq_false c_90]; simp)).symm | exact (if_neg (by rw [if_neg c_70, decide_eq_true c_90]; simpa using c_65)).symm | exact (if_pos (by simp_all)).symm | exact (if_neg (by simp_all)).symm | simp_all)
            · refine tt_iload dX6_write_68 rfl ?_
              refine tt_if_eqB (tgt := 81) dX6_write_70 (by decide) (fun c_70 => ?_) (fun c_70 => ?_)
              · refine tt_iload dX6_write_81 rfl ?_
                refine tt_bipush (nI 33) dX6_write_83 rfl ?_
                refine tt_bipush (nI 126) dX6_write_85 rfl ?_
                refine tt_fSi (c_X6_in _ _ _ _) dX6_write_87 sX6_25 rfl rfl (by decide) ⟨rfl, rfl⟩ (Nat.zero_le _) (Nat.zero_le _) (Nat.le_of_ble_eq_true rfl) ?_
                refine tt_if_neB (tgt := 97) dX6_write_90 (by decide) (fun c_90 => ?_) (fun c_90 => ?_)
                · refine tt_iconst (nI 0) dX6_write_97 rfl ?_
                  exact key_98 _ (by first | exact (if_pos (by rw [if_neg c_70, decide_eq_false c_90]; simp)).symm | exact (if_neg (by rw [if_neg c_70, decide_eq_true c_90]; simpa using c_65)).symm | exact (if_pos (by simp_all)).symm | exact (if_neg (by simp_all)).symm | simp_all)
                · refine tt_iconst (nI 1) dX6_write_93 rfl ?_
                  refine tt_goto (tgt := 98) dX6_write_94 (by decide) ?_
                  exact key_98 _ (by first | exact (if_pos (by rw [if_neg c_70, decide_eq_false c_90]; simp)).symm | exact (if_neg (by rw [if_neg c_70, decide_eq_true c_90]; simpa using c_65)).symm | exact (if_pos (by simp_all)).symm | exact (if_neg (by simp_all)).symm | simp_all)
              · refine tt_iload dX6_write_73 rfl ?_
                refine tt_if_eq (tgt := 97) dX6_write_75 (by decide) (fun c_75 => ?_) (fun c_75 => ?_)
                · refine tt_iconst (nI 0) dX6_write_97 rfl ?_
                  exact key_98 _ (by first | exact (if_pos (by rw [if_neg c_70, decide_eq_false c_90]; simp)).symm | exact (if_neg (by rw [if_neg c_70, decide_eq_true c_90]; simpa using c_65)).symm | exact (if_pos (by simp_all)).symm | exact (if_neg (by simp_all)).symm | simp_all)
                · refine tt_goto (tgt := 93) dX6_write_78 (by decide) ?_
                  refine tt_iconst (nI 1) dX6_write_93 rfl ?_
                  refine tt_goto (tgt := 98) dX6_write_94 (by decide) ?_
                  exact key_98 _ (by first | exact (if_pos (by rw [if_neg c_70, decide_eq_false c_90]; simp)).symm | exact (if_neg (by rw [if_neg c_70, decide_eq_true c_90]; simpa using c_65)).symm | exact (if_pos (by simp_all)).symm | exact (if_neg (by simp_all)).symm | simp_all)
        · refine tt_if_neB (tgt := 56) dX6_write_48 (by decide) (fun c_48 => ?_) (fun c_48 => ?_)
          · refine tt_iconst (nI 1) dX6_write_56 rfl ?_
            refine tt_goto (tgt := 61) dX6_write_57 (by decide) ?_
            exact key_61 _ (by first | exact (if_pos (by simp_all)).symm | exact (if_neg (by simp_all)).symm | simp_all)
          · refine tt_iload dX6_write_51 rfl ?_
            refine tt_if_ne (tgt := 60) dX6_write_53 (by decide) (fun c_53 => ?_) (fun c_53 => ?_)
            · refine tt_iconst (nI 0) dX6_write_60 rfl ?_
              exact key_61 _ (by first | exact (if_pos (by simp_all)).symm | exact (if_neg (by simp_all)).symm | simp_all)
            · refine tt_iconst (nI 1) dX6_write_56 rfl ?_
              refine tt_goto (tgt := 61) dX6_write_57 (by decide) ?_
              exact key_61 _ (by first | exact (if_pos (by simp_all)).symm | exact (if_neg (by simp_all)).symm | simp_all)
  · refine tt_if_ne (tgt := 19) dX6_write_12 (by decide) (fun c_12 => ?_) (fun c_12 => ?_)
    · refine tt_iconst (nI 0) dX6_write_19 rfl ?_
      exact key_20 _ (by first | exact (if_pos (by simp_all)).symm | exact (if_neg (by simp_all)).symm | simp_all)
    · refine tt_iconst (nI 1) dX6_write_15 rfl ?_
      refine tt_goto (tgt := 20) dX6_write_16 (by decide) ?_
      exact key_20 _ (by first | exact (if_pos (by simp_all)).symm | exact (if_neg (by simp_all)).symm | simp_all)
