/-! the reference: an order is read -/
def rd43 (p : Nat → Int32) (n k : Nat) : (Int32 × Int32 × Int32 × Int32) × Nat × Bool :=
  let a1 := tk p n (nI 48) (nI 53) (k + 1) false
  let a2 := tk p n (nI 48) (nI 51) a1.2.1 a1.2.2
  let a3 := tk p n (nI 48) (nI 53) a2.2.1 a2.2.2
  let a4 := tk p n (nI 58) (nI 58) a3.2.1 a3.2.2
  let a5 := nu p n 0 30 a4.2.1 a4.2.2
  ((a1.1, a2.1, a3.1, a5.1), a5.2)
def rd1 (p : Nat → Int32) (n k : Nat) : (Int32 × Int32 × Int32 × Int32) × Nat × Bool :=
  let a1 := tk p n (nI 48) (nI 57) (k + 1) false
  ((a1.1, 0, 0, 0), a1.2)
def rd112 (p : Nat → Int32) (n k : Nat) : (Int32 × Int32 × Int32 × Int32) × Nat × Bool :=
  let a1 := tk p n (nI 48) (nI 57) (k + 1) false
  let a4 := tk p n (nI 58) (nI 58) a1.2.1 a1.2.2
  let a5 := nu p n 1 99 a4.2.1 a4.2.2
  ((a1.1, 0, 0, a5.1), a5.2)
def rd46 (p : Nat → Int32) (n k : Nat) : (Int32 × Int32 × Int32 × Int32) × Nat × Bool :=
  let a5 := nu p n 1 99 (k + 1) false
  ((0, 0, 0, a5.1), a5.2)
/-- an order at k: its sign, its numbers, where it ends, whether it is at fault -/
def rdO (p : Nat → Int32) (n k : Nat) : Int32 × (Int32 × Int32 × Int32 × Int32) × Nat × Bool :=
  if k < n then (if p k = nI 43 then (nI 43, rd43 p n k) else if p k = nI 119 then (nI 119, rd1 p n k) else if p k = nI 45 then (nI 45, rd1 p n k) else if p k = nI 112 then (nI 112, rd112 p n k) else if p k = nI 111 then (nI 111, rd1 p n k) else if p k = nI 46 then (nI 46, rd46 p n k) else (p k, (0, 0, 0, 0), k, true)) else (nI 0, (0, 0, 0, 0), k, true)
/-- what cell 181 keeps of an order that was read -/
def zoF (F F1 : Nat → Int32) (o : Int32 × (Int32 × Int32 × Int32 × Int32) × Nat × Bool) : Prop :=
  F1 3 = F 3 ∧ F1 5 = F 5 ∧ F1 7 = F 7 ∧ F1 8 = nI o.2.2.1 ∧ F1 9 = zb (o.2.2.2 = true) ∧ (o.2.2.2 = false → F1 10 = o.1 ∧ (o.1 ≠ nI 46 → F1 11 = o.2.1.1) ∧ (o.1 = nI 43 → F1 12 = o.2.1.2.1 ∧ F1 13 = o.2.1.2.2.1) ∧ (o.1 = nI 43 ∨ o.1 = nI 112 ∨ o.1 = nI 46 → F1 14 = o.2.1.2.2.2))
set_option maxRecDepth 100000 in
set_option maxHeartbeats 4000000 in
theorem c_X6_readOrder_43 {h : zhp} (hM : zMo h) (F s a t l p : Nat → Int32) (n : Nat) (ht : pOK p n) (h7 : F 7 = nI n) (k : Nat) (hk : k ≤ 60) (h8 : F 8 = nI k) (h9 : F 9 = nI 0) (hkn : k < n) (hsg : p k = nI 43) : MM iX6_readOrder [.ref 181] (zm h F s a t l p) (fun r h1 => r = none ∧ ∃ F1, h1 = zm h F1 s a t l p ∧ zoF F F1 (nI 43, rd43 p n k)) := by
  have hn60 := ht.1
  refine MM_of (by decide +kernel) (Nat.le_of_ble_eq_true rfl) ?_
  refine tt_aload_n dX6_readOrder_0 rfl ?_
  refine tt_aload_n dX6_readOrder_1 rfl ?_
  refine tt_mI dX6_readOrder_2 fX6_150 rfl hM ?_
  refine tt_eq (h8) ?_
  refine tt_aload_n dX6_readOrder_5 rfl ?_
  refine tt_mI dX6_readOrder_6 fX6_134 rfl hM ?_
  refine tt_eq (h7) ?_
  refine tt_icmp_geN (tgt := 24) dX6_readOrder_9 (by decide) (by omega) (by omega) (fun c_9 => ?_) (fun c_9 => ?_)
  · exact absurd c_9 (by omega)
  · refine tt_aload_n dX6_readOrder_12 rfl ?_
    refine tt_mA (b := 186) dX6_readOrder_13 fX6_22 rfl hM hM.2.2.2.2.2.1 ?_
    refine tt_aload_n dX6_readOrder_16 rfl ?_
    refine tt_mI dX6_readOrder_17 fX6_150 rfl hM ?_
    refine tt_eq (h8) ?_
    refine tt_ld5 dX6_readOrder_20 hM (by omega) ?_
    refine tt_eq (hsg) ?_
    refine tt_goto (tgt := 25) dX6_readOrder_21 (by decide) ?_
    refine tt_mp dX6_readOrder_25 fX6_160 rfl rfl hM ?_
    refine tt_aload_n dX6_readOrder_28 rfl ?_
    refine tt_aload_n dX6_readOrder_29 rfl ?_
    refine tt_mI dX6_readOrder_30 fX6_146 rfl hM ?_
    refine tt_eq (show _ = nI 0 from h9) ?_
    refine tt_if_ne (tgt := 90) dX6_readOrder_33 (by decide) (fun q => absurd rfl q) (fun _ => ?_)
    refine tt_aload_n dX6_readOrder_36 rfl ?_
    refine tt_mI dX6_readOrder_37 fX6_160 rfl hM ?_
    refine tt_eq (show _ = nI 43 from rfl) ?_
    refine tt_bipush (nI 43) dX6_readOrder_40 rfl ?_
    refine tt_icmp_eq (tgt := 94) dX6_readOrder_42 (by decide) (fun _ => ?_) (fun q => absurd (by decide) q)
    refine tt_iconst (nI 0) dX6_readOrder_94 rfl ?_
    refine tt_mpZ dX6_readOrder_95 fX6_146 rfl (Or.inl rfl) rfl hM ?_
    refine tt_aload_n dX6_readOrder_98 rfl ?_
    refine tt_dup dX6_readOrder_99 rfl ?_
    refine tt_mI dX6_readOrder_100 fX6_150 rfl hM ?_
    refine tt_eq (show _ = nI k from h8) ?_
    refine tt_aload_n dX6_readOrder_103 rfl ?_
    refine tt_mI dX6_readOrder_104 fX6_146 rfl hM ?_
    refine tt_eq (show _ = nI 0 from rfl) ?_
    refine tt_if_eq (tgt := 114) dX6_readOrder_107 (by decide) (fun _ => ?_) (fun q => absurd (by decide) q)
    refine tt_iconst (nI 1) dX6_readOrder_114 rfl ?_
    refine tt_iaddN dX6_readOrder_115 ?_
    refine tt_mp dX6_readOrder_116 fX6_150 rfl rfl hM ?_
    refine tt_aload_n dX6_readOrder_119 rfl ?_
    refine tt_mI dX6_readOrder_120 fX6_160 rfl hM ?_
    refine tt_eq (show _ = nI 43 from rfl) ?_
    refine tt_bipush (nI 46) dX6_readOrder_123 rfl ?_
    refine tt_icmp_eq (tgt := 160) dX6_readOrder_125 (by decide) (fun q => absurd q (by decide)) (fun _ => ?_)
    refine tt_aload_n dX6_readOrder_128 rfl ?_
    refine tt_aload_n dX6_readOrder_129 rfl ?_
    refine tt_mI dX6_readOrder_130 fX6_160 rfl hM ?_
    refine tt_eq (show _ = nI 43 from rfl) ?_
    refine tt_bipush (nI 43) dX6_readOrder_133 rfl ?_
    refine tt_icmp_ne (tgt := 149) dX6_readOrder_135 (by decide) (fun q => absurd rfl q) (fun _ => ?_)
    refine tt_aload_n dX6_readOrder_138 rfl ?_
    refine tt_bipush (nI 48) dX6_readOrder_139 rfl ?_
    refine tt_bipush (nI 53) dX6_readOrder_141 rfl ?_
    refine tt_fVi (c_X6_takesOne hM _ _ _ _ _ _ n ht.1 (by exact h7) (k + 1) (false) (by omega) (by rfl) (by rfl) _ _) dX6_readOrder_143 vX6_157 rfl rfl hM.1 (by decide) rfl (by decide) ⟨rfl, rfl⟩ (Nat.zero_le _) (Nat.zero_le _) (Nat.le_of_ble_eq_true rfl) ?_
    refine tt_goto (tgt := 157) dX6_readOrder_146 (by decide) ?_
    refine tt_mp dX6_readOrder_157 fX6_163 rfl rfl hM ?_
    refine tt_aload_n dX6_readOrder_160 rfl ?_
    refine tt_mI dX6_readOrder_161 fX6_160 rfl hM ?_
    refine tt_eq (show _ = nI 43 from rfl) ?_
    refine tt_bipush (nI 43) dX6_readOrder_164 rfl ?_
    refine tt_icmp_ne (tgt := 193) dX6_readOrder_166 (by decide) (fun q => absurd rfl q) (fun _ => ?_)
    refine tt_aload_n dX6_readOrder_169 rfl ?_
    refine tt_aload_n dX6_readOrder_170 rfl ?_
    refine tt_bipush (nI 48) dX6_readOrder_171 rfl ?_
    refine tt_bipush (nI 51) dX6_readOrder_173 rfl ?_
    refine tt_fVi (c_X6_takesOne hM _ _ _ _ _ _ n ht.1 (by exact h7) ((tk p n (nI 48) (nI 53) (k + 1) false).2.1) ((tk p n (nI 48) (nI 53) (k + 1) false).2.2) (tk_le ht.1 (by omega)) (by rfl) (by rfl) _ _) dX6_readOrder_175 vX6_157 rfl rfl hM.1 (by decide) rfl (by decide) ⟨rfl, rfl⟩ (Nat.zero_le _) (Nat.zero_le _) (Nat.le_of_ble_eq_true rfl) ?_
    refine tt_mp dX6_readOrder_178 fX6_166 rfl rfl hM ?_
    refine tt_aload_n dX6_readOrder_181 rfl ?_
    refine tt_aload_n dX6_readOrder_182 rfl ?_
    refine tt_bipush (nI 48) dX6_readOrder_183 rfl ?_
    refine tt_bipush (nI 53) dX6_readOrder_185 rfl ?_
    refine tt_fVi (c_X6_takesOne hM _ _ _ _ _ _ n ht.1 (by exact h7) ((tk p n (nI 48) (nI 51) (tk p n (nI 48) (nI 53) (k + 1) false).2.1 (tk p n (nI 48) (nI 53) (k + 1) false).2.2).2.1) ((tk p n (nI 48) (nI 51) (tk p n (nI 48) (nI 53) (k + 1) false).2.1 (tk p n (nI 48) (nI 53) (k + 1) false).2.2).2.2) (tk_le ht.1 (tk_le ht.1 (by omega))) (by rfl) (by rfl) _ _) dX6_readOrder_187 vX6_157 rfl rfl hM.1 (by decide) rfl (by decide) ⟨rfl, rfl⟩ (Nat.zero_le _) (Nat.zero_le _) (Nat.le_of_ble_eq_true rfl) ?_
    refine tt_mp dX6_readOrder_190 fX6_169 rfl rfl hM ?_
    refine tt_aload_n dX6_readOrder_193 rfl ?_
    refine tt_mI dX6_readOrder_194 fX6_160 rfl hM ?_
    refine tt_eq (show _ = nI 43 from rfl) ?_
    refine tt_bipush (nI 43) dX6_readOrder_197 rfl ?_
    refine tt_icmp_eq (tgt := 211) dX6_readOrder_199 (by decide) (fun _ => ?_) (fun q => absurd (by decide) q)
    refine tt_aload_n dX6_readOrder_211 rfl ?_
    refine tt_bipush (nI 58) dX6_readOrder_212 rfl ?_
    refine tt_bipush (nI 58) dX6_readOrder_214 rfl ?_
    refine tt_fVi (c_X6_takesOne hM _ _ _ _ _ _ n ht.1 (by exact h7) ((tk p n (nI 48) (nI 53) (tk p n (nI 48) (nI 51) (tk p n (nI 48) (nI 53) (k + 1) false).2.1 (tk p n (nI 48) (nI 53) (k + 1) false).2.2).2.1 (tk p n (nI 48) (nI 51) (tk p n (nI 48) (nI 53) (k + 1) false).2.1 (tk p n (nI 48) (nI 53) (k + 1) false).2.2).2.2).2.1) ((tk p n (nI 48) (nI 53) (tk p n (nI 48) (nI 51) (tk p n (nI 48) (nI 53) (k + 1) false).2.1 (tk p n (nI 48) (nI 53) (k + 1) false).2.2).2.1 (tk p n (nI 48) (nI 51) (tk p n (nI 48) (nI 53) (k + 1) false).2.1 (tk p n (nI 48) (nI 53) (k + 1) false).2.2).2.2).2.2) (tk_le ht.1 (tk_le ht.1 (tk_le ht.1 (by omega)))) (by rfl) (by rfl) _ _) dX6_readOrder_216 vX6_157 rfl rfl hM.1 (by decide) rfl (by decide) ⟨rfl, rfl⟩ (Nat.zero_le _) (Nat.zero_le _) (Nat.le_of_ble_eq_true rfl) ?_
    refine tt_istore_n dX6_readOrder_219 rfl (Nat.le_of_ble_eq_true rfl) rfl ?_
    refine tt_aload_n dX6_readOrder_220 rfl ?_
    refine tt_mI dX6_readOrder_221 fX6_160 rfl hM ?_
    refine tt_eq (show _ = nI 43 from rfl) ?_
    refine tt_bipush (nI 43) dX6_readOrder_224 rfl ?_
    refine tt_icmp_eq (tgt := 247) dX6_readOrder_226 (by decide) (fun _ => ?_) (fun q => absurd (by decide) q)
    refine tt_aload_n dX6_readOrder_247 rfl ?_
    refine tt_aload_n dX6_readOrder_248 rfl ?_
    refine tt_mI dX6_readOrder_249 fX6_160 rfl hM ?_
    refine tt_eq (show _ = nI 43 from rfl) ?_
    refine tt_bipush (nI 43) dX6_readOrder_252 rfl ?_
    refine tt_icmp_ne (tgt := 267) dX6_readOrder_254 (by decide) (fun q => absurd rfl q) (fun _ => ?_)
    refine tt_aload_n dX6_readOrder_257 rfl ?_
    refine tt_iconst (nI 0) dX6_readOrder_258 rfl ?_
    refine tt_bipush (nI 30) dX6_readOrder_259 rfl ?_
    refine tt_fVi (c_X6_numberUpTo hM _ _ _ _ _ _ n ht (by exact h7) ((tk p n (nI 58) (nI 58) (tk p n (nI 48) (nI 53) (tk p n (nI 48) (nI 51) (tk p n (nI 48) (nI 53) (k + 1) false).2.1 (tk p n (nI 48) (nI 53) (k + 1) false).2.2).2.1 (tk p n (nI 48) (nI 51) (tk p n (nI 48) (nI 53) (k + 1) false).2.1 (tk p n (nI 48) (nI 53) (k + 1) false).2.2).2.2).2.1 (tk p n (nI 48) (nI 53) (tk p n (nI 48) (nI 51) (tk p n (nI 48) (nI 53) (k + 1) false).2.1 (tk p n (nI 48) (nI 53) (k + 1) false).2.2).2.1 (tk p n (nI 48) (nI 51) (tk p n (nI 48) (nI 53) (k + 1) false).2.1 (tk p n (nI 48) (nI 53) (k + 1) false).2.2).2.2).2.2).2.1) ((tk p n (nI 58) (nI 58) (tk p n (nI 48) (nI 53) (tk p n (nI 48) (nI 51) (tk p n (nI 48) (nI 53) (k + 1) false).2.1 (tk p n (nI 48) (nI 53) (k + 1) false).2.2).2.1 (tk p n (nI 48) (nI 51) (tk p n (nI 48) (nI 53) (k + 1) false).2.1 (tk p n (nI 48) (nI 53) (k + 1) false).2.2).2.2).2.1 (tk p n (nI 48) (nI 53) (tk p n (nI 48) (nI 51) (tk p n (nI 48) (nI 53) (k + 1) false).2.1 (tk p n (nI 48) (nI 53) (k + 1) false).2.2).2.1 (tk p n (nI 48) (nI 51) (tk p n (nI 48) (nI 53) (k + 1) false).2.1 (tk p n (nI 48) (nI 53) (k + 1) false).2.2).2.2).2.2).2.2) (tk_le ht.1 (tk_le ht.1 (tk_le ht.1 (tk_le ht.1 (by omega))))) (by rfl) (by rfl) 0 30 (by omega) (by omega)) dX6_readOrder_261 vX6_172 rfl rfl hM.1 (by decide) rfl (by decide) ⟨rfl, rfl⟩ (Nat.zero_le _) (Nat.zero_le _) (Nat.le_of_ble_eq_true rfl) ?_
    refine tt_goto (tgt := 274) dX6_readOrder_264 (by decide) ?_
    refine tt_mp dX6_readOrder_274 fX6_175 rfl rfl hM ?_
    exact tt_return dX6_readOrder_277 rfl (Nat.zero_le _) (Nat.zero_le _) ⟨rfl, _, rfl, rfl, rfl, rfl, rfl, rfl, fun _ => ⟨rfl, fun _ => rfl, fun _ => ⟨rfl, rfl⟩, fun _ => rfl⟩⟩
set_option maxRecDepth 100000 in
set_option maxHeartbeats 4000000 in
theorem c_X6_readOrder_119 {h : zhp} (hM : zMo h) (F s a t l p : Nat → Int32) (n : Nat) (ht : pOK p n) (h7 : F 7 = nI n) (k : Nat) (hk : k ≤ 60) (h8 : F 8 = nI k) (h9 : F 9 = nI 0) (hkn : k < n) (hsg : p k = nI 119) : MM iX6_readOrder [.ref 181] (zm h F s a t l p) (fun r h1 => r = none ∧ ∃ F1, h1 = zm h F1 s a t l p ∧ zoF F F1 (nI 119, rd1 p n k)) := by
  have hn60 := ht.1
  refine MM_of (by decide +kernel) (Nat.le_of_ble_eq_true rfl) ?_
  refine tt_aload_n dX6_readOrder_0 rfl ?_
  refine tt_aload_n dX6_readOrder_1 rfl ?_
  refine tt_mI dX6_readOrder_2 fX6_150 rfl hM ?_
  refine tt_eq (h8) ?_
  refine tt_aload_n dX6_readOrder_5 rfl ?_
  refine tt_mI dX6_readOrder_6 fX6_134 rfl hM ?_
  refine tt_eq (h7) ?_
  refine tt_icmp_geN (tgt := 24) dX6_readOrder_9 (by decide) (by omega) (by omega) (fun c_9 => ?_) (fun c_9 => ?_)
  · exact absurd c_9 (by omega)
  · refine tt_aload_n dX6_readOrder_12 rfl ?_
    refine tt_mA (b := 186) dX6_readOrder_13 fX6_22 rfl hM hM.2.2.2.2.2.1 ?_
    refine tt_aload_n dX6_readOrder_16 rfl ?_
    refine tt_mI dX6_readOrder_17 fX6_150 rfl hM ?_
    refine tt_eq (h8) ?_
    refine tt_ld5 dX6_readOrder_20 hM (by omega) ?_
    refine tt_eq (hsg) ?_
    refine tt_goto (tgt := 25) dX6_readOrder_21 (by decide) ?_
    refine tt_mp dX6_readOrder_25 fX6_160 rfl rfl hM ?_
    refine tt_aload_n dX6_readOrder_28 rfl ?_
    refine tt_aload_n dX6_readOrder_29 rfl ?_
    refine tt_mI dX6_readOrder_30 fX6_146 rfl hM ?_
    refine tt_eq (show _ = nI 0 from h9) ?_
    refine tt_if_ne (tgt := 90) dX6_readOrder_33 (by decide) (fun q => absurd rfl q) (fun _ => ?_)
    refine tt_aload_n dX6_readOrder_36 rfl ?_
    refine tt_mI dX6_readOrder_37 fX6_160 rfl hM ?_
    refine tt_eq (show _ = nI 119 from rfl) ?_
    refine tt_bipush (nI 43) dX6_readOrder_40 rfl ?_
    refine tt_icmp_eq (tgt := 94) dX6_readOrder_42 (by decide) (fun q => absurd q (by decide)) (fun _ => ?_)
    refine tt_aload_n dX6_readOrder_45 rfl ?_
    refine tt_mI dX6_readOrder_46 fX6_160 rfl hM ?_
    refine tt_eq (show _ = nI 119 from rfl) ?_
    refine tt_bipush (nI 119) dX6_readOrder_49 rfl ?_
    refine tt_icmp_eq (tgt := 94) dX6_readOrder_51 (by decide) (fun _ => ?_) (fun q => absurd (by decide) q)
    refine tt_iconst (nI 0) dX6_readOrder_94 rfl ?_
    refine tt_mpZ dX6_readOrder_95 fX6_146 rfl (Or.inl rfl) rfl hM ?_
    refine tt_aload_n dX6_readOrder_98 rfl ?_
    refine tt_dup dX6_readOrder_99 rfl ?_
    refine tt_mI dX6_readOrder_100 fX6_150 rfl hM ?_
    refine tt_eq (show _ = nI k from h8) ?_
    refine tt_aload_n dX6_readOrder_103 rfl ?_
    refine tt_mI dX6_readOrder_104 fX6_146 rfl hM ?_
    refine tt_eq (show _ = nI 0 from rfl) ?_
    refine tt_if_eq (tgt := 114) dX6_readOrder_107 (by decide) (fun _ => ?_) (fun q => absurd (by decide) q)
    refine tt_iconst (nI 1) dX6_readOrder_114 rfl ?_
    refine tt_iaddN dX6_readOrder_115 ?_
    refine tt_mp dX6_readOrder_116 fX6_150 rfl rfl hM ?_
    refine tt_aload_n dX6_readOrder_119 rfl ?_
    refine tt_mI dX6_readOrder_120 fX6_160 rfl hM ?_
    refine tt_eq (show _ = nI 119 from rfl) ?_
    refine tt_bipush (nI 46) dX6_readOrder_123 rfl ?_
    refine tt_icmp_eq (tgt := 160) dX6_readOrder_125 (by decide) (fun q => absurd q (by decide)) (fun _ => ?_)
    refine tt_aload_n dX6_readOrder_128 rfl ?_
    refine tt_aload_n dX6_readOrder_129 rfl ?_
    refine tt_mI dX6_readOrder_130 fX6_160 rfl hM ?_
    refine tt_eq (show _ = nI 119 from rfl) ?_
    refine tt_bipush (nI 43) dX6_readOrder_133 rfl ?_
    refine tt_icmp_ne (tgt := 149) dX6_readOrder_135 (by decide) (fun _ => ?_) (fun q => absurd q (by decide))
    refine tt_aload_n dX6_readOrder_149 rfl ?_
    refine tt_bipush (nI 48) dX6_readOrder_150 rfl ?_
    refine tt_bipush (nI 57) dX6_readOrder_152 rfl ?_
    refine tt_fVi (c_X6_takesOne hM _ _ _ _ _ _ n ht.1 (by exact h7) (k + 1) (false) (by omega) (by rfl) (by rfl) _ _) dX6_readOrder_154 vX6_157 rfl rfl hM.1 (by decide) rfl (by decide) ⟨rfl, rfl⟩ (Nat.zero_le _) (Nat.zero_le _) (Nat.le_of_ble_eq_true rfl) ?_
    refine tt_mp dX6_readOrder_157 fX6_163 rfl rfl hM ?_
    refine tt_aload_n dX6_readOrder_160 rfl ?_
    refine tt_mI dX6_readOrder_161 fX6_160 rfl hM ?_
    refine tt_eq (show _ = nI 119 from rfl) ?_
    refine tt_bipush (nI 43) dX6_readOrder_164 rfl ?_
    refine tt_icmp_ne (tgt := 193) dX6_readOrder_166 (by decide) (fun _ => ?_) (fun q => absurd q (by decide))
    refine tt_aload_n dX6_readOrder_193 rfl ?_
    refine tt_mI dX6_readOrder_194 fX6_160 rfl hM ?_
    refine tt_eq (show _ = nI 119 from rfl) ?_
    refine tt_bipush (nI 43) dX6_readOrder_197 rfl ?_
    refine tt_icmp_eq (tgt := 211) dX6_readOrder_199 (by decide) (fun q => absurd q (by decide)) (fun _ => ?_)
    refine tt_aload_n dX6_readOrder_202 rfl ?_
    refine tt_mI dX6_readOrder_203 fX6_160 rfl hM ?_
    refine tt_eq (show _ = nI 119 from rfl) ?_
    refine tt_bipush (nI 112) dX6_readOrder_206 rfl ?_
    refine tt_icmp_ne (tgt := 220) dX6_readOrder_208 (by decide) (fun _ => ?_) (fun q => absurd q (by decide))
    refine tt_aload_n dX6_readOrder_220 rfl ?_
    refine tt_mI dX6_readOrder_221 fX6_160 rfl hM ?_
    refine tt_eq (show _ = nI 119 from rfl) ?_
    refine tt_bipush (nI 43) dX6_readOrder_224 rfl ?_
    refine tt_icmp_eq (tgt := 247) dX6_readOrder_226 (by decide) (fun q => absurd q (by decide)) (fun _ => ?_)
    refine tt_aload_n dX6_readOrder_229 rfl ?_
    refine tt_mI dX6_readOrder_230 fX6_160 rfl hM ?_
    refine tt_eq (show _ = nI 119 from rfl) ?_
    refine tt_bipush (nI 112) dX6_readOrder_233 rfl ?_
    refine tt_icmp_eq (tgt := 247) dX6_readOrder_235 (by decide) (fun q => absurd q (by decide)) (fun _ => ?_)
    refine tt_aload_n dX6_readOrder_238 rfl ?_
    refine tt_mI dX6_readOrder_239 fX6_160 rfl hM ?_
    refine tt_eq (show _ = nI 119 from rfl) ?_
    refine tt_bipush (nI 46) dX6_readOrder_242 rfl ?_
    refine tt_icmp_ne (tgt := 277) dX6_readOrder_244 (by decide) (fun _ => ?_) (fun q => absurd q (by decide))
    exact tt_return dX6_readOrder_277 rfl (Nat.zero_le _) (Nat.zero_le _) ⟨rfl, _, rfl, rfl, rfl, rfl, rfl, rfl, fun _ => ⟨rfl, fun _ => rfl, fun q => absurd q (show ¬ (nI 119 = nI 43) by decide), fun q => absurd q (show ¬ (nI 119 = nI 43 ∨ nI 119 = nI 112 ∨ nI 119 = nI 46) by decide)⟩⟩
set_option maxRecDepth 100000 in
set_option maxHeartbeats 4000000 in
theorem c_X6_readOrder_45 {h : zhp} (hM : zMo h) (F s a t l p : Nat → Int32) (n : Nat) (ht : pOK p n) (h7 : F 7 = nI n) (k : Nat) (hk : k ≤ 60) (h8 : F 8 = nI k) (h9 : F 9 = nI 0) (hkn : k < n) (hsg : p k = nI 45) : MM iX6_readOrder [.ref 181] (zm h F s a t l p) (fun r h1 => r = none ∧ ∃ F1, h1 = zm h F1 s a t l p ∧ zoF F F1 (nI 45, rd1 p n k)) := by
  have hn60 := ht.1
  refine MM_of (by decide +kernel) (Nat.le_of_ble_eq_true rfl) ?_
  refine tt_aload_n dX6_readOrder_0 rfl ?_
  refine tt_aload_n dX6_readOrder_1 rfl ?_
  refine tt_mI dX6_readOrder_2 fX6_150 rfl hM ?_
  refine tt_eq (h8) ?_
  refine tt_aload_n dX6_readOrder_5 rfl ?_
  refine tt_mI dX6_readOrder_6 fX6_134 rfl hM ?_
  refine tt_eq (h7) ?_
  refine tt_icmp_geN (tgt := 24) dX6_readOrder_9 (by decide) (by omega) (by omega) (fun c_9 => ?_) (fun c_9 => ?_)
  · exact absurd c_9 (by omega)
  · refine tt_aload_n dX6_readOrder_12 rfl ?_
    refine tt_mA (b := 186) dX6_readOrder_13 fX6_22 rfl hM hM.2.2.2.2.2.1 ?_
    refine tt_aload_n dX6_readOrder_16 rfl ?_
    refine tt_mI dX6_readOrder_17 fX6_150 rfl hM ?_
    refine tt_eq (h8) ?_
    refine tt_ld5 dX6_readOrder_20 hM (by omega) ?_
    refine tt_eq (hsg) ?_
    refine tt_goto (tgt := 25) dX6_readOrder_21 (by decide) ?_
    refine tt_mp dX6_readOrder_25 fX6_160 rfl rfl hM ?_
    refine tt_aload_n dX6_readOrder_28 rfl ?_
    refine tt_aload_n dX6_readOrder_29 rfl ?_
    refine tt_mI dX6_readOrder_30 fX6_146 rfl hM ?_
    refine tt_eq (show _ = nI 0 from h9) ?_
    refine tt_if_ne (tgt := 90) dX6_readOrder_33 (by decide) (fun q => absurd rfl q) (fun _ => ?_)
    refine tt_aload_n dX6_readOrder_36 rfl ?_
    refine tt_mI dX6_readOrder_37 fX6_160 rfl hM ?_
    refine tt_eq (show _ = nI 45 from rfl) ?_
    refine tt_bipush (nI 43) dX6_readOrder_40 rfl ?_
    refine tt_icmp_eq (tgt := 94) dX6_readOrder_42 (by decide) (fun q => absurd q (by decide)) (fun _ => ?_)
    refine tt_aload_n dX6_readOrder_45 rfl ?_
    refine tt_mI dX6_readOrder_46 fX6_160 rfl hM ?_
    refine tt_eq (show _ = nI 45 from rfl) ?_
    refine tt_bipush (nI 119) dX6_readOrder_49 rfl ?_
    refine tt_icmp_eq (tgt := 94) dX6_readOrder_51 (by decide) (fun q => absurd q (by decide)) (fun _ => ?_)
    refine tt_aload_n dX6_readOrder_54 rfl ?_
    refine tt_mI dX6_readOrder_55 fX6_160 rfl hM ?_
    refine tt_eq (show _ = nI 45 from rfl) ?_
    refine tt_bipush (nI 45) dX6_readOrder_58 rfl ?_
    refine tt_icmp_eq (tgt := 94) dX6_readOrder_60 (by decide) (fun _ => ?_) (fun q => absurd (by decide) q)
    refine tt_iconst (nI 0) dX6_readOrder_94 rfl ?_
    refine tt_mpZ dX6_readOrder_95 fX6_146 rfl (Or.inl rfl) rfl hM ?_
    refine tt_aload_n dX6_readOrder_98 rfl ?_
    refine tt_dup dX6_readOrder_99 rfl ?_
    refine tt_mI dX6_readOrder_100 fX6_150 rfl hM ?_
    refine tt_eq (show _ = nI k from h8) ?_
    refine tt_aload_n dX6_readOrder_103 rfl ?_
    refine tt_mI dX6_readOrder_104 fX6_146 rfl hM ?_
    refine tt_eq (show _ = nI 0 from rfl) ?_
    refine tt_if_eq (tgt := 114) dX6_readOrder_107 (by decide) (fun _ => ?_) (fun q => absurd (by decide) q)
    refine tt_iconst (nI 1) dX6_readOrder_114 rfl ?_
    refine tt_iaddN dX6_readOrder_115 ?_
    refine tt_mp dX6_readOrder_116 fX6_150 rfl rfl hM ?_
    refine tt_aload_n dX6_readOrder_119 rfl ?_
    refine tt_mI dX6_readOrder_120 fX6_160 rfl hM ?_
    refine tt_eq (show _ = nI 45 from rfl) ?_
    refine tt_bipush (nI 46) dX6_readOrder_123 rfl ?_
    refine tt_icmp_eq (tgt := 160) dX6_readOrder_125 (by decide) (fun q => absurd q (by decide)) (fun _ => ?_)
    refine tt_aload_n dX6_readOrder_128 rfl ?_
    refine tt_aload_n dX6_readOrder_129 rfl ?_
    refine tt_mI dX6_readOrder_130 fX6_160 rfl hM ?_
    refine tt_eq (show _ = nI 45 from rfl) ?_
    refine tt_bipush (nI 43) dX6_readOrder_133 rfl ?_
    refine tt_icmp_ne (tgt := 149) dX6_readOrder_135 (by decide) (fun _ => ?_) (fun q => absurd q (by decide))
    refine tt_aload_n dX6_readOrder_149 rfl ?_
    refine tt_bipush (nI 48) dX6_readOrder_150 rfl ?_
    refine tt_bipush (nI 57) dX6_readOrder_152 rfl ?_
    refine tt_fVi (c_X6_takesOne hM _ _ _ _ _ _ n ht.1 (by exact h7) (k + 1) (false) (by omega) (by rfl) (by rfl) _ _) dX6_readOrder_154 vX6_157 rfl rfl hM.1 (by decide) rfl (by decide) ⟨rfl, rfl⟩ (Nat.zero_le _) (Nat.zero_le _) (Nat.le_of_ble_eq_true rfl) ?_
    refine tt_mp dX6_readOrder_157 fX6_163 rfl rfl hM ?_
    refine tt_aload_n dX6_readOrder_160 rfl ?_
    refine tt_mI dX6_readOrder_161 fX6_160 rfl hM ?_
    refine tt_eq (show _ = nI 45 from rfl) ?_
    refine tt_bipush (nI 43) dX6_readOrder_164 rfl ?_
    refine tt_icmp_ne (tgt := 193) dX6_readOrder_166 (by decide) (fun _ => ?_) (fun q => absurd q (by decide))
    refine tt_aload_n dX6_readOrder_193 rfl ?_
    refine tt_mI dX6_readOrder_194 fX6_160 rfl hM ?_
    refine tt_eq (show _ = nI 45 from rfl) ?_
    refine tt_bipush (nI 43) dX6_readOrder_197 rfl ?_
    refine tt_icmp_eq (tgt := 211) dX6_readOrder_199 (by decide) (fun q => absurd q (by decide)) (fun _ => ?_)
    refine tt_aload_n dX6_readOrder_202 rfl ?_
    refine tt_mI dX6_readOrder_203 fX6_160 rfl hM ?_
    refine tt_eq (show _ = nI 45 from rfl) ?_
    refine tt_bipush (nI 112) dX6_readOrder_206 rfl ?_
    refine tt_icmp_ne (tgt := 220) dX6_readOrder_208 (by decide) (fun _ => ?_) (fun q => absurd q (by decide))
    refine tt_aload_n dX6_readOrder_220 rfl ?_
    refine tt_mI dX6_readOrder_221 fX6_160 rfl hM ?_
    refine tt_eq (show _ = nI 45 from rfl) ?_
    refine tt_bipush (nI 43) dX6_readOrder_224 rfl ?_
    refine tt_icmp_eq (tgt := 247) dX6_readOrder_226 (by decide) (fun q => absurd q (by decide)) (fun _ => ?_)
    refine tt_aload_n dX6_readOrder_229 rfl ?_
    refine tt_mI dX6_readOrder_230 fX6_160 rfl hM ?_
    refine tt_eq (show _ = nI 45 from rfl) ?_
    refine tt_bipush (nI 112) dX6_readOrder_233 rfl ?_
    refine tt_icmp_eq (tgt := 247) dX6_readOrder_235 (by decide) (fun q => absurd q (by decide)) (fun _ => ?_)
    refine tt_aload_n dX6_readOrder_238 rfl ?_
    refine tt_mI dX6_readOrder_239 fX6_160 rfl hM ?_
    refine tt_eq (show _ = nI 45 from rfl) ?_
    refine tt_bipush (nI 46) dX6_readOrder_242 rfl ?_
    refine tt_icmp_ne (tgt := 277) dX6_readOrder_244 (by decide) (fun _ => ?_) (fun q => absurd q (by decide))
    exact tt_return dX6_readOrder_277 rfl (Nat.zero_le _) (Nat.zero_le _) ⟨rfl, _, rfl, rfl, rfl, rfl, rfl, rfl, fun _ => ⟨rfl, fun _ => rfl, fun q => absurd q (show ¬ (nI 45 = nI 43) by decide), fun q => absurd q (show ¬ (nI 45 = nI 43 ∨ nI 45 = nI 112 ∨ nI 45 = nI 46) by decide)⟩⟩
set_option maxRecDepth 100000 in
set_option maxHeartbeats 4000000 in
theorem c_X6_readOrder_111 {h : zhp} (hM : zMo h) (F s a t l p : Nat → Int32) (n : Nat) (ht : pOK p n) (h7 : F 7 = nI n) (k : Nat) (hk : k ≤ 60) (h8 : F 8 = nI k) (h9 : F 9 = nI 0) (hkn : k < n) (hsg : p k = nI 111) : MM iX6_readOrder [.ref 181] (zm h F s a t l p) (fun r h1 => r = none ∧ ∃ F1, h1 = zm h F1 s a t l p ∧ zoF F F1 (nI 111, rd1 p n k)) := by
  have hn60 := ht.1
  refine MM_of (by decide +kernel) (Nat.le_of_ble_eq_true rfl) ?_
  refine tt_aload_n dX6_readOrder_0 rfl ?_
  refine tt_aload_n dX6_readOrder_1 rfl ?_
  refine tt_mI dX6_readOrder_2 fX6_150 rfl hM ?_
  refine tt_eq (h8) ?_
  refine tt_aload_n dX6_readOrder_5 rfl ?_
  refine tt_mI dX6_readOrder_6 fX6_134 rfl hM ?_
  refine tt_eq (h7) ?_
  refine tt_icmp_geN (tgt := 24) dX6_readOrder_9 (by decide) (by omega) (by omega) (fun c_9 => ?_) (fun c_9 => ?_)
  · exact absurd c_9 (by omega)
  · refine tt_aload_n dX6_readOrder_12 rfl ?_
    refine tt_mA (b := 186) dX6_readOrder_13 fX6_22 rfl hM hM.2.2.2.2.2.1 ?_
    refine tt_aload_n dX6_readOrder_16 rfl ?_
    refine tt_mI dX6_readOrder_17 fX6_150 rfl hM ?_
    refine tt_eq (h8) ?_
    refine tt_ld5 dX6_readOrder_20 hM (by omega) ?_
    refine tt_eq (hsg) ?_
    refine tt_goto (tgt := 25) dX6_readOrder_21 (by decide) ?_
    refine tt_mp dX6_readOrder_25 fX6_160 rfl rfl hM ?_
    refine tt_aload_n dX6_readOrder_28 rfl ?_
    refine tt_aload_n dX6_readOrder_29 rfl ?_
    refine tt_mI dX6_readOrder_30 fX6_146 rfl hM ?_
    refine tt_eq (show _ = nI 0 from h9) ?_
    refine tt_if_ne (tgt := 90) dX6_readOrder_33 (by decide) (fun q => absurd rfl q) (fun _ => ?_)
    refine tt_aload_n dX6_readOrder_36 rfl ?_
    refine tt_mI dX6_readOrder_37 fX6_160 rfl hM ?_
    refine tt_eq (show _ = nI 111 from rfl) ?_
    refine tt_bipush (nI 43) dX6_readOrder_40 rfl ?_
    refine tt_icmp_eq (tgt := 94) dX6_readOrder_42 (by decide) (fun q => absurd q (by decide)) (fun _ => ?_)
    refine tt_aload_n dX6_readOrder_45 rfl ?_
    refine tt_mI dX6_readOrder_46 fX6_160 rfl hM ?_
    refine tt_eq (show _ = nI 111 from rfl) ?_
    refine tt_bipush (nI 119) dX6_readOrder_49 rfl ?_
    refine tt_icmp_eq (tgt := 94) dX6_readOrder_51 (by decide) (fun q => absurd q (by decide)) (fun _ => ?_)
    refine tt_aload_n dX6_readOrder_54 rfl ?_
    refine tt_mI dX6_readOrder_55 fX6_160 rfl hM ?_
    refine tt_eq (show _ = nI 111 from rfl) ?_
    refine tt_bipush (nI 45) dX6_readOrder_58 rfl ?_
    refine tt_icmp_eq (tgt := 94) dX6_readOrder_60 (by decide) (fun q => absurd q (by decide)) (fun _ => ?_)
    refine tt_aload_n dX6_readOrder_63 rfl ?_
    refine tt_mI dX6_readOrder_64 fX6_160 rfl hM ?_
    refine tt_eq (show _ = nI 111 from rfl) ?_
    refine tt_bipush (nI 112) dX6_readOrder_67 rfl ?_
    refine tt_icmp_eq (tgt := 94) dX6_readOrder_69 (by decide) (fun q => absurd q (by decide)) (fun _ => ?_)
    refine tt_aload_n dX6_readOrder_72 rfl ?_
    refine tt_mI dX6_readOrder_73 fX6_160 rfl hM ?_
    refine tt_eq (show _ = nI 111 from rfl) ?_
    refine tt_bipush (nI 111) dX6_readOrder_76 rfl ?_
    refine tt_icmp_eq (tgt := 94) dX6_readOrder_78 (by decide) (fun _ => ?_) (fun q => absurd (by decide) q)
    refine tt_iconst (nI 0) dX6_readOrder_94 rfl ?_
    refine tt_mpZ dX6_readOrder_95 fX6_146 rfl (Or.inl rfl) rfl hM ?_
    refine tt_aload_n dX6_readOrder_98 rfl ?_
    refine tt_dup dX6_readOrder_99 rfl ?_
    refine tt_mI dX6_readOrder_100 fX6_150 rfl hM ?_
    refine tt_eq (show _ = nI k from h8) ?_
    refine tt_aload_n dX6_readOrder_103 rfl ?_
    refine tt_mI dX6_readOrder_104 fX6_146 rfl hM ?_
    refine tt_eq (show _ = nI 0 from rfl) ?_
    refine tt_if_eq (tgt := 114) dX6_readOrder_107 (by decide) (fun _ => ?_) (fun q => absurd (by decide) q)
    refine tt_iconst (nI 1) dX6_readOrder_114 rfl ?_
    refine tt_iaddN dX6_readOrder_115 ?_
    refine tt_mp dX6_readOrder_116 fX6_150 rfl rfl hM ?_
    refine tt_aload_n dX6_readOrder_119 rfl ?_
    refine tt_mI dX6_readOrder_120 fX6_160 rfl hM ?_
    refine tt_eq (show _ = nI 111 from rfl) ?_
    refine tt_bipush (nI 46) dX6_readOrder_123 rfl ?_
    refine tt_icmp_eq (tgt := 160) dX6_readOrder_125 (by decide) (fun q => absurd q (by decide)) (fun _ => ?_)
    refine tt_aload_n dX6_readOrder_128 rfl ?_
    refine tt_aload_n dX6_readOrder_129 rfl ?_
    refine tt_mI dX6_readOrder_130 fX6_160 rfl hM ?_
    refine tt_eq (show _ = nI 111 from rfl) ?_
    refine tt_bipush (nI 43) dX6_readOrder_133 rfl ?_
    refine tt_icmp_ne (tgt := 149) dX6_readOrder_135 (by decide) (fun _ => ?_) (fun q => absurd q (by decide))
    refine tt_aload_n dX6_readOrder_149 rfl ?_
    refine tt_bipush (nI 48) dX6_readOrder_150 rfl ?_
    refine tt_bipush (nI 57) dX6_readOrder_152 rfl ?_
    refine tt_fVi (c_X6_takesOne hM _ _ _ _ _ _ n ht.1 (by exact h7) (k + 1) (false) (by omega) (by rfl) (by rfl) _ _) dX6_readOrder_154 vX6_157 rfl rfl hM.1 (by decide) rfl (by decide) ⟨rfl, rfl⟩ (Nat.zero_le _) (Nat.zero_le _) (Nat.le_of_ble_eq_true rfl) ?_
    refine tt_mp dX6_readOrder_157 fX6_163 rfl rfl hM ?_
    refine tt_aload_n dX6_readOrder_160 rfl ?_
    refine tt_mI dX6_readOrder_161 fX6_160 rfl hM ?_
    refine tt_eq (show _ = nI 111 from rfl) ?_
    refine tt_bipush (nI 43) dX6_readOrder_164 rfl ?_
    refine tt_icmp_ne (tgt := 193) dX6_readOrder_166 (by decide) (fun _ => ?_) (fun q => absurd q (by decide))
    refine tt_aload_n dX6_readOrder_193 rfl ?_
    refine tt_mI dX6_readOrder_194 fX6_160 rfl hM ?_
    refine tt_eq (show _ = nI 111 from rfl) ?_
    refine tt_bipush (nI 43) dX6_readOrder_197 rfl ?_
    refine tt_icmp_eq (tgt := 211) dX6_readOrder_199 (by decide) (fun q => absurd q (by decide)) (fun _ => ?_)
    refine tt_aload_n dX6_readOrder_202 rfl ?_
    refine tt_mI dX6_readOrder_203 fX6_160 rfl hM ?_
    refine tt_eq (show _ = nI 111 from rfl) ?_
    refine tt_bipush (nI 112) dX6_readOrder_206 rfl ?_
    refine tt_icmp_ne (tgt := 220) dX6_readOrder_208 (by decide) (fun _ => ?_) (fun q => absurd q (by decide))
    refine tt_aload_n dX6_readOrder_220 rfl ?_
    refine tt_mI dX6_readOrder_221 fX6_160 rfl hM ?_
    refine tt_eq (show _ = nI 111 from rfl) ?_
    refine tt_bipush (nI 43) dX6_readOrder_224 rfl ?_
    refine tt_icmp_eq (tgt := 247) dX6_readOrder_226 (by decide) (fun q => absurd q (by decide)) (fun _ => ?_)
    refine tt_aload_n dX6_readOrder_229 rfl ?_
    refine tt_mI dX6_readOrder_230 fX6_160 rfl hM ?_
    refine tt_eq (show _ = nI 111 from rfl) ?_
    refine tt_bipush (nI 112) dX6_readOrder_233 rfl ?_
    refine tt_icmp_eq (tgt := 247) dX6_readOrder_235 (by decide) (fun q => absurd q (by decide)) (fun _ => ?_)
    refine tt_aload_n dX6_readOrder_238 rfl ?_
    refine tt_mI dX6_readOrder_239 fX6_160 rfl hM ?_
    refine tt_eq (show _ = nI 111 from rfl) ?_
    refine tt_bipush (nI 46) dX6_readOrder_242 rfl ?_
    refine tt_icmp_ne (tgt := 277) dX6_readOrder_244 (by decide) (fun _ => ?_) (fun q => absurd q (by decide))
    exact tt_return dX6_readOrder_277 rfl (Nat.zero_le _) (Nat.zero_le _) ⟨rfl, _, rfl, rfl, rfl, rfl, rfl, rfl, fun _ => ⟨rfl, fun _ => rfl, fun q => absurd q (show ¬ (nI 111 = nI 43) by decide), fun q => absurd q (show ¬ (nI 111 = nI 43 ∨ nI 111 = nI 112 ∨ nI 111 = nI 46) by decide)⟩⟩
set_option maxRecDepth 100000 in
set_option maxHeartbeats 4000000 in
theorem c_X6_readOrder_112 {h : zhp} (hM : zMo h) (F s a t l p : Nat → Int32) (n : Nat) (ht : pOK p n) (h7 : F 7 = nI n) (k : Nat) (hk : k ≤ 60) (h8 : F 8 = nI k) (h9 : F 9 = nI 0) (hkn : k < n) (hsg : p k = nI 112) : MM iX6_readOrder [.ref 181] (zm h F s a t l p) (fun r h1 => r = none ∧ ∃ F1, h1 = zm h F1 s a t l p ∧ zoF F F1 (nI 112, rd112 p n k)) := by
  have hn60 := ht.1
  refine MM_of (by decide +kernel) (Nat.le_of_ble_eq_true rfl) ?_
  refine tt_aload_n dX6_readOrder_0 rfl ?_
  refine tt_aload_n dX6_readOrder_1 rfl ?_
  refine tt_mI dX6_readOrder_2 fX6_150 rfl hM ?_
  refine tt_eq (h8) ?_
  refine tt_aload_n dX6_readOrder_5 rfl ?_
  refine tt_mI dX6_readOrder_6 fX6_134 rfl hM ?_
  refine tt_eq (h7) ?_
  refine tt_icmp_geN (tgt := 24) dX6_readOrder_9 (by decide) (by omega) (by omega) (fun c_9 => ?_) (fun c_9 => ?_)
  · exact absurd c_9 (by omega)
  · refine tt_aload_n dX6_readOrder_12 rfl ?_
    refine tt_mA (b := 186) dX6_readOrder_13 fX6_22 rfl hM hM.2.2.2.2.2.1 ?_
    refine tt_aload_n dX6_readOrder_16 rfl ?_
    refine tt_mI dX6_readOrder_17 fX6_150 rfl hM ?_
    refine tt_eq (h8) ?_
    refine tt_ld5 dX6_readOrder_20 hM (by omega) ?_
    refine tt_eq (hsg) ?_
    refine tt_goto (tgt := 25) dX6_readOrder_21 (by decide) ?_
    refine tt_mp dX6_readOrder_25 fX6_160 rfl rfl hM ?_
    refine tt_aload_n dX6_readOrder_28 rfl ?_
    refine tt_aload_n dX6_readOrder_29 rfl ?_
    refine tt_mI dX6_readOrder_30 fX6_146 rfl hM ?_
    refine tt_eq (show _ = nI 0 from h9) ?_
    refine tt_if_ne (tgt := 90) dX6_readOrder_33 (by decide) (fun q => absurd rfl q) (fun _ => ?_)
    refine tt_aload_n dX6_readOrder_36 rfl ?_
    refine tt_mI dX6_readOrder_37 fX6_160 rfl hM ?_
    refine tt_eq (show _ = nI 112 from rfl) ?_
    refine tt_bipush (nI 43) dX6_readOrder_40 rfl ?_
    refine tt_icmp_eq (tgt := 94) dX6_readOrder_42 (by decide) (fun q => absurd q (by decide)) (fun _ => ?_)
    refine tt_aload_n dX6_readOrder_45 rfl ?_
    refine tt_mI dX6_readOrder_46 fX6_160 rfl hM ?_
    refine tt_eq (show _ = nI 112 from rfl) ?_
    refine tt_bipush (nI 119) dX6_readOrder_49 rfl ?_
    refine tt_icmp_eq (tgt := 94) dX6_readOrder_51 (by decide) (fun q => absurd q (by decide)) (fun _ => ?_)
    refine tt_aload_n dX6_readOrder_54 rfl ?_
    refine tt_mI dX6_readOrder_55 fX6_160 rfl hM ?_
    refine tt_eq (show _ = nI 112 from rfl) ?_
    refine tt_bipush (nI 45) dX6_readOrder_58 rfl ?_
    refine tt_icmp_eq (tgt := 94) dX6_readOrder_60 (by decide) (fun q => absurd q (by decide)) (fun _ => ?_)
    refine tt_aload_n dX6_readOrder_63 rfl ?_
    refine tt_mI dX6_readOrder_64 fX6_160 rfl hM ?_
    refine tt_eq (show _ = nI 112 from rfl) ?_
    refine tt_bipush (nI 112) dX6_readOrder_67 rfl ?_
    refine tt_icmp_eq (tgt := 94) dX6_readOrder_69 (by decide) (fun _ => ?_) (fun q => absurd (by decide) q)
    refine tt_iconst (nI 0) dX6_readOrder_94 rfl ?_
    refine tt_mpZ dX6_readOrder_95 fX6_146 rfl (Or.inl rfl) rfl hM ?_
    refine tt_aload_n dX6_readOrder_98 rfl ?_
    refine tt_dup dX6_readOrder_99 rfl ?_
    refine tt_mI dX6_readOrder_100 fX6_150 rfl hM ?_
    refine tt_eq (show _ = nI k from h8) ?_
    refine tt_aload_n dX6_readOrder_103 rfl ?_
    refine tt_mI dX6_readOrder_104 fX6_146 rfl hM ?_
    refine tt_eq (show _ = nI 0 from rfl) ?_
    refine tt_if_eq (tgt := 114) dX6_readOrder_107 (by decide) (fun _ => ?_) (fun q => absurd (by decide) q)
    refine tt_iconst (nI 1) dX6_readOrder_114 rfl ?_
    refine tt_iaddN dX6_readOrder_115 ?_
    refine tt_mp dX6_readOrder_116 fX6_150 rfl rfl hM ?_
    refine tt_aload_n dX6_readOrder_119 rfl ?_
    refine tt_mI dX6_readOrder_120 fX6_160 rfl hM ?_
    refine tt_eq (show _ = nI 112 from rfl) ?_
    refine tt_bipush (nI 46) dX6_readOrder_123 rfl ?_
    refine tt_icmp_eq (tgt := 160) dX6_readOrder_125 (by decide) (fun q => absurd q (by decide)) (fun _ => ?_)
    refine tt_aload_n dX6_readOrder_128 rfl ?_
    refine tt_aload_n dX6_readOrder_129 rfl ?_
    refine tt_mI dX6_readOrder_130 fX6_160 rfl hM ?_
    refine tt_eq (show _ = nI 112 from rfl) ?_
    refine tt_bipush (nI 43) dX6_readOrder_133 rfl ?_
    refine tt_icmp_ne (tgt := 149) dX6_readOrder_135 (by decide) (fun _ => ?_) (fun q => absurd q (by decide))
    refine tt_aload_n dX6_readOrder_149 rfl ?_
    refine tt_bipush (nI 48) dX6_readOrder_150 rfl ?_
    refine tt_bipush (nI 57) dX6_readOrder_152 rfl ?_
    refine tt_fVi (c_X6_takesOne hM _ _ _ _ _ _ n ht.1 (by exact h7) (k + 1) (false) (by omega) (by rfl) (by rfl) _ _) dX6_readOrder_154 vX6_157 rfl rfl hM.1 (by decide) rfl (by decide) ⟨rfl, rfl⟩ (Nat.zero_le _) (Nat.zero_le _) (Nat.le_of_ble_eq_true rfl) ?_
    refine tt_mp dX6_readOrder_157 fX6_163 rfl rfl hM ?_
    refine tt_aload_n dX6_readOrder_160 rfl ?_
    refine tt_mI dX6_readOrder_161 fX6_160 rfl hM ?_
    refine tt_eq (show _ = nI 112 from rfl) ?_
    refine tt_bipush (nI 43) dX6_readOrder_164 rfl ?_
    refine tt_icmp_ne (tgt := 193) dX6_readOrder_166 (by decide) (fun _ => ?_) (fun q => absurd q (by decide))
    refine tt_aload_n dX6_readOrder_193 rfl ?_
    refine tt_mI dX6_readOrder_194 fX6_160 rfl hM ?_
    refine tt_eq (show _ = nI 112 from rfl) ?_
    refine tt_bipush (nI 43) dX6_readOrder_197 rfl ?_
    refine tt_icmp_eq (tgt := 211) dX6_readOrder_199 (by decide) (fun q => absurd q (by decide)) (fun _ => ?_)
    refine tt_aload_n dX6_readOrder_202 rfl ?_
    refine tt_mI dX6_readOrder_203 fX6_160 rfl hM ?_
    refine tt_eq (show _ = nI 112 from rfl) ?_
    refine tt_bipush (nI 112) dX6_readOrder_206 rfl ?_
    refine tt_icmp_ne (tgt := 220) dX6_readOrder_208 (by decide) (fun q => absurd rfl q) (fun _ => ?_)
    refine tt_aload_n dX6_readOrder_211 rfl ?_
    refine tt_bipush (nI 58) dX6_readOrder_212 rfl ?_
    refine tt_bipush (nI 58) dX6_readOrder_214 rfl ?_
    refine tt_fVi (c_X6_takesOne hM _ _ _ _ _ _ n ht.1 (by exact h7) ((tk p n (nI 48) (nI 57) (k + 1) false).2.1) ((tk p n (nI 48) (nI 57) (k + 1) false).2.2) (tk_le ht.1 (by omega)) (by rfl) (by rfl) _ _) dX6_readOrder_216 vX6_157 rfl rfl hM.1 (by decide) rfl (by decide) ⟨rfl, rfl⟩ (Nat.zero_le _) (Nat.zero_le _) (Nat.le_of_ble_eq_true rfl) ?_
    refine tt_istore_n dX6_readOrder_219 rfl (Nat.le_of_ble_eq_true rfl) rfl ?_
    refine tt_aload_n dX6_readOrder_220 rfl ?_
    refine tt_mI dX6_readOrder_221 fX6_160 rfl hM ?_
    refine tt_eq (show _ = nI 112 from rfl) ?_
    refine tt_bipush (nI 43) dX6_readOrder_224 rfl ?_
    refine tt_icmp_eq (tgt := 247) dX6_readOrder_226 (by decide) (fun q => absurd q (by decide)) (fun _ => ?_)
    refine tt_aload_n dX6_readOrder_229 rfl ?_
    refine tt_mI dX6_readOrder_230 fX6_160 rfl hM ?_
    refine tt_eq (show _ = nI 112 from rfl) ?_
    refine tt_bipush (nI 112) dX6_readOrder_233 rfl ?_
    refine tt_icmp_eq (tgt := 247) dX6_readOrder_235 (by decide) (fun _ => ?_) (fun q => absurd (by decide) q)
    refine tt_aload_n dX6_readOrder_247 rfl ?_
    refine tt_aload_n dX6_readOrder_248 rfl ?_
    refine tt_mI dX6_readOrder_249 fX6_160 rfl hM ?_
    refine tt_eq (show _ = nI 112 from rfl) ?_
    refine tt_bipush (nI 43) dX6_readOrder_252 rfl ?_
    refine tt_icmp_ne (tgt := 267) dX6_readOrder_254 (by decide) (fun _ => ?_) (fun q => absurd q (by decide))
    refine tt_aload_n dX6_readOrder_267 rfl ?_
    refine tt_iconst (nI 1) dX6_readOrder_268 rfl ?_
    refine tt_bipush (nI 99) dX6_readOrder_269 rfl ?_
    refine tt_fVi (c_X6_numberUpTo hM _ _ _ _ _ _ n ht (by exact h7) ((tk p n (nI 58) (nI 58) (tk p n (nI 48) (nI 57) (k + 1) false).2.1 (tk p n (nI 48) (nI 57) (k + 1) false).2.2).2.1) ((tk p n (nI 58) (nI 58) (tk p n (nI 48) (nI 57) (k + 1) false).2.1 (tk p n (nI 48) (nI 57) (k + 1) false).2.2).2.2) (tk_le ht.1 (tk_le ht.1 (by omega))) (by rfl) (by rfl) 1 99 (by omega) (by omega)) dX6_readOrder_271 vX6_172 rfl rfl hM.1 (by decide) rfl (by decide) ⟨rfl, rfl⟩ (Nat.zero_le _) (Nat.zero_le _) (Nat.le_of_ble_eq_true rfl) ?_
    refine tt_mp dX6_readOrder_274 fX6_175 rfl rfl hM ?_
    exact tt_return dX6_readOrder_277 rfl (Nat.zero_le _) (Nat.zero_le _) ⟨rfl, _, rfl, rfl, rfl, rfl, rfl, rfl, fun _ => ⟨rfl, fun _ => rfl, fun q => absurd q (show ¬ (nI 112 = nI 43) by decide), fun _ => rfl⟩⟩
set_option maxRecDepth 100000 in
set_option maxHeartbeats 4000000 in
theorem c_X6_readOrder_46 {h : zhp} (hM : zMo h) (F s a t l p : Nat → Int32) (n : Nat) (ht : pOK p n) (h7 : F 7 = nI n) (k : Nat) (hk : k ≤ 60) (h8 : F 8 = nI k) (h9 : F 9 = nI 0) (hkn : k < n) (hsg : p k = nI 46) : MM iX6_readOrder [.ref 181] (zm h F s a t l p) (fun r h1 => r = none ∧ ∃ F1, h1 = zm h F1 s a t l p ∧ zoF F F1 (nI 46, rd46 p n k)) := by
  have hn60 := ht.1
  refine MM_of (by decide +kernel) (Nat.le_of_ble_eq_true rfl) ?_
  refine tt_aload_n dX6_readOrder_0 rfl ?_
  refine tt_aload_n dX6_readOrder_1 rfl ?_
  refine tt_mI dX6_readOrder_2 fX6_150 rfl hM ?_
  refine tt_eq (h8) ?_
  refine tt_aload_n dX6_readOrder_5 rfl ?_
  refine tt_mI dX6_readOrder_6 fX6_134 rfl hM ?_
  refine tt_eq (h7) ?_
  refine tt_icmp_geN (tgt := 24) dX6_readOrder_9 (by decide) (by omega) (by omega) (fun c_9 => ?_) (fun c_9 => ?_)
  · exact absurd c_9 (by omega)
  · refine tt_aload_n dX6_readOrder_12 rfl ?_
    refine tt_mA (b := 186) dX6_readOrder_13 fX6_22 rfl hM hM.2.2.2.2.2.1 ?_
    refine tt_aload_n dX6_readOrder_16 rfl ?_
    refine tt_mI dX6_readOrder_17 fX6_150 rfl hM ?_
    refine tt_eq (h8) ?_
    refine tt_ld5 dX6_readOrder_20 hM (by omega) ?_
    refine tt_eq (hsg) ?_
    refine tt_goto (tgt := 25) dX6_readOrder_21 (by decide) ?_
    refine tt_mp dX6_readOrder_25 fX6_160 rfl rfl hM ?_
    refine tt_aload_n dX6_readOrder_28 rfl ?_
    refine tt_aload_n dX6_readOrder_29 rfl ?_
    refine tt_mI dX6_readOrder_30 fX6_146 rfl hM ?_
    refine tt_eq (show _ = nI 0 from h9) ?_
    refine tt_if_ne (tgt := 90) dX6_readOrder_33 (by decide) (fun q => absurd rfl q) (fun _ => ?_)
    refine tt_aload_n dX6_readOrder_36 rfl ?_
    refine tt_mI dX6_readOrder_37 fX6_160 rfl hM ?_
    refine tt_eq (show _ = nI 46 from rfl) ?_
    refine tt_bipush (nI 43) dX6_readOrder_40 rfl ?_
    refine tt_icmp_eq (tgt := 94) dX6_readOrder_42 (by decide) (fun q => absurd q (by decide)) (fun _ => ?_)
    refine tt_aload_n dX6_readOrder_45 rfl ?_
    refine tt_mI dX6_readOrder_46 fX6_160 rfl hM ?_
    refine tt_eq (show _ = nI 46 from rfl) ?_
    refine tt_bipush (nI 119) dX6_readOrder_49 rfl ?_
    refine tt_icmp_eq (tgt := 94) dX6_readOrder_51 (by decide) (fun q => absurd q (by decide)) (fun _ => ?_)
    refine tt_aload_n dX6_readOrder_54 rfl ?_
    refine tt_mI dX6_readOrder_55 fX6_160 rfl hM ?_
    refine tt_eq (show _ = nI 46 from rfl) ?_
    refine tt_bipush (nI 45) dX6_readOrder_58 rfl ?_
    refine tt_icmp_eq (tgt := 94) dX6_readOrder_60 (by decide) (fun q => absurd q (by decide)) (fun _ => ?_)
    refine tt_aload_n dX6_readOrder_63 rfl ?_
    refine tt_mI dX6_readOrder_64 fX6_160 rfl hM ?_
    refine tt_eq (show _ = nI 46 from rfl) ?_
    refine tt_bipush (nI 112) dX6_readOrder_67 rfl ?_
    refine tt_icmp_eq (tgt := 94) dX6_readOrder_69 (by decide) (fun q => absurd q (by decide)) (fun _ => ?_)
    refine tt_aload_n dX6_readOrder_72 rfl ?_
    refine tt_mI dX6_readOrder_73 fX6_160 rfl hM ?_
    refine tt_eq (show _ = nI 46 from rfl) ?_
    refine tt_bipush (nI 111) dX6_readOrder_76 rfl ?_
    refine tt_icmp_eq (tgt := 94) dX6_readOrder_78 (by decide) (fun q => absurd q (by decide)) (fun _ => ?_)
    refine tt_aload_n dX6_readOrder_81 rfl ?_
    refine tt_mI dX6_readOrder_82 fX6_160 rfl hM ?_
    refine tt_eq (show _ = nI 46 from rfl) ?_
    refine tt_bipush (nI 46) dX6_readOrder_85 rfl ?_
    refine tt_icmp_eq (tgt := 94) dX6_readOrder_87 (by decide) (fun _ => ?_) (fun q => absurd (by decide) q)
    refine tt_iconst (nI 0) dX6_readOrder_94 rfl ?_
    refine tt_mpZ dX6_readOrder_95 fX6_146 rfl (Or.inl rfl) rfl hM ?_
    refine tt_aload_n dX6_readOrder_98 rfl ?_
    refine tt_dup dX6_readOrder_99 rfl ?_
    refine tt_mI dX6_readOrder_100 fX6_150 rfl hM ?_
    refine tt_eq (show _ = nI k from h8) ?_
    refine tt_aload_n dX6_readOrder_103 rfl ?_
    refine tt_mI dX6_readOrder_104 fX6_146 rfl hM ?_
    refine tt_eq (show _ = nI 0 from rfl) ?_
    refine tt_if_eq (tgt := 114) dX6_readOrder_107 (by decide) (fun _ => ?_) (fun q => absurd (by decide) q)
    refine tt_iconst (nI 1) dX6_readOrder_114 rfl ?_
    refine tt_iaddN dX6_readOrder_115 ?_
    refine tt_mp dX6_readOrder_116 fX6_150 rfl rfl hM ?_
    refine tt_aload_n dX6_readOrder_119 rfl ?_
    refine tt_mI dX6_readOrder_120 fX6_160 rfl hM ?_
    refine tt_eq (show _ = nI 46 from rfl) ?_
    refine tt_bipush (nI 46) dX6_readOrder_123 rfl ?_
    refine tt_icmp_eq (tgt := 160) dX6_readOrder_125 (by decide) (fun _ => ?_) (fun q => absurd (by decide) q)
    refine tt_aload_n dX6_readOrder_160 rfl ?_
    refine tt_mI dX6_readOrder_161 fX6_160 rfl hM ?_
    refine tt_eq (show _ = nI 46 from rfl) ?_
    refine tt_bipush (nI 43) dX6_readOrder_164 rfl ?_
    refine tt_icmp_ne (tgt := 193) dX6_readOrder_166 (by decide) (fun _ => ?_) (fun q => absurd q (by decide))
    refine tt_aload_n dX6_readOrder_193 rfl ?_
    refine tt_mI dX6_readOrder_194 fX6_160 rfl hM ?_
    refine tt_eq (show _ = nI 46 from rfl) ?_
    refine tt_bipush (nI 43) dX6_readOrder_197 rfl ?_
    refine tt_icmp_eq (tgt := 211) dX6_readOrder_199 (by decide) (fun q => absurd q (by decide)) (fun _ => ?_)
    refine tt_aload_n dX6_readOrder_202 rfl ?_
    refine tt_mI dX6_readOrder_203 fX6_160 rfl hM ?_
    refine tt_eq (show _ = nI 46 from rfl) ?_
    refine tt_bipush (nI 112) dX6_readOrder_206 rfl ?_
    refine tt_icmp_ne (tgt := 220) dX6_readOrder_208 (by decide) (fun _ => ?_) (fun q => absurd q (by decide))
    refine tt_aload_n dX6_readOrder_220 rfl ?_
    refine tt_mI dX6_readOrder_221 fX6_160 rfl hM ?_
    refine tt_eq (show _ = nI 46 from rfl) ?_
    refine tt_bipush (nI 43) dX6_readOrder_224 rfl ?_
    refine tt_icmp_eq (tgt := 247) dX6_readOrder_226 (by decide) (fun q => absurd q (by decide)) (fun _ => ?_)
    refine tt_aload_n dX6_readOrder_229 rfl ?_
    refine tt_mI dX6_readOrder_230 fX6_160 rfl hM ?_
    refine tt_eq (show _ = nI 46 from rfl) ?_
    refine tt_bipush (nI 112) dX6_readOrder_233 rfl ?_
    refine tt_icmp_eq (tgt := 247) dX6_readOrder_235 (by decide) (fun q => absurd q (by decide)) (fun _ => ?_)
    refine tt_aload_n dX6_readOrder_238 rfl ?_
    refine tt_mI dX6_readOrder_239 fX6_160 rfl hM ?_
    refine tt_eq (show _ = nI 46 from rfl) ?_
    refine tt_bipush (nI 46) dX6_readOrder_242 rfl ?_
    refine tt_icmp_ne (tgt := 277) dX6_readOrder_244 (by decide) (fun q => absurd rfl q) (fun _ => ?_)
    refine tt_aload_n dX6_readOrder_247 rfl ?_
    refine tt_aload_n dX6_readOrder_248 rfl ?_
    refine tt_mI dX6_readOrder_249 fX6_160 rfl hM ?_
    refine tt_eq (show _ = nI 46 from rfl) ?_
    refine tt_bipush (nI 43) dX6_readOrder_252 rfl ?_
    refine tt_icmp_ne (tgt := 267) dX6_readOrder_254 (by decide) (fun _ => ?_) (fun q => absurd q (by decide))
    refine tt_aload_n dX6_readOrder_267 rfl ?_
    refine tt_iconst (nI 1) dX6_readOrder_268 rfl ?_
    refine tt_bipush (nI 99) dX6_readOrder_269 rfl ?_
    refine tt_fVi (c_X6_numberUpTo hM _ _ _ _ _ _ n ht (by exact h7) (k + 1) (false) (by omega) (by rfl) (by rfl) 1 99 (by omega) (by omega)) dX6_readOrder_271 vX6_172 rfl rfl hM.1 (by decide) rfl (by decide) ⟨rfl, rfl⟩ (Nat.zero_le _) (Nat.zero_le _) (Nat.le_of_ble_eq_true rfl) ?_
    refine tt_mp dX6_readOrder_274 fX6_175 rfl rfl hM ?_
    exact tt_return dX6_readOrder_277 rfl (Nat.zero_le _) (Nat.zero_le _) ⟨rfl, _, rfl, rfl, rfl, rfl, rfl, rfl, fun _ => ⟨rfl, fun q => absurd rfl q, fun q => absurd q (show ¬ (nI 46 = nI 43) by decide), fun _ => rfl⟩⟩
theorem tk_tr {p : Nat → Int32} {n : Nat} {lo hi : Int32} {k : Nat} : tk p n lo hi k true = (nI 0, k, true) := if_neg (fun q => absurd q.1 (by decide))
theorem tk_kt {p : Nat → Int32} {n : Nat} {lo hi : Int32} {k : Nat} : nI (tk p n lo hi (k + 0) true).2.1 = nI k := by rw [tk_tr]; rfl
theorem tk_ft {p : Nat → Int32} {n : Nat} {lo hi : Int32} {k : Nat} : zb ((tk p n lo hi (k + 0) true).2.2 = true) = zb (true = true) := zb_cg (by rw [tk_tr])
set_option maxRecDepth 100000 in
set_option maxHeartbeats 4000000 in
theorem c_X6_readOrder_x {h : zhp} (hM : zMo h) (F s a t l p : Nat → Int32) (n : Nat) (ht : pOK p n) (h7 : F 7 = nI n) (k : Nat) (hk : k ≤ 60) (h8 : F 8 = nI k) (h9 : F 9 = nI 0) (sg : Int32) (hsg : (k < n → p k = sg) ∧ (¬ k < n → sg = nI 0)) (h43 : ¬ sg = nI 43) (h119 : ¬ sg = nI 119) (h45 : ¬ sg = nI 45) (h112 : ¬ sg = nI 112) (h111 : ¬ sg = nI 111) (h46 : ¬ sg = nI 46) : MM iX6_readOrder [.ref 181] (zm h F s a t l p) (fun r h1 => r = none ∧ ∃ F1, h1 = zm h F1 s a t l p ∧ zoF F F1 (sg, (0, 0, 0, 0), k, true)) := by
  have hn60 := ht.1
  refine MM_of (by decide +kernel) (Nat.le_of_ble_eq_true rfl) ?_
  refine tt_aload_n dX6_readOrder_0 rfl ?_
  refine tt_aload_n dX6_readOrder_1 rfl ?_
  refine tt_mI dX6_readOrder_2 fX6_150 rfl hM ?_
  refine tt_eq (h8) ?_
  refine tt_aload_n dX6_readOrder_5 rfl ?_
  refine tt_mI dX6_readOrder_6 fX6_134 rfl hM ?_
  refine tt_eq (h7) ?_
  refine tt_icmp_geN (tgt := 24) dX6_readOrder_9 (by decide) (by omega) (by omega) (fun c_9 => ?_) (fun c_9 => ?_)
  · refine tt_iconst (nI 0) dX6_readOrder_24 rfl ?_
    refine tt_eq (y := sg) (by first | exact hsg.1 (by assumption) | exact (hsg.2 (by omega)).symm) ?_
    refine tt_mp dX6_readOrder_25 fX6_160 rfl rfl hM ?_
    refine tt_aload_n dX6_readOrder_28 rfl ?_
    refine tt_aload_n dX6_readOrder_29 rfl ?_
    refine tt_mI dX6_readOrder_30 fX6_146 rfl hM ?_
    refine tt_eq (show _ = nI 0 from h9) ?_
    refine tt_if_ne (tgt := 90) dX6_readOrder_33 (by decide) (fun q => absurd rfl q) (fun _ => ?_)
    refine tt_aload_n dX6_readOrder_36 rfl ?_
    refine tt_mI dX6_readOrder_37 fX6_160 rfl hM ?_
    refine tt_eq (show _ = sg from rfl) ?_
    refine tt_bipush (nI 43) dX6_readOrder_40 rfl ?_
    refine tt_icmp_eq (tgt := 94) dX6_readOrder_42 (by decide) (fun c_42 => ?_) (fun c_42 => ?_)
    · exact absurd c_42 h43
    · refine tt_aload_n dX6_readOrder_45 rfl ?_
      refine tt_mI dX6_readOrder_46 fX6_160 rfl hM ?_
      refine tt_eq (show _ = sg from rfl) ?_
      refine tt_bipush (nI 119) dX6_readOrder_49 rfl ?_
      refine tt_icmp_eq (tgt := 94) dX6_readOrder_51 (by decide) (fun c_51 => ?_) (fun c_51 => ?_)
      · exact absurd c_51 h119
      · refine tt_aload_n dX6_readOrder_54 rfl ?_
        refine tt_mI dX6_readOrder_55 fX6_160 rfl hM ?_
        refine tt_eq (show _ = sg from rfl) ?_
        refine tt_bipush (nI 45) dX6_readOrder_58 rfl ?_
        refine tt_icmp_eq (tgt := 94) dX6_readOrder_60 (by decide) (fun c_60 => ?_) (fun c_60 => ?_)
        · exact absurd c_60 h45
        · refine tt_aload_n dX6_readOrder_63 rfl ?_
          refine tt_mI dX6_readOrder_64 fX6_160 rfl hM ?_
          refine tt_eq (show _ = sg from rfl) ?_
          refine tt_bipush (nI 112) dX6_readOrder_67 rfl ?_
          refine tt_icmp_eq (tgt := 94) dX6_readOrder_69 (by decide) (fun c_69 => ?_) (fun c_69 => ?_)
          · exact absurd c_69 h112
          · refine tt_aload_n dX6_readOrder_72 rfl ?_
            refine tt_mI dX6_readOrder_73 fX6_160 rfl hM ?_
            refine tt_eq (show _ = sg from rfl) ?_
            refine tt_bipush (nI 111) dX6_readOrder_76 rfl ?_
            refine tt_icmp_eq (tgt := 94) dX6_readOrder_78 (by decide) (fun c_78 => ?_) (fun c_78 => ?_)
            · exact absurd c_78 h111
            · refine tt_aload_n dX6_readOrder_81 rfl ?_
              refine tt_mI dX6_readOrder_82 fX6_160 rfl hM ?_
              refine tt_eq (show _ = sg from rfl) ?_
              refine tt_bipush (nI 46) dX6_readOrder_85 rfl ?_
              refine tt_icmp_eq (tgt := 94) dX6_readOrder_87 (by decide) (fun c_87 => ?_) (fun c_87 => ?_)
              · exact absurd c_87 h46
              · refine tt_iconst (nI 1) dX6_readOrder_90 rfl ?_
                refine tt_goto (tgt := 95) dX6_readOrder_91 (by decide) ?_
                refine tt_mpZ dX6_readOrder_95 fX6_146 rfl (Or.inr rfl) rfl hM ?_
                refine tt_aload_n dX6_readOrder_98 rfl ?_
                refine tt_dup dX6_readOrder_99 rfl ?_
                refine tt_mI dX6_readOrder_100 fX6_150 rfl hM ?_
                refine tt_eq (show _ = nI k from h8) ?_
                refine tt_aload_n dX6_readOrder_103 rfl ?_
                refine tt_mI dX6_readOrder_104 fX6_146 rfl hM ?_
                refine tt_eq (show _ = nI 1 from rfl) ?_
                refine tt_if_eq (tgt := 114) dX6_readOrder_107 (by decide) (fun q => absurd q (by decide)) (fun _ => ?_)
                refine tt_iconst (nI 0) dX6_readOrder_110 rfl ?_
                refine tt_goto (tgt := 115) dX6_readOrder_111 (by decide) ?_
                refine tt_iaddN dX6_readOrder_115 ?_
                refine tt_mp dX6_readOrder_116 fX6_150 rfl rfl hM ?_
                refine tt_aload_n dX6_readOrder_119 rfl ?_
                refine tt_mI dX6_readOrder_120 fX6_160 rfl hM ?_
                refine tt_eq (show _ = sg from rfl) ?_
                refine tt_bipush (nI 46) dX6_readOrder_123 rfl ?_
                refine tt_icmp_eq (tgt := 160) dX6_readOrder_125 (by decide) (fun c_125 => ?_) (fun c_125 => ?_)
                · exact absurd c_125 h46
                · refine tt_aload_n dX6_readOrder_128 rfl ?_
                  refine tt_aload_n dX6_readOrder_129 rfl ?_
                  refine tt_mI dX6_readOrder_130 fX6_160 rfl hM ?_
                  refine tt_eq (show _ = sg from rfl) ?_
                  refine tt_bipush (nI 43) dX6_readOrder_133 rfl ?_
                  refine tt_icmp_ne (tgt := 149) dX6_readOrder_135 (by decide) (fun c_135 => ?_) (fun c_135 => ?_)
                  · refine tt_aload_n dX6_readOrder_149 rfl ?_
                    refine tt_bipush (nI 48) dX6_readOrder_150 rfl ?_
                    refine tt_bipush (nI 57) dX6_readOrder_152 rfl ?_
                    refine tt_fVi (c_X6_takesOne hM _ _ _ _ _ _ n ht.1 (by exact h7) (k + 0) (true) (by omega) (by rfl) (by rfl) _ _) dX6_readOrder_154 vX6_157 rfl rfl hM.1 (by decide) rfl (by decide) ⟨rfl, rfl⟩ (Nat.zero_le _) (Nat.zero_le _) (Nat.le_of_ble_eq_true rfl) ?_
                    refine tt_mp dX6_readOrder_157 fX6_163 rfl rfl hM ?_
                    refine tt_aload_n dX6_readOrder_160 rfl ?_
                    refine tt_mI dX6_readOrder_161 fX6_160 rfl hM ?_
                    refine tt_eq (show _ = sg from rfl) ?_
                    refine tt_bipush (nI 43) dX6_readOrder_164 rfl ?_
                    refine tt_icmp_ne (tgt := 193) dX6_readOrder_166 (by decide) (fun c_166 => ?_) (fun c_166 => ?_)
                    · refine tt_aload_n dX6_readOrder_193 rfl ?_
                      refine tt_mI dX6_readOrder_194 fX6_160 rfl hM ?_
                      refine tt_eq (show _ = sg from rfl) ?_
                      refine tt_bipush (nI 43) dX6_readOrder_197 rfl ?_
                      refine tt_icmp_eq (tgt := 211) dX6_readOrder_199 (by decide) (fun c_199 => ?_) (fun c_199 => ?_)
                      · exact absurd c_199 h43
                      · refine tt_aload_n dX6_readOrder_202 rfl ?_
                        refine tt_mI dX6_readOrder_203 fX6_160 rfl hM ?_
                        refine tt_eq (show _ = sg from rfl) ?_
                        refine tt_bipush (nI 112) dX6_readOrder_206 rfl ?_
                        refine tt_icmp_ne (tgt := 220) dX6_readOrder_208 (by decide) (fun c_208 => ?_) (fun c_208 => ?_)
                        · refine tt_aload_n dX6_readOrder_220 rfl ?_
                          refine tt_mI dX6_readOrder_221 fX6_160 rfl hM ?_
                          refine tt_eq (show _ = sg from rfl) ?_
                          refine tt_bipush (nI 43) dX6_readOrder_224 rfl ?_
                          refine tt_icmp_eq (tgt := 247) dX6_readOrder_226 (by decide) (fun c_226 => ?_) (fun c_226 => ?_)
                          · exact absurd c_226 h43
                          · refine tt_aload_n dX6_readOrder_229 rfl ?_
                            refine tt_mI dX6_readOrder_230 fX6_160 rfl hM ?_
                            refine tt_eq (show _ = sg from rfl) ?_
                            refine tt_bipush (nI 112) dX6_readOrder_233 rfl ?_
                            refine tt_icmp_eq (tgt := 247) dX6_readOrder_235 (by decide) (fun c_235 => ?_) (fun c_235 => ?_)
                            · exact absurd c_235 h112
                            · refine tt_aload_n dX6_readOrder_238 rfl ?_
                              refine tt_mI dX6_readOrder_239 fX6_160 rfl hM ?_
                              refine tt_eq (show _ = sg from rfl) ?_
                              refine tt_bipush (nI 46) dX6_readOrder_242 rfl ?_
                              refine tt_icmp_ne (tgt := 277) dX6_readOrder_244 (by decide) (fun c_244 => ?_) (fun c_244 => ?_)
                              · exact tt_return dX6_readOrder_277 rfl (Nat.zero_le _) (Nat.zero_le _) ⟨rfl, _, rfl, rfl, rfl, rfl, tk_kt (p := p) (n := n) (lo := nI 48) (hi := nI 57) (k := k), tk_ft (p := p) (n := n) (lo := nI 48) (hi := nI 57) (k := k), fun q => absurd q (show ¬ (true = false) by decide)⟩
                              · exact absurd c_244 h46
                        · exact absurd c_208 h112
                    · exact absurd c_166 h43
                  · exact absurd c_135 h43
  · refine tt_aload_n dX6_readOrder_12 rfl ?_
    refine tt_mA (b := 186) dX6_readOrder_13 fX6_22 rfl hM hM.2.2.2.2.2.1 ?_
    refine tt_aload_n dX6_readOrder_16 rfl ?_
    refine tt_mI dX6_readOrder_17 fX6_150 rfl hM ?_
    refine tt_eq (h8) ?_
    refine tt_ld5 dX6_readOrder_20 hM (by omega) ?_
    refine tt_goto (tgt := 25) dX6_readOrder_21 (by decide) ?_
    refine tt_eq (y := sg) (by first | exact hsg.1 (by assumption) | exact (hsg.2 (by omega)).symm) ?_
    refine tt_mp dX6_readOrder_25 fX6_160 rfl rfl hM ?_
    refine tt_aload_n dX6_readOrder_28 rfl ?_
    refine tt_aload_n dX6_readOrder_29 rfl ?_
    refine tt_mI dX6_readOrder_30 fX6_146 rfl hM ?_
    refine tt_eq (show _ = nI 0 from h9) ?_
    refine tt_if_ne (tgt := 90) dX6_readOrder_33 (by decide) (fun q => absurd rfl q) (fun _ => ?_)
    refine tt_aload_n dX6_readOrder_36 rfl ?_
    refine tt_mI dX6_readOrder_37 fX6_160 rfl hM ?_
    refine tt_eq (show _ = sg from rfl) ?_
    refine tt_bipush (nI 43) dX6_readOrder_40 rfl ?_
    refine tt_icmp_eq (tgt := 94) dX6_readOrder_42 (by decide) (fun c_42 => ?_) (fun c_42 => ?_)
    · exact absurd c_42 h43
    · refine tt_aload_n dX6_readOrder_45 rfl ?_
      refine tt_mI dX6_readOrder_46 fX6_160 rfl hM ?_
      refine tt_eq (show _ = sg from rfl) ?_
      refine tt_bipush (nI 119) dX6_readOrder_49 rfl ?_
      refine tt_icmp_eq (tgt := 94) dX6_readOrder_51 (by decide) (fun c_51 => ?_) (fun c_51 => ?_)
      · exact absurd c_51 h119
      · refine tt_aload_n dX6_readOrder_54 rfl ?_
        refine tt_mI dX6_readOrder_55 fX6_160 rfl hM ?_
        refine tt_eq (show _ = sg from rfl) ?_
        refine tt_bipush (nI 45) dX6_readOrder_58 rfl ?_
        refine tt_icmp_eq (tgt := 94) dX6_readOrder_60 (by decide) (fun c_60 => ?_) (fun c_60 => ?_)
        · exact absurd c_60 h45
        · refine tt_aload_n dX6_readOrder_63 rfl ?_
          refine tt_mI dX6_readOrder_64 fX6_160 rfl hM ?_
          refine tt_eq (show _ = sg from rfl) ?_
          refine tt_bipush (nI 112) dX6_readOrder_67 rfl ?_
          refine tt_icmp_eq (tgt := 94) dX6_readOrder_69 (by decide) (fun c_69 => ?_) (fun c_69 => ?_)
          · exact absurd c_69 h112
          · refine tt_aload_n dX6_readOrder_72 rfl ?_
            refine tt_mI dX6_readOrder_73 fX6_160 rfl hM ?_
            refine tt_eq (show _ = sg from rfl) ?_
            refine tt_bipush (nI 111) dX6_readOrder_76 rfl ?_
            refine tt_icmp_eq (tgt := 94) dX6_readOrder_78 (by decide) (fun c_78 => ?_) (fun c_78 => ?_)
            · exact absurd c_78 h111
            · refine tt_aload_n dX6_readOrder_81 rfl ?_
              refine tt_mI dX6_readOrder_82 fX6_160 rfl hM ?_
              refine tt_eq (show _ = sg from rfl) ?_
              refine tt_bipush (nI 46) dX6_readOrder_85 rfl ?_
              refine tt_icmp_eq (tgt := 94) dX6_readOrder_87 (by decide) (fun c_87 => ?_) (fun c_87 => ?_)
              · exact absurd c_87 h46
              · refine tt_iconst (nI 1) dX6_readOrder_90 rfl ?_
                refine tt_goto (tgt := 95) dX6_readOrder_91 (by decide) ?_
                refine tt_mpZ dX6_readOrder_95 fX6_146 rfl (Or.inr rfl) rfl hM ?_
                refine tt_aload_n dX6_readOrder_98 rfl ?_
                refine tt_dup dX6_readOrder_99 rfl ?_
                refine tt_mI dX6_readOrder_100 fX6_150 rfl hM ?_
                refine tt_eq (show _ = nI k from h8) ?_
                refine tt_aload_n dX6_readOrder_103 rfl ?_
                refine tt_mI dX6_readOrder_104 fX6_146 rfl hM ?_
                refine tt_eq (show _ = nI 1 from rfl) ?_
                refine tt_if_eq (tgt := 114) dX6_readOrder_107 (by decide) (fun q => absurd q (by decide)) (fun _ => ?_)
                refine tt_iconst (nI 0) dX6_readOrder_110 rfl ?_
                refine tt_goto (tgt := 115) dX6_readOrder_111 (by decide) ?_
                refine tt_iaddN dX6_readOrder_115 ?_
                refine tt_mp dX6_readOrder_116 fX6_150 rfl rfl hM ?_
                refine tt_aload_n dX6_readOrder_119 rfl ?_
                refine tt_mI dX6_readOrder_120 fX6_160 rfl hM ?_
                refine tt_eq (show _ = sg from rfl) ?_
                refine tt_bipush (nI 46) dX6_readOrder_123 rfl ?_
                refine tt_icmp_eq (tgt := 160) dX6_readOrder_125 (by decide) (fun c_125 => ?_) (fun c_125 => ?_)
                · exact absurd c_125 h46
                · refine tt_aload_n dX6_readOrder_128 rfl ?_
                  refine tt_aload_n dX6_readOrder_129 rfl ?_
                  refine tt_mI dX6_readOrder_130 fX6_160 rfl hM ?_
                  refine tt_eq (show _ = sg from rfl) ?_
                  refine tt_bipush (nI 43) dX6_readOrder_133 rfl ?_
                  refine tt_icmp_ne (tgt := 149) dX6_readOrder_135 (by decide) (fun c_135 => ?_) (fun c_135 => ?_)
                  · refine tt_aload_n dX6_readOrder_149 rfl ?_
                    refine tt_bipush (nI 48) dX6_readOrder_150 rfl ?_
                    refine tt_bipush (nI 57) dX6_readOrder_152 rfl ?_
                    refine tt_fVi (c_X6_takesOne hM _ _ _ _ _ _ n ht.1 (by exact h7) (k + 0) (true) (by omega) (by rfl) (by rfl) _ _) dX6_readOrder_154 vX6_157 rfl rfl hM.1 (by decide) rfl (by decide) ⟨rfl, rfl⟩ (Nat.zero_le _) (Nat.zero_le _) (Nat.le_of_ble_eq_true rfl) ?_
                    refine tt_mp dX6_readOrder_157 fX6_163 rfl rfl hM ?_
                    refine tt_aload_n dX6_readOrder_160 rfl ?_
                    refine tt_mI dX6_readOrder_161 fX6_160 rfl hM ?_
                    refine tt_eq (show _ = sg from rfl) ?_
                    refine tt_bipush (nI 43) dX6_readOrder_164 rfl ?_
                    refine tt_icmp_ne (tgt := 193) dX6_readOrder_166 (by decide) (fun c_166 => ?_) (fun c_166 => ?_)
                    · refine tt_aload_n dX6_readOrder_193 rfl ?_
                      refine tt_mI dX6_readOrder_194 fX6_160 rfl hM ?_
                      refine tt_eq (show _ = sg from rfl) ?_
                      refine tt_bipush (nI 43) dX6_readOrder_197 rfl ?_
                      refine tt_icmp_eq (tgt := 211) dX6_readOrder_199 (by decide) (fun c_199 => ?_) (fun c_199 => ?_)
                      · exact absurd c_199 h43
                      · refine tt_aload_n dX6_readOrder_202 rfl ?_
                        refine tt_mI dX6_readOrder_203 fX6_160 rfl hM ?_
                        refine tt_eq (show _ = sg from rfl) ?_
                        refine tt_bipush (nI 112) dX6_readOrder_206 rfl ?_
                        refine tt_icmp_ne (tgt := 220) dX6_readOrder_208 (by decide) (fun c_208 => ?_) (fun c_208 => ?_)
                        · refine tt_aload_n dX6_readOrder_220 rfl ?_
                          refine tt_mI dX6_readOrder_221 fX6_160 rfl hM ?_
                          refine tt_eq (show _ = sg from rfl) ?_
                          refine tt_bipush (nI 43) dX6_readOrder_224 rfl ?_
                          refine tt_icmp_eq (tgt := 247) dX6_readOrder_226 (by decide) (fun c_226 => ?_) (fun c_226 => ?_)
                          · exact absurd c_226 h43
                          · refine tt_aload_n dX6_readOrder_229 rfl ?_
                            refine tt_mI dX6_readOrder_230 fX6_160 rfl hM ?_
                            refine tt_eq (show _ = sg from rfl) ?_
                            refine tt_bipush (nI 112) dX6_readOrder_233 rfl ?_
                            refine tt_icmp_eq (tgt := 247) dX6_readOrder_235 (by decide) (fun c_235 => ?_) (fun c_235 => ?_)
                            · exact absurd c_235 h112
                            · refine tt_aload_n dX6_readOrder_238 rfl ?_
                              refine tt_mI dX6_readOrder_239 fX6_160 rfl hM ?_
                              refine tt_eq (show _ = sg from rfl) ?_
                              refine tt_bipush (nI 46) dX6_readOrder_242 rfl ?_
                              refine tt_icmp_ne (tgt := 277) dX6_readOrder_244 (by decide) (fun c_244 => ?_) (fun c_244 => ?_)
                              · exact tt_return dX6_readOrder_277 rfl (Nat.zero_le _) (Nat.zero_le _) ⟨rfl, _, rfl, rfl, rfl, rfl, tk_kt (p := p) (n := n) (lo := nI 48) (hi := nI 57) (k := k), tk_ft (p := p) (n := n) (lo := nI 48) (hi := nI 57) (k := k), fun q => absurd q (show ¬ (true = false) by decide)⟩
                              · exact absurd c_244 h46
                        · exact absurd c_208 h112
                    · exact absurd c_166 h43
                  · exact absurd c_135 h43
theorem c_X6_readOrder {h : zhp} (hM : zMo h) (F s a t l p : Nat → Int32) (n : Nat) (ht : pOK p n) (h7 : F 7 = nI n) (k : Nat) (hk : k ≤ 60) (h8 : F 8 = nI k) (h9 : F 9 = nI 0) : MM iX6_readOrder [.ref 181] (zm h F s a t l p) (fun r h1 => r = none ∧ ∃ F1, h1 = zm h F1 s a t l p ∧ zoF F F1 (rdO p n k)) := by
  unfold rdO
  by_cases hkn : k < n
  · rw [if_pos hkn]
    by_cases h43 : p k = nI 43
    · rw [if_pos h43]; exact c_X6_readOrder_43 hM F s a t l p n ht h7 k hk h8 h9 hkn h43
    · rw [if_neg h43]
      by_cases h119 : p k = nI 119
      · rw [if_pos h119]; exact c_X6_readOrder_119 hM F s a t l p n ht h7 k hk h8 h9 hkn h119
      · rw [if_neg h119]
        by_cases h45 : p k = nI 45
        · rw [if_pos h45]; exact c_X6_readOrder_45 hM F s a t l p n ht h7 k hk h8 h9 hkn h45
        · rw [if_neg h45]
          by_cases h112 : p k = nI 112
          · rw [if_pos h112]; exact c_X6_readOrder_112 hM F s a t l p n ht h7 k hk h8 h9 hkn h112
          · rw [if_neg h112]
            by_cases h111 : p k = nI 111
            · rw [if_pos h111]; exact c_X6_readOrder_111 hM F s a t l p n ht h7 k hk h8 h9 hkn h111
            · rw [if_neg h111]
              by_cases h46 : p k = nI 46
              · rw [if_pos h46]; exact c_X6_readOrder_46 hM F s a t l p n ht h7 k hk h8 h9 hkn h46
              · rw [if_neg h46]
                exact c_X6_readOrder_x hM F s a t l p n ht h7 k hk h8 h9 (p k) ⟨fun _ => rfl, fun q => absurd hkn q⟩ h43 h119 h45 h112 h111 h46
  · rw [if_neg hkn]
    exact c_X6_readOrder_x hM F s a t l p n ht h7 k hk h8 h9 (nI 0) ⟨fun q => absurd q hkn, fun _ => rfl⟩ (by decide) (by decide) (by decide) (by decide) (by decide) (by decide)
