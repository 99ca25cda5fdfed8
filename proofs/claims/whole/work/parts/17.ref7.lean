/-! the reference: cost, the best swap, wipe, undo, save, restore -/
theorem zlp_fst2 {α β : Type} (g : Nat → α → α) (u : Nat → α → β) : ∀ (r k : Nat) (x : α × β), (zlp (fun j (x : α × β) => (g j x.1, u j x.1)) r k x).1 = zlp g r k x.1
  | 0, _, _ => rfl
  | r + 1, k, x => zlp_fst2 g u r (k + 1) (g k x.1, u k x.1)
def sCoH (h : zhp) (F s a t l p : Nat → Int32) (n : Nat) (v w : Int32) : zhp := if nI 0 ≤ v ∧ v ≤ nI 5 then (if nI 0 ≤ w ∧ w ≤ nI 200 then zm h F (cpA (cpA s a) (sPs s n w.toNatClampNeg)) (cpA s a) t l p else zm h F s a t l p) else zm h F s a t l p
set_option maxRecDepth 100000 in
set_option maxHeartbeats 4000000 in
theorem c_X6_cost {h : zhp} (hM : zMo h) (F s a t l p : Nat → Int32) (n : Nat) (hw : sWF s n) (v w : Int32) : MM iX6_cost [.ref 181, .int v, .int w] (zm h F s a t l p) (zfi (sCo s a n v w) (sCoH h F s a t l p n v w)) := by
  refine MM_of (by decide +kernel) (Nat.le_of_ble_eq_true rfl) ?_
  refine tt_iload_n dX6_cost_0 rfl ?_
  refine tt_fSi (c_X6_isCustomer _ _) dX6_cost_1 sX6_74 rfl rfl (by decide) ⟨rfl, rfl⟩ (Nat.zero_le _) (Nat.zero_le _) (Nat.le_of_ble_eq_true rfl) ?_
  refine tt_if_neB (tgt := 9) dX6_cost_4 (by decide) (fun c_4 => ?_) (fun c_4 => ?_)
  · obtain ⟨n0, hn0, rfl⟩ := zrng (by omega) c_4
    have hq0 : (nI n0).toNatClampNeg = n0 := nI_clamp (by omega)
    refine tt_iload_n dX6_cost_9 rfl ?_
    refine tt_iconst (nI 0) dX6_cost_10 rfl ?_
    refine tt_sipush (nI 200) dX6_cost_11 rfl ?_
    refine tt_fSi (c_X6_in _ _ _ _) dX6_cost_14 sX6_25 rfl rfl (by decide) ⟨rfl, rfl⟩ (Nat.zero_le _) (Nat.zero_le _) (Nat.le_of_ble_eq_true rfl) ?_
    refine tt_if_neB (tgt := 23) dX6_cost_17 (by decide) (fun c_17 => ?_) (fun c_17 => ?_)
    · obtain ⟨d, hd, rfl⟩ := zrng (by omega) c_17
      have hqd : (nI d).toNatClampNeg = d := nI_clamp (by omega)
      refine tt_aload_n dX6_cost_23 rfl ?_
      refine tt_fVv (c_X6_putAside hM _ _ _ _ _ _) dX6_cost_24 vX6_93 rfl rfl hM.1 (by decide) rfl (by decide) ⟨rfl, rfl⟩ (Nat.zero_le _) (Nat.zero_le _) (Nat.le_of_ble_eq_true rfl) ?_
      refine tt_iconst (nI 0) dX6_cost_27 rfl ?_
      refine tt_istore_n dX6_cost_28 rfl (Nat.le_of_ble_eq_true rfl) rfl ?_
      refine tt_loop (fun _ x => sDay x n) d (fun _ x => sWF x n) (fun k _ => [some (.ref 181), some (.int (nI n0)), some (.int (nI d)), some (.int (nI k))]) (fun _ x => zm h F x (cpA s a) t l p) (s) hw (fun _ _ _ hx => sDay_WF hx) (fun hx => ?_) (fun k x hk hI ih => ?_)
      · refine tt_iload_n dX6_cost_29 rfl ?_
        refine tt_iload_n dX6_cost_30 rfl ?_
        refine tt_icmp_geN (tgt := 44) dX6_cost_31 (by decide) (by omega) (by omega) (fun c_31 => ?_) (fun c_31 => ?_)
        · refine tt_aload_n dX6_cost_44 rfl ?_
          refine tt_mA (b := 182) dX6_cost_45 fX6_7 rfl hM hM.2.1 ?_
          refine tt_iload_n dX6_cost_48 rfl ?_
          refine tt_iconst (nI 0) dX6_cost_49 rfl ?_
          refine tt_fSi (c_X6_ofCustomer _ _ _) dX6_cost_50 sX6_40 rfl rfl (by decide) ⟨rfl, rfl⟩ (Nat.zero_le _) (Nat.zero_le _) (Nat.le_of_ble_eq_true rfl) ?_
          refine tt_ld1 dX6_cost_53 hM (by omega) ?_
          refine tt_aload_n dX6_cost_54 rfl ?_
          refine tt_mA (b := 183) dX6_cost_55 fX6_13 rfl hM hM.2.2.1 ?_
          refine tt_iload_n dX6_cost_58 rfl ?_
          refine tt_iconst (nI 0) dX6_cost_59 rfl ?_
          refine tt_fSi (c_X6_ofCustomer _ _ _) dX6_cost_60 sX6_40 rfl rfl (by decide) ⟨rfl, rfl⟩ (Nat.zero_le _) (Nat.zero_le _) (Nat.le_of_ble_eq_true rfl) ?_
          refine tt_ld2 dX6_cost_63 hM (by omega) ?_
          refine tt_isub dX6_cost_64 ?_
          refine tt_istore_n dX6_cost_65 rfl (Nat.le_of_ble_eq_true rfl) rfl ?_
          refine tt_aload_n dX6_cost_66 rfl ?_
          refine tt_fVv (c_X6_putBack hM _ _ _ _ _ _) dX6_cost_67 vX6_137 rfl rfl hM.1 (by decide) rfl (by decide) ⟨rfl, rfl⟩ (Nat.zero_le _) (Nat.zero_le _) (Nat.le_of_ble_eq_true rfl) ?_
          refine tt_iload_n dX6_cost_70 rfl ?_
          exact tt_ireturn dX6_cost_71 rfl rfl (Nat.zero_le _) (Nat.zero_le _) ⟨congrArg (fun z => some (Value.int z)) (by first | (unfold sCo; rw [if_neg c_4]; done) | (unfold sCo; rw [if_pos c_4, if_neg c_17]; done) | (unfold sCo; rw [if_pos c_4, if_pos c_17, hq0, hqd]; rfl)), by first | (unfold sCoH; rw [if_neg c_4]; done) | (unfold sCoH; rw [if_pos c_4, if_neg c_17]; done) | (unfold sCoH; rw [if_pos c_4, if_pos c_17, hqd]; rfl)⟩
        · exact absurd c_31 (by omega)
      · refine tt_iload_n dX6_cost_29 rfl ?_
        refine tt_iload_n dX6_cost_30 rfl ?_
        refine tt_icmp_geN (tgt := 44) dX6_cost_31 (by decide) (by omega) (by omega) (fun c_31 => ?_) (fun c_31 => ?_)
        · exact absurd c_31 (by omega)
        · refine tt_aload_n dX6_cost_34 rfl ?_
          refine tt_fVv (c_X6_day hM _ _ _ _ _ _ n hI) dX6_cost_35 vX6_68 rfl rfl hM.1 (by decide) rfl (by decide) ⟨rfl, rfl⟩ (Nat.zero_le _) (Nat.zero_le _) (Nat.le_of_ble_eq_true rfl) ?_
          refine tt_iincN dX6_cost_38 rfl rfl (Nat.le_of_ble_eq_true rfl) rfl ?_
          refine tt_goto (tgt := 29) dX6_cost_41 (by decide) ?_
          exact ih
    · refine tt_bipush (-2) dX6_cost_20 rfl ?_
      exact tt_ireturn dX6_cost_22 rfl rfl (Nat.zero_le _) (Nat.zero_le _) ⟨congrArg (fun z => some (Value.int z)) (by first | (unfold sCo; rw [if_neg c_4]; done) | (unfold sCo; rw [if_pos c_4, if_neg c_17]; done) | (unfold sCo; rw [if_pos c_4, if_pos c_17, hq0, hqd]; rfl)), by first | (unfold sCoH; rw [if_neg c_4]; done) | (unfold sCoH; rw [if_pos c_4, if_neg c_17]; done) | (unfold sCoH; rw [if_pos c_4, if_pos c_17, hqd]; rfl)⟩
  · refine tt_iconst (-1) dX6_cost_7 rfl ?_
    exact tt_ireturn dX6_cost_8 rfl rfl (Nat.zero_le _) (Nat.zero_le _) ⟨congrArg (fun z => some (Value.int z)) (by first | (unfold sCo; rw [if_neg c_4]; done) | (unfold sCo; rw [if_pos c_4, if_neg c_17]; done) | (unfold sCo; rw [if_pos c_4, if_pos c_17, hq0, hqd]; rfl)), by first | (unfold sCoH; rw [if_neg c_4]; done) | (unfold sCoH; rw [if_pos c_4, if_neg c_17]; done) | (unfold sCoH; rw [if_pos c_4, if_pos c_17, hqd]; rfl)⟩
set_option maxRecDepth 100000 in
set_option maxHeartbeats 4000000 in
theorem c_X6_bestSwap {h : zhp} (hM : zMo h) (F s a t l p : Nat → Int32) (n : Nat) (hw : sWF s n) (v d w : Int32) : MM iX6_bestSwap [.ref 181, .int v, .int d, .int w] (zm h F s a t l p) (zfi (sBs s v d w) (zm h F s a t l p)) := by
  refine MM_of (by decide +kernel) (Nat.le_of_ble_eq_true rfl) ?_
  refine tt_aload_n dX6_bestSwap_0 rfl ?_
  refine tt_iload_n dX6_bestSwap_1 rfl ?_
  refine tt_fVi (c_X6_isSkip hM _ _ _ _ _ _ _) dX6_bestSwap_2 vX6_84 rfl rfl hM.1 (by decide) rfl (by decide) ⟨rfl, rfl⟩ (Nat.zero_le _) (Nat.zero_le _) (Nat.le_of_ble_eq_true rfl) ?_
  refine tt_if_neB (tgt := 10) dX6_bestSwap_5 (by decide) (fun c_5 => ?_) (fun c_5 => ?_)
  · obtain ⟨n0, hn0, rfl⟩ := zskip hw.1 hw.2.1 c_5
    have hn10 := hw.1
    have hq0 : (nI n0).toNatClampNeg = n0 := nI_clamp (by omega)
    refine tt_iload_n dX6_bestSwap_10 rfl ?_
    refine tt_iconst (nI 1) dX6_bestSwap_11 rfl ?_
    refine tt_bipush (nI 60) dX6_bestSwap_12 rfl ?_
    refine tt_fSi (c_X6_in _ _ _ _) dX6_bestSwap_14 sX6_25 rfl rfl (by decide) ⟨rfl, rfl⟩ (Nat.zero_le _) (Nat.zero_le _) (Nat.le_of_ble_eq_true rfl) ?_
    refine tt_if_eqB (tgt := 29) dX6_bestSwap_17 (by decide) (fun c_17 => ?_) (fun c_17 => ?_)
    · refine tt_bipush (-2) dX6_bestSwap_29 rfl ?_
      exact tt_ireturn dX6_bestSwap_31 rfl rfl (Nat.zero_le _) (Nat.zero_le _) ⟨congrArg (fun z => some (Value.int z)) (by first | (unfold sBs; rw [if_neg c_5]; done) | (unfold sBs; rw [if_pos c_5, if_neg (fun q => c_17 q.1)]; done) | (unfold sBs; rw [if_pos c_5, if_neg (fun q => c_26 q.2)]; done) | (unfold sBs; rw [if_pos c_5, if_pos ⟨c_17, c_26⟩, hq0, hqd, if_pos (by simpa using c_131)]; exact congrArg Prod.fst (zlp_fst2 (sBf s n0 (nI d0)) (fun k x => (some (.int (sBi s n0 (nI d0) (nI k))), some (.int (zb (nI k = 0 ∨ sBi s n0 (nI d0) (nI k) ≤ x.2))))) (d0 + 1) 0 ((nI 0, nI 0), ((none : Option Value), (none : Option Value))))) | (unfold sBs; rw [if_pos c_5, if_pos ⟨c_17, c_26⟩, hq0, hqd, if_neg c_131]; exact congrArg Prod.snd (zlp_fst2 (sBf s n0 (nI d0)) (fun k x => (some (.int (sBi s n0 (nI d0) (nI k))), some (.int (zb (nI k = 0 ∨ sBi s n0 (nI d0) (nI k) ≤ x.2))))) (d0 + 1) 0 ((nI 0, nI 0), ((none : Option Value), (none : Option Value)))))), rfl⟩
    · refine tt_iload_n dX6_bestSwap_20 rfl ?_
      refine tt_iconst (nI 0) dX6_bestSwap_21 rfl ?_
      refine tt_iconst (nI 1) dX6_bestSwap_22 rfl ?_
      refine tt_fSi (c_X6_in _ _ _ _) dX6_bestSwap_23 sX6_25 rfl rfl (by decide) ⟨rfl, rfl⟩ (Nat.zero_le _) (Nat.zero_le _) (Nat.le_of_ble_eq_true rfl) ?_
      refine tt_if_neB (tgt := 32) dX6_bestSwap_26 (by decide) (fun c_26 => ?_) (fun c_26 => ?_)
      · obtain ⟨d0, hd0, rfl⟩ := zrng (x := d) (b := 60) (by omega) ⟨Int32.le_trans (by decide) c_17.1, c_17.2⟩
        have hqd : (nI d0).toNatClampNeg = d0 := nI_clamp (by omega)
        refine tt_iconst (nI 0) dX6_bestSwap_32 rfl ?_
        refine tt_istore dX6_bestSwap_33 rfl (Nat.le_of_ble_eq_true rfl) rfl ?_
        refine tt_iconst (nI 0) dX6_bestSwap_35 rfl ?_
        refine tt_istore dX6_bestSwap_36 rfl (Nat.le_of_ble_eq_true rfl) rfl ?_
        refine tt_iconst (nI 0) dX6_bestSwap_38 rfl ?_
        refine tt_istore dX6_bestSwap_39 rfl (Nat.le_of_ble_eq_true rfl) rfl ?_
        refine tt_loop (fun k (x : (Int32 × Int32) × (Option Value × Option Value)) => (sBf s n0 (nI d0) k x.1, (some (.int (sBi s n0 (nI d0) (nI k))), some (.int (zb (nI k = 0 ∨ sBi s n0 (nI d0) (nI k) ≤ x.1.2)))))) (d0 + 1) (fun _ _ => True) (fun k x => [some (.ref 181), some (.int (nI n0)), some (.int (nI d0)), some (.int w), some (.int x.1.1), some (.int x.1.2), some (.int (nI k)), x.2.1, x.2.2]) (fun _ _ => zm h F s a t l p) ((nI 0, nI 0), (none, none)) trivial (fun _ _ _ _ => trivial) (fun hx => ?_) (fun k x hk hI ih => ?_)
        · refine tt_iload dX6_bestSwap_41 rfl ?_
          refine tt_iload_n dX6_bestSwap_43 rfl ?_
          refine tt_icmp_gtN (tgt := 130) dX6_bestSwap_44 (by decide) (by omega) (by omega) (fun c_44 => ?_) (fun c_44 => ?_)
          · refine tt_iload_n dX6_bestSwap_130 rfl ?_
            refine tt_if_ne (tgt := 139) dX6_bestSwap_131 (by decide) (fun c_131 => ?_) (fun c_131 => ?_)
            · refine tt_iload dX6_bestSwap_139 rfl ?_
              exact tt_ireturn dX6_bestSwap_141 rfl rfl (Nat.zero_le _) (Nat.zero_le _) ⟨congrArg (fun z => some (Value.int z)) (by first | (unfold sBs; rw [if_neg c_5]; done) | (unfold sBs; rw [if_pos c_5, if_neg (fun q => c_17 q.1)]; done) | (unfold sBs; rw [if_pos c_5, if_neg (fun q => c_26 q.2)]; done) | (unfold sBs; rw [if_pos c_5, if_pos ⟨c_17, c_26⟩, hq0, hqd, if_pos (by simpa using c_131)]; exact congrArg Prod.fst (zlp_fst2 (sBf s n0 (nI d0)) (fun k x => (some (.int (sBi s n0 (nI d0) (nI k))), some (.int (zb (nI k = 0 ∨ sBi s n0 (nI d0) (nI k) ≤ x.2))))) (d0 + 1) 0 ((nI 0, nI 0), ((none : Option Value), (none : Option Value))))) | (unfold sBs; rw [if_pos c_5, if_pos ⟨c_17, c_26⟩, hq0, hqd, if_neg c_131]; exact congrArg Prod.snd (zlp_fst2 (sBf s n0 (nI d0)) (fun k x => (some (.int (sBi s n0 (nI d0) (nI k))), some (.int (zb (nI k = 0 ∨ sBi s n0 (nI d0) (nI k) ≤ x.2))))) (d0 + 1) 0 ((nI 0, nI 0), ((none : Option Value), (none : Option Value)))))), rfl⟩
            · refine tt_iload dX6_bestSwap_134 rfl ?_
              refine tt_goto (tgt := 141) dX6_bestSwap_136 (by decide) ?_
              exact tt_ireturn dX6_bestSwap_141 rfl rfl (Nat.zero_le _) (Nat.zero_le _) ⟨congrArg (fun z => some (Value.int z)) (by first | (unfold sBs; rw [if_neg c_5]; done) | (unfold sBs; rw [if_pos c_5, if_neg (fun q => c_17 q.1)]; done) | (unfold sBs; rw [if_pos c_5, if_neg (fun q => c_26 q.2)]; done) | (unfold sBs; rw [if_pos c_5, if_pos ⟨c_17, c_26⟩, hq0, hqd, if_pos (by simpa using c_131)]; exact congrArg Prod.fst (zlp_fst2 (sBf s n0 (nI d0)) (fun k x => (some (.int (sBi s n0 (nI d0) (nI k))), some (.int (zb (nI k = 0 ∨ sBi s n0 (nI d0) (nI k) ≤ x.2))))) (d0 + 1) 0 ((nI 0, nI 0), ((none : Option Value), (none : Option Value))))) | (unfold sBs; rw [if_pos c_5, if_pos ⟨c_17, c_26⟩, hq0, hqd, if_neg c_131]; exact congrArg Prod.snd (zlp_fst2 (sBf s n0 (nI d0)) (fun k x => (some (.int (sBi s n0 (nI d0) (nI k))), some (.int (zb (nI k = 0 ∨ sBi s n0 (nI d0) (nI k) ≤ x.2))))) (d0 + 1) 0 ((nI 0, nI 0), ((none : Option Value), (none : Option Value)))))), rfl⟩
          · exact absurd c_44 (by omega)
        · refine tt_iload dX6_bestSwap_41 rfl ?_
          refine tt_iload_n dX6_bestSwap_43 rfl ?_
          refine tt_icmp_gtN (tgt := 130) dX6_bestSwap_44 (by decide) (by omega) (by omega) (fun c_44 => ?_) (fun c_44 => ?_)
          · exact absurd c_44 (by omega)
          · refine tt_aload_n dX6_bestSwap_47 rfl ?_
            refine tt_iload_n dX6_bestSwap_48 rfl ?_
            refine tt_aload_n dX6_bestSwap_49 rfl ?_
            refine tt_mA (b := 182) dX6_bestSwap_50 fX6_7 rfl hM hM.2.1 ?_
            refine tt_iload_n dX6_bestSwap_53 rfl ?_
            refine tt_iconst (nI 3) dX6_bestSwap_54 rfl ?_
            refine tt_fSi (c_X6_of _ _ _) dX6_bestSwap_55 sX6_29 rfl rfl (by decide) ⟨rfl, rfl⟩ (Nat.zero_le _) (Nat.zero_le _) (Nat.le_of_ble_eq_true rfl) ?_
            refine tt_ld1 dX6_bestSwap_58 hM (by omega) ?_
            refine tt_iload dX6_bestSwap_59 rfl ?_
            refine tt_fVi (c_X6_wouldFall hM _ _ _ _ _ _ _ (by omega) _ _) dX6_bestSwap_61 vX6_140 rfl rfl hM.1 (by decide) rfl (by decide) ⟨rfl, rfl⟩ (Nat.zero_le _) (Nat.zero_le _) (Nat.le_of_ble_eq_true rfl) ?_
            refine tt_aload_n dX6_bestSwap_64 rfl ?_
            refine tt_iload_n dX6_bestSwap_65 rfl ?_
            refine tt_iconst (nI 0) dX6_bestSwap_66 rfl ?_
            refine tt_iload_n dX6_bestSwap_67 rfl ?_
            refine tt_iload dX6_bestSwap_68 rfl ?_
            refine tt_isub dX6_bestSwap_70 ?_
            refine tt_fVi (c_X6_wouldFall hM _ _ _ _ _ _ _ (by omega) _ _) dX6_bestSwap_71 vX6_140 rfl rfl hM.1 (by decide) rfl (by decide) ⟨rfl, rfl⟩ (Nat.zero_le _) (Nat.zero_le _) (Nat.le_of_ble_eq_true rfl) ?_
            refine tt_iadd dX6_bestSwap_74 ?_
            refine tt_istore dX6_bestSwap_75 rfl (Nat.le_of_ble_eq_true rfl) rfl ?_
            refine tt_iload dX6_bestSwap_77 rfl ?_
            refine tt_c1 (tgt := 94) (x := zb (nI k = 0 ∨ sBi s n0 (nI d0) (nI k) ≤ x.1.2)) ?_ (fun key_94 => ?_)
            · refine tt_istore dX6_bestSwap_94 rfl (Nat.le_of_ble_eq_true rfl) rfl ?_
              refine tt_iload dX6_bestSwap_96 rfl ?_
              refine tt_c1 (tgt := 108) (x := if nI k = 0 ∨ sBi s n0 (nI d0) (nI k) ≤ x.1.2 then nI k else x.1.1) ?_ (fun key_108 => ?_)
              · refine tt_istore dX6_bestSwap_108 rfl (Nat.le_of_ble_eq_true rfl) rfl ?_
                refine tt_iload dX6_bestSwap_110 rfl ?_
                refine tt_c1 (tgt := 122) (x := if nI k = 0 ∨ sBi s n0 (nI d0) (nI k) ≤ x.1.2 then sBi s n0 (nI d0) (nI k) else x.1.2) ?_ (fun key_122 => ?_)
                · refine tt_istore dX6_bestSwap_122 rfl (Nat.le_of_ble_eq_true rfl) rfl ?_
                  refine tt_iincN dX6_bestSwap_124 rfl rfl (Nat.le_of_ble_eq_true rfl) rfl ?_
                  refine tt_goto (tgt := 41) dX6_bestSwap_127 (by decide) ?_
                  exact ih
                · refine tt_if_eqB (tgt := 120) dX6_bestSwap_112 (by decide) (fun c_112 => ?_) (fun c_112 => ?_)
                  · refine tt_iload dX6_bestSwap_120 rfl ?_
                    exact key_122 _ (by first | exact (if_pos (by assumption)).symm | exact (if_neg (by assumption)).symm)
                  · refine tt_iload dX6_bestSwap_115 rfl ?_
                    refine tt_goto (tgt := 122) dX6_bestSwap_117 (by decide) ?_
                    exact key_122 _ (by first | exact (if_pos (by assumption)).symm | exact (if_neg (by assumption)).symm)
              · refine tt_if_eqB (tgt := 106) dX6_bestSwap_98 (by decide) (fun c_98 => ?_) (fun c_98 => ?_)
                · refine tt_iload dX6_bestSwap_106 rfl ?_
                  exact key_108 _ (by first | exact (if_pos (by assumption)).symm | exact (if_neg (by assumption)).symm)
                · refine tt_iload dX6_bestSwap_101 rfl ?_
                  refine tt_goto (tgt := 108) dX6_bestSwap_103 (by decide) ?_
                  exact key_108 _ (by first | exact (if_pos (by assumption)).symm | exact (if_neg (by assumption)).symm)
            · refine tt_if_eq (tgt := 89) dX6_bestSwap_79 (by decide) (fun c_79 => ?_) (fun c_79 => ?_)
              · refine tt_iconst (nI 1) dX6_bestSwap_89 rfl ?_
                refine tt_goto (tgt := 94) dX6_bestSwap_90 (by decide) ?_
                exact key_94 _ (by first | exact (if_pos (Or.inl (by assumption))).symm | exact (if_pos (Or.inr (Int32.not_lt.mp (by assumption)))).symm | exact (if_neg (fun q => q.elim (by assumption) (Int32.not_le.mpr (by assumption)))).symm)
              · refine tt_iload dX6_bestSwap_82 rfl ?_
                refine tt_iload dX6_bestSwap_84 rfl ?_
                refine tt_icmp_gt (tgt := 93) dX6_bestSwap_86 (by decide) (fun c_86 => ?_) (fun c_86 => ?_)
                · refine tt_iconst (nI 0) dX6_bestSwap_93 rfl ?_
                  exact key_94 _ (by first | exact (if_pos (Or.inl (by assumption))).symm | exact (if_pos (Or.inr (Int32.not_lt.mp (by assumption)))).symm | exact (if_neg (fun q => q.elim (by assumption) (Int32.not_le.mpr (by assumption)))).symm)
                · refine tt_iconst (nI 1) dX6_bestSwap_89 rfl ?_
                  refine tt_goto (tgt := 94) dX6_bestSwap_90 (by decide) ?_
                  exact key_94 _ (by first | exact (if_pos (Or.inl (by assumption))).symm | exact (if_pos (Or.inr (Int32.not_lt.mp (by assumption)))).symm | exact (if_neg (fun q => q.elim (by assumption) (Int32.not_le.mpr (by assumption)))).symm)
      · refine tt_bipush (-2) dX6_bestSwap_29 rfl ?_
        exact tt_ireturn dX6_bestSwap_31 rfl rfl (Nat.zero_le _) (Nat.zero_le _) ⟨congrArg (fun z => some (Value.int z)) (by first | (unfold sBs; rw [if_neg c_5]; done) | (unfold sBs; rw [if_pos c_5, if_neg (fun q => c_17 q.1)]; done) | (unfold sBs; rw [if_pos c_5, if_neg (fun q => c_26 q.2)]; done) | (unfold sBs; rw [if_pos c_5, if_pos ⟨c_17, c_26⟩, hq0, hqd, if_pos (by simpa using c_131)]; exact congrArg Prod.fst (zlp_fst2 (sBf s n0 (nI d0)) (fun k x => (some (.int (sBi s n0 (nI d0) (nI k))), some (.int (zb (nI k = 0 ∨ sBi s n0 (nI d0) (nI k) ≤ x.2))))) (d0 + 1) 0 ((nI 0, nI 0), ((none : Option Value), (none : Option Value))))) | (unfold sBs; rw [if_pos c_5, if_pos ⟨c_17, c_26⟩, hq0, hqd, if_neg c_131]; exact congrArg Prod.snd (zlp_fst2 (sBf s n0 (nI d0)) (fun k x => (some (.int (sBi s n0 (nI d0) (nI k))), some (.int (zb (nI k = 0 ∨ sBi s n0 (nI d0) (nI k) ≤ x.2))))) (d0 + 1) 0 ((nI 0, nI 0), ((none : Option Value), (none : Option Value)))))), rfl⟩
  · refine tt_iconst (-1) dX6_bestSwap_8 rfl ?_
    exact tt_ireturn dX6_bestSwap_9 rfl rfl (Nat.zero_le _) (Nat.zero_le _) ⟨congrArg (fun z => some (Value.int z)) (by first | (unfold sBs; rw [if_neg c_5]; done) | (unfold sBs; rw [if_pos c_5, if_neg (fun q => c_17 q.1)]; done) | (unfold sBs; rw [if_pos c_5, if_neg (fun q => c_26 q.2)]; done) | (unfold sBs; rw [if_pos c_5, if_pos ⟨c_17, c_26⟩, hq0, hqd, if_pos (by simpa using c_131)]; exact congrArg Prod.fst (zlp_fst2 (sBf s n0 (nI d0)) (fun k x => (some (.int (sBi s n0 (nI d0) (nI k))), some (.int (zb (nI k = 0 ∨ sBi s n0 (nI d0) (nI k) ≤ x.2))))) (d0 + 1) 0 ((nI 0, nI 0), ((none : Option Value), (none : Option Value))))) | (unfold sBs; rw [if_pos c_5, if_pos ⟨c_17, c_26⟩, hq0, hqd, if_neg c_131]; exact congrArg Prod.snd (zlp_fst2 (sBf s n0 (nI d0)) (fun k x => (some (.int (sBi s n0 (nI d0) (nI k))), some (.int (zb (nI k = 0 ∨ sBi s n0 (nI d0) (nI k) ≤ x.2))))) (d0 + 1) 0 ((nI 0, nI 0), ((none : Option Value), (none : Option Value)))))), rfl⟩
set_option maxRecDepth 100000 in
set_option maxHeartbeats 4000000 in
theorem c_X6_wipe {h : zhp} (hM : zMo h) (F s a t l p : Nat → Int32) : MM iX6_wipe [.ref 181] (zm h F s a t l p) (zfi (F 7) (zm h (upd F 7 (nI 0)) s a t l p)) := by
  refine MM_of (by decide +kernel) (Nat.le_of_ble_eq_true rfl) ?_
  refine tt_aload_n dX6_wipe_0 rfl ?_
  refine tt_mI dX6_wipe_1 fX6_134 rfl hM ?_
  refine tt_istore_n dX6_wipe_4 rfl (Nat.le_of_ble_eq_true rfl) rfl ?_
  refine tt_aload_n dX6_wipe_5 rfl ?_
  refine tt_iconst (nI 0) dX6_wipe_6 rfl ?_
  refine tt_mp dX6_wipe_7 fX6_134 rfl rfl hM ?_
  refine tt_iload_n dX6_wipe_10 rfl ?_
  exact tt_ireturn dX6_wipe_11 rfl rfl (Nat.zero_le _) (Nat.zero_le _) ⟨rfl, rfl⟩
def sUd (h : zhp) (F s a t l p : Nat → Int32) (kn : Nat) : zhp := if kn = 0 then zm h F s a t l p else zm h (upd F 3 (F 3 - nI 1)) (zlp (fun k x => upd x k (t (135 * (kn - 1) + k))) 135 0 s) a t l p
def sSv (h : zhp) (F s a t l p : Nat → Int32) (v : Int32) : zhp := if nI 0 ≤ v ∧ v ≤ nI 1 then zm h (upd F 5 (F 5 ||| (nI 1 <<< (v &&& 31)))) s a t (zlp (fun k x => upd x (135 * v.toNatClampNeg + k) (s k)) 135 0 l) p else zm h F s a t l p
def sRe (h : zhp) (F s a t l p : Nat → Int32) (kn : Nat) (v : Int32) : Int32 × zhp := if nI 0 ≤ v ∧ v ≤ nI 1 then (if ((F 5 >>> (v &&& 31)) &&& nI 1) = 0 then (-5, zm h F s a t l p) else
  ((zlp (fun k x => upd x k (l (135 * v.toNatClampNeg + k))) 135 0 s) 33, zm h (rcF F kn) (zlp (fun k x => upd x k (l (135 * v.toNatClampNeg + k))) 135 0 s) (cpA s a) (rcT t (cpA s a) kn) l p)) else (-2, zm h F s a t l p)
set_option maxRecDepth 100000 in
set_option maxHeartbeats 4000000 in
theorem c_X6_undo {h : zhp} (hM : zMo h) (F s a t l p : Nat → Int32) (kn : Nat) (hk : kn ≤ 6) (h3 : F 3 = nI kn) : MM iX6_undo [.ref 181] (zm h F s a t l p) (zfi (if kn = 0 then -5 else F 3 - nI 1) (sUd h F s a t l p kn)) := by
  refine MM_of (by decide +kernel) (Nat.le_of_ble_eq_true rfl) ?_
  refine tt_aload_n dX6_undo_0 rfl ?_
  refine tt_mI dX6_undo_1 fX6_33 rfl hM ?_
  refine tt_if_ne (tgt := 10) dX6_undo_4 (by decide) (fun c_4 => ?_) (fun c_4 => ?_)
  · have hk0 : ¬ kn = 0 := by
      intro q
      subst q
      exact c_4 (by rw [h3]; rfl)
    have h4 : F 3 - nI 1 = nI (kn - 1) := by
      rw [h3]
      exact pk_sub (by omega)
    refine tt_aload_n dX6_undo_10 rfl ?_
    refine tt_dup dX6_undo_11 rfl ?_
    refine tt_mI dX6_undo_12 fX6_33 rfl hM ?_
    refine tt_iconst (nI 1) dX6_undo_15 rfl ?_
    refine tt_isub dX6_undo_16 ?_
    refine tt_mp dX6_undo_17 fX6_33 rfl rfl hM ?_
    refine tt_iconst (nI 0) dX6_undo_20 rfl ?_
    refine tt_istore_n dX6_undo_21 rfl (Nat.le_of_ble_eq_true rfl) rfl ?_
    refine tt_loop (fun k x => upd x k (t (135 * (kn - 1) + k))) 135 (fun _ _ => True) (fun k x => [some (.ref 181), some (.int (nI k))]) (fun _ x => zm h (upd F 3 (F 3 - nI 1)) x a t l p) s trivial (fun _ _ _ _ => trivial) (fun hx => ?_) (fun k x hk hI ih => ?_)
    · refine tt_iload_n dX6_undo_22 rfl ?_
      refine tt_sipush (nI 135) dX6_undo_23 rfl ?_
      refine tt_icmp_geN (tgt := 56) dX6_undo_26 (by decide) (by omega) (by omega) (fun c_26 => ?_) (fun c_26 => ?_)
      · refine tt_aload_n dX6_undo_56 rfl ?_
        refine tt_mI dX6_undo_57 fX6_33 rfl hM ?_
        exact tt_ireturn dX6_undo_60 rfl rfl (Nat.zero_le _) (Nat.zero_le _) (by first | (have q : kn = 0 := (nI_eq (by omega) (by omega)).mp (h3.symm.trans (show F 3 = nI 0 from c_4)); unfold sUd; rw [if_pos q, if_pos q]; exact ⟨rfl, rfl⟩) | (unfold sUd; rw [if_neg hk0, if_neg hk0]; exact ⟨rfl, rfl⟩))
      · exact absurd c_26 (by omega)
    · refine tt_iload_n dX6_undo_22 rfl ?_
      refine tt_sipush (nI 135) dX6_undo_23 rfl ?_
      refine tt_icmp_geN (tgt := 56) dX6_undo_26 (by decide) (by omega) (by omega) (fun c_26 => ?_) (fun c_26 => ?_)
      · exact absurd c_26 (by omega)
      · refine tt_aload_n dX6_undo_29 rfl ?_
        refine tt_mA (b := 182) dX6_undo_30 fX6_7 rfl hM hM.2.1 ?_
        refine tt_iload_n dX6_undo_33 rfl ?_
        refine tt_aload_n dX6_undo_34 rfl ?_
        refine tt_mA (b := 184) dX6_undo_35 fX6_16 rfl hM hM.2.2.2.1 ?_
        refine tt_sipush (nI 135) dX6_undo_38 rfl ?_
        refine tt_aload_n dX6_undo_41 rfl ?_
        refine tt_mI dX6_undo_42 fX6_33 rfl hM ?_
        refine tt_eq (show _ = nI (kn - 1) from h4) ?_
        refine tt_imulN dX6_undo_45 ?_
        refine tt_iload_n dX6_undo_46 rfl ?_
        refine tt_iaddN dX6_undo_47 ?_
        refine tt_ld3 dX6_undo_48 hM (by omega) ?_
        refine tt_st1 dX6_undo_49 hM (by omega) ?_
        refine tt_iincN dX6_undo_50 rfl rfl (Nat.le_of_ble_eq_true rfl) rfl ?_
        refine tt_goto (tgt := 22) dX6_undo_53 (by decide) ?_
        exact ih
  · refine tt_bipush (-5) dX6_undo_7 rfl ?_
    exact tt_ireturn dX6_undo_9 rfl rfl (Nat.zero_le _) (Nat.zero_le _) (by first | (have q : kn = 0 := (nI_eq (by omega) (by omega)).mp (h3.symm.trans (show F 3 = nI 0 from c_4)); unfold sUd; rw [if_pos q, if_pos q]; exact ⟨rfl, rfl⟩) | (unfold sUd; rw [if_neg hk0, if_neg hk0]; exact ⟨rfl, rfl⟩))
set_option maxRecDepth 100000 in
set_option maxHeartbeats 4000000 in
theorem c_X6_save {h : zhp} (hM : zMo h) (F s a t l p : Nat → Int32) (v : Int32) : MM iX6_save [.ref 181, .int v] (zm h F s a t l p) (zfi (if nI 0 ≤ v ∧ v ≤ nI 1 then s 33 else -2) (sSv h F s a t l p v)) := by
  refine MM_of (by decide +kernel) (Nat.le_of_ble_eq_true rfl) ?_
  refine tt_iload_n dX6_save_0 rfl ?_
  refine tt_iconst (nI 0) dX6_save_1 rfl ?_
  refine tt_iconst (nI 1) dX6_save_2 rfl ?_
  refine tt_fSi (c_X6_in _ _ _ _) dX6_save_3 sX6_25 rfl rfl (by decide) ⟨rfl, rfl⟩ (Nat.zero_le _) (Nat.zero_le _) (Nat.le_of_ble_eq_true rfl) ?_
  refine tt_if_neB (tgt := 12) dX6_save_6 (by decide) (fun c_6 => ?_) (fun c_6 => ?_)
  · obtain ⟨n0, hn0, rfl⟩ := zrng (by omega) c_6
    have hq0 : (nI n0).toNatClampNeg = n0 := nI_clamp (by omega)
    refine tt_iconst (nI 0) dX6_save_12 rfl ?_
    refine tt_istore_n dX6_save_13 rfl (Nat.le_of_ble_eq_true rfl) rfl ?_
    refine tt_loop (fun k x => upd x (135 * n0 + k) (s k)) 135 (fun _ _ => True) (fun k x => [some (.ref 181), some (.int (nI n0)), some (.int (nI k))]) (fun _ x => zm h F s a t x p) l trivial (fun _ _ _ _ => trivial) (fun hx => ?_) (fun k x hk hI ih => ?_)
    · refine tt_iload_n dX6_save_14 rfl ?_
      refine tt_sipush (nI 135) dX6_save_15 rfl ?_
      refine tt_icmp_geN (tgt := 45) dX6_save_18 (by decide) (by omega) (by omega) (fun c_18 => ?_) (fun c_18 => ?_)
      · refine tt_aload_n dX6_save_45 rfl ?_
        refine tt_dup dX6_save_46 rfl ?_
        refine tt_mI dX6_save_47 fX6_190 rfl hM ?_
        refine tt_iconst (nI 1) dX6_save_50 rfl ?_
        refine tt_iload_n dX6_save_51 rfl ?_
        refine tt_ishl dX6_save_52 ?_
        refine tt_ior dX6_save_53 ?_
        refine tt_mp dX6_save_54 fX6_190 rfl rfl hM ?_
        refine tt_aload_n dX6_save_57 rfl ?_
        refine tt_mA (b := 182) dX6_save_58 fX6_7 rfl hM hM.2.1 ?_
        refine tt_bipush (nI 33) dX6_save_61 rfl ?_
        refine tt_ld1 dX6_save_63 hM (by omega) ?_
        exact tt_ireturn dX6_save_64 rfl rfl (Nat.zero_le _) (Nat.zero_le _) (by first | (unfold sSv; rw [if_neg c_6, if_neg c_6]; exact ⟨rfl, rfl⟩) | (unfold sSv; rw [if_pos c_6, if_pos c_6, hq0]; exact ⟨rfl, rfl⟩))
      · exact absurd c_18 (by omega)
    · refine tt_iload_n dX6_save_14 rfl ?_
      refine tt_sipush (nI 135) dX6_save_15 rfl ?_
      refine tt_icmp_geN (tgt := 45) dX6_save_18 (by decide) (by omega) (by omega) (fun c_18 => ?_) (fun c_18 => ?_)
      · exact absurd c_18 (by omega)
      · refine tt_aload_n dX6_save_21 rfl ?_
        refine tt_mA (b := 185) dX6_save_22 fX6_19 rfl hM hM.2.2.2.2.1 ?_
        refine tt_sipush (nI 135) dX6_save_25 rfl ?_
        refine tt_iload_n dX6_save_28 rfl ?_
        refine tt_imulN dX6_save_29 ?_
        refine tt_iload_n dX6_save_30 rfl ?_
        refine tt_iaddN dX6_save_31 ?_
        refine tt_aload_n dX6_save_32 rfl ?_
        refine tt_mA (b := 182) dX6_save_33 fX6_7 rfl hM hM.2.1 ?_
        refine tt_iload_n dX6_save_36 rfl ?_
        refine tt_ld1 dX6_save_37 hM (by omega) ?_
        refine tt_st4 dX6_save_38 hM (by omega) ?_
        refine tt_iincN dX6_save_39 rfl rfl (Nat.le_of_ble_eq_true rfl) rfl ?_
        refine tt_goto (tgt := 14) dX6_save_42 (by decide) ?_
        exact ih
  · refine tt_bipush (-2) dX6_save_9 rfl ?_
    exact tt_ireturn dX6_save_11 rfl rfl (Nat.zero_le _) (Nat.zero_le _) (by first | (unfold sSv; rw [if_neg c_6, if_neg c_6]; exact ⟨rfl, rfl⟩) | (unfold sSv; rw [if_pos c_6, if_pos c_6, hq0]; exact ⟨rfl, rfl⟩))
set_option maxRecDepth 100000 in
set_option maxHeartbeats 4000000 in
theorem c_X6_restore {h : zhp} (hM : zMo h) (F s a t l p : Nat → Int32) (kn : Nat) (hk : kn ≤ 6) (h3 : F 3 = nI kn) (v : Int32) : MM iX6_restore [.ref 181, .int v] (zm h F s a t l p) (zfi (sRe h F s a t l p kn v).1 (sRe h F s a t l p kn v).2) := by
  refine MM_of (by decide +kernel) (Nat.le_of_ble_eq_true rfl) ?_
  refine tt_iload_n dX6_restore_0 rfl ?_
  refine tt_iconst (nI 0) dX6_restore_1 rfl ?_
  refine tt_iconst (nI 1) dX6_restore_2 rfl ?_
  refine tt_fSi (c_X6_in _ _ _ _) dX6_restore_3 sX6_25 rfl rfl (by decide) ⟨rfl, rfl⟩ (Nat.zero_le _) (Nat.zero_le _) (Nat.le_of_ble_eq_true rfl) ?_
  refine tt_if_neB (tgt := 12) dX6_restore_6 (by decide) (fun c_6 => ?_) (fun c_6 => ?_)
  · obtain ⟨n0, hn0, rfl⟩ := zrng (by omega) c_6
    have hq0 : (nI n0).toNatClampNeg = n0 := nI_clamp (by omega)
    refine tt_aload_n dX6_restore_12 rfl ?_
    refine tt_mI dX6_restore_13 fX6_190 rfl hM ?_
    refine tt_iload_n dX6_restore_16 rfl ?_
    refine tt_ishr dX6_restore_17 ?_
    refine tt_iconst (nI 1) dX6_restore_18 rfl ?_
    refine tt_iand dX6_restore_19 ?_
    refine tt_if_ne (tgt := 26) dX6_restore_20 (by decide) (fun c_20 => ?_) (fun c_20 => ?_)
    · refine tt_aload_n dX6_restore_26 rfl ?_
      refine tt_fVv (c_X6_putAside hM _ _ _ _ _ _) dX6_restore_27 vX6_93 rfl rfl hM.1 (by decide) rfl (by decide) ⟨rfl, rfl⟩ (Nat.zero_le _) (Nat.zero_le _) (Nat.le_of_ble_eq_true rfl) ?_
      refine tt_aload_n dX6_restore_30 rfl ?_
      refine tt_fVv (c_X6_record hM _ _ _ _ _ _ kn hk h3) dX6_restore_31 vX6_37 rfl rfl hM.1 (by decide) rfl (by decide) ⟨rfl, rfl⟩ (Nat.zero_le _) (Nat.zero_le _) (Nat.le_of_ble_eq_true rfl) ?_
      refine tt_iconst (nI 0) dX6_restore_34 rfl ?_
      refine tt_istore_n dX6_restore_35 rfl (Nat.le_of_ble_eq_true rfl) rfl ?_
      refine tt_loop (fun k x => upd x k (l (135 * n0 + k))) 135 (fun _ _ => True) (fun k x => [some (.ref 181), some (.int (nI n0)), some (.int (nI k))]) (fun _ x => zm h (rcF F kn) x (cpA s a) (rcT t (cpA s a) kn) l p) s trivial (fun _ _ _ _ => trivial) (fun hx => ?_) (fun k x hk hI ih => ?_)
      · refine tt_iload_n dX6_restore_36 rfl ?_
        refine tt_sipush (nI 135) dX6_restore_37 rfl ?_
        refine tt_icmp_geN (tgt := 67) dX6_restore_40 (by decide) (by omega) (by omega) (fun c_40 => ?_) (fun c_40 => ?_)
        · refine tt_aload_n dX6_restore_67 rfl ?_
          refine tt_mA (b := 182) dX6_restore_68 fX6_7 rfl hM hM.2.1 ?_
          refine tt_bipush (nI 33) dX6_restore_71 rfl ?_
          refine tt_ld1 dX6_restore_73 hM (by omega) ?_
          exact tt_ireturn dX6_restore_74 rfl rfl (Nat.zero_le _) (Nat.zero_le _) (by first | (unfold sRe; rw [if_neg c_6]; exact ⟨rfl, rfl⟩) | (unfold sRe; rw [if_pos c_6, if_pos (by simpa using c_20)]; exact ⟨rfl, rfl⟩) | (unfold sRe; rw [if_pos c_6, if_neg c_20, hq0]; exact ⟨rfl, rfl⟩))
        · exact absurd c_40 (by omega)
      · refine tt_iload_n dX6_restore_36 rfl ?_
        refine tt_sipush (nI 135) dX6_restore_37 rfl ?_
        refine tt_icmp_geN (tgt := 67) dX6_restore_40 (by decide) (by omega) (by omega) (fun c_40 => ?_) (fun c_40 => ?_)
        · exact absurd c_40 (by omega)
        · refine tt_aload_n dX6_restore_43 rfl ?_
          refine tt_mA (b := 182) dX6_restore_44 fX6_7 rfl hM hM.2.1 ?_
          refine tt_iload_n dX6_restore_47 rfl ?_
          refine tt_aload_n dX6_restore_48 rfl ?_
          refine tt_mA (b := 185) dX6_restore_49 fX6_19 rfl hM hM.2.2.2.2.1 ?_
          refine tt_sipush (nI 135) dX6_restore_52 rfl ?_
          refine tt_iload_n dX6_restore_55 rfl ?_
          refine tt_imulN dX6_restore_56 ?_
          refine tt_iload_n dX6_restore_57 rfl ?_
          refine tt_iaddN dX6_restore_58 ?_
          refine tt_ld4 dX6_restore_59 hM (by omega) ?_
          refine tt_st1 dX6_restore_60 hM (by omega) ?_
          refine tt_iincN dX6_restore_61 rfl rfl (Nat.le_of_ble_eq_true rfl) rfl ?_
          refine tt_goto (tgt := 36) dX6_restore_64 (by decide) ?_
          exact ih
    · refine tt_bipush (-5) dX6_restore_23 rfl ?_
      exact tt_ireturn dX6_restore_25 rfl rfl (Nat.zero_le _) (Nat.zero_le _) (by first | (unfold sRe; rw [if_neg c_6]; exact ⟨rfl, rfl⟩) | (unfold sRe; rw [if_pos c_6, if_pos (by simpa using c_20)]; exact ⟨rfl, rfl⟩) | (unfold sRe; rw [if_pos c_6, if_neg c_20, hq0]; exact ⟨rfl, rfl⟩))
  · refine tt_bipush (-2) dX6_restore_9 rfl ?_
    exact tt_ireturn dX6_restore_11 rfl rfl (Nat.zero_le _) (Nat.zero_le _) (by first | (unfold sRe; rw [if_neg c_6]; exact ⟨rfl, rfl⟩) | (unfold sRe; rw [if_pos c_6, if_pos (by simpa using c_20)]; exact ⟨rfl, rfl⟩) | (unfold sRe; rw [if_pos c_6, if_neg c_20, hq0]; exact ⟨rfl, rfl⟩))
