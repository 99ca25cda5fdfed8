/-! the law's areSums -/
set_option maxRecDepth 100000 in
set_option maxHeartbeats 4000000 in
theorem c_L_areSums {h : zhp} {S : Nat → Nat → Int32} {P PI : Nat → Nat → Nat} {o c : Nat} (hC : CJ h S P PI o c) {n B0 B : Nat} (hI : zIv (S 0) n B0) (hJ : zJ (S 0) n B) (hB : B ≤ 2 ^ 28) : MM iL_areSums [.ref 4] h (zfi (nI 1) h) := by
  have hn := hI.1.1
  have hT4 : zT h 4 = 5 := hC.1.1.2.2.1.1
  have hd := (dyN hI).1
  have gcu : qS 6 (fun i => kCc (S 0) n (nI i)) = n := sum_cu hI.1
  have gst := sum_st hI hJ hB
  obtain ⟨b0, hb0, eb⟩ := hJ.2.2.2.1
  have gco : qS n (fun i => fld (S 0) i 9) ≤ qS 6 (fun i => tn (S 0 (15 + 3 * i + 0))) := hJ.2.2.2.2.2.1
  have gbe : qS n (fun i => fld (S 0) i 7) ≤ b0 := by
    have := hJ.2.2.2.2.2.2.1
    rw [eb, tn_N (by omega)] at this
    exact this
  have gc6 : qS 6 (fun i => tn (S 0 (15 + 3 * i + 0))) ≤ 6 * B := qS_bd (fun i hi => (cuN3 hJ hB hi).1.2.1)
  obtain ⟨tl, htl, et⟩ := kTl_N hI
  have h7 := (seN hI hJ (show 7 < 8 by omega)).1
  refine MM_of (by decide +kernel) (Nat.le_of_ble_eq_true rfl) ?_
  refine tt_iconst (nI 0) dL_areSums_0 rfl ?_
  refine tt_istore_n dL_areSums_1 rfl (Nat.le_of_ble_eq_true rfl) rfl ?_
  refine tt_iconst (nI 0) dL_areSums_2 rfl ?_
  refine tt_istore_n dL_areSums_3 rfl (Nat.le_of_ble_eq_true rfl) rfl ?_
  refine tt_iconst (nI 0) dL_areSums_4 rfl ?_
  refine tt_istore_n dL_areSums_5 rfl (Nat.le_of_ble_eq_true rfl) rfl ?_
  refine tt_iconst (nI 0) dL_areSums_6 rfl ?_
  refine tt_istore dL_areSums_7 rfl (Nat.le_of_ble_eq_true rfl) rfl ?_
  refine tt_iconst (nI 0) dL_areSums_9 rfl ?_
  refine tt_istore dL_areSums_10 rfl (Nat.le_of_ble_eq_true rfl) rfl ?_
  refine tt_iconst (nI 0) dL_areSums_12 rfl ?_
  refine tt_istore dL_areSums_13 rfl (Nat.le_of_ble_eq_true rfl) rfl ?_
  refine tt_iconst (nI 0) dL_areSums_15 rfl ?_
  refine tt_istore dL_areSums_16 rfl (Nat.le_of_ble_eq_true rfl) rfl ?_
  refine tt_iconst (nI 0) dL_areSums_18 rfl ?_
  refine tt_istore dL_areSums_19 rfl (Nat.le_of_ble_eq_true rfl) rfl ?_
  refine tt_iconst (nI 0) dL_areSums_21 rfl ?_
  refine tt_istore dL_areSums_22 rfl (Nat.le_of_ble_eq_true rfl) rfl ?_
  refine tt_iconst (nI 0) dL_areSums_24 rfl ?_
  refine tt_istore dL_areSums_25 rfl (Nat.le_of_ble_eq_true rfl) rfl ?_
  refine tt_iconst (nI 1) dL_areSums_27 rfl ?_
  refine tt_istore dL_areSums_28 rfl (Nat.le_of_ble_eq_true rfl) rfl ?_
  refine tt_iconst (nI 0) dL_areSums_30 rfl ?_
  refine tt_istore dL_areSums_31 rfl (Nat.le_of_ble_eq_true rfl) rfl ?_
  refine tt_loop (fun _ (x : Unit) => x) 6 (fun _ _ => True) (fun k _ => [some (.ref 4), some (.int (nI (qS k (fun i => tn (S 0 (15 + 3 * i + 0)))))), some (.int (nI (qS k (fun i => tn (S 0 (15 + 3 * i + 1)))))), some (.int (nI (qS k (fun i => tn (S 0 (15 + 3 * i + 2)))))), some (.int (nI (qS k (fun i => kCc (S 0) n (nI i))))), some (.int (nI 0)), some (.int (nI 0)), some (.int (nI 0)), some (.int (nI 0)), some (.int (nI 0)), some (.int (nI 0)), some (.int (nI 1)), some (.int (nI k))]) (fun _ _ => h) () trivial (fun _ _ _ _ => trivial) (fun _ => ?_) (fun k _ hk _ ih => ?_)
  · refine tt_iload dL_areSums_33 rfl ?_
    refine tt_bipush (nI 6) dL_areSums_35 rfl ?_
    refine tt_icmp_geN (tgt := 127) dL_areSums_37 (by decide) (by omega) (by omega) (fun _ => ?_) (fun q => absurd q (Nat.lt_irrefl _))
    refine tt_iconst (nI 0) dL_areSums_127 rfl ?_
    refine tt_istore dL_areSums_128 rfl (Nat.le_of_ble_eq_true rfl) rfl ?_
    refine tt_loop (fun _ (x : Unit) => x) 5 (fun _ _ => True) (fun k _ => [some (.ref 4), some (.int (nI (qS 6 (fun i => tn (S 0 (15 + 3 * i + 0)))))), some (.int (nI (qS 6 (fun i => tn (S 0 (15 + 3 * i + 1)))))), some (.int (nI (qS 6 (fun i => tn (S 0 (15 + 3 * i + 2)))))), some (.int (nI (qS 6 (fun i => kCc (S 0) n (nI i))))), some (.int (nI (qS k (fun i => kCs (S 0) n (nI i))))), some (.int (nI 0)), some (.int (nI 0)), some (.int (nI 0)), some (.int (nI 0)), some (.int (nI 0)), some (.int (nI 1)), some (.int (nI k))]) (fun _ _ => h) () trivial (fun _ _ _ _ => trivial) (fun _ => ?_) (fun k _ hk _ ih => ?_)
    · refine tt_iload dL_areSums_130 rfl ?_
      refine tt_iconst (nI 5) dL_areSums_132 rfl ?_
      refine tt_icmp_geN (tgt := 194) dL_areSums_133 (by decide) (by omega) (by omega) (fun _ => ?_) (fun q => absurd q (Nat.lt_irrefl _))
      refine tt_iconst (nI 0) dL_areSums_194 rfl ?_
      refine tt_istore dL_areSums_195 rfl (Nat.le_of_ble_eq_true rfl) rfl ?_
      refine tt_loop (fun _ (x : Unit) => x) n (fun _ _ => True) (fun k _ => [some (.ref 4), some (.int (nI (qS 6 (fun i => tn (S 0 (15 + 3 * i + 0)))))), some (.int (nI (qS 6 (fun i => tn (S 0 (15 + 3 * i + 1)))))), some (.int (nI (qS 6 (fun i => tn (S 0 (15 + 3 * i + 2)))))), some (.int (nI (qS 6 (fun i => kCc (S 0) n (nI i))))), some (.int (nI (qS 5 (fun i => kCs (S 0) n (nI i))))), some (.int (nI (qS k (fun i => if fld (S 0) i 2 = 5 then 1 else 0)))), some (.int (nI (qS k (fun i => fld (S 0) i 9)))), some (.int (nI (qS k (fun i => fld (S 0) i 7)))), some (.int (nI (qS k (fun i => fld (S 0) i 3)))), some (.int (nI (qS k (fun i => if fld (S 0) i 3 = 20 + 20 * fld (S 0) i 1 then 1 else 0)))), some (.int (nI 1)), some (.int (nI k))]) (fun _ _ => h) () trivial (fun _ _ _ _ => trivial) (fun _ => ?_) (fun k _ hk _ ih => ?_)
      · refine tt_iload dL_areSums_197 rfl ?_
        refine tt_aload_n dL_areSums_199 rfl ?_
        refine tt_bipush (nI 9) dL_areSums_200 rfl ?_
        refine tt_fVi (r_cnt hC hI.1 (by decide) (by decide) ((kNum_9 _ _).trans hI.1.2.1)) dL_areSums_202 vL_14 rfl rfl hT4 (by decide) rfl (by decide) ⟨rfl, rfl⟩ (Nat.zero_le _) (Nat.zero_le _) (Nat.le_of_ble_eq_true rfl) ?_
        refine tt_icmp_geN (tgt := 429) dL_areSums_205 (by decide) (by omega) (by omega) (fun _ => ?_) (fun q => absurd q (Nat.lt_irrefl _))
        refine tt_iload dL_areSums_429 rfl ?_
        refine tt_if_eq (tgt := 528) dL_areSums_431 (by decide) (fun q => absurd q (by decide)) (fun _ => ?_)
        refine tt_iload_n dL_areSums_434 rfl ?_
        refine tt_aload_n dL_areSums_435 rfl ?_
        refine tt_bipush (nI 11) dL_areSums_436 rfl ?_
        refine tt_fVi (r_cnt hC hI.1 (by decide) (by decide) ((kNum_11 _ _).trans (sum_w hJ hB (by omega)))) dL_areSums_438 vL_14 rfl rfl hT4 (by decide) rfl (by decide) ⟨rfl, rfl⟩ (Nat.zero_le _) (Nat.zero_le _) (Nat.le_of_ble_eq_true rfl) ?_
        refine tt_icmp_ne (tgt := 528) dL_areSums_441 (by decide) (fun q => absurd rfl q) (fun _ => ?_)
        refine tt_iload_n dL_areSums_444 rfl ?_
        refine tt_aload_n dL_areSums_445 rfl ?_
        refine tt_bipush (nI 12) dL_areSums_446 rfl ?_
        refine tt_fVi (r_cnt hC hI.1 (by decide) (by decide) ((kNum_12 _ _).trans (sum_w hJ hB (by omega)))) dL_areSums_448 vL_14 rfl rfl hT4 (by decide) rfl (by decide) ⟨rfl, rfl⟩ (Nat.zero_le _) (Nat.zero_le _) (Nat.le_of_ble_eq_true rfl) ?_
        refine tt_icmp_ne (tgt := 528) dL_areSums_451 (by decide) (fun q => absurd rfl q) (fun _ => ?_)
        refine tt_iload_n dL_areSums_454 rfl ?_
        refine tt_aload_n dL_areSums_455 rfl ?_
        refine tt_bipush (nI 14) dL_areSums_456 rfl ?_
        refine tt_fVi (r_cnt hC hI.1 (by decide) (by decide) ((kNum_14 _ _).trans (sum_w hJ hB (by omega)))) dL_areSums_458 vL_14 rfl rfl hT4 (by decide) rfl (by decide) ⟨rfl, rfl⟩ (Nat.zero_le _) (Nat.zero_le _) (Nat.le_of_ble_eq_true rfl) ?_
        refine tt_icmp_ne (tgt := 528) dL_areSums_461 (by decide) (fun q => absurd rfl q) (fun _ => ?_)
        refine tt_iload dL_areSums_464 rfl ?_
        refine tt_aload_n dL_areSums_466 rfl ?_
        refine tt_bipush (nI 9) dL_areSums_467 rfl ?_
        refine tt_fVi (r_cnt hC hI.1 (by decide) (by decide) ((kNum_9 _ _).trans hI.1.2.1)) dL_areSums_469 vL_14 rfl rfl hT4 (by decide) rfl (by decide) ⟨rfl, rfl⟩ (Nat.zero_le _) (Nat.zero_le _) (Nat.le_of_ble_eq_true rfl) ?_
        refine tt_icmp_ne (tgt := 528) dL_areSums_472 (by decide) (fun q => absurd (nIE gcu) q) (fun _ => ?_)
        refine tt_iload dL_areSums_475 rfl ?_
        refine tt_iload dL_areSums_477 rfl ?_
        refine tt_iaddN dL_areSums_479 ?_
        refine tt_iload dL_areSums_480 rfl ?_
        refine tt_icmp_ne (tgt := 528) dL_areSums_482 (by decide) (fun q => absurd (nIE (by omega)) q) (fun _ => ?_)
        refine tt_iload dL_areSums_485 rfl ?_
        refine tt_iload_n dL_areSums_487 rfl ?_
        refine tt_icmp_gtN (tgt := 528) dL_areSums_488 (by decide) (by omega) (by omega) (fun q => absurd q (by omega)) (fun _ => ?_)
        refine tt_iload dL_areSums_491 rfl ?_
        refine tt_aload_n dL_areSums_493 rfl ?_
        refine tt_bipush (nI 13) dL_areSums_494 rfl ?_
        refine tt_fVi (r_cnt hC hI.1 (by decide) (by decide) ((kNum_13 _ _).trans eb)) dL_areSums_496 vL_14 rfl rfl hT4 (by decide) rfl (by decide) ⟨rfl, rfl⟩ (Nat.zero_le _) (Nat.zero_le _) (Nat.le_of_ble_eq_true rfl) ?_
        refine tt_icmp_gtN (tgt := 528) dL_areSums_499 (by decide) (by omega) (by omega) (fun q => absurd q (by omega)) (fun _ => ?_)
        refine tt_iload dL_areSums_502 rfl ?_
        refine tt_aload_n dL_areSums_504 rfl ?_
        refine tt_bipush (nI 15) dL_areSums_505 rfl ?_
        refine tt_fVi (r_cnt hC hI.1 (by decide) (by decide) ((kNum_15 _ _).trans (sum_lo hI hJ hB))) dL_areSums_507 vL_14 rfl rfl hT4 (by decide) rfl (by decide) ⟨rfl, rfl⟩ (Nat.zero_le _) (Nat.zero_le _) (Nat.le_of_ble_eq_true rfl) ?_
        refine tt_icmp_ne (tgt := 528) dL_areSums_510 (by decide) (fun q => absurd rfl q) (fun _ => ?_)
        refine tt_iload dL_areSums_513 rfl ?_
        refine tt_aload_n dL_areSums_515 rfl ?_
        refine tt_bipush (nI 16) dL_areSums_516 rfl ?_
        refine tt_fVi (r_cnt hC hI.1 (by decide) (by decide) ((kNum_16 _ _).trans (nIE (sum_fu hI hJ hB)))) dL_areSums_518 vL_14 rfl rfl hT4 (by decide) rfl (by decide) ⟨rfl, rfl⟩ (Nat.zero_le _) (Nat.zero_le _) (Nat.le_of_ble_eq_true rfl) ?_
        refine tt_icmp_ne (tgt := 528) dL_areSums_521 (by decide) (fun q => absurd rfl q) (fun _ => ?_)
        refine tt_iconst (nI 1) dL_areSums_524 rfl ?_
        refine tt_goto (tgt := 529) dL_areSums_525 (by decide) ?_
        refine tt_istore dL_areSums_529 rfl (Nat.le_of_ble_eq_true rfl) rfl ?_
        refine tt_iload dL_areSums_531 rfl ?_
        refine tt_if_eq (tgt := 598) dL_areSums_533 (by decide) (fun q => absurd q (by decide)) (fun _ => ?_)
        refine tt_iload dL_areSums_536 rfl ?_
        refine tt_bipush (nI 10) dL_areSums_538 rfl ?_
        refine tt_icmp_gtN (tgt := 598) dL_areSums_540 (by decide) (by omega) (by omega) (fun q => absurd q (by omega)) (fun _ => ?_)
        refine tt_aload_n dL_areSums_543 rfl ?_
        refine tt_bipush (nI 10) dL_areSums_544 rfl ?_
        refine tt_fVi (r_cnt hC hI.1 (by decide) (by decide) ((kNum_10 _ _).trans et)) dL_areSums_546 vL_14 rfl rfl hT4 (by decide) rfl (by decide) ⟨rfl, rfl⟩ (Nat.zero_le _) (Nat.zero_le _) (Nat.le_of_ble_eq_true rfl) ?_
        refine tt_if_lt (tgt := 598) dL_areSums_549 (by decide) (fun q => absurd q (nI_nn (by omega))) (fun _ => ?_)
        refine tt_aload_n dL_areSums_552 rfl ?_
        refine tt_bipush (nI 10) dL_areSums_553 rfl ?_
        refine tt_fVi (r_cnt hC hI.1 (by decide) (by decide) ((kNum_10 _ _).trans et)) dL_areSums_555 vL_14 rfl rfl hT4 (by decide) rfl (by decide) ⟨rfl, rfl⟩ (Nat.zero_le _) (Nat.zero_le _) (Nat.le_of_ble_eq_true rfl) ?_
        refine tt_aload_n dL_areSums_558 rfl ?_
        refine tt_bipush (nI 7) dL_areSums_559 rfl ?_
        refine tt_fVi (r_cnt hC hI.1 (by decide) (by decide) ((kNum_s _ _ (by omega)).trans (seN hI hJ (by omega)).2)) dL_areSums_561 vL_14 rfl rfl hT4 (by decide) rfl (by decide) ⟨rfl, rfl⟩ (Nat.zero_le _) (Nat.zero_le _) (Nat.le_of_ble_eq_true rfl) ?_
        refine tt_icmp_gtN (tgt := 598) dL_areSums_564 (by decide) (by omega) (by omega) (fun q => absurd q (by omega)) (fun _ => ?_)
        by_cases h0 : n = 0
        · refine tt_aload_n dL_areSums_567 rfl ?_
          refine tt_fVi (r_de0 hC hI hJ hB h0) dL_areSums_568 vL_48 rfl rfl hT4 (by decide) rfl (by decide) ⟨rfl, rfl⟩ (Nat.zero_le _) (Nat.zero_le _) (Nat.le_of_ble_eq_true rfl) ?_
          refine tt_bipush (-6) dL_areSums_571 rfl ?_
          refine tt_icmp_ne (tgt := 580) dL_areSums_573 (by decide) (fun q => absurd rfl q) (fun _ => ?_)
          refine tt_iconst (nI 1) dL_areSums_576 rfl ?_
          refine tt_goto (tgt := 581) dL_areSums_577 (by decide) ?_
          refine tt_iload dL_areSums_581 rfl ?_
          refine tt_if_ne (tgt := 590) dL_areSums_583 (by decide) (fun q => absurd (by rw [gcu, h0]; rfl) q) (fun _ => ?_)
          refine tt_iconst (nI 1) dL_areSums_586 rfl ?_
          refine tt_goto (tgt := 591) dL_areSums_587 (by decide) ?_
          refine tt_icmp_ne (tgt := 598) dL_areSums_591 (by decide) (fun q => absurd rfl q) (fun _ => ?_)
          refine tt_iconst (nI 1) dL_areSums_594 rfl ?_
          refine tt_goto (tgt := 599) dL_areSums_595 (by decide) ?_
          exact tt_ireturn dL_areSums_599 rfl rfl (Nat.zero_le _) (Nat.zero_le _) ⟨rfl, rfl⟩
        · refine tt_aload_n dL_areSums_567 rfl ?_
          refine tt_fVi (r_de hC hI hJ hB h0) dL_areSums_568 vL_48 rfl rfl hT4 (by decide) rfl (by decide) ⟨rfl, rfl⟩ (Nat.zero_le _) (Nat.zero_le _) (Nat.le_of_ble_eq_true rfl) ?_
          refine tt_bipush (-6) dL_areSums_571 rfl ?_
          refine tt_icmp_ne (tgt := 580) dL_areSums_573 (by decide) (fun _ => ?_) (fun q => absurd q (zm6 (by have := (kDe_max hI hJ hB h0).1; omega)))
          refine tt_iconst (nI 0) dL_areSums_580 rfl ?_
          refine tt_iload dL_areSums_581 rfl ?_
          refine tt_if_ne (tgt := 590) dL_areSums_583 (by decide) (fun _ => ?_) (fun q => absurd (znz q (by omega)) (by omega))
          refine tt_iconst (nI 0) dL_areSums_590 rfl ?_
          refine tt_icmp_ne (tgt := 598) dL_areSums_591 (by decide) (fun q => absurd rfl q) (fun _ => ?_)
          refine tt_iconst (nI 1) dL_areSums_594 rfl ?_
          refine tt_goto (tgt := 599) dL_areSums_595 (by decide) ?_
          exact tt_ireturn dL_areSums_599 rfl rfl (Nat.zero_le _) (Nat.zero_le _) ⟨rfl, rfl⟩
      · obtain ⟨⟨k0, k1, k2, k3, k4, k5, k7, k8, k9⟩, -⟩ := skN hI hJ hB hk
        obtain ⟨kd1, kd2⟩ := kDe_max hI hJ hB (show n ≠ 0 by omega)
        have kd3 := kd2 k hk
        have kd4 := (skN hI hJ hB kd1).1.2.2.2.2.2.2.2.2
        refine tt_iload dL_areSums_197 rfl ?_
        refine tt_aload_n dL_areSums_199 rfl ?_
        refine tt_bipush (nI 9) dL_areSums_200 rfl ?_
        refine tt_fVi (r_cnt hC hI.1 (by decide) (by decide) ((kNum_9 _ _).trans hI.1.2.1)) dL_areSums_202 vL_14 rfl rfl hT4 (by decide) rfl (by decide) ⟨rfl, rfl⟩ (Nat.zero_le _) (Nat.zero_le _) (Nat.le_of_ble_eq_true rfl) ?_
        refine tt_icmp_geN (tgt := 429) dL_areSums_205 (by decide) (by omega) (by omega) (fun q => absurd q (by omega)) (fun _ => ?_)
        refine tt_iload dL_areSums_208 rfl ?_
        refine tt_aload_n dL_areSums_210 rfl ?_
        refine tt_iload dL_areSums_211 rfl ?_
        refine tt_iconst (nI 2) dL_areSums_213 rfl ?_
        refine tt_fVi (r_sk2 hC hI hJ hB hk) dL_areSums_214 vL_52 rfl rfl hT4 (by decide) rfl (by decide) ⟨rfl, rfl⟩ (Nat.zero_le _) (Nat.zero_le _) (Nat.le_of_ble_eq_true rfl) ?_
        refine tt_iconst (nI 5) dL_areSums_217 rfl ?_
        refine tt_c2 (tgt := 226) (x := nI (if fld (S 0) k 2 = 5 then 1 else 0)) ?_ (fun key_226 => ?_)
        · refine tt_iaddN dL_areSums_226 ?_
          refine tt_istore dL_areSums_227 rfl (Nat.le_of_ble_eq_true rfl) rfl ?_
          refine tt_iload dL_areSums_229 rfl ?_
          refine tt_aload_n dL_areSums_231 rfl ?_
          refine tt_iload dL_areSums_232 rfl ?_
          refine tt_bipush (nI 10) dL_areSums_234 rfl ?_
          refine tt_fVi (r_sk10 hC hI hJ hB hk) dL_areSums_236 vL_52 rfl rfl hT4 (by decide) rfl (by decide) ⟨rfl, rfl⟩ (Nat.zero_le _) (Nat.zero_le _) (Nat.le_of_ble_eq_true rfl) ?_
          refine tt_iaddN dL_areSums_239 ?_
          refine tt_istore dL_areSums_240 rfl (Nat.le_of_ble_eq_true rfl) rfl ?_
          refine tt_iload dL_areSums_242 rfl ?_
          refine tt_aload_n dL_areSums_244 rfl ?_
          refine tt_iload dL_areSums_245 rfl ?_
          refine tt_bipush (nI 8) dL_areSums_247 rfl ?_
          refine tt_fVi (r_sk8 hC hI hJ hB hk) dL_areSums_249 vL_52 rfl rfl hT4 (by decide) rfl (by decide) ⟨rfl, rfl⟩ (Nat.zero_le _) (Nat.zero_le _) (Nat.le_of_ble_eq_true rfl) ?_
          refine tt_iaddN dL_areSums_252 ?_
          refine tt_istore dL_areSums_253 rfl (Nat.le_of_ble_eq_true rfl) rfl ?_
          refine tt_iload dL_areSums_255 rfl ?_
          refine tt_aload_n dL_areSums_257 rfl ?_
          refine tt_iload dL_areSums_258 rfl ?_
          refine tt_iconst (nI 3) dL_areSums_260 rfl ?_
          refine tt_fVi (r_sk3 hC hI hJ hB hk) dL_areSums_261 vL_52 rfl rfl hT4 (by decide) rfl (by decide) ⟨rfl, rfl⟩ (Nat.zero_le _) (Nat.zero_le _) (Nat.le_of_ble_eq_true rfl) ?_
          refine tt_iaddN dL_areSums_264 ?_
          refine tt_istore dL_areSums_265 rfl (Nat.le_of_ble_eq_true rfl) rfl ?_
          refine tt_iload dL_areSums_267 rfl ?_
          refine tt_aload_n dL_areSums_269 rfl ?_
          refine tt_iload dL_areSums_270 rfl ?_
          refine tt_iconst (nI 3) dL_areSums_272 rfl ?_
          refine tt_fVi (r_sk3 hC hI hJ hB hk) dL_areSums_273 vL_52 rfl rfl hT4 (by decide) rfl (by decide) ⟨rfl, rfl⟩ (Nat.zero_le _) (Nat.zero_le _) (Nat.le_of_ble_eq_true rfl) ?_
          refine tt_aload_n dL_areSums_276 rfl ?_
          refine tt_iload dL_areSums_277 rfl ?_
          refine tt_iconst (nI 4) dL_areSums_279 rfl ?_
          refine tt_fVi (r_sk4 hC hI hJ hB hk) dL_areSums_280 vL_52 rfl rfl hT4 (by decide) rfl (by decide) ⟨rfl, rfl⟩ (Nat.zero_le _) (Nat.zero_le _) (Nat.le_of_ble_eq_true rfl) ?_
          refine tt_c2 (tgt := 291) (x := nI (if fld (S 0) k 3 = 20 + 20 * fld (S 0) k 1 then 1 else 0)) ?_ (fun key_291 => ?_)
          · refine tt_iaddN dL_areSums_291 ?_
            refine tt_istore dL_areSums_292 rfl (Nat.le_of_ble_eq_true rfl) rfl ?_
            refine tt_iload dL_areSums_294 rfl ?_
            refine tt_if_eq (tgt := 420) dL_areSums_296 (by decide) (fun q => absurd q (by decide)) (fun _ => ?_)
            refine tt_aload_n dL_areSums_299 rfl ?_
            refine tt_iload dL_areSums_300 rfl ?_
            refine tt_iconst (nI 3) dL_areSums_302 rfl ?_
            refine tt_fVi (r_sk3 hC hI hJ hB hk) dL_areSums_303 vL_52 rfl rfl hT4 (by decide) rfl (by decide) ⟨rfl, rfl⟩ (Nat.zero_le _) (Nat.zero_le _) (Nat.le_of_ble_eq_true rfl) ?_
            refine tt_if_lt (tgt := 420) dL_areSums_306 (by decide) (fun q => absurd q (nI_nn (by omega))) (fun _ => ?_)
            refine tt_aload_n dL_areSums_309 rfl ?_
            refine tt_iload dL_areSums_310 rfl ?_
            refine tt_iconst (nI 3) dL_areSums_312 rfl ?_
            refine tt_fVi (r_sk3 hC hI hJ hB hk) dL_areSums_313 vL_52 rfl rfl hT4 (by decide) rfl (by decide) ⟨rfl, rfl⟩ (Nat.zero_le _) (Nat.zero_le _) (Nat.le_of_ble_eq_true rfl) ?_
            refine tt_aload_n dL_areSums_316 rfl ?_
            refine tt_iload dL_areSums_317 rfl ?_
            refine tt_iconst (nI 4) dL_areSums_319 rfl ?_
            refine tt_fVi (r_sk4 hC hI hJ hB hk) dL_areSums_320 vL_52 rfl rfl hT4 (by decide) rfl (by decide) ⟨rfl, rfl⟩ (Nat.zero_le _) (Nat.zero_le _) (Nat.le_of_ble_eq_true rfl) ?_
            refine tt_icmp_gtN (tgt := 420) dL_areSums_323 (by decide) (by omega) (by omega) (fun q => absurd q (by omega)) (fun _ => ?_)
            refine tt_aload_n dL_areSums_326 rfl ?_
            refine tt_iload dL_areSums_327 rfl ?_
            refine tt_iconst (nI 4) dL_areSums_329 rfl ?_
            refine tt_fVi (r_sk4 hC hI hJ hB hk) dL_areSums_330 vL_52 rfl rfl hT4 (by decide) rfl (by decide) ⟨rfl, rfl⟩ (Nat.zero_le _) (Nat.zero_le _) (Nat.le_of_ble_eq_true rfl) ?_
            refine tt_bipush (nI 20) dL_areSums_333 rfl ?_
            refine tt_bipush (nI 20) dL_areSums_335 rfl ?_
            refine tt_aload_n dL_areSums_337 rfl ?_
            refine tt_iload dL_areSums_338 rfl ?_
            refine tt_iconst (nI 1) dL_areSums_340 rfl ?_
            refine tt_fVi (r_sk1 hC hI hJ hB hk) dL_areSums_341 vL_52 rfl rfl hT4 (by decide) rfl (by decide) ⟨rfl, rfl⟩ (Nat.zero_le _) (Nat.zero_le _) (Nat.le_of_ble_eq_true rfl) ?_
            refine tt_imulN dL_areSums_344 ?_
            refine tt_iaddN dL_areSums_345 ?_
            refine tt_icmp_ne (tgt := 420) dL_areSums_346 (by decide) (fun q => absurd rfl q) (fun _ => ?_)
            refine tt_aload_n dL_areSums_349 rfl ?_
            refine tt_iload dL_areSums_350 rfl ?_
            refine tt_bipush (nI 6) dL_areSums_352 rfl ?_
            refine tt_fVi (r_sk6 hC hI hJ hB hk) dL_areSums_354 vL_52 rfl rfl hT4 (by decide) rfl (by decide) ⟨rfl, rfl⟩ (Nat.zero_le _) (Nat.zero_le _) (Nat.le_of_ble_eq_true rfl) ?_
            refine tt_if_lt (tgt := 420) dL_areSums_357 (by decide) (fun q => absurd q (nI_nn (by omega))) (fun _ => ?_)
            refine tt_aload_n dL_areSums_360 rfl ?_
            refine tt_iload dL_areSums_361 rfl ?_
            refine tt_bipush (nI 6) dL_areSums_363 rfl ?_
            refine tt_fVi (r_sk6 hC hI hJ hB hk) dL_areSums_365 vL_52 rfl rfl hT4 (by decide) rfl (by decide) ⟨rfl, rfl⟩ (Nat.zero_le _) (Nat.zero_le _) (Nat.le_of_ble_eq_true rfl) ?_
            refine tt_bipush (nI 31) dL_areSums_368 rfl ?_
            refine tt_icmp_geN (tgt := 420) dL_areSums_370 (by decide) (by omega) (by omega) (fun q => absurd q (by omega)) (fun _ => ?_)
            refine tt_aload_n dL_areSums_373 rfl ?_
            refine tt_iload dL_areSums_374 rfl ?_
            refine tt_bipush (nI 9) dL_areSums_376 rfl ?_
            refine tt_fVi (r_sk9 hC hI hJ hB hk) dL_areSums_378 vL_52 rfl rfl hT4 (by decide) rfl (by decide) ⟨rfl, rfl⟩ (Nat.zero_le _) (Nat.zero_le _) (Nat.le_of_ble_eq_true rfl) ?_
            refine tt_if_lt (tgt := 420) dL_areSums_381 (by decide) (fun q => absurd q (nI_nn (by omega))) (fun _ => ?_)
            refine tt_aload_n dL_areSums_384 rfl ?_
            refine tt_iload dL_areSums_385 rfl ?_
            refine tt_bipush (nI 10) dL_areSums_387 rfl ?_
            refine tt_fVi (r_sk10 hC hI hJ hB hk) dL_areSums_389 vL_52 rfl rfl hT4 (by decide) rfl (by decide) ⟨rfl, rfl⟩ (Nat.zero_le _) (Nat.zero_le _) (Nat.le_of_ble_eq_true rfl) ?_
            refine tt_if_lt (tgt := 420) dL_areSums_392 (by decide) (fun q => absurd q (nI_nn (by omega))) (fun _ => ?_)
            refine tt_aload_n dL_areSums_395 rfl ?_
            refine tt_aload_n dL_areSums_396 rfl ?_
            refine tt_fVi (r_de hC hI hJ hB (show n ≠ 0 by omega)) dL_areSums_397 vL_48 rfl rfl hT4 (by decide) rfl (by decide) ⟨rfl, rfl⟩ (Nat.zero_le _) (Nat.zero_le _) (Nat.le_of_ble_eq_true rfl) ?_
            refine tt_bipush (nI 10) dL_areSums_400 rfl ?_
            refine tt_fVi (r_sk10 hC hI hJ hB kd1) dL_areSums_402 vL_52 rfl rfl hT4 (by decide) rfl (by decide) ⟨rfl, rfl⟩ (Nat.zero_le _) (Nat.zero_le _) (Nat.le_of_ble_eq_true rfl) ?_
            refine tt_aload_n dL_areSums_405 rfl ?_
            refine tt_iload dL_areSums_406 rfl ?_
            refine tt_bipush (nI 10) dL_areSums_408 rfl ?_
            refine tt_fVi (r_sk10 hC hI hJ hB hk) dL_areSums_410 vL_52 rfl rfl hT4 (by decide) rfl (by decide) ⟨rfl, rfl⟩ (Nat.zero_le _) (Nat.zero_le _) (Nat.le_of_ble_eq_true rfl) ?_
            refine tt_icmp_ltN (tgt := 420) dL_areSums_413 (by decide) (by omega) (by omega) (fun q => absurd q (by omega)) (fun _ => ?_)
            refine tt_iconst (nI 1) dL_areSums_416 rfl ?_
            refine tt_goto (tgt := 421) dL_areSums_417 (by decide) ?_
            refine tt_istore dL_areSums_421 rfl (Nat.le_of_ble_eq_true rfl) rfl ?_
            refine tt_iincN dL_areSums_423 rfl rfl (Nat.le_of_ble_eq_true rfl) rfl ?_
            refine tt_goto (tgt := 197) dL_areSums_426 (by decide) ?_
            exact ih
          · refine tt_icmp_ne (tgt := 290) dL_areSums_283 (by decide) (fun q283 => ?_) (fun q283 => ?_)
            · refine tt_iconst (nI 0) dL_areSums_290 rfl ?_
              exact key_291 _ (by first | (rw [if_neg (fun z => q283 (nIE z))]) | (rw [if_pos ((nI_eqI (by omega) (by omega)).mp q283)]))
            · refine tt_iconst (nI 1) dL_areSums_286 rfl ?_
              refine tt_goto (tgt := 291) dL_areSums_287 (by decide) ?_
              exact key_291 _ (by first | (rw [if_neg (fun z => q283 (nIE z))]) | (rw [if_pos ((nI_eqI (by omega) (by omega)).mp q283)]))
        · refine tt_icmp_ne (tgt := 225) dL_areSums_218 (by decide) (fun q218 => ?_) (fun q218 => ?_)
          · refine tt_iconst (nI 0) dL_areSums_225 rfl ?_
            exact key_226 _ (by first | (rw [if_neg (fun z => q218 (nIE z))]) | (rw [if_pos ((nI_eqI (by omega) (by omega)).mp q218)]))
          · refine tt_iconst (nI 1) dL_areSums_221 rfl ?_
            refine tt_goto (tgt := 226) dL_areSums_222 (by decide) ?_
            exact key_226 _ (by first | (rw [if_neg (fun z => q218 (nIE z))]) | (rw [if_pos ((nI_eqI (by omega) (by omega)).mp q218)]))
    · have k1 := kCn_le (S 0) n (nI k)
      have k2 := kCs_le hJ hk
      refine tt_iload dL_areSums_130 rfl ?_
      refine tt_iconst (nI 5) dL_areSums_132 rfl ?_
      refine tt_icmp_geN (tgt := 194) dL_areSums_133 (by decide) (by omega) (by omega) (fun q => absurd q (by omega)) (fun _ => ?_)
      refine tt_iload dL_areSums_136 rfl ?_
      refine tt_aload_n dL_areSums_138 rfl ?_
      refine tt_iload dL_areSums_139 rfl ?_
      refine tt_iconst (nI 1) dL_areSums_141 rfl ?_
      refine tt_fVi (r_st1 hC hI hJ hB hk) dL_areSums_142 vL_58 rfl rfl hT4 (by decide) rfl (by decide) ⟨rfl, rfl⟩ (Nat.zero_le _) (Nat.zero_le _) (Nat.le_of_ble_eq_true rfl) ?_
      refine tt_iaddN dL_areSums_145 ?_
      refine tt_istore dL_areSums_146 rfl (Nat.le_of_ble_eq_true rfl) rfl ?_
      refine tt_iload dL_areSums_148 rfl ?_
      refine tt_if_eq (tgt := 185) dL_areSums_150 (by decide) (fun q => absurd q (by decide)) (fun _ => ?_)
      refine tt_aload_n dL_areSums_153 rfl ?_
      refine tt_iload dL_areSums_154 rfl ?_
      refine tt_iconst (nI 2) dL_areSums_156 rfl ?_
      refine tt_fVi (r_st2 hC hI hJ hB hk) dL_areSums_157 vL_58 rfl rfl hT4 (by decide) rfl (by decide) ⟨rfl, rfl⟩ (Nat.zero_le _) (Nat.zero_le _) (Nat.le_of_ble_eq_true rfl) ?_
      refine tt_aload_n dL_areSums_160 rfl ?_
      refine tt_iload dL_areSums_161 rfl ?_
      refine tt_iconst (nI 1) dL_areSums_163 rfl ?_
      refine tt_fVi (r_st1 hC hI hJ hB hk) dL_areSums_164 vL_58 rfl rfl hT4 (by decide) rfl (by decide) ⟨rfl, rfl⟩ (Nat.zero_le _) (Nat.zero_le _) (Nat.le_of_ble_eq_true rfl) ?_
      refine tt_icmp_gtN (tgt := 185) dL_areSums_167 (by decide) (by omega) (by omega) (fun q => absurd q (by omega)) (fun _ => ?_)
      refine tt_aload_n dL_areSums_170 rfl ?_
      refine tt_iload dL_areSums_171 rfl ?_
      refine tt_iconst (nI 1) dL_areSums_173 rfl ?_
      refine tt_fVi (r_st1 hC hI hJ hB hk) dL_areSums_174 vL_58 rfl rfl hT4 (by decide) rfl (by decide) ⟨rfl, rfl⟩ (Nat.zero_le _) (Nat.zero_le _) (Nat.le_of_ble_eq_true rfl) ?_
      refine tt_iconst (nI 4) dL_areSums_177 rfl ?_
      refine tt_icmp_gtN (tgt := 185) dL_areSums_178 (by decide) (by omega) (by omega) (fun q => absurd q (by omega)) (fun _ => ?_)
      refine tt_iconst (nI 1) dL_areSums_181 rfl ?_
      refine tt_goto (tgt := 186) dL_areSums_182 (by decide) ?_
      refine tt_istore dL_areSums_186 rfl (Nat.le_of_ble_eq_true rfl) rfl ?_
      refine tt_iincN dL_areSums_188 rfl rfl (Nat.le_of_ble_eq_true rfl) rfl ?_
      refine tt_goto (tgt := 130) dL_areSums_191 (by decide) ?_
      exact ih
  · obtain ⟨⟨kF, kC, kT⟩, -⟩ := cuN3 hJ hB hk
    refine tt_iload dL_areSums_33 rfl ?_
    refine tt_bipush (nI 6) dL_areSums_35 rfl ?_
    refine tt_icmp_geN (tgt := 127) dL_areSums_37 (by decide) (by omega) (by omega) (fun q => absurd q (by omega)) (fun _ => ?_)
    refine tt_iload_n dL_areSums_40 rfl ?_
    refine tt_aload_n dL_areSums_41 rfl ?_
    refine tt_iload dL_areSums_42 rfl ?_
    refine tt_iconst (nI 0) dL_areSums_44 rfl ?_
    refine tt_fVi (r_cu0 hC hI hJ hB hk) dL_areSums_45 vL_55 rfl rfl hT4 (by decide) rfl (by decide) ⟨rfl, rfl⟩ (Nat.zero_le _) (Nat.zero_le _) (Nat.le_of_ble_eq_true rfl) ?_
    refine tt_iaddN dL_areSums_48 ?_
    refine tt_istore_n dL_areSums_49 rfl (Nat.le_of_ble_eq_true rfl) rfl ?_
    refine tt_iload dL_areSums_50 rfl ?_
    refine tt_aload_n dL_areSums_52 rfl ?_
    refine tt_iload dL_areSums_53 rfl ?_
    refine tt_iconst (nI 1) dL_areSums_55 rfl ?_
    refine tt_fVi (r_cu1 hC hI hJ hB hk) dL_areSums_56 vL_55 rfl rfl hT4 (by decide) rfl (by decide) ⟨rfl, rfl⟩ (Nat.zero_le _) (Nat.zero_le _) (Nat.le_of_ble_eq_true rfl) ?_
    refine tt_iaddN dL_areSums_59 ?_
    refine tt_istore dL_areSums_60 rfl (Nat.le_of_ble_eq_true rfl) rfl ?_
    refine tt_iload_n dL_areSums_62 rfl ?_
    refine tt_aload_n dL_areSums_63 rfl ?_
    refine tt_iload dL_areSums_64 rfl ?_
    refine tt_iconst (nI 2) dL_areSums_66 rfl ?_
    refine tt_fVi (r_cu2 hC hI hJ hB hk) dL_areSums_67 vL_55 rfl rfl hT4 (by decide) rfl (by decide) ⟨rfl, rfl⟩ (Nat.zero_le _) (Nat.zero_le _) (Nat.le_of_ble_eq_true rfl) ?_
    refine tt_iaddN dL_areSums_70 ?_
    refine tt_istore_n dL_areSums_71 rfl (Nat.le_of_ble_eq_true rfl) rfl ?_
    refine tt_iload_n dL_areSums_72 rfl ?_
    refine tt_aload_n dL_areSums_73 rfl ?_
    refine tt_iload dL_areSums_74 rfl ?_
    refine tt_iconst (nI 3) dL_areSums_76 rfl ?_
    refine tt_fVi (r_cu3 hC hI hJ hB hk) dL_areSums_77 vL_55 rfl rfl hT4 (by decide) rfl (by decide) ⟨rfl, rfl⟩ (Nat.zero_le _) (Nat.zero_le _) (Nat.le_of_ble_eq_true rfl) ?_
    refine tt_iaddN dL_areSums_80 ?_
    refine tt_istore_n dL_areSums_81 rfl (Nat.le_of_ble_eq_true rfl) rfl ?_
    refine tt_iload dL_areSums_82 rfl ?_
    refine tt_if_eq (tgt := 118) dL_areSums_84 (by decide) (fun q => absurd q (by decide)) (fun _ => ?_)
    refine tt_aload_n dL_areSums_87 rfl ?_
    refine tt_iload dL_areSums_88 rfl ?_
    refine tt_iconst (nI 0) dL_areSums_90 rfl ?_
    refine tt_fVi (r_cu0 hC hI hJ hB hk) dL_areSums_91 vL_55 rfl rfl hT4 (by decide) rfl (by decide) ⟨rfl, rfl⟩ (Nat.zero_le _) (Nat.zero_le _) (Nat.le_of_ble_eq_true rfl) ?_
    refine tt_aload_n dL_areSums_94 rfl ?_
    refine tt_iload dL_areSums_95 rfl ?_
    refine tt_iconst (nI 3) dL_areSums_97 rfl ?_
    refine tt_fVi (r_cu3 hC hI hJ hB hk) dL_areSums_98 vL_55 rfl rfl hT4 (by decide) rfl (by decide) ⟨rfl, rfl⟩ (Nat.zero_le _) (Nat.zero_le _) (Nat.le_of_ble_eq_true rfl) ?_
    refine tt_icmp_ltN (tgt := 118) dL_areSums_101 (by decide) (by omega) (by omega) (fun q => absurd q (by omega)) (fun _ => ?_)
    refine tt_aload_n dL_areSums_104 rfl ?_
    refine tt_iload dL_areSums_105 rfl ?_
    refine tt_iconst (nI 3) dL_areSums_107 rfl ?_
    refine tt_fVi (r_cu3 hC hI hJ hB hk) dL_areSums_108 vL_55 rfl rfl hT4 (by decide) rfl (by decide) ⟨rfl, rfl⟩ (Nat.zero_le _) (Nat.zero_le _) (Nat.le_of_ble_eq_true rfl) ?_
    refine tt_if_lt (tgt := 118) dL_areSums_111 (by decide) (fun q => absurd q (nI_nn (by omega))) (fun _ => ?_)
    refine tt_iconst (nI 1) dL_areSums_114 rfl ?_
    refine tt_goto (tgt := 119) dL_areSums_115 (by decide) ?_
    refine tt_istore dL_areSums_119 rfl (Nat.le_of_ble_eq_true rfl) rfl ?_
    refine tt_iincN dL_areSums_121 rfl rfl (Nat.le_of_ble_eq_true rfl) rfl ?_
    refine tt_goto (tgt := 33) dL_areSums_124 (by decide) ?_
    exact ih
