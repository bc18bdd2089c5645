/-! ===== the reference: what is told, on (written by wip/whole/p14.py) ===== -/
set_option maxHeartbeats 4000000 in
set_option maxRecDepth 100000 in
theorem s_X12_end {l : Launch} {G : GG} {d : Nat} {h : AH} {Q : Option AV → List Kd → AH → Prop} {p0 : Int} (hd : 1 ≤ d) 
    (q_1 : p0 < 0 → Q (some (0, 0)) K0 (hset h 116 0 0))
    (q_2 : 0 ≤ p0 → p0 ≤ (h 116 16) → Q (some (0, 1)) K0 (hset (hset h 116 0 0) 116 16 p0))
    (q_3 : 0 ≤ p0 → (h 116 16) < p0 → Q (some (0, 0)) K0 (hset h 116 0 0)) : Sp l G mX12_end d 0 0 K0 [(2, 116), (0, p0)] h Q := by
  refine sp_of (L := [(2, 116), (0, p0)]) pl_X12 (Nat.le_of_ble_eq_true rfl) (tg_c (by decide) (tg_c (by decide) tg_0)) rfl ?_
  refine v_aload_n dX12_end_0 rfl ?_
  refine v_iconst dX12_end_1 (c32 rfl) ?_
  refine v_puti (ci := 12) (j := 0) (ji := 0) dX12_end_2 k_1416 (by decide) kk_116 (by decide) rfl rfl rfl ?_
  refine v_iload_n dX12_end_5 rfl ?_
  refine v_if_lt (tgt := 17) dX12_end_6 (by decide) (fun c6_1 => ?_) (fun c6_1 => ?_)
  · refine v_iconst dX12_end_17 (c32 rfl) ?_
    refine v_iretz dX12_end_18 rfl (by decide) (Nat.le_refl _) (Nat.le_refl _) ?_
    exact q_1 c6_1
  · refine v_iload_n dX12_end_9 rfl ?_
    refine v_aload_n dX12_end_10 rfl ?_
    refine v_getv (ci := 12) (j := 16) (ji := 16) (tg := 0) dX12_end_11 k_1432 (by decide) kk_116 (by decide) rfl rfl (by decide) (hset_j (by decide)) ?_
    refine v_icmp_le (tgt := 19) dX12_end_14 (by decide) (fun c14_2 => ?_) (fun c14_2 => ?_)
    · refine v_aload_n dX12_end_19 rfl ?_
      refine v_iload_n dX12_end_20 rfl ?_
      refine v_puti (ci := 12) (j := 16) (ji := 16) dX12_end_21 k_1432 (by decide) kk_116 (by decide) rfl rfl rfl ?_
      refine v_iconst dX12_end_24 (c32 rfl) ?_
      refine v_iretz dX12_end_25 rfl (by decide) (Nat.le_refl _) (Nat.le_refl _) ?_
      exact q_2 c6_1 c14_2
    · refine v_iconst dX12_end_17 (c32 rfl) ?_
      refine v_iretz dX12_end_18 rfl (by decide) (Nat.le_refl _) (Nat.le_refl _) ?_
      exact q_3 c6_1 c14_2

set_option maxHeartbeats 4000000 in
set_option maxRecDepth 100000 in
theorem s_X12_tariff {l : Launch} {G : GG} {d : Nat} {h : AH} {Q : Option AV → List Kd → AH → Prop} {p0 p1 p2 : Int} (hd : 3 ≤ d) 
    (q_1 : p0 < 0 → Q (some (0, 0)) K0 (hset h 116 0 0))
    (q_2 : 0 ≤ p0 → 7 < p0 → Q (some (0, 0)) K0 (hset h 116 0 0))
    (q_3 : 0 ≤ p0 → p0 ≤ 7 → p1 < 0 → Q (some (0, 0)) K0 (hset h 116 0 0))
    (q_4 : 0 ≤ p0 → p0 ≤ 7 → 0 ≤ p1 → 99 < p1 → Q (some (0, 0)) K0 (hset h 116 0 0))
    (q_5 : 0 ≤ p0 → p0 ≤ 7 → 0 ≤ p1 → p1 ≤ 99 → p2 < 0 → Q (some (0, 0)) K0 (hset h 116 0 0))
    (q_6 : 0 ≤ p0 → p0 ≤ 7 → 0 ≤ p1 → p1 ≤ 99 → 0 ≤ p2 → 1000 < p2 → Q (some (0, 0)) K0 (hset h 116 0 0))
    (q_7 : 0 ≤ p0 → p0 ≤ 7 → 0 ≤ p1 → p1 ≤ 99 → 0 ≤ p2 → p2 ≤ 1000 → Q (some (0, 1)) K0 (hset (hset h 116 0 0) 125 ((100 * p0) + p1) p2)) : Sp l G mX12_tariff d 0 0 K0 [(2, 116), (0, p0), (0, p1), (0, p2)] h Q := by
  refine sp_of (L := [(2, 116), (0, p0), (0, p1), (0, p2)]) pl_X12 (Nat.le_of_ble_eq_true rfl) (tg_c (by decide) (tg_c (by decide) (tg_c (by decide) (tg_c (by decide) tg_0)))) rfl ?_
  refine v_aload_n dX12_tariff_0 rfl ?_
  refine v_iconst dX12_tariff_1 (c32 rfl) ?_
  refine v_puti (ci := 12) (j := 0) (ji := 0) dX12_tariff_2 k_1416 (by decide) kk_116 (by decide) rfl rfl rfl ?_
  refine v_iload_n dX12_tariff_5 rfl ?_
  refine v_calls (M' := mX12_isLand) (d' := d - 1) (mc' := 0) (ms' := 0) (As := [_]) dX12_tariff_6 k_1832 cm_X12_isLand (by omega) (Nat.le_of_ble_eq_true rfl) rfl ⟨Nat.le_refl _, Nat.le_refl _⟩ ?_
  refine s_X12_isLand (by omega) (fun c6_1 => ?_) (fun c6_2 c6_3 => ?_) (fun c6_4 c6_5 => ?_)
  · dsimp only [Option.toList, List.cons_append, List.nil_append, Nat.add_zero]
    refine v_if_eq_t (tgt := 31) dX12_tariff_9 (by decide) (by decide) ?_
    refine v_iconst dX12_tariff_31 (c32 rfl) ?_
    refine v_iretz dX12_tariff_32 rfl (by decide) (Nat.le_refl _) (Nat.le_refl _) ?_
    exact q_1 c6_1
  · dsimp only [Option.toList, List.cons_append, List.nil_append, Nat.add_zero]
    refine v_if_eq_t (tgt := 31) dX12_tariff_9 (by decide) (by decide) ?_
    refine v_iconst dX12_tariff_31 (c32 rfl) ?_
    refine v_iretz dX12_tariff_32 rfl (by decide) (Nat.le_refl _) (Nat.le_refl _) ?_
    exact q_2 c6_2 c6_3
  · dsimp only [Option.toList, List.cons_append, List.nil_append, Nat.add_zero]
    refine v_if_eq_f (tgt := 31) dX12_tariff_9 (by decide) (by decide) ?_
    refine v_iload_n dX12_tariff_12 rfl ?_
    refine v_calls (M' := mX12_isHeading) (d' := d - 1) (mc' := 0) (ms' := 0) (As := [_]) dX12_tariff_13 k_1836 cm_X12_isHeading (by omega) (Nat.le_of_ble_eq_true rfl) rfl ⟨Nat.le_refl _, Nat.le_refl _⟩ ?_
    refine s_X12_isHeading (by omega) (fun c13_6 => ?_) (fun c13_7 c13_8 => ?_) (fun c13_9 c13_10 => ?_)
    · dsimp only [Option.toList, List.cons_append, List.nil_append, Nat.add_zero]
      refine v_if_eq_t (tgt := 31) dX12_tariff_16 (by decide) (by decide) ?_
      refine v_iconst dX12_tariff_31 (c32 rfl) ?_
      refine v_iretz dX12_tariff_32 rfl (by decide) (Nat.le_refl _) (Nat.le_refl _) ?_
      exact q_3 c6_4 c6_5 c13_6
    · dsimp only [Option.toList, List.cons_append, List.nil_append, Nat.add_zero]
      refine v_if_eq_t (tgt := 31) dX12_tariff_16 (by decide) (by decide) ?_
      refine v_iconst dX12_tariff_31 (c32 rfl) ?_
      refine v_iretz dX12_tariff_32 rfl (by decide) (Nat.le_refl _) (Nat.le_refl _) ?_
      exact q_4 c6_4 c6_5 c13_7 c13_8
    · dsimp only [Option.toList, List.cons_append, List.nil_append, Nat.add_zero]
      refine v_if_eq_f (tgt := 31) dX12_tariff_16 (by decide) (by decide) ?_
      refine v_iload_n dX12_tariff_19 rfl ?_
      refine v_i2l dX12_tariff_20 ?_
      refine v_lconst (z := 0) dX12_tariff_21 (c64 rfl) (by decide) ?_
      refine v_ldc2 (n := 1000) dX12_tariff_22 k_1699 (c64 rfl) (by decide) ?_
      refine v_calls (M' := mX12_isIn) (d' := d - 1) (mc' := 0) (ms' := 0) (As := [_, _, _]) dX12_tariff_25 k_1700 cm_X12_isIn (by omega) (Nat.le_of_ble_eq_true rfl) rfl ⟨Nat.le_refl _, Nat.le_refl _⟩ ?_
      refine s_X12_isIn (by omega) (fun c25_11 => ?_) (fun c25_12 c25_13 => ?_) (fun c25_14 c25_15 => ?_)
      · dsimp only [Option.toList, List.cons_append, List.nil_append, Nat.add_zero]
        refine v_if_ne_f (tgt := 33) dX12_tariff_28 (by decide) (by decide) ?_
        refine v_iconst dX12_tariff_31 (c32 rfl) ?_
        refine v_iretz dX12_tariff_32 rfl (by decide) (Nat.le_refl _) (Nat.le_refl _) ?_
        exact q_5 c6_4 c6_5 c13_9 c13_10 c25_11
      · dsimp only [Option.toList, List.cons_append, List.nil_append, Nat.add_zero]
        refine v_if_ne_f (tgt := 33) dX12_tariff_28 (by decide) (by decide) ?_
        refine v_iconst dX12_tariff_31 (c32 rfl) ?_
        refine v_iretz dX12_tariff_32 rfl (by decide) (Nat.le_refl _) (Nat.le_refl _) ?_
        exact q_6 c6_4 c6_5 c13_9 c13_10 c25_12 c25_13
      · dsimp only [Option.toList, List.cons_append, List.nil_append, Nat.add_zero]
        refine v_if_ne_t (tgt := 33) dX12_tariff_28 (by decide) (by decide) ?_
        refine v_aload_n dX12_tariff_33 rfl ?_
        refine v_getr (ci := 12) (j := 10) (ji := 10) (z := 125) dX12_tariff_34 k_1426 (by decide) kk_116 (by decide) rfl rfl (fun r => rt_116_10 (r rfl)) (by decide) ?_
        refine v_bipush dX12_tariff_37 (c32 rfl) (by decide) ?_
        refine v_iload_n dX12_tariff_39 rfl ?_
        refine v_imulE dX12_tariff_40 (by omega) ?_
        refine v_iload_n dX12_tariff_41 rfl ?_
        refine v_iaddE dX12_tariff_42 (by omega) ?_
        refine v_iload_n dX12_tariff_43 rfl ?_
        refine v_iastore dX12_tariff_44 (by decide) kk_125 (by omega) (by omega) ?_
        refine v_iconst dX12_tariff_45 (c32 rfl) ?_
        refine v_iretz dX12_tariff_46 rfl (by decide) (Nat.le_refl _) (Nat.le_refl _) ?_
        exact q_7 c6_4 c6_5 c13_9 c13_10 c25_14 c25_15

set_option maxHeartbeats 4000000 in
set_option maxRecDepth 100000 in
theorem s_X12_batch {l : Launch} {G : GG} {d : Nat} {h : AH} {Q : Option AV → List Kd → AH → Prop} {p0 p1 p2 p3 p4 : Int} (hd : 1 ≤ d) (z0 : 0 ≤ (h 116 45)) (c0 : (h 116 45) < 100)
    (q_1 : Q (some (0, (((h 116 45) + 1) - 1))) K0 (hset (hset (hset (hset (hset (hset (hset (hset (hset h 129 (h 116 45) p0) 130 (h 116 45) p1) 131 (h 116 45) p2) 132 (h 116 45) p3) 133 (h 116 45) p3) 134 (h 116 45) (h 116 1)) 135 (h 116 45) p4) 136 (h 116 45) 9999) 116 45 ((h 116 45) + 1))) : Sp l G mX12_batch d 0 0 K0 [(2, 116), (0, p0), (0, p1), (0, p2), (0, p3), (0, p4)] h Q := by
  refine sp_of (L := [(2, 116), (0, p0), (0, p1), (0, p2), (0, p3), (0, p4)]) pl_X12 (Nat.le_of_ble_eq_true rfl) (tg_c (by decide) (tg_c (by decide) (tg_c (by decide) (tg_c (by decide) (tg_c (by decide) (tg_c (by decide) tg_0)))))) rfl ?_
  refine v_aload_n dX12_batch_0 rfl ?_
  refine v_getr (ci := 12) (j := 26) (ji := 26) (z := 129) dX12_batch_1 k_1442 (by decide) kk_116 (by decide) rfl rfl (fun r => rt_116_26 (r rfl)) (by decide) ?_
  refine v_aload_n dX12_batch_4 rfl ?_
  refine v_get (ci := 12) (j := 45) (ji := 45) (tg := 0) dX12_batch_5 k_1461 (by decide) kk_116 (by decide) rfl rfl (by decide) ?_
  refine v_iload_n dX12_batch_8 rfl ?_
  refine v_iastore dX12_batch_9 (by decide) kk_129 (by omega) (by omega) ?_
  refine v_aload_n dX12_batch_10 rfl ?_
  refine v_getr (ci := 12) (j := 27) (ji := 27) (z := 130) dX12_batch_11 k_1443 (by decide) kk_116 (by decide) rfl rfl (fun r => rt_116_27 (r rfl)) (by decide) ?_
  refine v_aload_n dX12_batch_14 rfl ?_
  refine v_getv (ci := 12) (j := 45) (ji := 45) (tg := 0) dX12_batch_15 k_1461 (by decide) kk_116 (by decide) rfl rfl (by decide) (hset_c (by decide)) ?_
  refine v_iload_n dX12_batch_18 rfl ?_
  refine v_iastore dX12_batch_19 (by decide) kk_130 (by omega) (by omega) ?_
  refine v_aload_n dX12_batch_20 rfl ?_
  refine v_getr (ci := 12) (j := 28) (ji := 28) (z := 131) dX12_batch_21 k_1444 (by decide) kk_116 (by decide) rfl rfl (fun r => rt_116_28 (r rfl)) (by decide) ?_
  refine v_aload_n dX12_batch_24 rfl ?_
  refine v_getv (ci := 12) (j := 45) (ji := 45) (tg := 0) dX12_batch_25 k_1461 (by decide) kk_116 (by decide) rfl rfl (by decide) ((hset_c (by decide)).trans (hset_c (by decide))) ?_
  refine v_iload_n dX12_batch_28 rfl ?_
  refine v_iastore dX12_batch_29 (by decide) kk_131 (by omega) (by omega) ?_
  refine v_aload_n dX12_batch_30 rfl ?_
  refine v_getr (ci := 12) (j := 29) (ji := 29) (z := 132) dX12_batch_31 k_1445 (by decide) kk_116 (by decide) rfl rfl (fun r => rt_116_29 (r rfl)) (by decide) ?_
  refine v_aload_n dX12_batch_34 rfl ?_
  refine v_getv (ci := 12) (j := 45) (ji := 45) (tg := 0) dX12_batch_35 k_1461 (by decide) kk_116 (by decide) rfl rfl (by decide) ((hset_c (by decide)).trans ((hset_c (by decide)).trans (hset_c (by decide)))) ?_
  refine v_iload dX12_batch_38 rfl ?_
  refine v_iastore dX12_batch_40 (by decide) kk_132 (by omega) (by omega) ?_
  refine v_aload_n dX12_batch_41 rfl ?_
  refine v_getr (ci := 12) (j := 30) (ji := 30) (z := 133) dX12_batch_42 k_1446 (by decide) kk_116 (by decide) rfl rfl (fun r => rt_116_30 (r rfl)) (by decide) ?_
  refine v_aload_n dX12_batch_45 rfl ?_
  refine v_getv (ci := 12) (j := 45) (ji := 45) (tg := 0) dX12_batch_46 k_1461 (by decide) kk_116 (by decide) rfl rfl (by decide) ((hset_c (by decide)).trans ((hset_c (by decide)).trans ((hset_c (by decide)).trans (hset_c (by decide))))) ?_
  refine v_iload dX12_batch_49 rfl ?_
  refine v_iastore dX12_batch_51 (by decide) kk_133 (by omega) (by omega) ?_
  refine v_aload_n dX12_batch_52 rfl ?_
  refine v_getr (ci := 12) (j := 31) (ji := 31) (z := 134) dX12_batch_53 k_1447 (by decide) kk_116 (by decide) rfl rfl (fun r => rt_116_31 (r rfl)) (by decide) ?_
  refine v_aload_n dX12_batch_56 rfl ?_
  refine v_getv (ci := 12) (j := 45) (ji := 45) (tg := 0) dX12_batch_57 k_1461 (by decide) kk_116 (by decide) rfl rfl (by decide) ((hset_c (by decide)).trans ((hset_c (by decide)).trans ((hset_c (by decide)).trans ((hset_c (by decide)).trans (hset_c (by decide)))))) ?_
  refine v_aload_n dX12_batch_60 rfl ?_
  refine v_getv (ci := 12) (j := 1) (ji := 1) (tg := 0) dX12_batch_61 k_1417 (by decide) kk_116 (by decide) rfl rfl (by decide) ((hset_c (by decide)).trans ((hset_c (by decide)).trans ((hset_c (by decide)).trans ((hset_c (by decide)).trans (hset_c (by decide)))))) ?_
  refine v_iastore dX12_batch_64 (by decide) kk_134 (by omega) (by omega) ?_
  refine v_aload_n dX12_batch_65 rfl ?_
  refine v_getr (ci := 12) (j := 32) (ji := 32) (z := 135) dX12_batch_66 k_1448 (by decide) kk_116 (by decide) rfl rfl (fun r => rt_116_32 (r rfl)) (by decide) ?_
  refine v_aload_n dX12_batch_69 rfl ?_
  refine v_getv (ci := 12) (j := 45) (ji := 45) (tg := 0) dX12_batch_70 k_1461 (by decide) kk_116 (by decide) rfl rfl (by decide) ((hset_c (by decide)).trans ((hset_c (by decide)).trans ((hset_c (by decide)).trans ((hset_c (by decide)).trans ((hset_c (by decide)).trans (hset_c (by decide))))))) ?_
  refine v_iload dX12_batch_73 rfl ?_
  refine v_iastore dX12_batch_75 (by decide) kk_135 (by omega) (by omega) ?_
  refine v_aload_n dX12_batch_76 rfl ?_
  refine v_getr (ci := 12) (j := 33) (ji := 33) (z := 136) dX12_batch_77 k_1449 (by decide) kk_116 (by decide) rfl rfl (fun r => rt_116_33 (r rfl)) (by decide) ?_
  refine v_aload_n dX12_batch_80 rfl ?_
  refine v_getv (ci := 12) (j := 45) (ji := 45) (tg := 0) dX12_batch_81 k_1461 (by decide) kk_116 (by decide) rfl rfl (by decide) ((hset_c (by decide)).trans ((hset_c (by decide)).trans ((hset_c (by decide)).trans ((hset_c (by decide)).trans ((hset_c (by decide)).trans ((hset_c (by decide)).trans (hset_c (by decide)))))))) ?_
  refine v_sipush dX12_batch_84 (c32 rfl) (by decide) ?_
  refine v_iastore dX12_batch_87 (by decide) kk_136 (by omega) (by omega) ?_
  refine v_aload_n dX12_batch_88 rfl ?_
  refine v_dup dX12_batch_89 rfl ?_
  refine v_getv (ci := 12) (j := 45) (ji := 45) (tg := 0) dX12_batch_90 k_1461 (by decide) kk_116 (by decide) rfl rfl (by decide) ((hset_c (by decide)).trans ((hset_c (by decide)).trans ((hset_c (by decide)).trans ((hset_c (by decide)).trans ((hset_c (by decide)).trans ((hset_c (by decide)).trans ((hset_c (by decide)).trans (hset_c (by decide))))))))) ?_
  refine v_iconst dX12_batch_93 (c32 rfl) ?_
  refine v_iaddE dX12_batch_94 (by omega) ?_
  refine v_puti (ci := 12) (j := 45) (ji := 45) dX12_batch_95 k_1461 (by decide) kk_116 (by decide) rfl rfl rfl ?_
  refine v_aload_n dX12_batch_98 rfl ?_
  refine v_getv (ci := 12) (j := 45) (ji := 45) (tg := 0) dX12_batch_99 k_1461 (by decide) kk_116 (by decide) rfl rfl (by decide) (hset_same _ _ _ _) ?_
  refine v_iconst dX12_batch_102 (c32 rfl) ?_
  refine v_isubE dX12_batch_103 (by omega) ?_
  refine v_ireti dX12_batch_104 rfl (Nat.le_refl _) (Nat.le_refl _) ?_
  exact q_1 

set_option maxHeartbeats 4000000 in
set_option maxRecDepth 100000 in
theorem s_X12_canMake {l : Launch} {G : GG} {d : Nat} {h : AH} {Q : Option AV → List Kd → AH → Prop} {p0 p1 p2 p3 : Int} (hd : 3 ≤ d) (z0 : 0 ≤ (h 116 45)) (c0 : (h 116 45) ≤ 100)
    (q_1 : 100 ≤ (h 116 45) → Q (some (0, 0)) K0 h)
    (q_2 : (h 116 45) < 100 → p0 < 0 → Q (some (0, 0)) K0 h)
    (q_3 : (h 116 45) < 100 → 0 ≤ p0 → 7 < p0 → Q (some (0, 0)) K0 h)
    (q_4 : (h 116 45) < 100 → 0 ≤ p0 → p0 ≤ 7 → p1 < 0 → Q (some (0, 0)) K0 h)
    (q_5 : (h 116 45) < 100 → 0 ≤ p0 → p0 ≤ 7 → 0 ≤ p1 → 99 < p1 → Q (some (0, 0)) K0 h)
    (q_6 : (h 116 45) < 100 → 0 ≤ p0 → p0 ≤ 7 → 0 ≤ p1 → p1 ≤ 99 → p2 < 1 → Q (some (0, 0)) K0 h)
    (q_7 : (h 116 45) < 100 → 0 ≤ p0 → p0 ≤ 7 → 0 ≤ p1 → p1 ≤ 99 → 1 ≤ p2 → 10000 < p2 → Q (some (0, 0)) K0 h)
    (q_8 : (h 116 45) < 100 → 0 ≤ p0 → p0 ≤ 7 → 0 ≤ p1 → p1 ≤ 99 → 1 ≤ p2 → p2 ≤ 10000 → p3 < 1 → Q (some (0, 0)) K0 h)
    (q_9 : (h 116 45) < 100 → 0 ≤ p0 → p0 ≤ 7 → 0 ≤ p1 → p1 ≤ 99 → 1 ≤ p2 → p2 ≤ 10000 → 1 ≤ p3 → 10000 < p3 → Q (some (0, 0)) K0 h)
    (q_10 : (h 116 45) < 100 → 0 ≤ p0 → p0 ≤ 7 → 0 ≤ p1 → p1 ≤ 99 → 1 ≤ p2 → p2 ≤ 10000 → 1 ≤ p3 → p3 ≤ 10000 → Q (some (0, 1)) K0 h) : Sp l G mX12_canMake d 0 0 K0 [(2, 116), (0, p0), (0, p1), (0, p2), (0, p3)] h Q := by
  refine sp_of (L := [(2, 116), (0, p0), (0, p1), (0, p2), (0, p3)]) pl_X12 (Nat.le_of_ble_eq_true rfl) (tg_c (by decide) (tg_c (by decide) (tg_c (by decide) (tg_c (by decide) (tg_c (by decide) tg_0))))) rfl ?_
  refine v_aload_n dX12_canMake_0 rfl ?_
  refine v_get (ci := 12) (j := 45) (ji := 45) (tg := 0) dX12_canMake_1 k_1461 (by decide) kk_116 (by decide) rfl rfl (by decide) ?_
  refine v_bipush dX12_canMake_4 (c32 rfl) (by decide) ?_
  refine v_icmp_ge (tgt := 52) dX12_canMake_6 (by decide) (fun c6_1 => ?_) (fun c6_1 => ?_)
  · refine v_iconst dX12_canMake_52 (c32 rfl) ?_
    refine v_iretz dX12_canMake_53 rfl (by decide) (Nat.le_refl _) (Nat.le_refl _) ?_
    exact q_1 c6_1
  · refine v_iload_n dX12_canMake_9 rfl ?_
    refine v_calls (M' := mX12_isLand) (d' := d - 1) (mc' := 0) (ms' := 0) (As := [_]) dX12_canMake_10 k_1832 cm_X12_isLand (by omega) (Nat.le_of_ble_eq_true rfl) rfl ⟨Nat.le_refl _, Nat.le_refl _⟩ ?_
    refine s_X12_isLand (by omega) (fun c10_2 => ?_) (fun c10_3 c10_4 => ?_) (fun c10_5 c10_6 => ?_)
    · dsimp only [Option.toList, List.cons_append, List.nil_append, Nat.add_zero]
      refine v_if_eq_t (tgt := 52) dX12_canMake_13 (by decide) (by decide) ?_
      refine v_iconst dX12_canMake_52 (c32 rfl) ?_
      refine v_iretz dX12_canMake_53 rfl (by decide) (Nat.le_refl _) (Nat.le_refl _) ?_
      exact q_2 c6_1 c10_2
    · dsimp only [Option.toList, List.cons_append, List.nil_append, Nat.add_zero]
      refine v_if_eq_t (tgt := 52) dX12_canMake_13 (by decide) (by decide) ?_
      refine v_iconst dX12_canMake_52 (c32 rfl) ?_
      refine v_iretz dX12_canMake_53 rfl (by decide) (Nat.le_refl _) (Nat.le_refl _) ?_
      exact q_3 c6_1 c10_3 c10_4
    · dsimp only [Option.toList, List.cons_append, List.nil_append, Nat.add_zero]
      refine v_if_eq_f (tgt := 52) dX12_canMake_13 (by decide) (by decide) ?_
      refine v_iload_n dX12_canMake_16 rfl ?_
      refine v_calls (M' := mX12_isHeading) (d' := d - 1) (mc' := 0) (ms' := 0) (As := [_]) dX12_canMake_17 k_1836 cm_X12_isHeading (by omega) (Nat.le_of_ble_eq_true rfl) rfl ⟨Nat.le_refl _, Nat.le_refl _⟩ ?_
      refine s_X12_isHeading (by omega) (fun c17_7 => ?_) (fun c17_8 c17_9 => ?_) (fun c17_10 c17_11 => ?_)
      · dsimp only [Option.toList, List.cons_append, List.nil_append, Nat.add_zero]
        refine v_if_eq_t (tgt := 52) dX12_canMake_20 (by decide) (by decide) ?_
        refine v_iconst dX12_canMake_52 (c32 rfl) ?_
        refine v_iretz dX12_canMake_53 rfl (by decide) (Nat.le_refl _) (Nat.le_refl _) ?_
        exact q_4 c6_1 c10_5 c10_6 c17_7
      · dsimp only [Option.toList, List.cons_append, List.nil_append, Nat.add_zero]
        refine v_if_eq_t (tgt := 52) dX12_canMake_20 (by decide) (by decide) ?_
        refine v_iconst dX12_canMake_52 (c32 rfl) ?_
        refine v_iretz dX12_canMake_53 rfl (by decide) (Nat.le_refl _) (Nat.le_refl _) ?_
        exact q_5 c6_1 c10_5 c10_6 c17_8 c17_9
      · dsimp only [Option.toList, List.cons_append, List.nil_append, Nat.add_zero]
        refine v_if_eq_f (tgt := 52) dX12_canMake_20 (by decide) (by decide) ?_
        refine v_iload_n dX12_canMake_23 rfl ?_
        refine v_i2l dX12_canMake_24 ?_
        refine v_lconst (z := 1) dX12_canMake_25 (c64 rfl) (by decide) ?_
        refine v_ldc2 (n := 10000) dX12_canMake_26 k_1848 (c64 rfl) (by decide) ?_
        refine v_calls (M' := mX12_isIn) (d' := d - 1) (mc' := 0) (ms' := 0) (As := [_, _, _]) dX12_canMake_29 k_1700 cm_X12_isIn (by omega) (Nat.le_of_ble_eq_true rfl) rfl ⟨Nat.le_refl _, Nat.le_refl _⟩ ?_
        refine s_X12_isIn (by omega) (fun c29_12 => ?_) (fun c29_13 c29_14 => ?_) (fun c29_15 c29_16 => ?_)
        · dsimp only [Option.toList, List.cons_append, List.nil_append, Nat.add_zero]
          refine v_if_eq_t (tgt := 52) dX12_canMake_32 (by decide) (by decide) ?_
          refine v_iconst dX12_canMake_52 (c32 rfl) ?_
          refine v_iretz dX12_canMake_53 rfl (by decide) (Nat.le_refl _) (Nat.le_refl _) ?_
          exact q_6 c6_1 c10_5 c10_6 c17_10 c17_11 c29_12
        · dsimp only [Option.toList, List.cons_append, List.nil_append, Nat.add_zero]
          refine v_if_eq_t (tgt := 52) dX12_canMake_32 (by decide) (by decide) ?_
          refine v_iconst dX12_canMake_52 (c32 rfl) ?_
          refine v_iretz dX12_canMake_53 rfl (by decide) (Nat.le_refl _) (Nat.le_refl _) ?_
          exact q_7 c6_1 c10_5 c10_6 c17_10 c17_11 c29_13 c29_14
        · dsimp only [Option.toList, List.cons_append, List.nil_append, Nat.add_zero]
          refine v_if_eq_f (tgt := 52) dX12_canMake_32 (by decide) (by decide) ?_
          refine v_iload dX12_canMake_35 rfl ?_
          refine v_i2l dX12_canMake_37 ?_
          refine v_lconst (z := 1) dX12_canMake_38 (c64 rfl) (by decide) ?_
          refine v_ldc2 (n := 10000) dX12_canMake_39 k_1848 (c64 rfl) (by decide) ?_
          refine v_calls (M' := mX12_isIn) (d' := d - 1) (mc' := 0) (ms' := 0) (As := [_, _, _]) dX12_canMake_42 k_1700 cm_X12_isIn (by omega) (Nat.le_of_ble_eq_true rfl) rfl ⟨Nat.le_refl _, Nat.le_refl _⟩ ?_
          refine s_X12_isIn (by omega) (fun c42_17 => ?_) (fun c42_18 c42_19 => ?_) (fun c42_20 c42_21 => ?_)
          · dsimp only [Option.toList, List.cons_append, List.nil_append, Nat.add_zero]
            refine v_if_eq_t (tgt := 52) dX12_canMake_45 (by decide) (by decide) ?_
            refine v_iconst dX12_canMake_52 (c32 rfl) ?_
            refine v_iretz dX12_canMake_53 rfl (by decide) (Nat.le_refl _) (Nat.le_refl _) ?_
            exact q_8 c6_1 c10_5 c10_6 c17_10 c17_11 c29_15 c29_16 c42_17
          · dsimp only [Option.toList, List.cons_append, List.nil_append, Nat.add_zero]
            refine v_if_eq_t (tgt := 52) dX12_canMake_45 (by decide) (by decide) ?_
            refine v_iconst dX12_canMake_52 (c32 rfl) ?_
            refine v_iretz dX12_canMake_53 rfl (by decide) (Nat.le_refl _) (Nat.le_refl _) ?_
            exact q_9 c6_1 c10_5 c10_6 c17_10 c17_11 c29_15 c29_16 c42_18 c42_19
          · dsimp only [Option.toList, List.cons_append, List.nil_append, Nat.add_zero]
            refine v_if_eq_f (tgt := 52) dX12_canMake_45 (by decide) (by decide) ?_
            refine v_iconst dX12_canMake_48 (c32 rfl) ?_
            refine v_goto (tgt := 53) dX12_canMake_49 (by decide) ?_
            refine v_iretz dX12_canMake_53 rfl (by decide) (Nat.le_refl _) (Nat.le_refl _) ?_
            exact q_10 c6_1 c10_5 c10_6 c17_10 c17_11 c29_15 c29_16 c42_20 c42_21

set_option maxHeartbeats 4000000 in
set_option maxRecDepth 100000 in
theorem s_X12_grown {l : Launch} {G : GG} {d : Nat} {h : AH} {Q : Option AV → List Kd → AH → Prop} {p0 p1 p2 p3 : Int} (hd : 4 ≤ d) (z0 : 0 ≤ (h 116 45)) (c0 : (h 116 45) ≤ 100)
    (q_1 : 100 ≤ (h 116 45) → Q (some (0, (-1))) K0 (hset h 116 0 0))
    (q_2 : (h 116 45) < 100 → p0 < 0 → Q (some (0, (-1))) K0 (hset h 116 0 0))
    (q_3 : (h 116 45) < 100 → 0 ≤ p0 → 7 < p0 → Q (some (0, (-1))) K0 (hset h 116 0 0))
    (q_4 : (h 116 45) < 100 → 0 ≤ p0 → p0 ≤ 7 → p1 < 0 → Q (some (0, (-1))) K0 (hset h 116 0 0))
    (q_5 : (h 116 45) < 100 → 0 ≤ p0 → p0 ≤ 7 → 0 ≤ p1 → 99 < p1 → Q (some (0, (-1))) K0 (hset h 116 0 0))
    (q_6 : (h 116 45) < 100 → 0 ≤ p0 → p0 ≤ 7 → 0 ≤ p1 → p1 ≤ 99 → p2 < 1 → Q (some (0, (-1))) K0 (hset h 116 0 0))
    (q_7 : (h 116 45) < 100 → 0 ≤ p0 → p0 ≤ 7 → 0 ≤ p1 → p1 ≤ 99 → 1 ≤ p2 → 10000 < p2 → Q (some (0, (-1))) K0 (hset h 116 0 0))
    (q_8 : (h 116 45) < 100 → 0 ≤ p0 → p0 ≤ 7 → 0 ≤ p1 → p1 ≤ 99 → 1 ≤ p2 → p2 ≤ 10000 → p3 < 1 → Q (some (0, (-1))) K0 (hset h 116 0 0))
    (q_9 : (h 116 45) < 100 → 0 ≤ p0 → p0 ≤ 7 → 0 ≤ p1 → p1 ≤ 99 → 1 ≤ p2 → p2 ≤ 10000 → 1 ≤ p3 → 10000 < p3 → Q (some (0, (-1))) K0 (hset h 116 0 0))
    (q_10 : (h 116 45) < 100 → 0 ≤ p0 → p0 ≤ 7 → 0 ≤ p1 → p1 ≤ 99 → 1 ≤ p2 → p2 ≤ 10000 → 1 ≤ p3 → p3 ≤ 10000 → Q (some (0, (((h 116 45) + 1) - 1))) K0 (hset (hset (hset (hset (hset (hset (hset (hset (hset (hset h 116 0 0) 129 ((hset h 116 0 0) 116 45) p0) 130 ((hset h 116 0 0) 116 45) p1) 131 ((hset h 116 0 0) 116 45) p2) 132 ((hset h 116 0 0) 116 45) p3) 133 ((hset h 116 0 0) 116 45) p3) 134 ((hset h 116 0 0) 116 45) ((hset h 116 0 0) 116 1)) 135 ((hset h 116 0 0) 116 45) (-1)) 136 ((hset h 116 0 0) 116 45) 9999) 116 45 (((hset h 116 0 0) 116 45) + 1))) : Sp l G mX12_grown d 0 0 K0 [(2, 116), (0, p0), (0, p1), (0, p2), (0, p3)] h Q := by
  refine sp_of (L := [(2, 116), (0, p0), (0, p1), (0, p2), (0, p3)]) pl_X12 (Nat.le_of_ble_eq_true rfl) (tg_c (by decide) (tg_c (by decide) (tg_c (by decide) (tg_c (by decide) (tg_c (by decide) tg_0))))) rfl ?_
  refine v_aload_n dX12_grown_0 rfl ?_
  refine v_iconst dX12_grown_1 (c32 rfl) ?_
  refine v_puti (ci := 12) (j := 0) (ji := 0) dX12_grown_2 k_1416 (by decide) kk_116 (by decide) rfl rfl rfl ?_
  refine v_aload_n dX12_grown_5 rfl ?_
  refine v_iload_n dX12_grown_6 rfl ?_
  refine v_iload_n dX12_grown_7 rfl ?_
  refine v_iload_n dX12_grown_8 rfl ?_
  refine v_iload dX12_grown_9 rfl ?_
  refine v_callv (M' := mX12_canMake) (d' := d - 1) (mc' := 0) (ms' := 0) (ci := 12) (c := 116) (As := [_, _, _, _]) dX12_grown_11 k_1844 cm_X12_canMake rfl (by omega) (by decide) kk_116 (Nat.le_of_ble_eq_true rfl) rfl ⟨Nat.le_refl _, Nat.le_refl _⟩ ?_
  refine s_X12_canMake (by omega) (by rw [show (hset h 116 0 0) 116 45 = (h 116 45) from (hset_j (by decide))]; omega) (by rw [show (hset h 116 0 0) 116 45 = (h 116 45) from (hset_j (by decide))]; omega) (fun c11_1 => ?_) (fun c11_2 c11_3 => ?_) (fun c11_4 c11_5 c11_6 => ?_) (fun c11_7 c11_8 c11_9 c11_10 => ?_) (fun c11_11 c11_12 c11_13 c11_14 c11_15 => ?_) (fun c11_16 c11_17 c11_18 c11_19 c11_20 c11_21 => ?_) (fun c11_22 c11_23 c11_24 c11_25 c11_26 c11_27 c11_28 => ?_) (fun c11_29 c11_30 c11_31 c11_32 c11_33 c11_34 c11_35 c11_36 => ?_) (fun c11_37 c11_38 c11_39 c11_40 c11_41 c11_42 c11_43 c11_44 c11_45 => ?_) (fun c11_46 c11_47 c11_48 c11_49 c11_50 c11_51 c11_52 c11_53 c11_54 => ?_)
  · dsimp only [Option.toList, List.cons_append, List.nil_append, Nat.add_zero]
    rw [show (hset h 116 0 0) 116 45 = (h 116 45) from (hset_j (by decide))] at c11_1
    refine v_if_eq_t (tgt := 30) dX12_grown_14 (by decide) (by decide) ?_
    refine v_iconst dX12_grown_30 (c32 rfl) ?_
    refine v_ireti dX12_grown_31 rfl (Nat.le_refl _) (Nat.le_refl _) ?_
    exact q_1 c11_1
  · dsimp only [Option.toList, List.cons_append, List.nil_append, Nat.add_zero]
    rw [show (hset h 116 0 0) 116 45 = (h 116 45) from (hset_j (by decide))] at c11_2
    refine v_if_eq_t (tgt := 30) dX12_grown_14 (by decide) (by decide) ?_
    refine v_iconst dX12_grown_30 (c32 rfl) ?_
    refine v_ireti dX12_grown_31 rfl (Nat.le_refl _) (Nat.le_refl _) ?_
    exact q_2 c11_2 c11_3
  · dsimp only [Option.toList, List.cons_append, List.nil_append, Nat.add_zero]
    rw [show (hset h 116 0 0) 116 45 = (h 116 45) from (hset_j (by decide))] at c11_4
    refine v_if_eq_t (tgt := 30) dX12_grown_14 (by decide) (by decide) ?_
    refine v_iconst dX12_grown_30 (c32 rfl) ?_
    refine v_ireti dX12_grown_31 rfl (Nat.le_refl _) (Nat.le_refl _) ?_
    exact q_3 c11_4 c11_5 c11_6
  · dsimp only [Option.toList, List.cons_append, List.nil_append, Nat.add_zero]
    rw [show (hset h 116 0 0) 116 45 = (h 116 45) from (hset_j (by decide))] at c11_7
    refine v_if_eq_t (tgt := 30) dX12_grown_14 (by decide) (by decide) ?_
    refine v_iconst dX12_grown_30 (c32 rfl) ?_
    refine v_ireti dX12_grown_31 rfl (Nat.le_refl _) (Nat.le_refl _) ?_
    exact q_4 c11_7 c11_8 c11_9 c11_10
  · dsimp only [Option.toList, List.cons_append, List.nil_append, Nat.add_zero]
    rw [show (hset h 116 0 0) 116 45 = (h 116 45) from (hset_j (by decide))] at c11_11
    refine v_if_eq_t (tgt := 30) dX12_grown_14 (by decide) (by decide) ?_
    refine v_iconst dX12_grown_30 (c32 rfl) ?_
    refine v_ireti dX12_grown_31 rfl (Nat.le_refl _) (Nat.le_refl _) ?_
    exact q_5 c11_11 c11_12 c11_13 c11_14 c11_15
  · dsimp only [Option.toList, List.cons_append, List.nil_append, Nat.add_zero]
    rw [show (hset h 116 0 0) 116 45 = (h 116 45) from (hset_j (by decide))] at c11_16
    refine v_if_eq_t (tgt := 30) dX12_grown_14 (by decide) (by decide) ?_
    refine v_iconst dX12_grown_30 (c32 rfl) ?_
    refine v_ireti dX12_grown_31 rfl (Nat.le_refl _) (Nat.le_refl _) ?_
    exact q_6 c11_16 c11_17 c11_18 c11_19 c11_20 c11_21
  · dsimp only [Option.toList, List.cons_append, List.nil_append, Nat.add_zero]
    rw [show (hset h 116 0 0) 116 45 = (h 116 45) from (hset_j (by decide))] at c11_22
    refine v_if_eq_t (tgt := 30) dX12_grown_14 (by decide) (by decide) ?_
    refine v_iconst dX12_grown_30 (c32 rfl) ?_
    refine v_ireti dX12_grown_31 rfl (Nat.le_refl _) (Nat.le_refl _) ?_
    exact q_7 c11_22 c11_23 c11_24 c11_25 c11_26 c11_27 c11_28
  · dsimp only [Option.toList, List.cons_append, List.nil_append, Nat.add_zero]
    rw [show (hset h 116 0 0) 116 45 = (h 116 45) from (hset_j (by decide))] at c11_29
    refine v_if_eq_t (tgt := 30) dX12_grown_14 (by decide) (by decide) ?_
    refine v_iconst dX12_grown_30 (c32 rfl) ?_
    refine v_ireti dX12_grown_31 rfl (Nat.le_refl _) (Nat.le_refl _) ?_
    exact q_8 c11_29 c11_30 c11_31 c11_32 c11_33 c11_34 c11_35 c11_36
  · dsimp only [Option.toList, List.cons_append, List.nil_append, Nat.add_zero]
    rw [show (hset h 116 0 0) 116 45 = (h 116 45) from (hset_j (by decide))] at c11_37
    refine v_if_eq_t (tgt := 30) dX12_grown_14 (by decide) (by decide) ?_
    refine v_iconst dX12_grown_30 (c32 rfl) ?_
    refine v_ireti dX12_grown_31 rfl (Nat.le_refl _) (Nat.le_refl _) ?_
    exact q_9 c11_37 c11_38 c11_39 c11_40 c11_41 c11_42 c11_43 c11_44 c11_45
  · dsimp only [Option.toList, List.cons_append, List.nil_append, Nat.add_zero]
    rw [show (hset h 116 0 0) 116 45 = (h 116 45) from (hset_j (by decide))] at c11_46
    refine v_if_eq_f (tgt := 30) dX12_grown_14 (by decide) (by decide) ?_
    refine v_aload_n dX12_grown_17 rfl ?_
    refine v_iload_n dX12_grown_18 rfl ?_
    refine v_iload_n dX12_grown_19 rfl ?_
    refine v_iload_n dX12_grown_20 rfl ?_
    refine v_iload dX12_grown_21 rfl ?_
    refine v_iconst dX12_grown_23 (c32 rfl) ?_
    refine v_callv (M' := mX12_batch) (d' := d - 1) (mc' := 0) (ms' := 0) (ci := 12) (c := 116) (As := [_, _, _, _, _]) dX12_grown_24 k_1849 cm_X12_batch rfl (by omega) (by decide) kk_116 (Nat.le_of_ble_eq_true rfl) rfl ⟨Nat.le_refl _, Nat.le_refl _⟩ ?_
    refine s_X12_batch (by omega) (by rw [show (hset h 116 0 0) 116 45 = (h 116 45) from (hset_j (by decide))]; omega) (by rw [show (hset h 116 0 0) 116 45 = (h 116 45) from (hset_j (by decide))]; omega) ?_
    dsimp only [Option.toList, List.cons_append, List.nil_append, Nat.add_zero]
    rw [show (hset h 116 0 0) 116 45 = (h 116 45) from (hset_j (by decide))]
    refine v_goto (tgt := 31) dX12_grown_27 (by decide) ?_
    refine v_ireti dX12_grown_31 rfl (Nat.le_refl _) (Nat.le_refl _) ?_
    exact q_10 c11_46 c11_47 c11_48 c11_49 c11_50 c11_51 c11_52 c11_53 c11_54

set_option maxHeartbeats 4000000 in
set_option maxRecDepth 100000 in
theorem s_X12_has {l : Launch} {G : GG} {d : Nat} {h : AH} {Q : Option AV → List Kd → AH → Prop} {p0 p1 : Int} (hd : 2 ≤ d) (z0 : 0 ≤ (h 116 45)) (c0 : (h 116 45) ≤ 100)
    (q_1 : p0 < 0 → Q (some (0, 0)) K0 h)
    (q_2 : 0 ≤ p0 → (h 116 45) ≤ p0 → Q (some (0, 0)) K0 h)
    (q_3 : 0 ≤ p0 → p0 < (h 116 45) → p1 < 1 → Q (some (0, 0)) K0 h)
    (q_4 : 0 ≤ p0 → p0 < (h 116 45) → 1 ≤ p1 → (h 133 p0) < p1 → Q (some (0, 0)) K0 h)
    (q_5 : 0 ≤ p0 → p0 < (h 116 45) → 1 ≤ p1 → p1 ≤ (h 133 p0) → Q (some (0, 1)) K0 h) : Sp l G mX12_has d 0 0 K0 [(2, 116), (0, p0), (0, p1)] h Q := by
  refine sp_of (L := [(2, 116), (0, p0), (0, p1)]) pl_X12 (Nat.le_of_ble_eq_true rfl) (tg_c (by decide) (tg_c (by decide) (tg_c (by decide) tg_0))) rfl ?_
  refine v_aload_n dX12_has_0 rfl ?_
  refine v_iload_n dX12_has_1 rfl ?_
  refine v_callv (M' := mX12_isBatch) (d' := d - 1) (mc' := 0) (ms' := 0) (ci := 12) (c := 116) (As := [_]) dX12_has_2 k_1861 cm_X12_isBatch rfl (by omega) (by decide) kk_116 (Nat.le_of_ble_eq_true rfl) rfl ⟨Nat.le_refl _, Nat.le_refl _⟩ ?_
  refine s_X12_isBatch (by omega) (fun c2_1 => ?_) (fun c2_2 c2_3 => ?_) (fun c2_4 c2_5 => ?_)
  · dsimp only [Option.toList, List.cons_append, List.nil_append, Nat.add_zero]
    refine v_if_eq_t (tgt := 27) dX12_has_5 (by decide) (by decide) ?_
    refine v_iconst dX12_has_27 (c32 rfl) ?_
    refine v_iretz dX12_has_28 rfl (by decide) (Nat.le_refl _) (Nat.le_refl _) ?_
    exact q_1 c2_1
  · dsimp only [Option.toList, List.cons_append, List.nil_append, Nat.add_zero]
    refine v_if_eq_t (tgt := 27) dX12_has_5 (by decide) (by decide) ?_
    refine v_iconst dX12_has_27 (c32 rfl) ?_
    refine v_iretz dX12_has_28 rfl (by decide) (Nat.le_refl _) (Nat.le_refl _) ?_
    exact q_2 c2_2 c2_3
  · dsimp only [Option.toList, List.cons_append, List.nil_append, Nat.add_zero]
    refine v_if_eq_f (tgt := 27) dX12_has_5 (by decide) (by decide) ?_
    refine v_iload_n dX12_has_8 rfl ?_
    refine v_iconst dX12_has_9 (c32 rfl) ?_
    refine v_icmp_lt (tgt := 27) dX12_has_10 (by decide) (fun c10_6 => ?_) (fun c10_6 => ?_)
    · refine v_iconst dX12_has_27 (c32 rfl) ?_
      refine v_iretz dX12_has_28 rfl (by decide) (Nat.le_refl _) (Nat.le_refl _) ?_
      exact q_3 c2_4 c2_5 c10_6
    · refine v_iload_n dX12_has_13 rfl ?_
      refine v_aload_n dX12_has_14 rfl ?_
      refine v_getr (ci := 12) (j := 30) (ji := 30) (z := 133) dX12_has_15 k_1446 (by decide) kk_116 (by decide) rfl rfl (fun r => rt_116_30 (r rfl)) (by decide) ?_
      refine v_iload_n dX12_has_18 rfl ?_
      refine v_iaload dX12_has_19 (by decide) kk_133 (by omega) (by omega) ?_
      refine v_icmp_gt (tgt := 27) dX12_has_20 (by decide) (fun c20_7 => ?_) (fun c20_7 => ?_)
      · refine v_iconst dX12_has_27 (c32 rfl) ?_
        refine v_iretz dX12_has_28 rfl (by decide) (Nat.le_refl _) (Nat.le_refl _) ?_
        exact q_4 c2_4 c2_5 c10_6 c20_7
      · refine v_iconst dX12_has_23 (c32 rfl) ?_
        refine v_goto (tgt := 28) dX12_has_24 (by decide) ?_
        refine v_iretz dX12_has_28 rfl (by decide) (Nat.le_refl _) (Nat.le_refl _) ?_
        exact q_5 c2_4 c2_5 c10_6 c20_7

set_option maxHeartbeats 4000000 in
set_option maxRecDepth 100000 in
theorem s_X12_puts {l : Launch} {G : GG} {d : Nat} {h : AH} {Q : Option AV → List Kd → AH → Prop} {p0 p1 : Int} (hd : 1 ≤ d) (z0 : 0 ≤ (h 116 46)) (c0 : (h 116 46) < 6)
    (q_1 : Q none K0 (hset (hset (hset h 140 (h 116 46) p0) 141 (h 116 46) p1) 116 46 ((h 116 46) + 1))) : Sp l G mX12_puts d 0 0 K0 [(2, 116), (0, p0), (0, p1)] h Q := by
  refine sp_of (L := [(2, 116), (0, p0), (0, p1)]) pl_X12 (Nat.le_of_ble_eq_true rfl) (tg_c (by decide) (tg_c (by decide) (tg_c (by decide) tg_0))) rfl ?_
  refine v_aload_n dX12_puts_0 rfl ?_
  refine v_getr (ci := 12) (j := 37) (ji := 37) (z := 140) dX12_puts_1 k_1453 (by decide) kk_116 (by decide) rfl rfl (fun r => rt_116_37 (r rfl)) (by decide) ?_
  refine v_aload_n dX12_puts_4 rfl ?_
  refine v_get (ci := 12) (j := 46) (ji := 46) (tg := 0) dX12_puts_5 k_1462 (by decide) kk_116 (by decide) rfl rfl (by decide) ?_
  refine v_iload_n dX12_puts_8 rfl ?_
  refine v_iastore dX12_puts_9 (by decide) kk_140 (by omega) (by omega) ?_
  refine v_aload_n dX12_puts_10 rfl ?_
  refine v_getr (ci := 12) (j := 38) (ji := 38) (z := 141) dX12_puts_11 k_1454 (by decide) kk_116 (by decide) rfl rfl (fun r => rt_116_38 (r rfl)) (by decide) ?_
  refine v_aload_n dX12_puts_14 rfl ?_
  refine v_getv (ci := 12) (j := 46) (ji := 46) (tg := 0) dX12_puts_15 k_1462 (by decide) kk_116 (by decide) rfl rfl (by decide) (hset_c (by decide)) ?_
  refine v_iload_n dX12_puts_18 rfl ?_
  refine v_iastore dX12_puts_19 (by decide) kk_141 (by omega) (by omega) ?_
  refine v_aload_n dX12_puts_20 rfl ?_
  refine v_dup dX12_puts_21 rfl ?_
  refine v_getv (ci := 12) (j := 46) (ji := 46) (tg := 0) dX12_puts_22 k_1462 (by decide) kk_116 (by decide) rfl rfl (by decide) ((hset_c (by decide)).trans (hset_c (by decide))) ?_
  refine v_iconst dX12_puts_25 (c32 rfl) ?_
  refine v_iaddE dX12_puts_26 (by omega) ?_
  refine v_puti (ci := 12) (j := 46) (ji := 46) dX12_puts_27 k_1462 (by decide) kk_116 (by decide) rfl rfl rfl ?_
  refine v_vret dX12_puts_30 rfl (Nat.le_refl _) (Nat.le_refl _) ?_
  exact q_1 

set_option maxHeartbeats 4000000 in
set_option maxRecDepth 100000 in
theorem s_X12_lay {l : Launch} {G : GG} {d : Nat} {h : AH} {Q : Option AV → List Kd → AH → Prop} {p0 p1 : Int} (hd : 3 ≤ d) (z0 : 0 ≤ (h 116 45)) (c0 : (h 116 45) ≤ 100) (z1 : 0 ≤ (h 116 46)) (c1 : (h 116 46) ≤ 6)
    (q_1 : (h 116 46) = 6 → Q (some (0, (-1))) K0 (hset h 116 0 0))
    (q_2 : (h 116 46) ≠ 6 → p0 < 0 → Q (some (0, (-1))) K0 (hset h 116 0 0))
    (q_3 : (h 116 46) ≠ 6 → 0 ≤ p0 → (h 116 45) ≤ p0 → Q (some (0, (-1))) K0 (hset h 116 0 0))
    (q_4 : (h 116 46) ≠ 6 → 0 ≤ p0 → p0 < (h 116 45) → p1 < 1 → Q (some (0, (-1))) K0 (hset h 116 0 0))
    (q_5 : (h 116 46) ≠ 6 → 0 ≤ p0 → p0 < (h 116 45) → 1 ≤ p1 → (h 133 p0) < p1 → Q (some (0, (-1))) K0 (hset h 116 0 0))
    (q_6 : (h 116 46) ≠ 6 → 0 ≤ p0 → p0 < (h 116 45) → 1 ≤ p1 → p1 ≤ (h 133 p0) → Q (some (0, (((hset (hset h 116 0 0) 133 p0 (isub (h 133 p0) p1)) 116 46) + 1))) K0 (hset (hset (hset (hset (hset h 116 0 0) 133 p0 (isub (h 133 p0) p1)) 140 ((hset (hset h 116 0 0) 133 p0 (isub (h 133 p0) p1)) 116 46) p0) 141 ((hset (hset h 116 0 0) 133 p0 (isub (h 133 p0) p1)) 116 46) p1) 116 46 (((hset (hset h 116 0 0) 133 p0 (isub (h 133 p0) p1)) 116 46) + 1))) : Sp l G mX12_lay d 0 0 K0 [(2, 116), (0, p0), (0, p1)] h Q := by
  refine sp_of (L := [(2, 116), (0, p0), (0, p1)]) pl_X12 (Nat.le_of_ble_eq_true rfl) (tg_c (by decide) (tg_c (by decide) (tg_c (by decide) tg_0))) rfl ?_
  refine v_aload_n dX12_lay_0 rfl ?_
  refine v_iconst dX12_lay_1 (c32 rfl) ?_
  refine v_puti (ci := 12) (j := 0) (ji := 0) dX12_lay_2 k_1416 (by decide) kk_116 (by decide) rfl rfl rfl ?_
  refine v_aload_n dX12_lay_5 rfl ?_
  refine v_getv (ci := 12) (j := 46) (ji := 46) (tg := 0) dX12_lay_6 k_1462 (by decide) kk_116 (by decide) rfl rfl (by decide) (hset_j (by decide)) ?_
  refine v_bipush dX12_lay_9 (c32 rfl) (by decide) ?_
  refine v_icmp_eq (tgt := 23) dX12_lay_11 (by decide) (fun c11_1 => ?_) (fun c11_1 => ?_)
  · refine v_iconst dX12_lay_23 (c32 rfl) ?_
    refine v_ireti dX12_lay_24 rfl (Nat.le_refl _) (Nat.le_refl _) ?_
    exact q_1 c11_1
  · refine v_aload_n dX12_lay_14 rfl ?_
    refine v_iload_n dX12_lay_15 rfl ?_
    refine v_iload_n dX12_lay_16 rfl ?_
    refine v_callv (M' := mX12_has) (d' := d - 1) (mc' := 0) (ms' := 0) (ci := 12) (c := 116) (As := [_, _]) dX12_lay_17 k_1857 cm_X12_has rfl (by omega) (by decide) kk_116 (Nat.le_of_ble_eq_true rfl) rfl ⟨Nat.le_refl _, Nat.le_refl _⟩ ?_
    refine s_X12_has (by omega) (by rw [show (hset h 116 0 0) 116 45 = (h 116 45) from (hset_j (by decide))]; omega) (by rw [show (hset h 116 0 0) 116 45 = (h 116 45) from (hset_j (by decide))]; omega) (fun c17_2 => ?_) (fun c17_3 c17_4 => ?_) (fun c17_5 c17_6 c17_7 => ?_) (fun c17_8 c17_9 c17_10 c17_11 => ?_) (fun c17_12 c17_13 c17_14 c17_15 => ?_)
    · dsimp only [Option.toList, List.cons_append, List.nil_append, Nat.add_zero]
      refine v_if_ne_f (tgt := 25) dX12_lay_20 (by decide) (by decide) ?_
      refine v_iconst dX12_lay_23 (c32 rfl) ?_
      refine v_ireti dX12_lay_24 rfl (Nat.le_refl _) (Nat.le_refl _) ?_
      exact q_2 c11_1 c17_2
    · dsimp only [Option.toList, List.cons_append, List.nil_append, Nat.add_zero]
      rw [show (hset h 116 0 0) 116 45 = (h 116 45) from (hset_j (by decide))] at c17_4
      refine v_if_ne_f (tgt := 25) dX12_lay_20 (by decide) (by decide) ?_
      refine v_iconst dX12_lay_23 (c32 rfl) ?_
      refine v_ireti dX12_lay_24 rfl (Nat.le_refl _) (Nat.le_refl _) ?_
      exact q_3 c11_1 c17_3 c17_4
    · dsimp only [Option.toList, List.cons_append, List.nil_append, Nat.add_zero]
      rw [show (hset h 116 0 0) 116 45 = (h 116 45) from (hset_j (by decide))] at c17_6
      refine v_if_ne_f (tgt := 25) dX12_lay_20 (by decide) (by decide) ?_
      refine v_iconst dX12_lay_23 (c32 rfl) ?_
      refine v_ireti dX12_lay_24 rfl (Nat.le_refl _) (Nat.le_refl _) ?_
      exact q_4 c11_1 c17_5 c17_6 c17_7
    · dsimp only [Option.toList, List.cons_append, List.nil_append, Nat.add_zero]
      rw [show (hset h 116 0 0) 116 45 = (h 116 45) from (hset_j (by decide))] at c17_9
      rw [show (hset h 116 0 0) 133 p0 = (h 133 p0) from (hset_c (by decide))] at c17_11
      refine v_if_ne_f (tgt := 25) dX12_lay_20 (by decide) (by decide) ?_
      refine v_iconst dX12_lay_23 (c32 rfl) ?_
      refine v_ireti dX12_lay_24 rfl (Nat.le_refl _) (Nat.le_refl _) ?_
      exact q_5 c11_1 c17_8 c17_9 c17_10 c17_11
    · dsimp only [Option.toList, List.cons_append, List.nil_append, Nat.add_zero]
      rw [show (hset h 116 0 0) 116 45 = (h 116 45) from (hset_j (by decide))] at c17_13
      rw [show (hset h 116 0 0) 133 p0 = (h 133 p0) from (hset_c (by decide))] at c17_15
      refine v_if_ne_t (tgt := 25) dX12_lay_20 (by decide) (by decide) ?_
      refine v_aload_n dX12_lay_25 rfl ?_
      refine v_getr (ci := 12) (j := 30) (ji := 30) (z := 133) dX12_lay_26 k_1446 (by decide) kk_116 (by decide) rfl rfl (fun r => rt_116_30 (r rfl)) (by decide) ?_
      refine v_iload_n dX12_lay_29 rfl ?_
      refine v_dup2 dX12_lay_30 rfl rfl ?_
      refine v_ialoadv dX12_lay_31 (by decide) kk_133 (by omega) (by omega) (hset_c (by decide)) ?_
      refine v_iload_n dX12_lay_32 rfl ?_
      refine v_isub dX12_lay_33 ?_
      refine v_iastore dX12_lay_34 (by decide) kk_133 (by omega) (by omega) ?_
      refine v_aload_n dX12_lay_35 rfl ?_
      refine v_iload_n dX12_lay_36 rfl ?_
      refine v_iload_n dX12_lay_37 rfl ?_
      refine v_callv (M' := mX12_puts) (d' := d - 1) (mc' := 0) (ms' := 0) (ci := 12) (c := 116) (As := [_, _]) dX12_lay_38 k_1865 cm_X12_puts rfl (by omega) (by decide) kk_116 (Nat.le_of_ble_eq_true rfl) rfl ⟨Nat.le_refl _, Nat.le_refl _⟩ ?_
      refine s_X12_puts (by omega) (by rw [show (hset (hset h 116 0 0) 133 p0 (isub (h 133 p0) p1)) 116 46 = (h 116 46) from ((hset_c (by decide)).trans (hset_j (by decide)))]; omega) (by rw [show (hset (hset h 116 0 0) 133 p0 (isub (h 133 p0) p1)) 116 46 = (h 116 46) from ((hset_c (by decide)).trans (hset_j (by decide)))]; omega) ?_
      dsimp only [Option.toList, List.cons_append, List.nil_append, Nat.add_zero]
      refine v_aload_n dX12_lay_41 rfl ?_
      refine v_getv (ci := 12) (j := 46) (ji := 46) (tg := 0) dX12_lay_42 k_1462 (by decide) kk_116 (by decide) rfl rfl (by decide) (hset_same _ _ _ _) ?_
      refine v_ireti dX12_lay_45 rfl (Nat.le_refl _) (Nat.le_refl _) ?_
      exact q_6 c11_1 c17_12 c17_13 c17_14 c17_15

set_option maxHeartbeats 4000000 in
set_option maxRecDepth 100000 in
theorem s_X12_pour {l : Launch} {G : GG} {d : Nat} {h : AH} {Q : Option AV → List Kd → AH → Prop} {p0 p1 p2 : Int} (hd : 3 ≤ d) (z0 : 0 ≤ (h 116 45)) (c0 : (h 116 45) ≤ 100) (z1 : 0 ≤ (h 116 47)) (c1 : (h 116 47) ≤ 100)
    (q_1 : (h 116 47) = 100 → Q (some (0, (-1))) K0 (hset h 116 0 0))
    (q_2 : (h 116 47) ≠ 100 → p0 < 0 → Q (some (0, (-1))) K0 (hset h 116 0 0))
    (q_3 : (h 116 47) ≠ 100 → 0 ≤ p0 → 5 < p0 → Q (some (0, (-1))) K0 (hset h 116 0 0))
    (q_4 : (h 116 47) ≠ 100 → 0 ≤ p0 → p0 ≤ 5 → p1 < 0 → Q (some (0, (-1))) K0 (hset h 116 0 0))
    (q_5 : (h 116 47) ≠ 100 → 0 ≤ p0 → p0 ≤ 5 → 0 ≤ p1 → (h 116 45) ≤ p1 → Q (some (0, (-1))) K0 (hset h 116 0 0))
    (q_6 : (h 116 47) ≠ 100 → 0 ≤ p0 → p0 ≤ 5 → 0 ≤ p1 → p1 < (h 116 45) → p2 < 1 → Q (some (0, (-1))) K0 (hset h 116 0 0))
    (q_7 : (h 116 47) ≠ 100 → 0 ≤ p0 → p0 ≤ 5 → 0 ≤ p1 → p1 < (h 116 45) → 1 ≤ p2 → (h 133 p1) < p2 → Q (some (0, (-1))) K0 (hset h 116 0 0))
    (q_8 : (h 116 47) ≠ 100 → 0 ≤ p0 → p0 ≤ 5 → 0 ≤ p1 → p1 < (h 116 45) → 1 ≤ p2 → p2 ≤ (h 133 p1) → Q (some (0, (lyF ((hset (hset (hset h 116 0 0) 133 p1 (isub (h 133 p1) p2)) 143 (h 116 47) p0) 143) ((hset (hset (hset (hset (hset h 116 0 0) 133 p1 (isub (h 133 p1) p2)) 143 (h 116 47) p0) 144 (h 116 47) p1) 142 (h 116 47) p2) 142) p0 ((h 116 47) + 1)))) K0 (hset (hset (hset (hset (hset (hset h 116 0 0) 133 p1 (isub (h 133 p1) p2)) 143 (h 116 47) p0) 144 (h 116 47) p1) 142 (h 116 47) p2) 116 47 ((h 116 47) + 1))) : Sp l G mX12_pour d 0 0 K0 [(2, 116), (0, p0), (0, p1), (0, p2)] h Q := by
  refine sp_of (L := [(2, 116), (0, p0), (0, p1), (0, p2)]) pl_X12 (Nat.le_of_ble_eq_true rfl) (tg_c (by decide) (tg_c (by decide) (tg_c (by decide) (tg_c (by decide) tg_0)))) rfl ?_
  refine v_aload_n dX12_pour_0 rfl ?_
  refine v_iconst dX12_pour_1 (c32 rfl) ?_
  refine v_puti (ci := 12) (j := 0) (ji := 0) dX12_pour_2 k_1416 (by decide) kk_116 (by decide) rfl rfl rfl ?_
  refine v_aload_n dX12_pour_5 rfl ?_
  refine v_getv (ci := 12) (j := 47) (ji := 47) (tg := 0) dX12_pour_6 k_1463 (by decide) kk_116 (by decide) rfl rfl (by decide) (hset_j (by decide)) ?_
  refine v_bipush dX12_pour_9 (c32 rfl) (by decide) ?_
  refine v_icmp_eq (tgt := 35) dX12_pour_11 (by decide) (fun c11_1 => ?_) (fun c11_1 => ?_)
  · refine v_iconst dX12_pour_35 (c32 rfl) ?_
    refine v_ireti dX12_pour_36 rfl (Nat.le_refl _) (Nat.le_refl _) ?_
    exact q_1 c11_1
  · refine v_iload_n dX12_pour_14 rfl ?_
    refine v_i2l dX12_pour_15 ?_
    refine v_lconst (z := 0) dX12_pour_16 (c64 rfl) (by decide) ?_
    refine v_ldc2 (n := 5) dX12_pour_17 k_1873 (c64 rfl) (by decide) ?_
    refine v_calls (M' := mX12_isIn) (d' := d - 1) (mc' := 0) (ms' := 0) (As := [_, _, _]) dX12_pour_20 k_1700 cm_X12_isIn (by omega) (Nat.le_of_ble_eq_true rfl) rfl ⟨Nat.le_refl _, Nat.le_refl _⟩ ?_
    refine s_X12_isIn (by omega) (fun c20_2 => ?_) (fun c20_3 c20_4 => ?_) (fun c20_5 c20_6 => ?_)
    · dsimp only [Option.toList, List.cons_append, List.nil_append, Nat.add_zero]
      refine v_if_eq_t (tgt := 35) dX12_pour_23 (by decide) (by decide) ?_
      refine v_iconst dX12_pour_35 (c32 rfl) ?_
      refine v_ireti dX12_pour_36 rfl (Nat.le_refl _) (Nat.le_refl _) ?_
      exact q_2 c11_1 c20_2
    · dsimp only [Option.toList, List.cons_append, List.nil_append, Nat.add_zero]
      refine v_if_eq_t (tgt := 35) dX12_pour_23 (by decide) (by decide) ?_
      refine v_iconst dX12_pour_35 (c32 rfl) ?_
      refine v_ireti dX12_pour_36 rfl (Nat.le_refl _) (Nat.le_refl _) ?_
      exact q_3 c11_1 c20_3 c20_4
    · dsimp only [Option.toList, List.cons_append, List.nil_append, Nat.add_zero]
      refine v_if_eq_f (tgt := 35) dX12_pour_23 (by decide) (by decide) ?_
      refine v_aload_n dX12_pour_26 rfl ?_
      refine v_iload_n dX12_pour_27 rfl ?_
      refine v_iload_n dX12_pour_28 rfl ?_
      refine v_callv (M' := mX12_has) (d' := d - 1) (mc' := 0) (ms' := 0) (ci := 12) (c := 116) (As := [_, _]) dX12_pour_29 k_1857 cm_X12_has rfl (by omega) (by decide) kk_116 (Nat.le_of_ble_eq_true rfl) rfl ⟨Nat.le_refl _, Nat.le_refl _⟩ ?_
      refine s_X12_has (by omega) (by rw [show (hset h 116 0 0) 116 45 = (h 116 45) from (hset_j (by decide))]; omega) (by rw [show (hset h 116 0 0) 116 45 = (h 116 45) from (hset_j (by decide))]; omega) (fun c29_7 => ?_) (fun c29_8 c29_9 => ?_) (fun c29_10 c29_11 c29_12 => ?_) (fun c29_13 c29_14 c29_15 c29_16 => ?_) (fun c29_17 c29_18 c29_19 c29_20 => ?_)
      · dsimp only [Option.toList, List.cons_append, List.nil_append, Nat.add_zero]
        refine v_if_ne_f (tgt := 37) dX12_pour_32 (by decide) (by decide) ?_
        refine v_iconst dX12_pour_35 (c32 rfl) ?_
        refine v_ireti dX12_pour_36 rfl (Nat.le_refl _) (Nat.le_refl _) ?_
        exact q_4 c11_1 c20_5 c20_6 c29_7
      · dsimp only [Option.toList, List.cons_append, List.nil_append, Nat.add_zero]
        rw [show (hset h 116 0 0) 116 45 = (h 116 45) from (hset_j (by decide))] at c29_9
        refine v_if_ne_f (tgt := 37) dX12_pour_32 (by decide) (by decide) ?_
        refine v_iconst dX12_pour_35 (c32 rfl) ?_
        refine v_ireti dX12_pour_36 rfl (Nat.le_refl _) (Nat.le_refl _) ?_
        exact q_5 c11_1 c20_5 c20_6 c29_8 c29_9
      · dsimp only [Option.toList, List.cons_append, List.nil_append, Nat.add_zero]
        rw [show (hset h 116 0 0) 116 45 = (h 116 45) from (hset_j (by decide))] at c29_11
        refine v_if_ne_f (tgt := 37) dX12_pour_32 (by decide) (by decide) ?_
        refine v_iconst dX12_pour_35 (c32 rfl) ?_
        refine v_ireti dX12_pour_36 rfl (Nat.le_refl _) (Nat.le_refl _) ?_
        exact q_6 c11_1 c20_5 c20_6 c29_10 c29_11 c29_12
      · dsimp only [Option.toList, List.cons_append, List.nil_append, Nat.add_zero]
        rw [show (hset h 116 0 0) 116 45 = (h 116 45) from (hset_j (by decide))] at c29_14
        rw [show (hset h 116 0 0) 133 p1 = (h 133 p1) from (hset_c (by decide))] at c29_16
        refine v_if_ne_f (tgt := 37) dX12_pour_32 (by decide) (by decide) ?_
        refine v_iconst dX12_pour_35 (c32 rfl) ?_
        refine v_ireti dX12_pour_36 rfl (Nat.le_refl _) (Nat.le_refl _) ?_
        exact q_7 c11_1 c20_5 c20_6 c29_13 c29_14 c29_15 c29_16
      · dsimp only [Option.toList, List.cons_append, List.nil_append, Nat.add_zero]
        rw [show (hset h 116 0 0) 116 45 = (h 116 45) from (hset_j (by decide))] at c29_18
        rw [show (hset h 116 0 0) 133 p1 = (h 133 p1) from (hset_c (by decide))] at c29_20
        refine v_if_ne_t (tgt := 37) dX12_pour_32 (by decide) (by decide) ?_
        refine v_aload_n dX12_pour_37 rfl ?_
        refine v_getr (ci := 12) (j := 30) (ji := 30) (z := 133) dX12_pour_38 k_1446 (by decide) kk_116 (by decide) rfl rfl (fun r => rt_116_30 (r rfl)) (by decide) ?_
        refine v_iload_n dX12_pour_41 rfl ?_
        refine v_dup2 dX12_pour_42 rfl rfl ?_
        refine v_ialoadv dX12_pour_43 (by decide) kk_133 (by omega) (by omega) (hset_c (by decide)) ?_
        refine v_iload_n dX12_pour_44 rfl ?_
        refine v_isub dX12_pour_45 ?_
        refine v_iastore dX12_pour_46 (by decide) kk_133 (by omega) (by omega) ?_
        refine v_aload_n dX12_pour_47 rfl ?_
        refine v_getr (ci := 12) (j := 40) (ji := 40) (z := 143) dX12_pour_48 k_1456 (by decide) kk_116 (by decide) rfl rfl (fun r => rt_116_40 (r rfl)) (by decide) ?_
        refine v_aload_n dX12_pour_51 rfl ?_
        refine v_getv (ci := 12) (j := 47) (ji := 47) (tg := 0) dX12_pour_52 k_1463 (by decide) kk_116 (by decide) rfl rfl (by decide) ((hset_c (by decide)).trans (hset_j (by decide))) ?_
        refine v_iload_n dX12_pour_55 rfl ?_
        refine v_iastore dX12_pour_56 (by decide) kk_143 (by omega) (by omega) ?_
        refine v_aload_n dX12_pour_57 rfl ?_
        refine v_getr (ci := 12) (j := 41) (ji := 41) (z := 144) dX12_pour_58 k_1457 (by decide) kk_116 (by decide) rfl rfl (fun r => rt_116_41 (r rfl)) (by decide) ?_
        refine v_aload_n dX12_pour_61 rfl ?_
        refine v_getv (ci := 12) (j := 47) (ji := 47) (tg := 0) dX12_pour_62 k_1463 (by decide) kk_116 (by decide) rfl rfl (by decide) ((hset_c (by decide)).trans ((hset_c (by decide)).trans (hset_j (by decide)))) ?_
        refine v_iload_n dX12_pour_65 rfl ?_
        refine v_iastore dX12_pour_66 (by decide) kk_144 (by omega) (by omega) ?_
        refine v_aload_n dX12_pour_67 rfl ?_
        refine v_getr (ci := 12) (j := 39) (ji := 39) (z := 142) dX12_pour_68 k_1455 (by decide) kk_116 (by decide) rfl rfl (fun r => rt_116_39 (r rfl)) (by decide) ?_
        refine v_aload_n dX12_pour_71 rfl ?_
        refine v_getv (ci := 12) (j := 47) (ji := 47) (tg := 0) dX12_pour_72 k_1463 (by decide) kk_116 (by decide) rfl rfl (by decide) ((hset_c (by decide)).trans ((hset_c (by decide)).trans ((hset_c (by decide)).trans (hset_j (by decide))))) ?_
        refine v_iload_n dX12_pour_75 rfl ?_
        refine v_iastore dX12_pour_76 (by decide) kk_142 (by omega) (by omega) ?_
        refine v_aload_n dX12_pour_77 rfl ?_
        refine v_dup dX12_pour_78 rfl ?_
        refine v_getv (ci := 12) (j := 47) (ji := 47) (tg := 0) dX12_pour_79 k_1463 (by decide) kk_116 (by decide) rfl rfl (by decide) ((hset_c (by decide)).trans ((hset_c (by decide)).trans ((hset_c (by decide)).trans ((hset_c (by decide)).trans (hset_j (by decide)))))) ?_
        refine v_iconst dX12_pour_82 (c32 rfl) ?_
        refine v_iaddE dX12_pour_83 (by omega) ?_
        refine v_puti (ci := 12) (j := 47) (ji := 47) dX12_pour_84 k_1463 (by decide) kk_116 (by decide) rfl rfl rfl ?_
        refine v_aload_n dX12_pour_87 rfl ?_
        refine v_iload_n dX12_pour_88 rfl ?_
        refine v_callv (M' := mX12_lying) (d' := d - 1) (mc' := 0) (ms' := 0) (ci := 12) (c := 116) (As := [_]) dX12_pour_89 k_1874 cm_X12_lying rfl (by omega) (by decide) kk_116 (Nat.le_of_ble_eq_true rfl) rfl ⟨Nat.le_refl _, Nat.le_refl _⟩ ?_
        refine s_X12_lying (by omega) (by rw [show (hset (hset (hset (hset (hset (hset h 116 0 0) 133 p1 (isub (h 133 p1) p2)) 143 (h 116 47) p0) 144 (h 116 47) p1) 142 (h 116 47) p2) 116 47 ((h 116 47) + 1)) 116 47 = ((h 116 47) + 1) from (hset_same _ _ _ _)]; omega) (by rw [show (hset (hset (hset (hset (hset (hset h 116 0 0) 133 p1 (isub (h 133 p1) p2)) 143 (h 116 47) p0) 144 (h 116 47) p1) 142 (h 116 47) p2) 116 47 ((h 116 47) + 1)) 116 47 = ((h 116 47) + 1) from (hset_same _ _ _ _)]; omega) ?_
        dsimp only [Option.toList, List.cons_append, List.nil_append, Nat.add_zero]
        rw [show (hset (hset (hset (hset (hset (hset h 116 0 0) 133 p1 (isub (h 133 p1) p2)) 143 (h 116 47) p0) 144 (h 116 47) p1) 142 (h 116 47) p2) 116 47 ((h 116 47) + 1)) 143 = (hset (hset (hset h 116 0 0) 133 p1 (isub (h 133 p1) p2)) 143 (h 116 47) p0) 143 from ((hset_r (by decide)).trans ((hset_r (by decide)).trans (hset_r (by decide)))), show (hset (hset (hset (hset (hset (hset h 116 0 0) 133 p1 (isub (h 133 p1) p2)) 143 (h 116 47) p0) 144 (h 116 47) p1) 142 (h 116 47) p2) 116 47 ((h 116 47) + 1)) 142 = (hset (hset (hset (hset (hset h 116 0 0) 133 p1 (isub (h 133 p1) p2)) 143 (h 116 47) p0) 144 (h 116 47) p1) 142 (h 116 47) p2) 142 from (hset_r (by decide)), show (hset (hset (hset (hset (hset (hset h 116 0 0) 133 p1 (isub (h 133 p1) p2)) 143 (h 116 47) p0) 144 (h 116 47) p1) 142 (h 116 47) p2) 116 47 ((h 116 47) + 1)) 116 47 = ((h 116 47) + 1) from (hset_same _ _ _ _)]
        refine v_ireti dX12_pour_92 rfl (Nat.le_refl _) (Nat.le_refl _) ?_
        exact q_8 c11_1 c20_5 c20_6 c29_17 c29_18 c29_19 c29_20

set_option maxHeartbeats 4000000 in
set_option maxRecDepth 100000 in
theorem s_X12_mend {l : Launch} {G : GG} {d : Nat} {h : AH} {Q : Option AV → List Kd → AH → Prop} {p0 p1 : Int} (hd : 3 ≤ d) (z0 : 0 ≤ (h 116 45)) (c0 : (h 116 45) ≤ 100) (z1 : 0 ≤ (h 116 48)) (c1 : (h 116 48) ≤ 100)
    (q_1 : (h 116 48) = 100 → Q (some (0, 0)) K0 (hset h 116 0 0))
    (q_2 : (h 116 48) ≠ 100 → p0 < 0 → Q (some (0, 0)) K0 (hset h 116 0 0))
    (q_3 : (h 116 48) ≠ 100 → 0 ≤ p0 → (h 116 45) ≤ p0 → Q (some (0, 0)) K0 (hset h 116 0 0))
    (q_4 : (h 116 48) ≠ 100 → 0 ≤ p0 → p0 < (h 116 45) → p1 < 1 → Q (some (0, 0)) K0 (hset h 116 0 0))
    (q_5 : (h 116 48) ≠ 100 → 0 ≤ p0 → p0 < (h 116 45) → 1 ≤ p1 → 10000 < p1 → Q (some (0, 0)) K0 (hset h 116 0 0))
    (q_6 : (h 116 48) ≠ 100 → 0 ≤ p0 → p0 < (h 116 45) → 1 ≤ p1 → p1 ≤ 10000 → Q (some (0, 1)) K0 (hset (hset (hset (hset (hset h 116 0 0) 145 (h 116 48) p0) 146 (h 116 48) p1) 147 (h 116 48) (h 116 1)) 116 48 ((h 116 48) + 1))) : Sp l G mX12_mend d 0 0 K0 [(2, 116), (0, p0), (0, p1)] h Q := by
  refine sp_of (L := [(2, 116), (0, p0), (0, p1)]) pl_X12 (Nat.le_of_ble_eq_true rfl) (tg_c (by decide) (tg_c (by decide) (tg_c (by decide) tg_0))) rfl ?_
  refine v_aload_n dX12_mend_0 rfl ?_
  refine v_iconst dX12_mend_1 (c32 rfl) ?_
  refine v_puti (ci := 12) (j := 0) (ji := 0) dX12_mend_2 k_1416 (by decide) kk_116 (by decide) rfl rfl rfl ?_
  refine v_aload_n dX12_mend_5 rfl ?_
  refine v_getv (ci := 12) (j := 48) (ji := 48) (tg := 0) dX12_mend_6 k_1464 (by decide) kk_116 (by decide) rfl rfl (by decide) (hset_j (by decide)) ?_
  refine v_bipush dX12_mend_9 (c32 rfl) (by decide) ?_
  refine v_icmp_eq (tgt := 34) dX12_mend_11 (by decide) (fun c11_1 => ?_) (fun c11_1 => ?_)
  · refine v_iconst dX12_mend_34 (c32 rfl) ?_
    refine v_iretz dX12_mend_35 rfl (by decide) (Nat.le_refl _) (Nat.le_refl _) ?_
    exact q_1 c11_1
  · refine v_aload_n dX12_mend_14 rfl ?_
    refine v_iload_n dX12_mend_15 rfl ?_
    refine v_callv (M' := mX12_isBatch) (d' := d - 1) (mc' := 0) (ms' := 0) (ci := 12) (c := 116) (As := [_]) dX12_mend_16 k_1861 cm_X12_isBatch rfl (by omega) (by decide) kk_116 (Nat.le_of_ble_eq_true rfl) rfl ⟨Nat.le_refl _, Nat.le_refl _⟩ ?_
    refine s_X12_isBatch (by omega) (fun c16_2 => ?_) (fun c16_3 c16_4 => ?_) (fun c16_5 c16_6 => ?_)
    · dsimp only [Option.toList, List.cons_append, List.nil_append, Nat.add_zero]
      refine v_if_eq_t (tgt := 34) dX12_mend_19 (by decide) (by decide) ?_
      refine v_iconst dX12_mend_34 (c32 rfl) ?_
      refine v_iretz dX12_mend_35 rfl (by decide) (Nat.le_refl _) (Nat.le_refl _) ?_
      exact q_2 c11_1 c16_2
    · dsimp only [Option.toList, List.cons_append, List.nil_append, Nat.add_zero]
      rw [show (hset h 116 0 0) 116 45 = (h 116 45) from (hset_j (by decide))] at c16_4
      refine v_if_eq_t (tgt := 34) dX12_mend_19 (by decide) (by decide) ?_
      refine v_iconst dX12_mend_34 (c32 rfl) ?_
      refine v_iretz dX12_mend_35 rfl (by decide) (Nat.le_refl _) (Nat.le_refl _) ?_
      exact q_3 c11_1 c16_3 c16_4
    · dsimp only [Option.toList, List.cons_append, List.nil_append, Nat.add_zero]
      rw [show (hset h 116 0 0) 116 45 = (h 116 45) from (hset_j (by decide))] at c16_6
      refine v_if_eq_f (tgt := 34) dX12_mend_19 (by decide) (by decide) ?_
      refine v_iload_n dX12_mend_22 rfl ?_
      refine v_i2l dX12_mend_23 ?_
      refine v_lconst (z := 1) dX12_mend_24 (c64 rfl) (by decide) ?_
      refine v_ldc2 (n := 10000) dX12_mend_25 k_1848 (c64 rfl) (by decide) ?_
      refine v_calls (M' := mX12_isIn) (d' := d - 1) (mc' := 0) (ms' := 0) (As := [_, _, _]) dX12_mend_28 k_1700 cm_X12_isIn (by omega) (Nat.le_of_ble_eq_true rfl) rfl ⟨Nat.le_refl _, Nat.le_refl _⟩ ?_
      refine s_X12_isIn (by omega) (fun c28_7 => ?_) (fun c28_8 c28_9 => ?_) (fun c28_10 c28_11 => ?_)
      · dsimp only [Option.toList, List.cons_append, List.nil_append, Nat.add_zero]
        refine v_if_ne_f (tgt := 36) dX12_mend_31 (by decide) (by decide) ?_
        refine v_iconst dX12_mend_34 (c32 rfl) ?_
        refine v_iretz dX12_mend_35 rfl (by decide) (Nat.le_refl _) (Nat.le_refl _) ?_
        exact q_4 c11_1 c16_5 c16_6 c28_7
      · dsimp only [Option.toList, List.cons_append, List.nil_append, Nat.add_zero]
        refine v_if_ne_f (tgt := 36) dX12_mend_31 (by decide) (by decide) ?_
        refine v_iconst dX12_mend_34 (c32 rfl) ?_
        refine v_iretz dX12_mend_35 rfl (by decide) (Nat.le_refl _) (Nat.le_refl _) ?_
        exact q_5 c11_1 c16_5 c16_6 c28_8 c28_9
      · dsimp only [Option.toList, List.cons_append, List.nil_append, Nat.add_zero]
        refine v_if_ne_t (tgt := 36) dX12_mend_31 (by decide) (by decide) ?_
        refine v_aload_n dX12_mend_36 rfl ?_
        refine v_getr (ci := 12) (j := 42) (ji := 42) (z := 145) dX12_mend_37 k_1458 (by decide) kk_116 (by decide) rfl rfl (fun r => rt_116_42 (r rfl)) (by decide) ?_
        refine v_aload_n dX12_mend_40 rfl ?_
        refine v_getv (ci := 12) (j := 48) (ji := 48) (tg := 0) dX12_mend_41 k_1464 (by decide) kk_116 (by decide) rfl rfl (by decide) (hset_j (by decide)) ?_
        refine v_iload_n dX12_mend_44 rfl ?_
        refine v_iastore dX12_mend_45 (by decide) kk_145 (by omega) (by omega) ?_
        refine v_aload_n dX12_mend_46 rfl ?_
        refine v_getr (ci := 12) (j := 43) (ji := 43) (z := 146) dX12_mend_47 k_1459 (by decide) kk_116 (by decide) rfl rfl (fun r => rt_116_43 (r rfl)) (by decide) ?_
        refine v_aload_n dX12_mend_50 rfl ?_
        refine v_getv (ci := 12) (j := 48) (ji := 48) (tg := 0) dX12_mend_51 k_1464 (by decide) kk_116 (by decide) rfl rfl (by decide) ((hset_c (by decide)).trans (hset_j (by decide))) ?_
        refine v_iload_n dX12_mend_54 rfl ?_
        refine v_iastore dX12_mend_55 (by decide) kk_146 (by omega) (by omega) ?_
        refine v_aload_n dX12_mend_56 rfl ?_
        refine v_getr (ci := 12) (j := 44) (ji := 44) (z := 147) dX12_mend_57 k_1460 (by decide) kk_116 (by decide) rfl rfl (fun r => rt_116_44 (r rfl)) (by decide) ?_
        refine v_aload_n dX12_mend_60 rfl ?_
        refine v_getv (ci := 12) (j := 48) (ji := 48) (tg := 0) dX12_mend_61 k_1464 (by decide) kk_116 (by decide) rfl rfl (by decide) ((hset_c (by decide)).trans ((hset_c (by decide)).trans (hset_j (by decide)))) ?_
        refine v_aload_n dX12_mend_64 rfl ?_
        refine v_getv (ci := 12) (j := 1) (ji := 1) (tg := 0) dX12_mend_65 k_1417 (by decide) kk_116 (by decide) rfl rfl (by decide) ((hset_c (by decide)).trans ((hset_c (by decide)).trans (hset_j (by decide)))) ?_
        refine v_iastore dX12_mend_68 (by decide) kk_147 (by omega) (by omega) ?_
        refine v_aload_n dX12_mend_69 rfl ?_
        refine v_dup dX12_mend_70 rfl ?_
        refine v_getv (ci := 12) (j := 48) (ji := 48) (tg := 0) dX12_mend_71 k_1464 (by decide) kk_116 (by decide) rfl rfl (by decide) ((hset_c (by decide)).trans ((hset_c (by decide)).trans ((hset_c (by decide)).trans (hset_j (by decide))))) ?_
        refine v_iconst dX12_mend_74 (c32 rfl) ?_
        refine v_iaddE dX12_mend_75 (by omega) ?_
        refine v_puti (ci := 12) (j := 48) (ji := 48) dX12_mend_76 k_1464 (by decide) kk_116 (by decide) rfl rfl rfl ?_
        refine v_iconst dX12_mend_79 (c32 rfl) ?_
        refine v_iretz dX12_mend_80 rfl (by decide) (Nat.le_refl _) (Nat.le_refl _) ?_
        exact q_6 c11_1 c16_5 c16_6 c28_10 c28_11

set_option maxHeartbeats 4000000 in
set_option maxRecDepth 100000 in
theorem s_X12_undo {l : Launch} {G : GG} {d : Nat} {h : AH} {Q : Option AV → List Kd → AH → Prop} {p0 : Int} (hd : 3 ≤ d) (z0 : 0 ≤ (h 116 45)) (c0 : (h 116 45) ≤ 100)
    (q_1 : p0 < 0 → Q (some (0, 0)) K0 (hset h 116 0 0))
    (q_2 : 0 ≤ p0 → (h 116 45) ≤ p0 → Q (some (0, 0)) K0 (hset h 116 0 0))
    (q_3 : 0 ≤ p0 → p0 < (h 116 45) → (h 135 p0) ≠ (-1) → Q (some (0, 0)) K0 (hset h 116 0 0))
    (q_4 : 0 ≤ p0 → p0 < (h 116 45) → (h 135 p0) = (-1) → (h 136 p0) = 9999 → Q (some (0, 1)) K0 (hset (hset h 116 0 0) 136 p0 (h 116 1)))
    (q_5 : 0 ≤ p0 → p0 < (h 116 45) → (h 135 p0) = (-1) → (h 136 p0) ≠ 9999 → Q (some (0, 0)) K0 (hset h 116 0 0)) : Sp l G mX12_undo d 0 0 K0 [(2, 116), (0, p0)] h Q := by
  refine sp_of (L := [(2, 116), (0, p0)]) pl_X12 (Nat.le_of_ble_eq_true rfl) (tg_c (by decide) (tg_c (by decide) tg_0)) rfl ?_
  refine v_aload_n dX12_undo_0 rfl ?_
  refine v_iconst dX12_undo_1 (c32 rfl) ?_
  refine v_puti (ci := 12) (j := 0) (ji := 0) dX12_undo_2 k_1416 (by decide) kk_116 (by decide) rfl rfl rfl ?_
  refine v_aload_n dX12_undo_5 rfl ?_
  refine v_iload_n dX12_undo_6 rfl ?_
  refine v_callv (M' := mX12_isBatch) (d' := d - 1) (mc' := 0) (ms' := 0) (ci := 12) (c := 116) (As := [_]) dX12_undo_7 k_1861 cm_X12_isBatch rfl (by omega) (by decide) kk_116 (Nat.le_of_ble_eq_true rfl) rfl ⟨Nat.le_refl _, Nat.le_refl _⟩ ?_
  refine s_X12_isBatch (by omega) (fun c7_1 => ?_) (fun c7_2 c7_3 => ?_) (fun c7_4 c7_5 => ?_)
  · dsimp only [Option.toList, List.cons_append, List.nil_append, Nat.add_zero]
    refine v_if_eq_t (tgt := 35) dX12_undo_10 (by decide) (by decide) ?_
    refine v_iconst dX12_undo_35 (c32 rfl) ?_
    refine v_iretz dX12_undo_36 rfl (by decide) (Nat.le_refl _) (Nat.le_refl _) ?_
    exact q_1 c7_1
  · dsimp only [Option.toList, List.cons_append, List.nil_append, Nat.add_zero]
    rw [show (hset h 116 0 0) 116 45 = (h 116 45) from (hset_j (by decide))] at c7_3
    refine v_if_eq_t (tgt := 35) dX12_undo_10 (by decide) (by decide) ?_
    refine v_iconst dX12_undo_35 (c32 rfl) ?_
    refine v_iretz dX12_undo_36 rfl (by decide) (Nat.le_refl _) (Nat.le_refl _) ?_
    exact q_2 c7_2 c7_3
  · dsimp only [Option.toList, List.cons_append, List.nil_append, Nat.add_zero]
    rw [show (hset h 116 0 0) 116 45 = (h 116 45) from (hset_j (by decide))] at c7_5
    refine v_if_eq_f (tgt := 35) dX12_undo_10 (by decide) (by decide) ?_
    refine v_aload_n dX12_undo_13 rfl ?_
    refine v_getr (ci := 12) (j := 32) (ji := 32) (z := 135) dX12_undo_14 k_1448 (by decide) kk_116 (by decide) rfl rfl (fun r => rt_116_32 (r rfl)) (by decide) ?_
    refine v_iload_n dX12_undo_17 rfl ?_
    refine v_ialoadv dX12_undo_18 (by decide) kk_135 (by omega) (by omega) (hset_c (by decide)) ?_
    refine v_iconst dX12_undo_19 (c32 rfl) ?_
    refine v_icmp_ne (tgt := 35) dX12_undo_20 (by decide) (fun c20_6 => ?_) (fun c20_6 => ?_)
    · refine v_iconst dX12_undo_35 (c32 rfl) ?_
      refine v_iretz dX12_undo_36 rfl (by decide) (Nat.le_refl _) (Nat.le_refl _) ?_
      exact q_3 c7_4 c7_5 c20_6
    · refine v_aload_n dX12_undo_23 rfl ?_
      refine v_getr (ci := 12) (j := 33) (ji := 33) (z := 136) dX12_undo_24 k_1449 (by decide) kk_116 (by decide) rfl rfl (fun r => rt_116_33 (r rfl)) (by decide) ?_
      refine v_iload_n dX12_undo_27 rfl ?_
      refine v_ialoadv dX12_undo_28 (by decide) kk_136 (by omega) (by omega) (hset_c (by decide)) ?_
      refine v_sipush dX12_undo_29 (c32 rfl) (by decide) ?_
      refine v_icmp_eq (tgt := 37) dX12_undo_32 (by decide) (fun c32_7 => ?_) (fun c32_7 => ?_)
      · refine v_aload_n dX12_undo_37 rfl ?_
        refine v_getr (ci := 12) (j := 33) (ji := 33) (z := 136) dX12_undo_38 k_1449 (by decide) kk_116 (by decide) rfl rfl (fun r => rt_116_33 (r rfl)) (by decide) ?_
        refine v_iload_n dX12_undo_41 rfl ?_
        refine v_aload_n dX12_undo_42 rfl ?_
        refine v_getv (ci := 12) (j := 1) (ji := 1) (tg := 0) dX12_undo_43 k_1417 (by decide) kk_116 (by decide) rfl rfl (by decide) (hset_j (by decide)) ?_
        refine v_iastore dX12_undo_46 (by decide) kk_136 (by omega) (by omega) ?_
        refine v_iconst dX12_undo_47 (c32 rfl) ?_
        refine v_iretz dX12_undo_48 rfl (by decide) (Nat.le_refl _) (Nat.le_refl _) ?_
        exact q_4 c7_4 c7_5 c20_6 c32_7
      · refine v_iconst dX12_undo_35 (c32 rfl) ?_
        refine v_iretz dX12_undo_36 rfl (by decide) (Nat.le_refl _) (Nat.le_refl _) ?_
        exact q_5 c7_4 c7_5 c20_6 c32_7

set_option maxHeartbeats 4000000 in
set_option maxRecDepth 100000 in
theorem s_X12_told {l : Launch} {G : GG} {d : Nat} {h : AH} {Q : Option AV → List Kd → AH → Prop} {p0 p1 : Int} (hd : 3 ≤ d) (z0 : 0 ≤ (h 116 45)) (c0 : (h 116 45) ≤ 100) (z1 : 0 ≤ (h 116 48)) (c1 : (h 116 48) ≤ 100)
    (q_1 : p0 < 0 → Q (some (0, 0)) K0 (hset h 116 0 1))
    (q_2 : 0 ≤ p0 → (h 116 45) ≤ p0 → Q (some (0, 0)) K0 (hset h 116 0 1))
    (q_3 : 0 ≤ p0 → p0 < (h 116 45) → p1 < 0 → Q (some (0, 0)) K0 (hset h 116 0 1))
    (q_4 : 0 ≤ p0 → p0 < (h 116 45) → 0 ≤ p1 → 8 < p1 → Q (some (0, 0)) K0 (hset h 116 0 1))
    (q_5 : 0 ≤ p0 → p0 < (h 116 45) → 0 ≤ p1 → p1 ≤ 8 → (p1 < 0 ∨ 7 < p1) → (h 136 p0) = 9999 → Q (some (0, 0)) K0 (hset h 116 0 0))
    (q_6 : 0 ≤ p0 → p0 < (h 116 45) → 0 ≤ p1 → p1 ≤ 8 → (p1 < 0 ∨ 7 < p1) → (h 136 p0) ≠ 9999 → Q (some (0, 1)) K0 (hset h 116 0 0))
    (q_7 : 0 ≤ p0 → p0 < (h 116 45) → 0 ≤ p1 → p1 ≤ 8 → p1 = 0 → Q (some (0, (h 129 p0))) K0 (hset h 116 0 0))
    (q_8 : 0 ≤ p0 → p0 < (h 116 45) → 0 ≤ p1 → p1 ≤ 8 → p1 = 1 → Q (some (0, (h 130 p0))) K0 (hset h 116 0 0))
    (q_9 : 0 ≤ p0 → p0 < (h 116 45) → 0 ≤ p1 → p1 ≤ 8 → p1 = 2 → Q (some (0, (laF (h 145) (h 147) (h 146) p0 (h 116 1) (h 131 p0) (h 116 48)))) K0 (hset h 116 0 0))
    (q_10 : 0 ≤ p0 → p0 < (h 116 45) → 0 ≤ p1 → p1 ≤ 8 → p1 = 3 → Q (some (0, (h 132 p0))) K0 (hset h 116 0 0))
    (q_11 : 0 ≤ p0 → p0 < (h 116 45) → 0 ≤ p1 → p1 ≤ 8 → p1 = 4 → Q (some (0, (h 133 p0))) K0 (hset h 116 0 0))
    (q_12 : 0 ≤ p0 → p0 < (h 116 45) → 0 ≤ p1 → p1 ≤ 8 → p1 = 5 → Q (some (0, (h 134 p0))) K0 (hset h 116 0 0))
    (q_13 : 0 ≤ p0 → p0 < (h 116 45) → 0 ≤ p1 → p1 ≤ 8 → p1 = 6 → Q (some (0, (h 135 p0))) K0 (hset h 116 0 0))
    (q_14 : 0 ≤ p0 → p0 < (h 116 45) → 0 ≤ p1 → p1 ≤ 8 → p1 = 7 → Q (some (0, (h 137 p0))) K0 (hset h 116 0 0)) : Sp l G mX12_told d 0 0 K0 [(2, 116), (0, p0), (0, p1)] h Q := by
  refine sp_of (L := [(2, 116), (0, p0), (0, p1)]) pl_X12 (Nat.le_of_ble_eq_true rfl) (tg_c (by decide) (tg_c (by decide) (tg_c (by decide) tg_0))) rfl ?_
  refine v_aload_n dX12_told_0 rfl ?_
  refine v_aload_n dX12_told_1 rfl ?_
  refine v_iload_n dX12_told_2 rfl ?_
  refine v_callv (M' := mX12_isBatch) (d' := d - 1) (mc' := 0) (ms' := 0) (ci := 12) (c := 116) (As := [_]) dX12_told_3 k_1861 cm_X12_isBatch rfl (by omega) (by decide) kk_116 (Nat.le_of_ble_eq_true rfl) rfl ⟨Nat.le_refl _, Nat.le_refl _⟩ ?_
  refine s_X12_isBatch (by omega) (fun c3_1 => ?_) (fun c3_2 c3_3 => ?_) (fun c3_4 c3_5 => ?_)
  · dsimp only [Option.toList, List.cons_append, List.nil_append, Nat.add_zero]
    refine v_if_eq_t (tgt := 25) dX12_told_6 (by decide) (by decide) ?_
    refine v_iconst dX12_told_25 (c32 rfl) ?_
    refine v_puti (ci := 12) (j := 0) (ji := 0) dX12_told_26 k_1416 (by decide) kk_116 (by decide) rfl rfl rfl ?_
    refine v_aload_n dX12_told_29 rfl ?_
    refine v_getv (ci := 12) (j := 0) (ji := 0) (tg := 0) dX12_told_30 k_1416 (by decide) kk_116 (by decide) rfl rfl (by decide) (hset_same _ _ _ _) ?_
    refine v_if_le_f (tgt := 38) dX12_told_33 (by decide) (by decide) ?_
    refine v_iconst dX12_told_36 (c32 rfl) ?_
    refine v_ireti dX12_told_37 rfl (Nat.le_refl _) (Nat.le_refl _) ?_
    exact q_1 c3_1
  · dsimp only [Option.toList, List.cons_append, List.nil_append, Nat.add_zero]
    refine v_if_eq_t (tgt := 25) dX12_told_6 (by decide) (by decide) ?_
    refine v_iconst dX12_told_25 (c32 rfl) ?_
    refine v_puti (ci := 12) (j := 0) (ji := 0) dX12_told_26 k_1416 (by decide) kk_116 (by decide) rfl rfl rfl ?_
    refine v_aload_n dX12_told_29 rfl ?_
    refine v_getv (ci := 12) (j := 0) (ji := 0) (tg := 0) dX12_told_30 k_1416 (by decide) kk_116 (by decide) rfl rfl (by decide) (hset_same _ _ _ _) ?_
    refine v_if_le_f (tgt := 38) dX12_told_33 (by decide) (by decide) ?_
    refine v_iconst dX12_told_36 (c32 rfl) ?_
    refine v_ireti dX12_told_37 rfl (Nat.le_refl _) (Nat.le_refl _) ?_
    exact q_2 c3_2 c3_3
  · dsimp only [Option.toList, List.cons_append, List.nil_append, Nat.add_zero]
    refine v_if_eq_f (tgt := 25) dX12_told_6 (by decide) (by decide) ?_
    refine v_iload_n dX12_told_9 rfl ?_
    refine v_i2l dX12_told_10 ?_
    refine v_lconst (z := 0) dX12_told_11 (c64 rfl) (by decide) ?_
    refine v_ldc2 (n := 8) dX12_told_12 k_1904 (c64 rfl) (by decide) ?_
    refine v_calls (M' := mX12_isIn) (d' := d - 1) (mc' := 0) (ms' := 0) (As := [_, _, _]) dX12_told_15 k_1700 cm_X12_isIn (by omega) (Nat.le_of_ble_eq_true rfl) rfl ⟨Nat.le_refl _, Nat.le_refl _⟩ ?_
    refine s_X12_isIn (by omega) (fun c15_6 => ?_) (fun c15_7 c15_8 => ?_) (fun c15_9 c15_10 => ?_)
    · dsimp only [Option.toList, List.cons_append, List.nil_append, Nat.add_zero]
      refine v_if_eq_t (tgt := 25) dX12_told_18 (by decide) (by decide) ?_
      refine v_iconst dX12_told_25 (c32 rfl) ?_
      refine v_puti (ci := 12) (j := 0) (ji := 0) dX12_told_26 k_1416 (by decide) kk_116 (by decide) rfl rfl rfl ?_
      refine v_aload_n dX12_told_29 rfl ?_
      refine v_getv (ci := 12) (j := 0) (ji := 0) (tg := 0) dX12_told_30 k_1416 (by decide) kk_116 (by decide) rfl rfl (by decide) (hset_same _ _ _ _) ?_
      refine v_if_le_f (tgt := 38) dX12_told_33 (by decide) (by decide) ?_
      refine v_iconst dX12_told_36 (c32 rfl) ?_
      refine v_ireti dX12_told_37 rfl (Nat.le_refl _) (Nat.le_refl _) ?_
      exact q_3 c3_4 c3_5 c15_6
    · dsimp only [Option.toList, List.cons_append, List.nil_append, Nat.add_zero]
      refine v_if_eq_t (tgt := 25) dX12_told_18 (by decide) (by decide) ?_
      refine v_iconst dX12_told_25 (c32 rfl) ?_
      refine v_puti (ci := 12) (j := 0) (ji := 0) dX12_told_26 k_1416 (by decide) kk_116 (by decide) rfl rfl rfl ?_
      refine v_aload_n dX12_told_29 rfl ?_
      refine v_getv (ci := 12) (j := 0) (ji := 0) (tg := 0) dX12_told_30 k_1416 (by decide) kk_116 (by decide) rfl rfl (by decide) (hset_same _ _ _ _) ?_
      refine v_if_le_f (tgt := 38) dX12_told_33 (by decide) (by decide) ?_
      refine v_iconst dX12_told_36 (c32 rfl) ?_
      refine v_ireti dX12_told_37 rfl (Nat.le_refl _) (Nat.le_refl _) ?_
      exact q_4 c3_4 c3_5 c15_7 c15_8
    · dsimp only [Option.toList, List.cons_append, List.nil_append, Nat.add_zero]
      refine v_if_eq_f (tgt := 25) dX12_told_18 (by decide) (by decide) ?_
      refine v_iconst dX12_told_21 (c32 rfl) ?_
      refine v_goto (tgt := 26) dX12_told_22 (by decide) ?_
      refine v_puti (ci := 12) (j := 0) (ji := 0) dX12_told_26 k_1416 (by decide) kk_116 (by decide) rfl rfl rfl ?_
      refine v_aload_n dX12_told_29 rfl ?_
      refine v_getv (ci := 12) (j := 0) (ji := 0) (tg := 0) dX12_told_30 k_1416 (by decide) kk_116 (by decide) rfl rfl (by decide) (hset_same _ _ _ _) ?_
      refine v_if_le_t (tgt := 38) dX12_told_33 (by decide) (by decide) ?_
      refine v_iload_n dX12_told_38 rfl ?_
      rcases (show (p1 < 0 ∨ 7 < p1) ∨ p1 = 0 ∨ p1 = 1 ∨ p1 = 2 ∨ p1 = 3 ∨ p1 = 4 ∨ p1 = 5 ∨ p1 = 6 ∨ p1 = 7 by omega) with c39_11 | c39_11 | c39_11 | c39_11 | c39_11 | c39_11 | c39_11 | c39_11 | c39_11
      · refine v_tsw_out (tgt := 143) dX12_told_39 c39_11 (by decide) ?_
        refine v_aload_n dX12_told_143 rfl ?_
        refine v_getr (ci := 12) (j := 33) (ji := 33) (z := 136) dX12_told_144 k_1449 (by decide) kk_116 (by decide) rfl rfl (fun r => rt_116_33 (r rfl)) (by decide) ?_
        refine v_iload_n dX12_told_147 rfl ?_
        refine v_ialoadv dX12_told_148 (by decide) kk_136 (by omega) (by omega) (hset_c (by decide)) ?_
        refine v_sipush dX12_told_149 (c32 rfl) (by decide) ?_
        refine v_icmp_eq (tgt := 159) dX12_told_152 (by decide) (fun c152_12 => ?_) (fun c152_12 => ?_)
        · refine v_iconst dX12_told_159 (c32 rfl) ?_
          refine v_ireti dX12_told_160 rfl (Nat.le_refl _) (Nat.le_refl _) ?_
          exact q_5 c3_4 c3_5 c15_9 c15_10 c39_11 c152_12
        · refine v_iconst dX12_told_155 (c32 rfl) ?_
          refine v_goto (tgt := 160) dX12_told_156 (by decide) ?_
          refine v_ireti dX12_told_160 rfl (Nat.le_refl _) (Nat.le_refl _) ?_
          exact q_6 c3_4 c3_5 c15_9 c15_10 c39_11 c152_12
      · refine v_tsw_in (off := 45) (tgt := 84) dX12_told_39 (by omega) (by omega) (by rw [c39_11]; rfl) (by decide) ?_
        refine v_aload_n dX12_told_84 rfl ?_
        refine v_getr (ci := 12) (j := 26) (ji := 26) (z := 129) dX12_told_85 k_1442 (by decide) kk_116 (by decide) rfl rfl (fun r => rt_116_26 (r rfl)) (by decide) ?_
        refine v_iload_n dX12_told_88 rfl ?_
        refine v_ialoadv dX12_told_89 (by decide) kk_129 (by omega) (by omega) (hset_c (by decide)) ?_
        refine v_ireti dX12_told_90 rfl (Nat.le_refl _) (Nat.le_refl _) ?_
        exact q_7 c3_4 c3_5 c15_9 c15_10 c39_11
      · refine v_tsw_in (off := 52) (tgt := 91) dX12_told_39 (by omega) (by omega) (by rw [c39_11]; rfl) (by decide) ?_
        refine v_aload_n dX12_told_91 rfl ?_
        refine v_getr (ci := 12) (j := 27) (ji := 27) (z := 130) dX12_told_92 k_1443 (by decide) kk_116 (by decide) rfl rfl (fun r => rt_116_27 (r rfl)) (by decide) ?_
        refine v_iload_n dX12_told_95 rfl ?_
        refine v_ialoadv dX12_told_96 (by decide) kk_130 (by omega) (by omega) (hset_c (by decide)) ?_
        refine v_ireti dX12_told_97 rfl (Nat.le_refl _) (Nat.le_refl _) ?_
        exact q_8 c3_4 c3_5 c15_9 c15_10 c39_11
      · refine v_tsw_in (off := 59) (tgt := 98) dX12_told_39 (by omega) (by omega) (by rw [c39_11]; rfl) (by decide) ?_
        refine v_aload_n dX12_told_98 rfl ?_
        refine v_iload_n dX12_told_99 rfl ?_
        refine v_aload_n dX12_told_100 rfl ?_
        refine v_getv (ci := 12) (j := 1) (ji := 1) (tg := 0) dX12_told_101 k_1417 (by decide) kk_116 (by decide) rfl rfl (by decide) (hset_j (by decide)) ?_
        refine v_callv (M' := mX12_priceOf) (d' := d - 1) (mc' := 0) (ms' := 0) (ci := 12) (c := 116) (As := [_, _]) dX12_told_104 k_1905 cm_X12_priceOf rfl (by omega) (by decide) kk_116 (Nat.le_of_ble_eq_true rfl) rfl ⟨Nat.le_refl _, Nat.le_refl _⟩ ?_
        refine s_X12_priceOf (by omega) (by rw [show (hset h 116 0 0) 116 48 = (h 116 48) from (hset_j (by decide))]; omega) (by rw [show (hset h 116 0 0) 116 48 = (h 116 48) from (hset_j (by decide))]; omega) (by omega) ?_
        dsimp only [Option.toList, List.cons_append, List.nil_append, Nat.add_zero]
        rw [show (hset h 116 0 0) 145 = h 145 from (hset_r (by decide)), show (hset h 116 0 0) 147 = h 147 from (hset_r (by decide)), show (hset h 116 0 0) 146 = h 146 from (hset_r (by decide)), show (hset h 116 0 0) 131 p0 = (h 131 p0) from (hset_c (by decide)), show (hset h 116 0 0) 116 48 = (h 116 48) from (hset_j (by decide))]
        refine v_ireti dX12_told_107 rfl (Nat.le_refl _) (Nat.le_refl _) ?_
        exact q_9 c3_4 c3_5 c15_9 c15_10 c39_11
      · refine v_tsw_in (off := 69) (tgt := 108) dX12_told_39 (by omega) (by omega) (by rw [c39_11]; rfl) (by decide) ?_
        refine v_aload_n dX12_told_108 rfl ?_
        refine v_getr (ci := 12) (j := 29) (ji := 29) (z := 132) dX12_told_109 k_1445 (by decide) kk_116 (by decide) rfl rfl (fun r => rt_116_29 (r rfl)) (by decide) ?_
        refine v_iload_n dX12_told_112 rfl ?_
        refine v_ialoadv dX12_told_113 (by decide) kk_132 (by omega) (by omega) (hset_c (by decide)) ?_
        refine v_ireti dX12_told_114 rfl (Nat.le_refl _) (Nat.le_refl _) ?_
        exact q_10 c3_4 c3_5 c15_9 c15_10 c39_11
      · refine v_tsw_in (off := 76) (tgt := 115) dX12_told_39 (by omega) (by omega) (by rw [c39_11]; rfl) (by decide) ?_
        refine v_aload_n dX12_told_115 rfl ?_
        refine v_getr (ci := 12) (j := 30) (ji := 30) (z := 133) dX12_told_116 k_1446 (by decide) kk_116 (by decide) rfl rfl (fun r => rt_116_30 (r rfl)) (by decide) ?_
        refine v_iload_n dX12_told_119 rfl ?_
        refine v_ialoadv dX12_told_120 (by decide) kk_133 (by omega) (by omega) (hset_c (by decide)) ?_
        refine v_ireti dX12_told_121 rfl (Nat.le_refl _) (Nat.le_refl _) ?_
        exact q_11 c3_4 c3_5 c15_9 c15_10 c39_11
      · refine v_tsw_in (off := 83) (tgt := 122) dX12_told_39 (by omega) (by omega) (by rw [c39_11]; rfl) (by decide) ?_
        refine v_aload_n dX12_told_122 rfl ?_
        refine v_getr (ci := 12) (j := 31) (ji := 31) (z := 134) dX12_told_123 k_1447 (by decide) kk_116 (by decide) rfl rfl (fun r => rt_116_31 (r rfl)) (by decide) ?_
        refine v_iload_n dX12_told_126 rfl ?_
        refine v_ialoadv dX12_told_127 (by decide) kk_134 (by omega) (by omega) (hset_c (by decide)) ?_
        refine v_ireti dX12_told_128 rfl (Nat.le_refl _) (Nat.le_refl _) ?_
        exact q_12 c3_4 c3_5 c15_9 c15_10 c39_11
      · refine v_tsw_in (off := 90) (tgt := 129) dX12_told_39 (by omega) (by omega) (by rw [c39_11]; rfl) (by decide) ?_
        refine v_aload_n dX12_told_129 rfl ?_
        refine v_getr (ci := 12) (j := 32) (ji := 32) (z := 135) dX12_told_130 k_1448 (by decide) kk_116 (by decide) rfl rfl (fun r => rt_116_32 (r rfl)) (by decide) ?_
        refine v_iload_n dX12_told_133 rfl ?_
        refine v_ialoadv dX12_told_134 (by decide) kk_135 (by omega) (by omega) (hset_c (by decide)) ?_
        refine v_ireti dX12_told_135 rfl (Nat.le_refl _) (Nat.le_refl _) ?_
        exact q_13 c3_4 c3_5 c15_9 c15_10 c39_11
      · refine v_tsw_in (off := 97) (tgt := 136) dX12_told_39 (by omega) (by omega) (by rw [c39_11]; rfl) (by decide) ?_
        refine v_aload_n dX12_told_136 rfl ?_
        refine v_getr (ci := 12) (j := 34) (ji := 34) (z := 137) dX12_told_137 k_1450 (by decide) kk_116 (by decide) rfl rfl (fun r => rt_116_34 (r rfl)) (by decide) ?_
        refine v_iload_n dX12_told_140 rfl ?_
        refine v_ialoadv dX12_told_141 (by decide) kk_137 (by omega) (by omega) (hset_c (by decide)) ?_
        refine v_ireti dX12_told_142 rfl (Nat.le_refl _) (Nat.le_refl _) ?_
        exact q_14 c3_4 c3_5 c15_9 c15_10 c39_11

set_option maxHeartbeats 4000000 in
set_option maxRecDepth 100000 in
theorem s_X12_entry {l : Launch} {G : GG} {d : Nat} {h : AH} {Q : Option AV → List Kd → AH → Prop} {p0 p1 p2 : Int} (hd : 3 ≤ d) (z0 : 0 ≤ (h 116 45)) (c0 : (h 116 45) ≤ 100) (e0 : ∀ j, 0 ≤ j → j < 100 → 0 ≤ (h 137 j) ∧ (h 137 j) ≤ 6)
    (q_1 : p0 < 0 → Q (some (0, (-1))) K0 (hset h 116 0 0))
    (q_2 : 0 ≤ p0 → (h 116 45) ≤ p0 → Q (some (0, (-1))) K0 (hset h 116 0 0))
    (q_3 : 0 ≤ p0 → p0 < (h 116 45) → p1 < 0 → Q (some (0, (-1))) K0 (hset h 116 0 0))
    (q_4 : 0 ≤ p0 → p0 < (h 116 45) → 0 ≤ p1 → ((h 137 p0) - 1) < p1 → Q (some (0, (-1))) K0 (hset h 116 0 0))
    (q_5 : 0 ≤ p0 → p0 < (h 116 45) → 0 ≤ p1 → p1 ≤ ((h 137 p0) - 1) → p2 < 0 → Q (some (0, (-1))) K0 (hset h 116 0 0))
    (q_6 : 0 ≤ p0 → p0 < (h 116 45) → 0 ≤ p1 → p1 ≤ ((h 137 p0) - 1) → 0 ≤ p2 → 1 < p2 → Q (some (0, (-1))) K0 (hset h 116 0 0))
    (q_7 : 0 ≤ p0 → p0 < (h 116 45) → 0 ≤ p1 → p1 ≤ ((h 137 p0) - 1) → 0 ≤ p2 → p2 ≤ 1 → p2 ≠ 0 → Q (some (0, (h 139 ((6 * p0) + p1)))) K0 (hset h 116 0 0))
    (q_8 : 0 ≤ p0 → p0 < (h 116 45) → 0 ≤ p1 → p1 ≤ ((h 137 p0) - 1) → 0 ≤ p2 → p2 ≤ 1 → p2 = 0 → Q (some (0, (h 138 ((6 * p0) + p1)))) K0 (hset h 116 0 0)) : Sp l G mX12_entry d 0 0 K0 [(2, 116), (0, p0), (0, p1), (0, p2)] h Q := by
  refine sp_of (L := [(2, 116), (0, p0), (0, p1), (0, p2)]) pl_X12 (Nat.le_of_ble_eq_true rfl) (tg_c (by decide) (tg_c (by decide) (tg_c (by decide) (tg_c (by decide) tg_0)))) rfl ?_
  refine v_aload_n dX12_entry_0 rfl ?_
  refine v_iconst dX12_entry_1 (c32 rfl) ?_
  refine v_puti (ci := 12) (j := 0) (ji := 0) dX12_entry_2 k_1416 (by decide) kk_116 (by decide) rfl rfl rfl ?_
  refine v_aload_n dX12_entry_5 rfl ?_
  refine v_iload_n dX12_entry_6 rfl ?_
  refine v_callv (M' := mX12_isBatch) (d' := d - 1) (mc' := 0) (ms' := 0) (ci := 12) (c := 116) (As := [_]) dX12_entry_7 k_1861 cm_X12_isBatch rfl (by omega) (by decide) kk_116 (Nat.le_of_ble_eq_true rfl) rfl ⟨Nat.le_refl _, Nat.le_refl _⟩ ?_
  refine s_X12_isBatch (by omega) (fun c7_1 => ?_) (fun c7_2 c7_3 => ?_) (fun c7_4 c7_5 => ?_)
  · dsimp only [Option.toList, List.cons_append, List.nil_append, Nat.add_zero]
    refine v_if_eq_t (tgt := 41) dX12_entry_10 (by decide) (by decide) ?_
    refine v_iconst dX12_entry_41 (c32 rfl) ?_
    refine v_ireti dX12_entry_42 rfl (Nat.le_refl _) (Nat.le_refl _) ?_
    exact q_1 c7_1
  · dsimp only [Option.toList, List.cons_append, List.nil_append, Nat.add_zero]
    rw [show (hset h 116 0 0) 116 45 = (h 116 45) from (hset_j (by decide))] at c7_3
    refine v_if_eq_t (tgt := 41) dX12_entry_10 (by decide) (by decide) ?_
    refine v_iconst dX12_entry_41 (c32 rfl) ?_
    refine v_ireti dX12_entry_42 rfl (Nat.le_refl _) (Nat.le_refl _) ?_
    exact q_2 c7_2 c7_3
  · dsimp only [Option.toList, List.cons_append, List.nil_append, Nat.add_zero]
    rw [show (hset h 116 0 0) 116 45 = (h 116 45) from (hset_j (by decide))] at c7_5
    refine v_if_eq_f (tgt := 41) dX12_entry_10 (by decide) (by decide) ?_
    refine v_iload_n dX12_entry_13 rfl ?_
    refine v_i2l dX12_entry_14 ?_
    refine v_lconst (z := 0) dX12_entry_15 (c64 rfl) (by decide) ?_
    refine v_aload_n dX12_entry_16 rfl ?_
    refine v_getr (ci := 12) (j := 34) (ji := 34) (z := 137) dX12_entry_17 k_1450 (by decide) kk_116 (by decide) rfl rfl (fun r => rt_116_34 (r rfl)) (by decide) ?_
    refine v_iload_n dX12_entry_20 rfl ?_
    refine v_ialoadv dX12_entry_21 (by decide) kk_137 (by omega) (by omega) (hset_c (by decide)) ?_
    refine v_iconst dX12_entry_22 (c32 rfl) ?_
    have h6 := e0 p0 (by omega) (by omega)
    refine v_isubE dX12_entry_23 (by omega) ?_
    refine v_i2l dX12_entry_24 ?_
    refine v_calls (M' := mX12_isIn) (d' := d - 1) (mc' := 0) (ms' := 0) (As := [_, _, _]) dX12_entry_25 k_1700 cm_X12_isIn (by omega) (Nat.le_of_ble_eq_true rfl) rfl ⟨Nat.le_refl _, Nat.le_refl _⟩ ?_
    refine s_X12_isIn (by omega) (fun c25_6 => ?_) (fun c25_7 c25_8 => ?_) (fun c25_9 c25_10 => ?_)
    · dsimp only [Option.toList, List.cons_append, List.nil_append, Nat.add_zero]
      refine v_if_eq_t (tgt := 41) dX12_entry_28 (by decide) (by decide) ?_
      refine v_iconst dX12_entry_41 (c32 rfl) ?_
      refine v_ireti dX12_entry_42 rfl (Nat.le_refl _) (Nat.le_refl _) ?_
      exact q_3 c7_4 c7_5 c25_6
    · dsimp only [Option.toList, List.cons_append, List.nil_append, Nat.add_zero]
      refine v_if_eq_t (tgt := 41) dX12_entry_28 (by decide) (by decide) ?_
      refine v_iconst dX12_entry_41 (c32 rfl) ?_
      refine v_ireti dX12_entry_42 rfl (Nat.le_refl _) (Nat.le_refl _) ?_
      exact q_4 c7_4 c7_5 c25_7 c25_8
    · dsimp only [Option.toList, List.cons_append, List.nil_append, Nat.add_zero]
      refine v_if_eq_f (tgt := 41) dX12_entry_28 (by decide) (by decide) ?_
      refine v_iload_n dX12_entry_31 rfl ?_
      refine v_i2l dX12_entry_32 ?_
      refine v_lconst (z := 0) dX12_entry_33 (c64 rfl) (by decide) ?_
      refine v_lconst (z := 1) dX12_entry_34 (c64 rfl) (by decide) ?_
      refine v_calls (M' := mX12_isIn) (d' := d - 1) (mc' := 0) (ms' := 0) (As := [_, _, _]) dX12_entry_35 k_1700 cm_X12_isIn (by omega) (Nat.le_of_ble_eq_true rfl) rfl ⟨Nat.le_refl _, Nat.le_refl _⟩ ?_
      refine s_X12_isIn (by omega) (fun c35_11 => ?_) (fun c35_12 c35_13 => ?_) (fun c35_14 c35_15 => ?_)
      · dsimp only [Option.toList, List.cons_append, List.nil_append, Nat.add_zero]
        refine v_if_ne_f (tgt := 43) dX12_entry_38 (by decide) (by decide) ?_
        refine v_iconst dX12_entry_41 (c32 rfl) ?_
        refine v_ireti dX12_entry_42 rfl (Nat.le_refl _) (Nat.le_refl _) ?_
        exact q_5 c7_4 c7_5 c25_9 c25_10 c35_11
      · dsimp only [Option.toList, List.cons_append, List.nil_append, Nat.add_zero]
        refine v_if_ne_f (tgt := 43) dX12_entry_38 (by decide) (by decide) ?_
        refine v_iconst dX12_entry_41 (c32 rfl) ?_
        refine v_ireti dX12_entry_42 rfl (Nat.le_refl _) (Nat.le_refl _) ?_
        exact q_6 c7_4 c7_5 c25_9 c25_10 c35_12 c35_13
      · dsimp only [Option.toList, List.cons_append, List.nil_append, Nat.add_zero]
        refine v_if_ne_t (tgt := 43) dX12_entry_38 (by decide) (by decide) ?_
        refine v_iload_n dX12_entry_43 rfl ?_
        refine v_if_ne (tgt := 61) dX12_entry_44 (by decide) (fun c44_16 => ?_) (fun c44_16 => ?_)
        · refine v_aload_n dX12_entry_61 rfl ?_
          refine v_getr (ci := 12) (j := 36) (ji := 36) (z := 139) dX12_entry_62 k_1452 (by decide) kk_116 (by decide) rfl rfl (fun r => rt_116_36 (r rfl)) (by decide) ?_
          refine v_bipush dX12_entry_65 (c32 rfl) (by decide) ?_
          refine v_iload_n dX12_entry_67 rfl ?_
          refine v_imulE dX12_entry_68 (by omega) ?_
          refine v_iload_n dX12_entry_69 rfl ?_
          refine v_iaddE dX12_entry_70 (by omega) ?_
          refine v_ialoadv dX12_entry_71 (by decide) kk_139 (by omega) (by omega) (hset_c (by decide)) ?_
          refine v_ireti dX12_entry_72 rfl (Nat.le_refl _) (Nat.le_refl _) ?_
          exact q_7 c7_4 c7_5 c25_9 c25_10 c35_14 c35_15 c44_16
        · refine v_aload_n dX12_entry_47 rfl ?_
          refine v_getr (ci := 12) (j := 35) (ji := 35) (z := 138) dX12_entry_48 k_1451 (by decide) kk_116 (by decide) rfl rfl (fun r => rt_116_35 (r rfl)) (by decide) ?_
          refine v_bipush dX12_entry_51 (c32 rfl) (by decide) ?_
          refine v_iload_n dX12_entry_53 rfl ?_
          refine v_imulE dX12_entry_54 (by omega) ?_
          refine v_iload_n dX12_entry_55 rfl ?_
          refine v_iaddE dX12_entry_56 (by omega) ?_
          refine v_ialoadv dX12_entry_57 (by decide) kk_138 (by omega) (by omega) (hset_c (by decide)) ?_
          refine v_goto (tgt := 72) dX12_entry_58 (by decide) ?_
          refine v_ireti dX12_entry_72 rfl (Nat.le_refl _) (Nat.le_refl _) ?_
          exact q_8 c7_4 c7_5 c25_9 c25_10 c35_14 c35_15 c44_16

set_option maxHeartbeats 4000000 in
set_option maxRecDepth 100000 in
theorem s_X12_ship {l : Launch} {G : GG} {d : Nat} {h : AH} {Q : Option AV → List Kd → AH → Prop} {p0 p1 p2 p3 p4 : Int} (hd : 3 ≤ d) (z0 : 0 ≤ (h 116 45)) (c0 : (h 116 45) ≤ 100) (z1 : 0 ≤ (h 116 65)) (c1 : (h 116 65) ≤ 100)
    (q_1 : (h 116 65) = 100 → Q (some (0, (-1))) K0 (hset h 116 0 0))
    (q_2 : (h 116 65) ≠ 100 → p0 < 0 → Q (some (0, (-1))) K0 (hset h 116 0 0))
    (q_3 : (h 116 65) ≠ 100 → 0 ≤ p0 → (h 116 45) ≤ p0 → Q (some (0, (-1))) K0 (hset h 116 0 0))
    (q_4 : (h 116 65) ≠ 100 → 0 ≤ p0 → p0 < (h 116 45) → p1 < 1 → Q (some (0, (-1))) K0 (hset h 116 0 0))
    (q_5 : (h 116 65) ≠ 100 → 0 ≤ p0 → p0 < (h 116 45) → 1 ≤ p1 → (h 133 p0) < p1 → Q (some (0, (-1))) K0 (hset h 116 0 0))
    (q_6 : (h 116 65) ≠ 100 → 0 ≤ p0 → p0 < (h 116 45) → 1 ≤ p1 → p1 ≤ (h 133 p0) → p2 < 0 → Q (some (0, (-1))) K0 (hset h 116 0 0))
    (q_7 : (h 116 65) ≠ 100 → 0 ≤ p0 → p0 < (h 116 45) → 1 ≤ p1 → p1 ≤ (h 133 p0) → 0 ≤ p2 → 7 < p2 → Q (some (0, (-1))) K0 (hset h 116 0 0))
    (q_8 : (h 116 65) ≠ 100 → 0 ≤ p0 → p0 < (h 116 45) → 1 ≤ p1 → p1 ≤ (h 133 p0) → 0 ≤ p2 → p2 ≤ 7 → p3 < (-1) → Q (some (0, (-1))) K0 (hset h 116 0 0))
    (q_9 : (h 116 65) ≠ 100 → 0 ≤ p0 → p0 < (h 116 45) → 1 ≤ p1 → p1 ≤ (h 133 p0) → 0 ≤ p2 → p2 ≤ 7 → (-1) ≤ p3 → 3 < p3 → Q (some (0, (-1))) K0 (hset h 116 0 0))
    (q_10 : (h 116 65) ≠ 100 → 0 ≤ p0 → p0 < (h 116 45) → 1 ≤ p1 → p1 ≤ (h 133 p0) → 0 ≤ p2 → p2 ≤ 7 → (-1) ≤ p3 → p3 ≤ 3 → p4 < 0 → Q (some (0, (-1))) K0 (hset h 116 0 0))
    (q_11 : (h 116 65) ≠ 100 → 0 ≤ p0 → p0 < (h 116 45) → 1 ≤ p1 → p1 ≤ (h 133 p0) → 0 ≤ p2 → p2 ≤ 7 → (-1) ≤ p3 → p3 ≤ 3 → 0 ≤ p4 → 400 < p4 → Q (some (0, (-1))) K0 (hset h 116 0 0))
    (q_12 : (h 116 65) ≠ 100 → 0 ≤ p0 → p0 < (h 116 45) → 1 ≤ p1 → p1 ≤ (h 133 p0) → 0 ≤ p2 → p2 ≤ 7 → (-1) ≤ p3 → p3 ≤ 3 → 0 ≤ p4 → p4 ≤ 400 → Q (some (0, (((h 116 65) + 1) - 1))) K0 (hset (hset (hset (hset (hset (hset (hset (hset (hset h 116 0 0) 133 p0 (isub (h 133 p0) p1)) 150 (h 116 65) p0) 151 (h 116 65) p1) 152 (h 116 65) p2) 153 (h 116 65) p3) 154 (h 116 65) p4) 155 (h 116 65) (h 116 1)) 116 65 ((h 116 65) + 1))) : Sp l G mX12_ship d 0 0 K0 [(2, 116), (0, p0), (0, p1), (0, p2), (0, p3), (0, p4)] h Q := by
  refine sp_of (L := [(2, 116), (0, p0), (0, p1), (0, p2), (0, p3), (0, p4)]) pl_X12 (Nat.le_of_ble_eq_true rfl) (tg_c (by decide) (tg_c (by decide) (tg_c (by decide) (tg_c (by decide) (tg_c (by decide) (tg_c (by decide) tg_0)))))) rfl ?_
  refine v_aload_n dX12_ship_0 rfl ?_
  refine v_iconst dX12_ship_1 (c32 rfl) ?_
  refine v_puti (ci := 12) (j := 0) (ji := 0) dX12_ship_2 k_1416 (by decide) kk_116 (by decide) rfl rfl rfl ?_
  refine v_aload_n dX12_ship_5 rfl ?_
  refine v_getv (ci := 12) (j := 65) (ji := 65) (tg := 0) dX12_ship_6 k_1481 (by decide) kk_116 (by decide) rfl rfl (by decide) (hset_j (by decide)) ?_
  refine v_bipush dX12_ship_9 (c32 rfl) (by decide) ?_
  refine v_icmp_eq (tgt := 58) dX12_ship_11 (by decide) (fun c11_1 => ?_) (fun c11_1 => ?_)
  · refine v_iconst dX12_ship_58 (c32 rfl) ?_
    refine v_ireti dX12_ship_59 rfl (Nat.le_refl _) (Nat.le_refl _) ?_
    exact q_1 c11_1
  · refine v_aload_n dX12_ship_14 rfl ?_
    refine v_iload_n dX12_ship_15 rfl ?_
    refine v_iload_n dX12_ship_16 rfl ?_
    refine v_callv (M' := mX12_has) (d' := d - 1) (mc' := 0) (ms' := 0) (ci := 12) (c := 116) (As := [_, _]) dX12_ship_17 k_1857 cm_X12_has rfl (by omega) (by decide) kk_116 (Nat.le_of_ble_eq_true rfl) rfl ⟨Nat.le_refl _, Nat.le_refl _⟩ ?_
    refine s_X12_has (by omega) (by rw [show (hset h 116 0 0) 116 45 = (h 116 45) from (hset_j (by decide))]; omega) (by rw [show (hset h 116 0 0) 116 45 = (h 116 45) from (hset_j (by decide))]; omega) (fun c17_2 => ?_) (fun c17_3 c17_4 => ?_) (fun c17_5 c17_6 c17_7 => ?_) (fun c17_8 c17_9 c17_10 c17_11 => ?_) (fun c17_12 c17_13 c17_14 c17_15 => ?_)
    · dsimp only [Option.toList, List.cons_append, List.nil_append, Nat.add_zero]
      refine v_if_eq_t (tgt := 58) dX12_ship_20 (by decide) (by decide) ?_
      refine v_iconst dX12_ship_58 (c32 rfl) ?_
      refine v_ireti dX12_ship_59 rfl (Nat.le_refl _) (Nat.le_refl _) ?_
      exact q_2 c11_1 c17_2
    · dsimp only [Option.toList, List.cons_append, List.nil_append, Nat.add_zero]
      rw [show (hset h 116 0 0) 116 45 = (h 116 45) from (hset_j (by decide))] at c17_4
      refine v_if_eq_t (tgt := 58) dX12_ship_20 (by decide) (by decide) ?_
      refine v_iconst dX12_ship_58 (c32 rfl) ?_
      refine v_ireti dX12_ship_59 rfl (Nat.le_refl _) (Nat.le_refl _) ?_
      exact q_3 c11_1 c17_3 c17_4
    · dsimp only [Option.toList, List.cons_append, List.nil_append, Nat.add_zero]
      rw [show (hset h 116 0 0) 116 45 = (h 116 45) from (hset_j (by decide))] at c17_6
      refine v_if_eq_t (tgt := 58) dX12_ship_20 (by decide) (by decide) ?_
      refine v_iconst dX12_ship_58 (c32 rfl) ?_
      refine v_ireti dX12_ship_59 rfl (Nat.le_refl _) (Nat.le_refl _) ?_
      exact q_4 c11_1 c17_5 c17_6 c17_7
    · dsimp only [Option.toList, List.cons_append, List.nil_append, Nat.add_zero]
      rw [show (hset h 116 0 0) 116 45 = (h 116 45) from (hset_j (by decide))] at c17_9
      rw [show (hset h 116 0 0) 133 p0 = (h 133 p0) from (hset_c (by decide))] at c17_11
      refine v_if_eq_t (tgt := 58) dX12_ship_20 (by decide) (by decide) ?_
      refine v_iconst dX12_ship_58 (c32 rfl) ?_
      refine v_ireti dX12_ship_59 rfl (Nat.le_refl _) (Nat.le_refl _) ?_
      exact q_5 c11_1 c17_8 c17_9 c17_10 c17_11
    · dsimp only [Option.toList, List.cons_append, List.nil_append, Nat.add_zero]
      rw [show (hset h 116 0 0) 116 45 = (h 116 45) from (hset_j (by decide))] at c17_13
      rw [show (hset h 116 0 0) 133 p0 = (h 133 p0) from (hset_c (by decide))] at c17_15
      refine v_if_eq_f (tgt := 58) dX12_ship_20 (by decide) (by decide) ?_
      refine v_iload_n dX12_ship_23 rfl ?_
      refine v_calls (M' := mX12_isLand) (d' := d - 1) (mc' := 0) (ms' := 0) (As := [_]) dX12_ship_24 k_1832 cm_X12_isLand (by omega) (Nat.le_of_ble_eq_true rfl) rfl ⟨Nat.le_refl _, Nat.le_refl _⟩ ?_
      refine s_X12_isLand (by omega) (fun c24_16 => ?_) (fun c24_17 c24_18 => ?_) (fun c24_19 c24_20 => ?_)
      · dsimp only [Option.toList, List.cons_append, List.nil_append, Nat.add_zero]
        refine v_if_eq_t (tgt := 58) dX12_ship_27 (by decide) (by decide) ?_
        refine v_iconst dX12_ship_58 (c32 rfl) ?_
        refine v_ireti dX12_ship_59 rfl (Nat.le_refl _) (Nat.le_refl _) ?_
        exact q_6 c11_1 c17_12 c17_13 c17_14 c17_15 c24_16
      · dsimp only [Option.toList, List.cons_append, List.nil_append, Nat.add_zero]
        refine v_if_eq_t (tgt := 58) dX12_ship_27 (by decide) (by decide) ?_
        refine v_iconst dX12_ship_58 (c32 rfl) ?_
        refine v_ireti dX12_ship_59 rfl (Nat.le_refl _) (Nat.le_refl _) ?_
        exact q_7 c11_1 c17_12 c17_13 c17_14 c17_15 c24_17 c24_18
      · dsimp only [Option.toList, List.cons_append, List.nil_append, Nat.add_zero]
        refine v_if_eq_f (tgt := 58) dX12_ship_27 (by decide) (by decide) ?_
        refine v_iload dX12_ship_30 rfl ?_
        refine v_i2l dX12_ship_32 ?_
        refine v_ldc2 (n := -1) dX12_ship_33 k_1957 (c64 rfl) (by decide) ?_
        refine v_ldc2 (n := 3) dX12_ship_36 k_1710 (c64 rfl) (by decide) ?_
        refine v_calls (M' := mX12_isIn) (d' := d - 1) (mc' := 0) (ms' := 0) (As := [_, _, _]) dX12_ship_39 k_1700 cm_X12_isIn (by omega) (Nat.le_of_ble_eq_true rfl) rfl ⟨Nat.le_refl _, Nat.le_refl _⟩ ?_
        refine s_X12_isIn (by omega) (fun c39_21 => ?_) (fun c39_22 c39_23 => ?_) (fun c39_24 c39_25 => ?_)
        · dsimp only [Option.toList, List.cons_append, List.nil_append, Nat.add_zero]
          refine v_if_eq_t (tgt := 58) dX12_ship_42 (by decide) (by decide) ?_
          refine v_iconst dX12_ship_58 (c32 rfl) ?_
          refine v_ireti dX12_ship_59 rfl (Nat.le_refl _) (Nat.le_refl _) ?_
          exact q_8 c11_1 c17_12 c17_13 c17_14 c17_15 c24_19 c24_20 c39_21
        · dsimp only [Option.toList, List.cons_append, List.nil_append, Nat.add_zero]
          refine v_if_eq_t (tgt := 58) dX12_ship_42 (by decide) (by decide) ?_
          refine v_iconst dX12_ship_58 (c32 rfl) ?_
          refine v_ireti dX12_ship_59 rfl (Nat.le_refl _) (Nat.le_refl _) ?_
          exact q_9 c11_1 c17_12 c17_13 c17_14 c17_15 c24_19 c24_20 c39_22 c39_23
        · dsimp only [Option.toList, List.cons_append, List.nil_append, Nat.add_zero]
          refine v_if_eq_f (tgt := 58) dX12_ship_42 (by decide) (by decide) ?_
          refine v_iload dX12_ship_45 rfl ?_
          refine v_i2l dX12_ship_47 ?_
          refine v_lconst (z := 0) dX12_ship_48 (c64 rfl) (by decide) ?_
          refine v_ldc2 (n := 400) dX12_ship_49 k_1958 (c64 rfl) (by decide) ?_
          refine v_calls (M' := mX12_isIn) (d' := d - 1) (mc' := 0) (ms' := 0) (As := [_, _, _]) dX12_ship_52 k_1700 cm_X12_isIn (by omega) (Nat.le_of_ble_eq_true rfl) rfl ⟨Nat.le_refl _, Nat.le_refl _⟩ ?_
          refine s_X12_isIn (by omega) (fun c52_26 => ?_) (fun c52_27 c52_28 => ?_) (fun c52_29 c52_30 => ?_)
          · dsimp only [Option.toList, List.cons_append, List.nil_append, Nat.add_zero]
            refine v_if_ne_f (tgt := 60) dX12_ship_55 (by decide) (by decide) ?_
            refine v_iconst dX12_ship_58 (c32 rfl) ?_
            refine v_ireti dX12_ship_59 rfl (Nat.le_refl _) (Nat.le_refl _) ?_
            exact q_10 c11_1 c17_12 c17_13 c17_14 c17_15 c24_19 c24_20 c39_24 c39_25 c52_26
          · dsimp only [Option.toList, List.cons_append, List.nil_append, Nat.add_zero]
            refine v_if_ne_f (tgt := 60) dX12_ship_55 (by decide) (by decide) ?_
            refine v_iconst dX12_ship_58 (c32 rfl) ?_
            refine v_ireti dX12_ship_59 rfl (Nat.le_refl _) (Nat.le_refl _) ?_
            exact q_11 c11_1 c17_12 c17_13 c17_14 c17_15 c24_19 c24_20 c39_24 c39_25 c52_27 c52_28
          · dsimp only [Option.toList, List.cons_append, List.nil_append, Nat.add_zero]
            refine v_if_ne_t (tgt := 60) dX12_ship_55 (by decide) (by decide) ?_
            refine v_aload_n dX12_ship_60 rfl ?_
            refine v_getr (ci := 12) (j := 30) (ji := 30) (z := 133) dX12_ship_61 k_1446 (by decide) kk_116 (by decide) rfl rfl (fun r => rt_116_30 (r rfl)) (by decide) ?_
            refine v_iload_n dX12_ship_64 rfl ?_
            refine v_dup2 dX12_ship_65 rfl rfl ?_
            refine v_ialoadv dX12_ship_66 (by decide) kk_133 (by omega) (by omega) (hset_c (by decide)) ?_
            refine v_iload_n dX12_ship_67 rfl ?_
            refine v_isub dX12_ship_68 ?_
            refine v_iastore dX12_ship_69 (by decide) kk_133 (by omega) (by omega) ?_
            refine v_aload_n dX12_ship_70 rfl ?_
            refine v_getr (ci := 12) (j := 51) (ji := 51) (z := 150) dX12_ship_71 k_1467 (by decide) kk_116 (by decide) rfl rfl (fun r => rt_116_51 (r rfl)) (by decide) ?_
            refine v_aload_n dX12_ship_74 rfl ?_
            refine v_getv (ci := 12) (j := 65) (ji := 65) (tg := 0) dX12_ship_75 k_1481 (by decide) kk_116 (by decide) rfl rfl (by decide) ((hset_c (by decide)).trans (hset_j (by decide))) ?_
            refine v_iload_n dX12_ship_78 rfl ?_
            refine v_iastore dX12_ship_79 (by decide) kk_150 (by omega) (by omega) ?_
            refine v_aload_n dX12_ship_80 rfl ?_
            refine v_getr (ci := 12) (j := 52) (ji := 52) (z := 151) dX12_ship_81 k_1468 (by decide) kk_116 (by decide) rfl rfl (fun r => rt_116_52 (r rfl)) (by decide) ?_
            refine v_aload_n dX12_ship_84 rfl ?_
            refine v_getv (ci := 12) (j := 65) (ji := 65) (tg := 0) dX12_ship_85 k_1481 (by decide) kk_116 (by decide) rfl rfl (by decide) ((hset_c (by decide)).trans ((hset_c (by decide)).trans (hset_j (by decide)))) ?_
            refine v_iload_n dX12_ship_88 rfl ?_
            refine v_iastore dX12_ship_89 (by decide) kk_151 (by omega) (by omega) ?_
            refine v_aload_n dX12_ship_90 rfl ?_
            refine v_getr (ci := 12) (j := 53) (ji := 53) (z := 152) dX12_ship_91 k_1469 (by decide) kk_116 (by decide) rfl rfl (fun r => rt_116_53 (r rfl)) (by decide) ?_
            refine v_aload_n dX12_ship_94 rfl ?_
            refine v_getv (ci := 12) (j := 65) (ji := 65) (tg := 0) dX12_ship_95 k_1481 (by decide) kk_116 (by decide) rfl rfl (by decide) ((hset_c (by decide)).trans ((hset_c (by decide)).trans ((hset_c (by decide)).trans (hset_j (by decide))))) ?_
            refine v_iload_n dX12_ship_98 rfl ?_
            refine v_iastore dX12_ship_99 (by decide) kk_152 (by omega) (by omega) ?_
            refine v_aload_n dX12_ship_100 rfl ?_
            refine v_getr (ci := 12) (j := 54) (ji := 54) (z := 153) dX12_ship_101 k_1470 (by decide) kk_116 (by decide) rfl rfl (fun r => rt_116_54 (r rfl)) (by decide) ?_
            refine v_aload_n dX12_ship_104 rfl ?_
            refine v_getv (ci := 12) (j := 65) (ji := 65) (tg := 0) dX12_ship_105 k_1481 (by decide) kk_116 (by decide) rfl rfl (by decide) ((hset_c (by decide)).trans ((hset_c (by decide)).trans ((hset_c (by decide)).trans ((hset_c (by decide)).trans (hset_j (by decide)))))) ?_
            refine v_iload dX12_ship_108 rfl ?_
            refine v_iastore dX12_ship_110 (by decide) kk_153 (by omega) (by omega) ?_
            refine v_aload_n dX12_ship_111 rfl ?_
            refine v_getr (ci := 12) (j := 55) (ji := 55) (z := 154) dX12_ship_112 k_1471 (by decide) kk_116 (by decide) rfl rfl (fun r => rt_116_55 (r rfl)) (by decide) ?_
            refine v_aload_n dX12_ship_115 rfl ?_
            refine v_getv (ci := 12) (j := 65) (ji := 65) (tg := 0) dX12_ship_116 k_1481 (by decide) kk_116 (by decide) rfl rfl (by decide) ((hset_c (by decide)).trans ((hset_c (by decide)).trans ((hset_c (by decide)).trans ((hset_c (by decide)).trans ((hset_c (by decide)).trans (hset_j (by decide))))))) ?_
            refine v_iload dX12_ship_119 rfl ?_
            refine v_iastore dX12_ship_121 (by decide) kk_154 (by omega) (by omega) ?_
            refine v_aload_n dX12_ship_122 rfl ?_
            refine v_getr (ci := 12) (j := 56) (ji := 56) (z := 155) dX12_ship_123 k_1472 (by decide) kk_116 (by decide) rfl rfl (fun r => rt_116_56 (r rfl)) (by decide) ?_
            refine v_aload_n dX12_ship_126 rfl ?_
            refine v_getv (ci := 12) (j := 65) (ji := 65) (tg := 0) dX12_ship_127 k_1481 (by decide) kk_116 (by decide) rfl rfl (by decide) ((hset_c (by decide)).trans ((hset_c (by decide)).trans ((hset_c (by decide)).trans ((hset_c (by decide)).trans ((hset_c (by decide)).trans ((hset_c (by decide)).trans (hset_j (by decide)))))))) ?_
            refine v_aload_n dX12_ship_130 rfl ?_
            refine v_getv (ci := 12) (j := 1) (ji := 1) (tg := 0) dX12_ship_131 k_1417 (by decide) kk_116 (by decide) rfl rfl (by decide) ((hset_c (by decide)).trans ((hset_c (by decide)).trans ((hset_c (by decide)).trans ((hset_c (by decide)).trans ((hset_c (by decide)).trans ((hset_c (by decide)).trans (hset_j (by decide)))))))) ?_
            refine v_iastore dX12_ship_134 (by decide) kk_155 (by omega) (by omega) ?_
            refine v_aload_n dX12_ship_135 rfl ?_
            refine v_dup dX12_ship_136 rfl ?_
            refine v_getv (ci := 12) (j := 65) (ji := 65) (tg := 0) dX12_ship_137 k_1481 (by decide) kk_116 (by decide) rfl rfl (by decide) ((hset_c (by decide)).trans ((hset_c (by decide)).trans ((hset_c (by decide)).trans ((hset_c (by decide)).trans ((hset_c (by decide)).trans ((hset_c (by decide)).trans ((hset_c (by decide)).trans (hset_j (by decide))))))))) ?_
            refine v_iconst dX12_ship_140 (c32 rfl) ?_
            refine v_iaddE dX12_ship_141 (by omega) ?_
            refine v_puti (ci := 12) (j := 65) (ji := 65) dX12_ship_142 k_1481 (by decide) kk_116 (by decide) rfl rfl rfl ?_
            refine v_aload_n dX12_ship_145 rfl ?_
            refine v_getv (ci := 12) (j := 65) (ji := 65) (tg := 0) dX12_ship_146 k_1481 (by decide) kk_116 (by decide) rfl rfl (by decide) (hset_same _ _ _ _) ?_
            refine v_iconst dX12_ship_149 (c32 rfl) ?_
            refine v_isubE dX12_ship_150 (by omega) ?_
            refine v_ireti dX12_ship_151 rfl (Nat.le_refl _) (Nat.le_refl _) ?_
            exact q_12 c11_1 c17_12 c17_13 c17_14 c17_15 c24_19 c24_20 c39_24 c39_25 c52_29 c52_30

set_option maxHeartbeats 4000000 in
set_option maxRecDepth 100000 in
theorem s_X12_paper {l : Launch} {G : GG} {d : Nat} {h : AH} {Q : Option AV → List Kd → AH → Prop} {p0 p1 : Int} (hd : 3 ≤ d) (z0 : 0 ≤ (h 116 65)) (c0 : (h 116 65) ≤ 100) (z1 : 0 ≤ (h 116 66)) (c1 : (h 116 66) ≤ 100)
    (q_1 : (h 116 66) = 100 → Q (some (0, 0)) K0 (hset h 116 0 0))
    (q_2 : (h 116 66) ≠ 100 → p0 < 0 → Q (some (0, 0)) K0 (hset h 116 0 0))
    (q_3 : (h 116 66) ≠ 100 → 0 ≤ p0 → (h 116 65) ≤ p0 → Q (some (0, 0)) K0 (hset h 116 0 0))
    (q_4 : (h 116 66) ≠ 100 → 0 ≤ p0 → p0 < (h 116 65) → p1 < 0 → Q (some (0, 0)) K0 (hset h 116 0 0))
    (q_5 : (h 116 66) ≠ 100 → 0 ≤ p0 → p0 < (h 116 65) → 0 ≤ p1 → 2000 < p1 → Q (some (0, 0)) K0 (hset h 116 0 0))
    (q_6 : (h 116 66) ≠ 100 → 0 ≤ p0 → p0 < (h 116 65) → 0 ≤ p1 → p1 ≤ 2000 → Q (some (0, 1)) K0 (hset (hset (hset (hset (hset h 116 0 0) 156 (h 116 66) p0) 157 (h 116 66) p1) 158 (h 116 66) (h 116 1)) 116 66 ((h 116 66) + 1))) : Sp l G mX12_paper d 0 0 K0 [(2, 116), (0, p0), (0, p1)] h Q := by
  refine sp_of (L := [(2, 116), (0, p0), (0, p1)]) pl_X12 (Nat.le_of_ble_eq_true rfl) (tg_c (by decide) (tg_c (by decide) (tg_c (by decide) tg_0))) rfl ?_
  refine v_aload_n dX12_paper_0 rfl ?_
  refine v_iconst dX12_paper_1 (c32 rfl) ?_
  refine v_puti (ci := 12) (j := 0) (ji := 0) dX12_paper_2 k_1416 (by decide) kk_116 (by decide) rfl rfl rfl ?_
  refine v_aload_n dX12_paper_5 rfl ?_
  refine v_getv (ci := 12) (j := 66) (ji := 66) (tg := 0) dX12_paper_6 k_1482 (by decide) kk_116 (by decide) rfl rfl (by decide) (hset_j (by decide)) ?_
  refine v_bipush dX12_paper_9 (c32 rfl) (by decide) ?_
  refine v_icmp_eq (tgt := 29) dX12_paper_11 (by decide) (fun c11_1 => ?_) (fun c11_1 => ?_)
  · refine v_iconst dX12_paper_29 (c32 rfl) ?_
    refine v_iretz dX12_paper_30 rfl (by decide) (Nat.le_refl _) (Nat.le_refl _) ?_
    exact q_1 c11_1
  · refine v_aload_n dX12_paper_14 rfl ?_
    refine v_iload_n dX12_paper_15 rfl ?_
    refine v_callv (M' := mX12_isShipment) (d' := d - 1) (mc' := 0) (ms' := 0) (ci := 12) (c := 116) (As := [_]) dX12_paper_16 k_1963 cm_X12_isShipment rfl (by omega) (by decide) kk_116 (Nat.le_of_ble_eq_true rfl) rfl ⟨Nat.le_refl _, Nat.le_refl _⟩ ?_
    refine s_X12_isShipment (by omega) (fun c16_2 => ?_) (fun c16_3 c16_4 => ?_) (fun c16_5 c16_6 => ?_)
    · dsimp only [Option.toList, List.cons_append, List.nil_append, Nat.add_zero]
      refine v_if_eq_t (tgt := 29) dX12_paper_19 (by decide) (by decide) ?_
      refine v_iconst dX12_paper_29 (c32 rfl) ?_
      refine v_iretz dX12_paper_30 rfl (by decide) (Nat.le_refl _) (Nat.le_refl _) ?_
      exact q_2 c11_1 c16_2
    · dsimp only [Option.toList, List.cons_append, List.nil_append, Nat.add_zero]
      rw [show (hset h 116 0 0) 116 65 = (h 116 65) from (hset_j (by decide))] at c16_4
      refine v_if_eq_t (tgt := 29) dX12_paper_19 (by decide) (by decide) ?_
      refine v_iconst dX12_paper_29 (c32 rfl) ?_
      refine v_iretz dX12_paper_30 rfl (by decide) (Nat.le_refl _) (Nat.le_refl _) ?_
      exact q_3 c11_1 c16_3 c16_4
    · dsimp only [Option.toList, List.cons_append, List.nil_append, Nat.add_zero]
      rw [show (hset h 116 0 0) 116 65 = (h 116 65) from (hset_j (by decide))] at c16_6
      refine v_if_eq_f (tgt := 29) dX12_paper_19 (by decide) (by decide) ?_
      refine v_iload_n dX12_paper_22 rfl ?_
      refine v_calls (M' := mX12_isDay) (d' := d - 1) (mc' := 0) (ms' := 0) (As := [_]) dX12_paper_23 k_1712 cm_X12_isDay (by omega) (Nat.le_of_ble_eq_true rfl) rfl ⟨Nat.le_refl _, Nat.le_refl _⟩ ?_
      refine s_X12_isDay (by omega) (fun c23_7 => ?_) (fun c23_8 c23_9 => ?_) (fun c23_10 c23_11 => ?_)
      · dsimp only [Option.toList, List.cons_append, List.nil_append, Nat.add_zero]
        refine v_if_ne_f (tgt := 31) dX12_paper_26 (by decide) (by decide) ?_
        refine v_iconst dX12_paper_29 (c32 rfl) ?_
        refine v_iretz dX12_paper_30 rfl (by decide) (Nat.le_refl _) (Nat.le_refl _) ?_
        exact q_4 c11_1 c16_5 c16_6 c23_7
      · dsimp only [Option.toList, List.cons_append, List.nil_append, Nat.add_zero]
        refine v_if_ne_f (tgt := 31) dX12_paper_26 (by decide) (by decide) ?_
        refine v_iconst dX12_paper_29 (c32 rfl) ?_
        refine v_iretz dX12_paper_30 rfl (by decide) (Nat.le_refl _) (Nat.le_refl _) ?_
        exact q_5 c11_1 c16_5 c16_6 c23_8 c23_9
      · dsimp only [Option.toList, List.cons_append, List.nil_append, Nat.add_zero]
        refine v_if_ne_t (tgt := 31) dX12_paper_26 (by decide) (by decide) ?_
        refine v_aload_n dX12_paper_31 rfl ?_
        refine v_getr (ci := 12) (j := 57) (ji := 57) (z := 156) dX12_paper_32 k_1473 (by decide) kk_116 (by decide) rfl rfl (fun r => rt_116_57 (r rfl)) (by decide) ?_
        refine v_aload_n dX12_paper_35 rfl ?_
        refine v_getv (ci := 12) (j := 66) (ji := 66) (tg := 0) dX12_paper_36 k_1482 (by decide) kk_116 (by decide) rfl rfl (by decide) (hset_j (by decide)) ?_
        refine v_iload_n dX12_paper_39 rfl ?_
        refine v_iastore dX12_paper_40 (by decide) kk_156 (by omega) (by omega) ?_
        refine v_aload_n dX12_paper_41 rfl ?_
        refine v_getr (ci := 12) (j := 58) (ji := 58) (z := 157) dX12_paper_42 k_1474 (by decide) kk_116 (by decide) rfl rfl (fun r => rt_116_58 (r rfl)) (by decide) ?_
        refine v_aload_n dX12_paper_45 rfl ?_
        refine v_getv (ci := 12) (j := 66) (ji := 66) (tg := 0) dX12_paper_46 k_1482 (by decide) kk_116 (by decide) rfl rfl (by decide) ((hset_c (by decide)).trans (hset_j (by decide))) ?_
        refine v_iload_n dX12_paper_49 rfl ?_
        refine v_iastore dX12_paper_50 (by decide) kk_157 (by omega) (by omega) ?_
        refine v_aload_n dX12_paper_51 rfl ?_
        refine v_getr (ci := 12) (j := 59) (ji := 59) (z := 158) dX12_paper_52 k_1475 (by decide) kk_116 (by decide) rfl rfl (fun r => rt_116_59 (r rfl)) (by decide) ?_
        refine v_aload_n dX12_paper_55 rfl ?_
        refine v_getv (ci := 12) (j := 66) (ji := 66) (tg := 0) dX12_paper_56 k_1482 (by decide) kk_116 (by decide) rfl rfl (by decide) ((hset_c (by decide)).trans ((hset_c (by decide)).trans (hset_j (by decide)))) ?_
        refine v_aload_n dX12_paper_59 rfl ?_
        refine v_getv (ci := 12) (j := 1) (ji := 1) (tg := 0) dX12_paper_60 k_1417 (by decide) kk_116 (by decide) rfl rfl (by decide) ((hset_c (by decide)).trans ((hset_c (by decide)).trans (hset_j (by decide)))) ?_
        refine v_iastore dX12_paper_63 (by decide) kk_158 (by omega) (by omega) ?_
        refine v_aload_n dX12_paper_64 rfl ?_
        refine v_dup dX12_paper_65 rfl ?_
        refine v_getv (ci := 12) (j := 66) (ji := 66) (tg := 0) dX12_paper_66 k_1482 (by decide) kk_116 (by decide) rfl rfl (by decide) ((hset_c (by decide)).trans ((hset_c (by decide)).trans ((hset_c (by decide)).trans (hset_j (by decide))))) ?_
        refine v_iconst dX12_paper_69 (c32 rfl) ?_
        refine v_iaddE dX12_paper_70 (by omega) ?_
        refine v_puti (ci := 12) (j := 66) (ji := 66) dX12_paper_71 k_1482 (by decide) kk_116 (by decide) rfl rfl rfl ?_
        refine v_iconst dX12_paper_74 (c32 rfl) ?_
        refine v_iretz dX12_paper_75 rfl (by decide) (Nat.le_refl _) (Nat.le_refl _) ?_
        exact q_6 c11_1 c16_5 c16_6 c23_10 c23_11

set_option maxHeartbeats 4000000 in
set_option maxRecDepth 100000 in
theorem s_X12_line {l : Launch} {G : GG} {d : Nat} {h : AH} {Q : Option AV → List Kd → AH → Prop} {p0 p1 : Int} (hd : 3 ≤ d) (z0 : 0 ≤ (h 116 67)) (c0 : (h 116 67) ≤ 400)
    (q_1 : p0 < 0 → Q (some (1, (-1000000000000))) K0 (hset h 116 0 0))
    (q_2 : 0 ≤ p0 → ((h 116 67) - 1) < p0 → Q (some (1, (-1000000000000))) K0 (hset h 116 0 0))
    (q_3 : 0 ≤ p0 → p0 ≤ ((h 116 67) - 1) → p1 ≠ 0 → p1 ≠ 1 → p1 ≠ 2 → Q (some (1, (-1000000000000))) K0 (hset h 116 0 0))
    (q_4 : 0 ≤ p0 → p0 ≤ ((h 116 67) - 1) → p1 ≠ 0 → p1 ≠ 1 → p1 = 2 → Q (some (1, (h 163 p0))) K0 (hset h 116 0 0))
    (q_5 : 0 ≤ p0 → p0 ≤ ((h 116 67) - 1) → p1 ≠ 0 → p1 = 1 → Q (some (1, (h 161 p0))) K0 (hset h 116 0 0))
    (q_6 : 0 ≤ p0 → p0 ≤ ((h 116 67) - 1) → p1 = 0 → Q (some (1, (h 162 p0))) K0 (hset h 116 0 0)) : Sp l G mX12_line d 0 0 K0 [(2, 116), (0, p0), (0, p1)] h Q := by
  refine sp_of (L := [(2, 116), (0, p0), (0, p1)]) pl_X12 (Nat.le_of_ble_eq_true rfl) (tg_c (by decide) (tg_c (by decide) (tg_c (by decide) tg_0))) rfl ?_
  refine v_aload_n dX12_line_0 rfl ?_
  refine v_iconst dX12_line_1 (c32 rfl) ?_
  refine v_puti (ci := 12) (j := 0) (ji := 0) dX12_line_2 k_1416 (by decide) kk_116 (by decide) rfl rfl rfl ?_
  refine v_iload_n dX12_line_5 rfl ?_
  refine v_i2l dX12_line_6 ?_
  refine v_lconst (z := 0) dX12_line_7 (c64 rfl) (by decide) ?_
  refine v_aload_n dX12_line_8 rfl ?_
  refine v_getv (ci := 12) (j := 67) (ji := 67) (tg := 0) dX12_line_9 k_1483 (by decide) kk_116 (by decide) rfl rfl (by decide) (hset_j (by decide)) ?_
  refine v_iconst dX12_line_12 (c32 rfl) ?_
  refine v_isubE dX12_line_13 (by omega) ?_
  refine v_i2l dX12_line_14 ?_
  refine v_calls (M' := mX12_isIn) (d' := d - 1) (mc' := 0) (ms' := 0) (As := [_, _, _]) dX12_line_15 k_1700 cm_X12_isIn (by omega) (Nat.le_of_ble_eq_true rfl) rfl ⟨Nat.le_refl _, Nat.le_refl _⟩ ?_
  refine s_X12_isIn (by omega) (fun c15_1 => ?_) (fun c15_2 c15_3 => ?_) (fun c15_4 c15_5 => ?_)
  · dsimp only [Option.toList, List.cons_append, List.nil_append, Nat.add_zero]
    refine v_if_ne_f (tgt := 25) dX12_line_18 (by decide) (by decide) ?_
    refine v_ldc2 (n := -1000000000000) dX12_line_21 k_2016 (c64 rfl) (by decide) ?_
    refine v_lret dX12_line_24 rfl (Nat.le_refl _) (Nat.le_refl _) ?_
    exact q_1 c15_1
  · dsimp only [Option.toList, List.cons_append, List.nil_append, Nat.add_zero]
    refine v_if_ne_f (tgt := 25) dX12_line_18 (by decide) (by decide) ?_
    refine v_ldc2 (n := -1000000000000) dX12_line_21 k_2016 (c64 rfl) (by decide) ?_
    refine v_lret dX12_line_24 rfl (Nat.le_refl _) (Nat.le_refl _) ?_
    exact q_2 c15_2 c15_3
  · dsimp only [Option.toList, List.cons_append, List.nil_append, Nat.add_zero]
    refine v_if_ne_t (tgt := 25) dX12_line_18 (by decide) (by decide) ?_
    refine v_iload_n dX12_line_25 rfl ?_
    refine v_if_ne (tgt := 39) dX12_line_26 (by decide) (fun c26_6 => ?_) (fun c26_6 => ?_)
    · refine v_iload_n dX12_line_39 rfl ?_
      refine v_iconst dX12_line_40 (c32 rfl) ?_
      refine v_icmp_ne (tgt := 53) dX12_line_41 (by decide) (fun c41_7 => ?_) (fun c41_7 => ?_)
      · refine v_iload_n dX12_line_53 rfl ?_
        refine v_iconst dX12_line_54 (c32 rfl) ?_
        refine v_icmp_ne (tgt := 68) dX12_line_55 (by decide) (fun c55_8 => ?_) (fun c55_8 => ?_)
        · refine v_ldc2 (n := -1000000000000) dX12_line_68 k_2016 (c64 rfl) (by decide) ?_
          refine v_lret dX12_line_71 rfl (Nat.le_refl _) (Nat.le_refl _) ?_
          exact q_3 c15_4 c15_5 c26_6 c41_7 c55_8
        · refine v_aload_n dX12_line_58 rfl ?_
          refine v_getr (ci := 12) (j := 64) (ji := 64) (z := 163) dX12_line_59 k_1480 (by decide) kk_116 (by decide) rfl rfl (fun r => rt_116_64 (r rfl)) (by decide) ?_
          refine v_iload_n dX12_line_62 rfl ?_
          refine v_ialoadv dX12_line_63 (by decide) kk_163 (by omega) (by omega) (hset_c (by decide)) ?_
          refine v_i2l dX12_line_64 ?_
          refine v_goto (tgt := 71) dX12_line_65 (by decide) ?_
          refine v_lret dX12_line_71 rfl (Nat.le_refl _) (Nat.le_refl _) ?_
          exact q_4 c15_4 c15_5 c26_6 c41_7 c55_8
      · refine v_aload_n dX12_line_44 rfl ?_
        refine v_getr (ci := 12) (j := 62) (ji := 62) (z := 161) dX12_line_45 k_1478 (by decide) kk_116 (by decide) rfl rfl (fun r => rt_116_62 (r rfl)) (by decide) ?_
        refine v_iload_n dX12_line_48 rfl ?_
        refine v_laloadv dX12_line_49 (by decide) kk_161 (by omega) (by omega) (hset_c (by decide)) ?_
        refine v_goto (tgt := 71) dX12_line_50 (by decide) ?_
        refine v_lret dX12_line_71 rfl (Nat.le_refl _) (Nat.le_refl _) ?_
        exact q_5 c15_4 c15_5 c26_6 c41_7
    · refine v_aload_n dX12_line_29 rfl ?_
      refine v_getr (ci := 12) (j := 63) (ji := 63) (z := 162) dX12_line_30 k_1479 (by decide) kk_116 (by decide) rfl rfl (fun r => rt_116_63 (r rfl)) (by decide) ?_
      refine v_iload_n dX12_line_33 rfl ?_
      refine v_ialoadv dX12_line_34 (by decide) kk_162 (by omega) (by omega) (hset_c (by decide)) ?_
      refine v_i2l dX12_line_35 ?_
      refine v_goto (tgt := 71) dX12_line_36 (by decide) ?_
      refine v_lret dX12_line_71 rfl (Nat.le_refl _) (Nat.le_refl _) ?_
      exact q_6 c15_4 c15_5 c26_6

set_option maxHeartbeats 4000000 in
set_option maxRecDepth 100000 in
theorem s_X12_word {l : Launch} {G : GG} {d : Nat} {h : AH} {Q : Option AV → List Kd → AH → Prop} {p0 p1 : Int} (hd : 3 ≤ d) (z0 : 0 ≤ (h 116 45)) (c0 : (h 116 45) ≤ 100) (z1 : 0 ≤ (h 116 88)) (c1 : (h 116 88) ≤ 60)
    (q_1 : (h 116 88) = 60 → Q (some (0, (-1))) K0 (hset h 116 0 0))
    (q_2 : (h 116 88) ≠ 60 → p0 < 0 → Q (some (0, (-1))) K0 (hset h 116 0 0))
    (q_3 : (h 116 88) ≠ 60 → 0 ≤ p0 → (h 116 45) ≤ p0 → Q (some (0, (-1))) K0 (hset h 116 0 0))
    (q_4 : (h 116 88) ≠ 60 → 0 ≤ p0 → p0 < (h 116 45) → p1 < 1 → Q (some (0, (-1))) K0 (hset h 116 0 0))
    (q_5 : (h 116 88) ≠ 60 → 0 ≤ p0 → p0 < (h 116 45) → 1 ≤ p1 → 10000 < p1 → Q (some (0, (-1))) K0 (hset h 116 0 0))
    (q_6 : (h 116 88) ≠ 60 → 0 ≤ p0 → p0 < (h 116 45) → 1 ≤ p1 → p1 ≤ 10000 → Q (some (0, (((h 116 88) + 1) - 1))) K0 (hset (hset (hset (hset h 116 0 0) 174 (h 116 88) p0) 175 (h 116 88) p1) 116 88 ((h 116 88) + 1))) : Sp l G mX12_word d 0 0 K0 [(2, 116), (0, p0), (0, p1)] h Q := by
  refine sp_of (L := [(2, 116), (0, p0), (0, p1)]) pl_X12 (Nat.le_of_ble_eq_true rfl) (tg_c (by decide) (tg_c (by decide) (tg_c (by decide) tg_0))) rfl ?_
  refine v_aload_n dX12_word_0 rfl ?_
  refine v_iconst dX12_word_1 (c32 rfl) ?_
  refine v_puti (ci := 12) (j := 0) (ji := 0) dX12_word_2 k_1416 (by decide) kk_116 (by decide) rfl rfl rfl ?_
  refine v_aload_n dX12_word_5 rfl ?_
  refine v_getv (ci := 12) (j := 88) (ji := 88) (tg := 0) dX12_word_6 k_1504 (by decide) kk_116 (by decide) rfl rfl (by decide) (hset_j (by decide)) ?_
  refine v_bipush dX12_word_9 (c32 rfl) (by decide) ?_
  refine v_icmp_eq (tgt := 34) dX12_word_11 (by decide) (fun c11_1 => ?_) (fun c11_1 => ?_)
  · refine v_iconst dX12_word_34 (c32 rfl) ?_
    refine v_ireti dX12_word_35 rfl (Nat.le_refl _) (Nat.le_refl _) ?_
    exact q_1 c11_1
  · refine v_aload_n dX12_word_14 rfl ?_
    refine v_iload_n dX12_word_15 rfl ?_
    refine v_callv (M' := mX12_isBatch) (d' := d - 1) (mc' := 0) (ms' := 0) (ci := 12) (c := 116) (As := [_]) dX12_word_16 k_1861 cm_X12_isBatch rfl (by omega) (by decide) kk_116 (Nat.le_of_ble_eq_true rfl) rfl ⟨Nat.le_refl _, Nat.le_refl _⟩ ?_
    refine s_X12_isBatch (by omega) (fun c16_2 => ?_) (fun c16_3 c16_4 => ?_) (fun c16_5 c16_6 => ?_)
    · dsimp only [Option.toList, List.cons_append, List.nil_append, Nat.add_zero]
      refine v_if_eq_t (tgt := 34) dX12_word_19 (by decide) (by decide) ?_
      refine v_iconst dX12_word_34 (c32 rfl) ?_
      refine v_ireti dX12_word_35 rfl (Nat.le_refl _) (Nat.le_refl _) ?_
      exact q_2 c11_1 c16_2
    · dsimp only [Option.toList, List.cons_append, List.nil_append, Nat.add_zero]
      rw [show (hset h 116 0 0) 116 45 = (h 116 45) from (hset_j (by decide))] at c16_4
      refine v_if_eq_t (tgt := 34) dX12_word_19 (by decide) (by decide) ?_
      refine v_iconst dX12_word_34 (c32 rfl) ?_
      refine v_ireti dX12_word_35 rfl (Nat.le_refl _) (Nat.le_refl _) ?_
      exact q_3 c11_1 c16_3 c16_4
    · dsimp only [Option.toList, List.cons_append, List.nil_append, Nat.add_zero]
      rw [show (hset h 116 0 0) 116 45 = (h 116 45) from (hset_j (by decide))] at c16_6
      refine v_if_eq_f (tgt := 34) dX12_word_19 (by decide) (by decide) ?_
      refine v_iload_n dX12_word_22 rfl ?_
      refine v_i2l dX12_word_23 ?_
      refine v_lconst (z := 1) dX12_word_24 (c64 rfl) (by decide) ?_
      refine v_ldc2 (n := 10000) dX12_word_25 k_1848 (c64 rfl) (by decide) ?_
      refine v_calls (M' := mX12_isIn) (d' := d - 1) (mc' := 0) (ms' := 0) (As := [_, _, _]) dX12_word_28 k_1700 cm_X12_isIn (by omega) (Nat.le_of_ble_eq_true rfl) rfl ⟨Nat.le_refl _, Nat.le_refl _⟩ ?_
      refine s_X12_isIn (by omega) (fun c28_7 => ?_) (fun c28_8 c28_9 => ?_) (fun c28_10 c28_11 => ?_)
      · dsimp only [Option.toList, List.cons_append, List.nil_append, Nat.add_zero]
        refine v_if_ne_f (tgt := 36) dX12_word_31 (by decide) (by decide) ?_
        refine v_iconst dX12_word_34 (c32 rfl) ?_
        refine v_ireti dX12_word_35 rfl (Nat.le_refl _) (Nat.le_refl _) ?_
        exact q_4 c11_1 c16_5 c16_6 c28_7
      · dsimp only [Option.toList, List.cons_append, List.nil_append, Nat.add_zero]
        refine v_if_ne_f (tgt := 36) dX12_word_31 (by decide) (by decide) ?_
        refine v_iconst dX12_word_34 (c32 rfl) ?_
        refine v_ireti dX12_word_35 rfl (Nat.le_refl _) (Nat.le_refl _) ?_
        exact q_5 c11_1 c16_5 c16_6 c28_8 c28_9
      · dsimp only [Option.toList, List.cons_append, List.nil_append, Nat.add_zero]
        refine v_if_ne_t (tgt := 36) dX12_word_31 (by decide) (by decide) ?_
        refine v_aload_n dX12_word_36 rfl ?_
        refine v_getr (ci := 12) (j := 85) (ji := 85) (z := 174) dX12_word_37 k_1501 (by decide) kk_116 (by decide) rfl rfl (fun r => rt_116_85 (r rfl)) (by decide) ?_
        refine v_aload_n dX12_word_40 rfl ?_
        refine v_getv (ci := 12) (j := 88) (ji := 88) (tg := 0) dX12_word_41 k_1504 (by decide) kk_116 (by decide) rfl rfl (by decide) (hset_j (by decide)) ?_
        refine v_iload_n dX12_word_44 rfl ?_
        refine v_iastore dX12_word_45 (by decide) kk_174 (by omega) (by omega) ?_
        refine v_aload_n dX12_word_46 rfl ?_
        refine v_getr (ci := 12) (j := 86) (ji := 86) (z := 175) dX12_word_47 k_1502 (by decide) kk_116 (by decide) rfl rfl (fun r => rt_116_86 (r rfl)) (by decide) ?_
        refine v_aload_n dX12_word_50 rfl ?_
        refine v_getv (ci := 12) (j := 88) (ji := 88) (tg := 0) dX12_word_51 k_1504 (by decide) kk_116 (by decide) rfl rfl (by decide) ((hset_c (by decide)).trans (hset_j (by decide))) ?_
        refine v_iload_n dX12_word_54 rfl ?_
        refine v_iastore dX12_word_55 (by decide) kk_175 (by omega) (by omega) ?_
        refine v_aload_n dX12_word_56 rfl ?_
        refine v_dup dX12_word_57 rfl ?_
        refine v_getv (ci := 12) (j := 88) (ji := 88) (tg := 0) dX12_word_58 k_1504 (by decide) kk_116 (by decide) rfl rfl (by decide) ((hset_c (by decide)).trans ((hset_c (by decide)).trans (hset_j (by decide)))) ?_
        refine v_iconst dX12_word_61 (c32 rfl) ?_
        refine v_iaddE dX12_word_62 (by omega) ?_
        refine v_puti (ci := 12) (j := 88) (ji := 88) dX12_word_63 k_1504 (by decide) kk_116 (by decide) rfl rfl rfl ?_
        refine v_aload_n dX12_word_66 rfl ?_
        refine v_getv (ci := 12) (j := 88) (ji := 88) (tg := 0) dX12_word_67 k_1504 (by decide) kk_116 (by decide) rfl rfl (by decide) (hset_same _ _ _ _) ?_
        refine v_iconst dX12_word_70 (c32 rfl) ?_
        refine v_isubE dX12_word_71 (by omega) ?_
        refine v_ireti dX12_word_72 rfl (Nat.le_refl _) (Nat.le_refl _) ?_
        exact q_6 c11_1 c16_5 c16_6 c28_10 c28_11

