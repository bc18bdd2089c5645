/-! ===== the reference: tests and small methods (written by wip/whole/p11.py) ===== -/
set_option maxHeartbeats 4000000 in
set_option maxRecDepth 100000 in
theorem s_X12_isIn {l : Launch} {G : GG} {d : Nat} {h : AH} {Q : Option AV → List Kd → AH → Prop} {p0 p1 p2 : Int} (hd : 1 ≤ d) 
    (q_1 : p0 < p1 → Q (some (0, 0)) K0 h)
    (q_2 : p1 ≤ p0 → p2 < p0 → Q (some (0, 0)) K0 h)
    (q_3 : p1 ≤ p0 → p0 ≤ p2 → Q (some (0, 1)) K0 h) : Sp l G mX12_isIn d 0 0 K0 [(1, p0), (1, p1), (1, p2)] h Q := by
  refine sp_of (L := [(1, p0), (8, 0), (1, p1), (8, 0), (1, p2), (8, 0)]) pl_X12 (Nat.le_of_ble_eq_true rfl) (tg_c (by decide) (tg_c (by decide) (tg_c (by decide) tg_0))) rfl ?_
  refine v_lload_n dX12_isIn_0 rfl ?_
  refine v_lload_n dX12_isIn_1 rfl ?_
  refine v_lcmp_lt (tgt := 17) dX12_isIn_2 dX12_isIn_3 (by decide) (fun c2_1 => ?_) (fun c2_1 => ?_)
  · refine v_iconst dX12_isIn_17 (c32 rfl) ?_
    refine v_iretz dX12_isIn_18 rfl (by decide) (Nat.le_refl _) (Nat.le_refl _) ?_
    exact q_1 c2_1
  · refine v_lload_n dX12_isIn_6 rfl ?_
    refine v_lload dX12_isIn_7 rfl ?_
    refine v_lcmp_gt (tgt := 17) dX12_isIn_9 dX12_isIn_10 (by decide) (fun c9_2 => ?_) (fun c9_2 => ?_)
    · refine v_iconst dX12_isIn_17 (c32 rfl) ?_
      refine v_iretz dX12_isIn_18 rfl (by decide) (Nat.le_refl _) (Nat.le_refl _) ?_
      exact q_2 c2_1 c9_2
    · refine v_iconst dX12_isIn_13 (c32 rfl) ?_
      refine v_goto (tgt := 18) dX12_isIn_14 (by decide) ?_
      refine v_iretz dX12_isIn_18 rfl (by decide) (Nat.le_refl _) (Nat.le_refl _) ?_
      exact q_3 c2_1 c9_2

set_option maxHeartbeats 4000000 in
set_option maxRecDepth 100000 in
theorem s_X12_isKnown {l : Launch} {G : GG} {d : Nat} {h : AH} {Q : Option AV → List Kd → AH → Prop} {p0 : Int} (hd : 2 ≤ d) 
    (q_1 : p0 < 0 → Q (some (0, 0)) K0 h)
    (q_2 : 0 ≤ p0 → (h 116 1) < p0 → Q (some (0, 0)) K0 h)
    (q_3 : 0 ≤ p0 → p0 ≤ (h 116 1) → Q (some (0, 1)) K0 h) : Sp l G mX12_isKnown d 0 0 K0 [(2, 116), (0, p0)] h Q := by
  refine sp_of (L := [(2, 116), (0, p0)]) pl_X12 (Nat.le_of_ble_eq_true rfl) (tg_c (by decide) (tg_c (by decide) tg_0)) rfl ?_
  refine v_iload_n dX12_isKnown_0 rfl ?_
  refine v_i2l dX12_isKnown_1 ?_
  refine v_lconst (z := 0) dX12_isKnown_2 (c64 rfl) (by decide) ?_
  refine v_aload_n dX12_isKnown_3 rfl ?_
  refine v_get (ci := 12) (j := 1) (ji := 1) (tg := 0) dX12_isKnown_4 k_1417 (by decide) kk_116 (by decide) rfl rfl (by decide) ?_
  refine v_i2l dX12_isKnown_7 ?_
  refine v_calls (M' := mX12_isIn) (d' := d - 1) (mc' := 0) (ms' := 0) (As := [_, _, _]) dX12_isKnown_8 k_1700 cm_X12_isIn (by omega) (Nat.le_of_ble_eq_true rfl) rfl ⟨Nat.le_refl _, Nat.le_refl _⟩ ?_
  refine s_X12_isIn (by omega) (fun c8_1 => ?_) (fun c8_2 c8_3 => ?_) (fun c8_4 c8_5 => ?_)
  · dsimp only [Option.toList, List.cons_append, List.nil_append, Nat.add_zero]
    refine v_iretz dX12_isKnown_11 rfl (by decide) (Nat.le_refl _) (Nat.le_refl _) ?_
    exact q_1 c8_1
  · dsimp only [Option.toList, List.cons_append, List.nil_append, Nat.add_zero]
    refine v_iretz dX12_isKnown_11 rfl (by decide) (Nat.le_refl _) (Nat.le_refl _) ?_
    exact q_2 c8_2 c8_3
  · dsimp only [Option.toList, List.cons_append, List.nil_append, Nat.add_zero]
    refine v_iretz dX12_isKnown_11 rfl (by decide) (Nat.le_refl _) (Nat.le_refl _) ?_
    exact q_3 c8_4 c8_5

set_option maxHeartbeats 4000000 in
set_option maxRecDepth 100000 in
theorem s_X12_isDay {l : Launch} {G : GG} {d : Nat} {h : AH} {Q : Option AV → List Kd → AH → Prop} {p0 : Int} (hd : 2 ≤ d) 
    (q_1 : p0 < 0 → Q (some (0, 0)) K0 h)
    (q_2 : 0 ≤ p0 → 2000 < p0 → Q (some (0, 0)) K0 h)
    (q_3 : 0 ≤ p0 → p0 ≤ 2000 → Q (some (0, 1)) K0 h) : Sp l G mX12_isDay d 0 0 K0 [(0, p0)] h Q := by
  refine sp_of (L := [(0, p0)]) pl_X12 (Nat.le_of_ble_eq_true rfl) (tg_c (by decide) tg_0) rfl ?_
  refine v_iload_n dX12_isDay_0 rfl ?_
  refine v_i2l dX12_isDay_1 ?_
  refine v_lconst (z := 0) dX12_isDay_2 (c64 rfl) (by decide) ?_
  refine v_ldc2 (n := 2000) dX12_isDay_3 k_1715 (c64 rfl) (by decide) ?_
  refine v_calls (M' := mX12_isIn) (d' := d - 1) (mc' := 0) (ms' := 0) (As := [_, _, _]) dX12_isDay_6 k_1700 cm_X12_isIn (by omega) (Nat.le_of_ble_eq_true rfl) rfl ⟨Nat.le_refl _, Nat.le_refl _⟩ ?_
  refine s_X12_isIn (by omega) (fun c6_1 => ?_) (fun c6_2 c6_3 => ?_) (fun c6_4 c6_5 => ?_)
  · dsimp only [Option.toList, List.cons_append, List.nil_append, Nat.add_zero]
    refine v_iretz dX12_isDay_9 rfl (by decide) (Nat.le_refl _) (Nat.le_refl _) ?_
    exact q_1 c6_1
  · dsimp only [Option.toList, List.cons_append, List.nil_append, Nat.add_zero]
    refine v_iretz dX12_isDay_9 rfl (by decide) (Nat.le_refl _) (Nat.le_refl _) ?_
    exact q_2 c6_2 c6_3
  · dsimp only [Option.toList, List.cons_append, List.nil_append, Nat.add_zero]
    refine v_iretz dX12_isDay_9 rfl (by decide) (Nat.le_refl _) (Nat.le_refl _) ?_
    exact q_3 c6_4 c6_5

set_option maxHeartbeats 4000000 in
set_option maxRecDepth 100000 in
theorem s_X12_isWeb {l : Launch} {G : GG} {d : Nat} {h : AH} {Q : Option AV → List Kd → AH → Prop} {p0 : Int} (hd : 2 ≤ d) 
    (q_1 : p0 < 0 → Q (some (0, 0)) K0 h)
    (q_2 : 0 ≤ p0 → 3 < p0 → Q (some (0, 0)) K0 h)
    (q_3 : 0 ≤ p0 → p0 ≤ 3 → Q (some (0, 1)) K0 h) : Sp l G mX12_isWeb d 0 0 K0 [(0, p0)] h Q := by
  refine sp_of (L := [(0, p0)]) pl_X12 (Nat.le_of_ble_eq_true rfl) (tg_c (by decide) tg_0) rfl ?_
  refine v_iload_n dX12_isWeb_0 rfl ?_
  refine v_i2l dX12_isWeb_1 ?_
  refine v_lconst (z := 0) dX12_isWeb_2 (c64 rfl) (by decide) ?_
  refine v_ldc2 (n := 3) dX12_isWeb_3 k_1710 (c64 rfl) (by decide) ?_
  refine v_calls (M' := mX12_isIn) (d' := d - 1) (mc' := 0) (ms' := 0) (As := [_, _, _]) dX12_isWeb_6 k_1700 cm_X12_isIn (by omega) (Nat.le_of_ble_eq_true rfl) rfl ⟨Nat.le_refl _, Nat.le_refl _⟩ ?_
  refine s_X12_isIn (by omega) (fun c6_1 => ?_) (fun c6_2 c6_3 => ?_) (fun c6_4 c6_5 => ?_)
  · dsimp only [Option.toList, List.cons_append, List.nil_append, Nat.add_zero]
    refine v_iretz dX12_isWeb_9 rfl (by decide) (Nat.le_refl _) (Nat.le_refl _) ?_
    exact q_1 c6_1
  · dsimp only [Option.toList, List.cons_append, List.nil_append, Nat.add_zero]
    refine v_iretz dX12_isWeb_9 rfl (by decide) (Nat.le_refl _) (Nat.le_refl _) ?_
    exact q_2 c6_2 c6_3
  · dsimp only [Option.toList, List.cons_append, List.nil_append, Nat.add_zero]
    refine v_iretz dX12_isWeb_9 rfl (by decide) (Nat.le_refl _) (Nat.le_refl _) ?_
    exact q_3 c6_4 c6_5

set_option maxHeartbeats 4000000 in
set_option maxRecDepth 100000 in
theorem s_X12_isLand {l : Launch} {G : GG} {d : Nat} {h : AH} {Q : Option AV → List Kd → AH → Prop} {p0 : Int} (hd : 2 ≤ d) 
    (q_1 : p0 < 0 → Q (some (0, 0)) K0 h)
    (q_2 : 0 ≤ p0 → 7 < p0 → Q (some (0, 0)) K0 h)
    (q_3 : 0 ≤ p0 → p0 ≤ 7 → Q (some (0, 1)) K0 h) : Sp l G mX12_isLand d 0 0 K0 [(0, p0)] h Q := by
  refine sp_of (L := [(0, p0)]) pl_X12 (Nat.le_of_ble_eq_true rfl) (tg_c (by decide) tg_0) rfl ?_
  refine v_iload_n dX12_isLand_0 rfl ?_
  refine v_i2l dX12_isLand_1 ?_
  refine v_lconst (z := 0) dX12_isLand_2 (c64 rfl) (by decide) ?_
  refine v_ldc2 (n := 7) dX12_isLand_3 k_1835 (c64 rfl) (by decide) ?_
  refine v_calls (M' := mX12_isIn) (d' := d - 1) (mc' := 0) (ms' := 0) (As := [_, _, _]) dX12_isLand_6 k_1700 cm_X12_isIn (by omega) (Nat.le_of_ble_eq_true rfl) rfl ⟨Nat.le_refl _, Nat.le_refl _⟩ ?_
  refine s_X12_isIn (by omega) (fun c6_1 => ?_) (fun c6_2 c6_3 => ?_) (fun c6_4 c6_5 => ?_)
  · dsimp only [Option.toList, List.cons_append, List.nil_append, Nat.add_zero]
    refine v_iretz dX12_isLand_9 rfl (by decide) (Nat.le_refl _) (Nat.le_refl _) ?_
    exact q_1 c6_1
  · dsimp only [Option.toList, List.cons_append, List.nil_append, Nat.add_zero]
    refine v_iretz dX12_isLand_9 rfl (by decide) (Nat.le_refl _) (Nat.le_refl _) ?_
    exact q_2 c6_2 c6_3
  · dsimp only [Option.toList, List.cons_append, List.nil_append, Nat.add_zero]
    refine v_iretz dX12_isLand_9 rfl (by decide) (Nat.le_refl _) (Nat.le_refl _) ?_
    exact q_3 c6_4 c6_5

set_option maxHeartbeats 4000000 in
set_option maxRecDepth 100000 in
theorem s_X12_isHeading {l : Launch} {G : GG} {d : Nat} {h : AH} {Q : Option AV → List Kd → AH → Prop} {p0 : Int} (hd : 2 ≤ d) 
    (q_1 : p0 < 0 → Q (some (0, 0)) K0 h)
    (q_2 : 0 ≤ p0 → 99 < p0 → Q (some (0, 0)) K0 h)
    (q_3 : 0 ≤ p0 → p0 ≤ 99 → Q (some (0, 1)) K0 h) : Sp l G mX12_isHeading d 0 0 K0 [(0, p0)] h Q := by
  refine sp_of (L := [(0, p0)]) pl_X12 (Nat.le_of_ble_eq_true rfl) (tg_c (by decide) tg_0) rfl ?_
  refine v_iload_n dX12_isHeading_0 rfl ?_
  refine v_i2l dX12_isHeading_1 ?_
  refine v_lconst (z := 0) dX12_isHeading_2 (c64 rfl) (by decide) ?_
  refine v_ldc2 (n := 99) dX12_isHeading_3 k_1839 (c64 rfl) (by decide) ?_
  refine v_calls (M' := mX12_isIn) (d' := d - 1) (mc' := 0) (ms' := 0) (As := [_, _, _]) dX12_isHeading_6 k_1700 cm_X12_isIn (by omega) (Nat.le_of_ble_eq_true rfl) rfl ⟨Nat.le_refl _, Nat.le_refl _⟩ ?_
  refine s_X12_isIn (by omega) (fun c6_1 => ?_) (fun c6_2 c6_3 => ?_) (fun c6_4 c6_5 => ?_)
  · dsimp only [Option.toList, List.cons_append, List.nil_append, Nat.add_zero]
    refine v_iretz dX12_isHeading_9 rfl (by decide) (Nat.le_refl _) (Nat.le_refl _) ?_
    exact q_1 c6_1
  · dsimp only [Option.toList, List.cons_append, List.nil_append, Nat.add_zero]
    refine v_iretz dX12_isHeading_9 rfl (by decide) (Nat.le_refl _) (Nat.le_refl _) ?_
    exact q_2 c6_2 c6_3
  · dsimp only [Option.toList, List.cons_append, List.nil_append, Nat.add_zero]
    refine v_iretz dX12_isHeading_9 rfl (by decide) (Nat.le_refl _) (Nat.le_refl _) ?_
    exact q_3 c6_4 c6_5

set_option maxHeartbeats 4000000 in
set_option maxRecDepth 100000 in
theorem s_X12_days {l : Launch} {G : GG} {d : Nat} {h : AH} {Q : Option AV → List Kd → AH → Prop} {p0 : Int} (hd : 3 ≤ d) 
    (q_1 : p0 < 0 → Q (some (0, (-1))) K0 (hset h 116 0 0))
    (q_2 : 0 ≤ p0 → 1000 < p0 → Q (some (0, (-1))) K0 (hset h 116 0 0))
    (q_3 : 0 ≤ p0 → p0 ≤ 1000 → (iadd (h 116 1) p0) ≤ 2000 → Q (some (0, (iadd (h 116 1) p0))) K0 (hset (hset h 116 0 0) 116 1 (iadd (h 116 1) p0)))
    (q_4 : 0 ≤ p0 → p0 ≤ 1000 → 2000 < (iadd (h 116 1) p0) → Q (some (0, (-1))) K0 (hset h 116 0 0)) : Sp l G mX12_days d 0 0 K0 [(2, 116), (0, p0)] h Q := by
  refine sp_of (L := [(2, 116), (0, p0)]) pl_X12 (Nat.le_of_ble_eq_true rfl) (tg_c (by decide) (tg_c (by decide) tg_0)) rfl ?_
  refine v_aload_n dX12_days_0 rfl ?_
  refine v_iconst dX12_days_1 (c32 rfl) ?_
  refine v_puti (ci := 12) (j := 0) (ji := 0) dX12_days_2 k_1416 (by decide) kk_116 (by decide) rfl rfl rfl ?_
  refine v_iload_n dX12_days_5 rfl ?_
  refine v_i2l dX12_days_6 ?_
  refine v_lconst (z := 0) dX12_days_7 (c64 rfl) (by decide) ?_
  refine v_ldc2 (n := 1000) dX12_days_8 k_1699 (c64 rfl) (by decide) ?_
  refine v_calls (M' := mX12_isIn) (d' := d - 1) (mc' := 0) (ms' := 0) (As := [_, _, _]) dX12_days_11 k_1700 cm_X12_isIn (by omega) (Nat.le_of_ble_eq_true rfl) rfl ⟨Nat.le_refl _, Nat.le_refl _⟩ ?_
  refine s_X12_isIn (by omega) (fun c11_1 => ?_) (fun c11_2 c11_3 => ?_) (fun c11_4 c11_5 => ?_)
  · dsimp only [Option.toList, List.cons_append, List.nil_append, Nat.add_zero]
    refine v_if_eq_t (tgt := 29) dX12_days_14 (by decide) (by decide) ?_
    refine v_iconst dX12_days_29 (c32 rfl) ?_
    refine v_ireti dX12_days_30 rfl (Nat.le_refl _) (Nat.le_refl _) ?_
    exact q_1 c11_1
  · dsimp only [Option.toList, List.cons_append, List.nil_append, Nat.add_zero]
    refine v_if_eq_t (tgt := 29) dX12_days_14 (by decide) (by decide) ?_
    refine v_iconst dX12_days_29 (c32 rfl) ?_
    refine v_ireti dX12_days_30 rfl (Nat.le_refl _) (Nat.le_refl _) ?_
    exact q_2 c11_2 c11_3
  · dsimp only [Option.toList, List.cons_append, List.nil_append, Nat.add_zero]
    refine v_if_eq_f (tgt := 29) dX12_days_14 (by decide) (by decide) ?_
    refine v_aload_n dX12_days_17 rfl ?_
    refine v_getv (ci := 12) (j := 1) (ji := 1) (tg := 0) dX12_days_18 k_1417 (by decide) kk_116 (by decide) rfl rfl (by decide) (hset_j (by decide)) ?_
    refine v_iload_n dX12_days_21 rfl ?_
    refine v_iadd dX12_days_22 ?_
    refine v_sipush dX12_days_23 (c32 rfl) (by decide) ?_
    refine v_icmp_le (tgt := 31) dX12_days_26 (by decide) (fun c26_6 => ?_) (fun c26_6 => ?_)
    · refine v_aload_n dX12_days_31 rfl ?_
      refine v_dup dX12_days_32 rfl ?_
      refine v_getv (ci := 12) (j := 1) (ji := 1) (tg := 0) dX12_days_33 k_1417 (by decide) kk_116 (by decide) rfl rfl (by decide) (hset_j (by decide)) ?_
      refine v_iload_n dX12_days_36 rfl ?_
      refine v_iadd dX12_days_37 ?_
      refine v_puti (ci := 12) (j := 1) (ji := 1) dX12_days_38 k_1417 (by decide) kk_116 (by decide) rfl rfl rfl ?_
      refine v_aload_n dX12_days_41 rfl ?_
      refine v_getv (ci := 12) (j := 1) (ji := 1) (tg := 0) dX12_days_42 k_1417 (by decide) kk_116 (by decide) rfl rfl (by decide) (hset_same _ _ _ _) ?_
      refine v_ireti dX12_days_45 rfl (Nat.le_refl _) (Nat.le_refl _) ?_
      exact q_3 c11_4 c11_5 c26_6
    · refine v_iconst dX12_days_29 (c32 rfl) ?_
      refine v_ireti dX12_days_30 rfl (Nat.le_refl _) (Nat.le_refl _) ?_
      exact q_4 c11_4 c11_5 c26_6

set_option maxHeartbeats 4000000 in
set_option maxRecDepth 100000 in
theorem s_X12_isBatch {l : Launch} {G : GG} {d : Nat} {h : AH} {Q : Option AV → List Kd → AH → Prop} {p0 : Int} (hd : 1 ≤ d) 
    (q_1 : p0 < 0 → Q (some (0, 0)) K0 h)
    (q_2 : 0 ≤ p0 → (h 116 45) ≤ p0 → Q (some (0, 0)) K0 h)
    (q_3 : 0 ≤ p0 → p0 < (h 116 45) → Q (some (0, 1)) K0 h) : Sp l G mX12_isBatch d 0 0 K0 [(2, 116), (0, p0)] h Q := by
  refine sp_of (L := [(2, 116), (0, p0)]) pl_X12 (Nat.le_of_ble_eq_true rfl) (tg_c (by decide) (tg_c (by decide) tg_0)) rfl ?_
  refine v_iload_n dX12_isBatch_0 rfl ?_
  refine v_if_lt (tgt := 16) dX12_isBatch_1 (by decide) (fun c1_1 => ?_) (fun c1_1 => ?_)
  · refine v_iconst dX12_isBatch_16 (c32 rfl) ?_
    refine v_iretz dX12_isBatch_17 rfl (by decide) (Nat.le_refl _) (Nat.le_refl _) ?_
    exact q_1 c1_1
  · refine v_iload_n dX12_isBatch_4 rfl ?_
    refine v_aload_n dX12_isBatch_5 rfl ?_
    refine v_get (ci := 12) (j := 45) (ji := 45) (tg := 0) dX12_isBatch_6 k_1461 (by decide) kk_116 (by decide) rfl rfl (by decide) ?_
    refine v_icmp_ge (tgt := 16) dX12_isBatch_9 (by decide) (fun c9_2 => ?_) (fun c9_2 => ?_)
    · refine v_iconst dX12_isBatch_16 (c32 rfl) ?_
      refine v_iretz dX12_isBatch_17 rfl (by decide) (Nat.le_refl _) (Nat.le_refl _) ?_
      exact q_2 c1_1 c9_2
    · refine v_iconst dX12_isBatch_12 (c32 rfl) ?_
      refine v_goto (tgt := 17) dX12_isBatch_13 (by decide) ?_
      refine v_iretz dX12_isBatch_17 rfl (by decide) (Nat.le_refl _) (Nat.le_refl _) ?_
      exact q_3 c1_1 c9_2

set_option maxHeartbeats 4000000 in
set_option maxRecDepth 100000 in
theorem s_X12_isShipment {l : Launch} {G : GG} {d : Nat} {h : AH} {Q : Option AV → List Kd → AH → Prop} {p0 : Int} (hd : 1 ≤ d) 
    (q_1 : p0 < 0 → Q (some (0, 0)) K0 h)
    (q_2 : 0 ≤ p0 → (h 116 65) ≤ p0 → Q (some (0, 0)) K0 h)
    (q_3 : 0 ≤ p0 → p0 < (h 116 65) → Q (some (0, 1)) K0 h) : Sp l G mX12_isShipment d 0 0 K0 [(2, 116), (0, p0)] h Q := by
  refine sp_of (L := [(2, 116), (0, p0)]) pl_X12 (Nat.le_of_ble_eq_true rfl) (tg_c (by decide) (tg_c (by decide) tg_0)) rfl ?_
  refine v_iload_n dX12_isShipment_0 rfl ?_
  refine v_if_lt (tgt := 16) dX12_isShipment_1 (by decide) (fun c1_1 => ?_) (fun c1_1 => ?_)
  · refine v_iconst dX12_isShipment_16 (c32 rfl) ?_
    refine v_iretz dX12_isShipment_17 rfl (by decide) (Nat.le_refl _) (Nat.le_refl _) ?_
    exact q_1 c1_1
  · refine v_iload_n dX12_isShipment_4 rfl ?_
    refine v_aload_n dX12_isShipment_5 rfl ?_
    refine v_get (ci := 12) (j := 65) (ji := 65) (tg := 0) dX12_isShipment_6 k_1481 (by decide) kk_116 (by decide) rfl rfl (by decide) ?_
    refine v_icmp_ge (tgt := 16) dX12_isShipment_9 (by decide) (fun c9_2 => ?_) (fun c9_2 => ?_)
    · refine v_iconst dX12_isShipment_16 (c32 rfl) ?_
      refine v_iretz dX12_isShipment_17 rfl (by decide) (Nat.le_refl _) (Nat.le_refl _) ?_
      exact q_2 c1_1 c9_2
    · refine v_iconst dX12_isShipment_12 (c32 rfl) ?_
      refine v_goto (tgt := 17) dX12_isShipment_13 (by decide) ?_
      refine v_iretz dX12_isShipment_17 rfl (by decide) (Nat.le_refl _) (Nat.le_refl _) ?_
      exact q_3 c1_1 c9_2

set_option maxHeartbeats 4000000 in
set_option maxRecDepth 100000 in
theorem s_X12_bound {l : Launch} {G : GG} {d : Nat} {h : AH} {Q : Option AV → List Kd → AH → Prop} {p0 : Int} (hd : 1 ≤ d) 
    (q_1 : Q (some (0, (l2i (max (-10000000) (min 10000000 p0))))) K0 h) : Sp l G mX12_bound d 0 0 K0 [(1, p0)] h Q := by
  refine sp_of (L := [(1, p0), (8, 0)]) pl_X12 (Nat.le_of_ble_eq_true rfl) (tg_c (by decide) tg_0) rfl ?_
  refine v_ldc2 (n := -10000000) dX12_bound_0 k_1805 (c64 rfl) (by decide) ?_
  refine v_ldc2 (n := 10000000) dX12_bound_3 k_1806 (c64 rfl) (by decide) ?_
  refine v_lload_n dX12_bound_6 rfl ?_
  refine v_mminl dX12_bound_7 k_1807 (by omega) (Nat.le_of_ble_eq_true rfl) ⟨Nat.le_refl _, Nat.le_refl _⟩ ?_
  refine v_mmaxl dX12_bound_10 k_1808 (by omega) (Nat.le_of_ble_eq_true rfl) ⟨Nat.le_refl _, Nat.le_refl _⟩ ?_
  refine v_l2i dX12_bound_13 ?_
  refine v_ireti dX12_bound_14 rfl (Nat.le_refl _) (Nat.le_refl _) ?_
  exact q_1 

set_option maxHeartbeats 4000000 in
set_option maxRecDepth 100000 in
theorem s_X12_isSign {l : Launch} {G : GG} {d : Nat} {h : AH} {Q : Option AV → List Kd → AH → Prop} {p0 : Int} (hd : 1 ≤ d) 
    (q_1 : p0 = 61 → Q (some (0, 1)) K0 h)
    (q_2 : p0 ≠ 61 → p0 = 60 → Q (some (0, 1)) K0 h)
    (q_3 : p0 ≠ 61 → p0 ≠ 60 → p0 ≠ 62 → Q (some (0, 0)) K0 h)
    (q_4 : p0 ≠ 61 → p0 ≠ 60 → p0 = 62 → Q (some (0, 1)) K0 h) : Sp l G mX12_isSign d 0 0 K0 [(0, p0)] h Q := by
  refine sp_of (L := [(0, p0)]) pl_X12 (Nat.le_of_ble_eq_true rfl) (tg_c (by decide) tg_0) rfl ?_
  refine v_iload_n dX12_isSign_0 rfl ?_
  refine v_bipush dX12_isSign_1 (c32 rfl) (by decide) ?_
  refine v_icmp_eq (tgt := 18) dX12_isSign_3 (by decide) (fun c3_1 => ?_) (fun c3_1 => ?_)
  · refine v_iconst dX12_isSign_18 (c32 rfl) ?_
    refine v_goto (tgt := 23) dX12_isSign_19 (by decide) ?_
    refine v_iretz dX12_isSign_23 rfl (by decide) (Nat.le_refl _) (Nat.le_refl _) ?_
    exact q_1 c3_1
  · refine v_iload_n dX12_isSign_6 rfl ?_
    refine v_bipush dX12_isSign_7 (c32 rfl) (by decide) ?_
    refine v_icmp_eq (tgt := 18) dX12_isSign_9 (by decide) (fun c9_2 => ?_) (fun c9_2 => ?_)
    · refine v_iconst dX12_isSign_18 (c32 rfl) ?_
      refine v_goto (tgt := 23) dX12_isSign_19 (by decide) ?_
      refine v_iretz dX12_isSign_23 rfl (by decide) (Nat.le_refl _) (Nat.le_refl _) ?_
      exact q_2 c3_1 c9_2
    · refine v_iload_n dX12_isSign_12 rfl ?_
      refine v_bipush dX12_isSign_13 (c32 rfl) (by decide) ?_
      refine v_icmp_ne (tgt := 22) dX12_isSign_15 (by decide) (fun c15_3 => ?_) (fun c15_3 => ?_)
      · refine v_iconst dX12_isSign_22 (c32 rfl) ?_
        refine v_iretz dX12_isSign_23 rfl (by decide) (Nat.le_refl _) (Nat.le_refl _) ?_
        exact q_3 c3_1 c9_2 c15_3
      · refine v_iconst dX12_isSign_18 (c32 rfl) ?_
        refine v_goto (tgt := 23) dX12_isSign_19 (by decide) ?_
        refine v_iretz dX12_isSign_23 rfl (by decide) (Nat.le_refl _) (Nat.le_refl _) ?_
        exact q_4 c3_1 c9_2 c15_3

