/-! ===== the reference: what is told (written by wip/whole/p13.py) ===== -/
set_option maxHeartbeats 4000000 in
set_option maxRecDepth 100000 in
theorem s_X12_member {l : Launch} {G : GG} {d : Nat} {h : AH} {Q : Option AV → List Kd → AH → Prop} {p0 p1 p2 : Int} (hd : 4 ≤ d) (b0 : 0 ≤ (h 116 14)) (bN : (h 116 14) ≤ 40)
    (q_1 : p0 < 0 → Q (some (0, (-1))) K0 (hset h 116 0 0))
    (q_2 : 0 ≤ p0 → 3 < p0 → Q (some (0, (-1))) K0 (hset h 116 0 0))
    (q_3 : 0 ≤ p0 → p0 ≤ 3 → p1 < 0 → Q (some (0, (-1))) K0 (hset h 116 0 0))
    (q_4 : 0 ≤ p0 → p0 ≤ 3 → 0 ≤ p1 → 2000 < p1 → Q (some (0, (-1))) K0 (hset h 116 0 0))
    (q_5 : 0 ≤ p0 → p0 ≤ 3 → 0 ≤ p1 → p1 ≤ 2000 → p2 < 0 → Q (some (0, (-1))) K0 (hset h 116 0 0))
    (q_6 : 0 ≤ p0 → p0 ≤ 3 → 0 ≤ p1 → p1 ≤ 2000 → 0 ≤ p2 → (h 116 1) < p2 → Q (some (0, (-1))) K0 (hset h 116 0 0))
    (q_7 : 0 ≤ p0 → p0 ≤ 3 → 0 ≤ p1 → p1 ≤ 2000 → 0 ≤ p2 → p2 ≤ (h 116 1) → Q (some (0, (if (ifc (h 117) (h 119) (h 120) p0 p1 p2 (h 116 14)) = -1 then 0 else (hset h 116 0 0) 118 (ifc (h 117) (h 119) (h 120) p0 p1 p2 (h 116 14))))) K0 (hset h 116 0 0)) : Sp l G mX12_member d 0 0 K0 [(2, 116), (0, p0), (0, p1), (0, p2)] h Q := by
  refine sp_of (L := [(2, 116), (0, p0), (0, p1), (0, p2)]) pl_X12 (Nat.le_of_ble_eq_true rfl) (tg_c (by decide) (tg_c (by decide) (tg_c (by decide) (tg_c (by decide) tg_0)))) rfl ?_
  refine v_aload_n dX12_member_0 rfl ?_
  refine v_iconst dX12_member_1 (c32 rfl) ?_
  refine v_puti (ci := 12) (j := 0) (ji := 0) dX12_member_2 k_1416 (by decide) kk_116 (by decide) rfl rfl rfl ?_
  refine v_iload_n dX12_member_5 rfl ?_
  refine v_calls (M' := mX12_isWeb) (d' := d - 1) (mc' := 0) (ms' := 0) (As := [_]) dX12_member_6 k_1707 cm_X12_isWeb (by omega) (Nat.le_of_ble_eq_true rfl) rfl ⟨Nat.le_refl _, Nat.le_refl _⟩ ?_
  refine s_X12_isWeb (by omega) (fun c6_1 => ?_) (fun c6_2 c6_3 => ?_) (fun c6_4 c6_5 => ?_)
  · dsimp only [Option.toList, List.cons_append, List.nil_append, Nat.add_zero]
    refine v_if_eq_t (tgt := 37) dX12_member_9 (by decide) (by decide) ?_
    refine v_iconst dX12_member_37 (c32 rfl) ?_
    refine v_ireti dX12_member_38 rfl (Nat.le_refl _) (Nat.le_refl _) ?_
    exact q_1 c6_1
  · dsimp only [Option.toList, List.cons_append, List.nil_append, Nat.add_zero]
    refine v_if_eq_t (tgt := 37) dX12_member_9 (by decide) (by decide) ?_
    refine v_iconst dX12_member_37 (c32 rfl) ?_
    refine v_ireti dX12_member_38 rfl (Nat.le_refl _) (Nat.le_refl _) ?_
    exact q_2 c6_2 c6_3
  · dsimp only [Option.toList, List.cons_append, List.nil_append, Nat.add_zero]
    refine v_if_eq_f (tgt := 37) dX12_member_9 (by decide) (by decide) ?_
    refine v_iload_n dX12_member_12 rfl ?_
    refine v_calls (M' := mX12_isDay) (d' := d - 1) (mc' := 0) (ms' := 0) (As := [_]) dX12_member_13 k_1712 cm_X12_isDay (by omega) (Nat.le_of_ble_eq_true rfl) rfl ⟨Nat.le_refl _, Nat.le_refl _⟩ ?_
    refine s_X12_isDay (by omega) (fun c13_6 => ?_) (fun c13_7 c13_8 => ?_) (fun c13_9 c13_10 => ?_)
    · dsimp only [Option.toList, List.cons_append, List.nil_append, Nat.add_zero]
      refine v_if_eq_t (tgt := 37) dX12_member_16 (by decide) (by decide) ?_
      refine v_iconst dX12_member_37 (c32 rfl) ?_
      refine v_ireti dX12_member_38 rfl (Nat.le_refl _) (Nat.le_refl _) ?_
      exact q_3 c6_4 c6_5 c13_6
    · dsimp only [Option.toList, List.cons_append, List.nil_append, Nat.add_zero]
      refine v_if_eq_t (tgt := 37) dX12_member_16 (by decide) (by decide) ?_
      refine v_iconst dX12_member_37 (c32 rfl) ?_
      refine v_ireti dX12_member_38 rfl (Nat.le_refl _) (Nat.le_refl _) ?_
      exact q_4 c6_4 c6_5 c13_7 c13_8
    · dsimp only [Option.toList, List.cons_append, List.nil_append, Nat.add_zero]
      refine v_if_eq_f (tgt := 37) dX12_member_16 (by decide) (by decide) ?_
      refine v_aload_n dX12_member_19 rfl ?_
      refine v_iload_n dX12_member_20 rfl ?_
      refine v_callv (M' := mX12_isKnown) (d' := d - 1) (mc' := 0) (ms' := 0) (ci := 12) (c := 116) (As := [_]) dX12_member_21 k_1720 cm_X12_isKnown rfl (by omega) (by decide) kk_116 (Nat.le_of_ble_eq_true rfl) rfl ⟨Nat.le_refl _, Nat.le_refl _⟩ ?_
      refine s_X12_isKnown (by omega) (fun c21_11 => ?_) (fun c21_12 c21_13 => ?_) (fun c21_14 c21_15 => ?_)
      · dsimp only [Option.toList, List.cons_append, List.nil_append, Nat.add_zero]
        refine v_if_eq_t (tgt := 37) dX12_member_24 (by decide) (by decide) ?_
        refine v_iconst dX12_member_37 (c32 rfl) ?_
        refine v_ireti dX12_member_38 rfl (Nat.le_refl _) (Nat.le_refl _) ?_
        exact q_5 c6_4 c6_5 c13_9 c13_10 c21_11
      · dsimp only [Option.toList, List.cons_append, List.nil_append, Nat.add_zero]
        rw [show (hset h 116 0 0) 116 1 = (h 116 1) from (hset_j (by decide))] at c21_13
        refine v_if_eq_t (tgt := 37) dX12_member_24 (by decide) (by decide) ?_
        refine v_iconst dX12_member_37 (c32 rfl) ?_
        refine v_ireti dX12_member_38 rfl (Nat.le_refl _) (Nat.le_refl _) ?_
        exact q_6 c6_4 c6_5 c13_9 c13_10 c21_12 c21_13
      · dsimp only [Option.toList, List.cons_append, List.nil_append, Nat.add_zero]
        rw [show (hset h 116 0 0) 116 1 = (h 116 1) from (hset_j (by decide))] at c21_15
        refine v_if_eq_f (tgt := 37) dX12_member_24 (by decide) (by decide) ?_
        refine v_aload_n dX12_member_27 rfl ?_
        refine v_iload_n dX12_member_28 rfl ?_
        refine v_iload_n dX12_member_29 rfl ?_
        refine v_iload_n dX12_member_30 rfl ?_
        refine v_callv (M' := mX12_membersOn) (d' := d - 1) (mc' := 0) (ms' := 0) (ci := 12) (c := 116) (As := [_, _, _]) dX12_member_31 k_1724 cm_X12_membersOn rfl (by omega) (by decide) kk_116 (Nat.le_of_ble_eq_true rfl) rfl ⟨Nat.le_refl _, Nat.le_refl _⟩ ?_
        refine s_X12_membersOn (by omega) (by rw [show (hset h 116 0 0) 116 14 = (h 116 14) from (hset_j (by decide))]; omega) (by rw [show (hset h 116 0 0) 116 14 = (h 116 14) from (hset_j (by decide))]; omega) ?_
        dsimp only [Option.toList, List.cons_append, List.nil_append, Nat.add_zero]
        rw [show (hset h 116 0 0) 117 = h 117 from (hset_r (by decide)), show (hset h 116 0 0) 119 = h 119 from (hset_r (by decide)), show (hset h 116 0 0) 120 = h 120 from (hset_r (by decide)), show (hset h 116 0 0) 116 14 = (h 116 14) from (hset_j (by decide))]
        refine v_goto (tgt := 38) dX12_member_34 (by decide) ?_
        refine v_ireti dX12_member_38 rfl (Nat.le_refl _) (Nat.le_refl _) ?_
        exact q_7 c6_4 c6_5 c13_9 c13_10 c21_14 c21_15

set_option maxHeartbeats 4000000 in
set_option maxRecDepth 100000 in
theorem s_X12_members {l : Launch} {G : GG} {d : Nat} {h : AH} {Q : Option AV → List Kd → AH → Prop} {p0 p1 p2 : Int} (hd : 3 ≤ d) (b0 : 0 ≤ (h 116 14)) (bN : (h 116 14) ≤ 40)
    (q_1 : (h 116 14) = 40 → Q (some (0, 0)) K0 (hset h 116 0 0))
    (q_2 : (h 116 14) ≠ 40 → p0 < 0 → Q (some (0, 0)) K0 (hset h 116 0 0))
    (q_3 : (h 116 14) ≠ 40 → 0 ≤ p0 → 3 < p0 → Q (some (0, 0)) K0 (hset h 116 0 0))
    (q_4 : (h 116 14) ≠ 40 → 0 ≤ p0 → p0 ≤ 3 → p1 < 0 → Q (some (0, 0)) K0 (hset h 116 0 0))
    (q_5 : (h 116 14) ≠ 40 → 0 ≤ p0 → p0 ≤ 3 → 0 ≤ p1 → 255 < p1 → Q (some (0, 0)) K0 (hset h 116 0 0))
    (q_6 : (h 116 14) ≠ 40 → 0 ≤ p0 → p0 ≤ 3 → 0 ≤ p1 → p1 ≤ 255 → p2 < 0 → Q (some (0, 0)) K0 (hset h 116 0 0))
    (q_7 : (h 116 14) ≠ 40 → 0 ≤ p0 → p0 ≤ 3 → 0 ≤ p1 → p1 ≤ 255 → 0 ≤ p2 → 2000 < p2 → Q (some (0, 0)) K0 (hset h 116 0 0))
    (q_8 : (h 116 14) ≠ 40 → 0 ≤ p0 → p0 ≤ 3 → 0 ≤ p1 → p1 ≤ 255 → 0 ≤ p2 → p2 ≤ 2000 → Q (some (0, 1)) K0 (hset (hset (hset (hset (hset (hset h 116 0 0) 117 (h 116 14) p0) 118 (h 116 14) p1) 119 (h 116 14) p2) 120 (h 116 14) (h 116 1)) 116 14 (iadd (h 116 14) 1))) : Sp l G mX12_members d 0 0 K0 [(2, 116), (0, p0), (0, p1), (0, p2)] h Q := by
  refine sp_of (L := [(2, 116), (0, p0), (0, p1), (0, p2)]) pl_X12 (Nat.le_of_ble_eq_true rfl) (tg_c (by decide) (tg_c (by decide) (tg_c (by decide) (tg_c (by decide) tg_0)))) rfl ?_
  refine v_aload_n dX12_members_0 rfl ?_
  refine v_iconst dX12_members_1 (c32 rfl) ?_
  refine v_puti (ci := 12) (j := 0) (ji := 0) dX12_members_2 k_1416 (by decide) kk_116 (by decide) rfl rfl rfl ?_
  refine v_aload_n dX12_members_5 rfl ?_
  refine v_getv (ci := 12) (j := 14) (ji := 14) (tg := 0) dX12_members_6 k_1430 (by decide) kk_116 (by decide) rfl rfl (by decide) (hset_j (by decide)) ?_
  refine v_bipush dX12_members_9 (c32 rfl) (by decide) ?_
  refine v_icmp_eq (tgt := 40) dX12_members_11 (by decide) (fun c11_1 => ?_) (fun c11_1 => ?_)
  · refine v_iconst dX12_members_40 (c32 rfl) ?_
    refine v_iretz dX12_members_41 rfl (by decide) (Nat.le_refl _) (Nat.le_refl _) ?_
    exact q_1 c11_1
  · refine v_iload_n dX12_members_14 rfl ?_
    refine v_calls (M' := mX12_isWeb) (d' := d - 1) (mc' := 0) (ms' := 0) (As := [_]) dX12_members_15 k_1707 cm_X12_isWeb (by omega) (Nat.le_of_ble_eq_true rfl) rfl ⟨Nat.le_refl _, Nat.le_refl _⟩ ?_
    refine s_X12_isWeb (by omega) (fun c15_2 => ?_) (fun c15_3 c15_4 => ?_) (fun c15_5 c15_6 => ?_)
    · dsimp only [Option.toList, List.cons_append, List.nil_append, Nat.add_zero]
      refine v_if_eq_t (tgt := 40) dX12_members_18 (by decide) (by decide) ?_
      refine v_iconst dX12_members_40 (c32 rfl) ?_
      refine v_iretz dX12_members_41 rfl (by decide) (Nat.le_refl _) (Nat.le_refl _) ?_
      exact q_2 c11_1 c15_2
    · dsimp only [Option.toList, List.cons_append, List.nil_append, Nat.add_zero]
      refine v_if_eq_t (tgt := 40) dX12_members_18 (by decide) (by decide) ?_
      refine v_iconst dX12_members_40 (c32 rfl) ?_
      refine v_iretz dX12_members_41 rfl (by decide) (Nat.le_refl _) (Nat.le_refl _) ?_
      exact q_3 c11_1 c15_3 c15_4
    · dsimp only [Option.toList, List.cons_append, List.nil_append, Nat.add_zero]
      refine v_if_eq_f (tgt := 40) dX12_members_18 (by decide) (by decide) ?_
      refine v_iload_n dX12_members_21 rfl ?_
      refine v_i2l dX12_members_22 ?_
      refine v_lconst (z := 0) dX12_members_23 (c64 rfl) (by decide) ?_
      refine v_ldc2 (n := 255) dX12_members_24 k_1711 (c64 rfl) (by decide) ?_
      refine v_calls (M' := mX12_isIn) (d' := d - 1) (mc' := 0) (ms' := 0) (As := [_, _, _]) dX12_members_27 k_1700 cm_X12_isIn (by omega) (Nat.le_of_ble_eq_true rfl) rfl ⟨Nat.le_refl _, Nat.le_refl _⟩ ?_
      refine s_X12_isIn (by omega) (fun c27_7 => ?_) (fun c27_8 c27_9 => ?_) (fun c27_10 c27_11 => ?_)
      · dsimp only [Option.toList, List.cons_append, List.nil_append, Nat.add_zero]
        refine v_if_eq_t (tgt := 40) dX12_members_30 (by decide) (by decide) ?_
        refine v_iconst dX12_members_40 (c32 rfl) ?_
        refine v_iretz dX12_members_41 rfl (by decide) (Nat.le_refl _) (Nat.le_refl _) ?_
        exact q_4 c11_1 c15_5 c15_6 c27_7
      · dsimp only [Option.toList, List.cons_append, List.nil_append, Nat.add_zero]
        refine v_if_eq_t (tgt := 40) dX12_members_30 (by decide) (by decide) ?_
        refine v_iconst dX12_members_40 (c32 rfl) ?_
        refine v_iretz dX12_members_41 rfl (by decide) (Nat.le_refl _) (Nat.le_refl _) ?_
        exact q_5 c11_1 c15_5 c15_6 c27_8 c27_9
      · dsimp only [Option.toList, List.cons_append, List.nil_append, Nat.add_zero]
        refine v_if_eq_f (tgt := 40) dX12_members_30 (by decide) (by decide) ?_
        refine v_iload_n dX12_members_33 rfl ?_
        refine v_calls (M' := mX12_isDay) (d' := d - 1) (mc' := 0) (ms' := 0) (As := [_]) dX12_members_34 k_1712 cm_X12_isDay (by omega) (Nat.le_of_ble_eq_true rfl) rfl ⟨Nat.le_refl _, Nat.le_refl _⟩ ?_
        refine s_X12_isDay (by omega) (fun c34_12 => ?_) (fun c34_13 c34_14 => ?_) (fun c34_15 c34_16 => ?_)
        · dsimp only [Option.toList, List.cons_append, List.nil_append, Nat.add_zero]
          refine v_if_ne_f (tgt := 42) dX12_members_37 (by decide) (by decide) ?_
          refine v_iconst dX12_members_40 (c32 rfl) ?_
          refine v_iretz dX12_members_41 rfl (by decide) (Nat.le_refl _) (Nat.le_refl _) ?_
          exact q_6 c11_1 c15_5 c15_6 c27_10 c27_11 c34_12
        · dsimp only [Option.toList, List.cons_append, List.nil_append, Nat.add_zero]
          refine v_if_ne_f (tgt := 42) dX12_members_37 (by decide) (by decide) ?_
          refine v_iconst dX12_members_40 (c32 rfl) ?_
          refine v_iretz dX12_members_41 rfl (by decide) (Nat.le_refl _) (Nat.le_refl _) ?_
          exact q_7 c11_1 c15_5 c15_6 c27_10 c27_11 c34_13 c34_14
        · dsimp only [Option.toList, List.cons_append, List.nil_append, Nat.add_zero]
          refine v_if_ne_t (tgt := 42) dX12_members_37 (by decide) (by decide) ?_
          refine v_aload_n dX12_members_42 rfl ?_
          refine v_getr (ci := 12) (j := 2) (ji := 2) (z := 117) dX12_members_43 k_1418 (by decide) kk_116 (by decide) rfl rfl (fun r => rt_116_2 (r rfl)) (by decide) ?_
          refine v_aload_n dX12_members_46 rfl ?_
          refine v_getv (ci := 12) (j := 14) (ji := 14) (tg := 0) dX12_members_47 k_1430 (by decide) kk_116 (by decide) rfl rfl (by decide) (hset_j (by decide)) ?_
          refine v_iload_n dX12_members_50 rfl ?_
          refine v_iastore dX12_members_51 (by decide) kk_117 (by omega) (by omega) ?_
          refine v_aload_n dX12_members_52 rfl ?_
          refine v_getr (ci := 12) (j := 3) (ji := 3) (z := 118) dX12_members_53 k_1419 (by decide) kk_116 (by decide) rfl rfl (fun r => rt_116_3 (r rfl)) (by decide) ?_
          refine v_aload_n dX12_members_56 rfl ?_
          refine v_getv (ci := 12) (j := 14) (ji := 14) (tg := 0) dX12_members_57 k_1430 (by decide) kk_116 (by decide) rfl rfl (by decide) ((hset_c (by decide)).trans (hset_j (by decide))) ?_
          refine v_iload_n dX12_members_60 rfl ?_
          refine v_iastore dX12_members_61 (by decide) kk_118 (by omega) (by omega) ?_
          refine v_aload_n dX12_members_62 rfl ?_
          refine v_getr (ci := 12) (j := 4) (ji := 4) (z := 119) dX12_members_63 k_1420 (by decide) kk_116 (by decide) rfl rfl (fun r => rt_116_4 (r rfl)) (by decide) ?_
          refine v_aload_n dX12_members_66 rfl ?_
          refine v_getv (ci := 12) (j := 14) (ji := 14) (tg := 0) dX12_members_67 k_1430 (by decide) kk_116 (by decide) rfl rfl (by decide) ((hset_c (by decide)).trans ((hset_c (by decide)).trans (hset_j (by decide)))) ?_
          refine v_iload_n dX12_members_70 rfl ?_
          refine v_iastore dX12_members_71 (by decide) kk_119 (by omega) (by omega) ?_
          refine v_aload_n dX12_members_72 rfl ?_
          refine v_getr (ci := 12) (j := 5) (ji := 5) (z := 120) dX12_members_73 k_1421 (by decide) kk_116 (by decide) rfl rfl (fun r => rt_116_5 (r rfl)) (by decide) ?_
          refine v_aload_n dX12_members_76 rfl ?_
          refine v_getv (ci := 12) (j := 14) (ji := 14) (tg := 0) dX12_members_77 k_1430 (by decide) kk_116 (by decide) rfl rfl (by decide) ((hset_c (by decide)).trans ((hset_c (by decide)).trans ((hset_c (by decide)).trans (hset_j (by decide))))) ?_
          refine v_aload_n dX12_members_80 rfl ?_
          refine v_getv (ci := 12) (j := 1) (ji := 1) (tg := 0) dX12_members_81 k_1417 (by decide) kk_116 (by decide) rfl rfl (by decide) ((hset_c (by decide)).trans ((hset_c (by decide)).trans ((hset_c (by decide)).trans (hset_j (by decide))))) ?_
          refine v_iastore dX12_members_84 (by decide) kk_120 (by omega) (by omega) ?_
          refine v_aload_n dX12_members_85 rfl ?_
          refine v_dup dX12_members_86 rfl ?_
          refine v_getv (ci := 12) (j := 14) (ji := 14) (tg := 0) dX12_members_87 k_1430 (by decide) kk_116 (by decide) rfl rfl (by decide) ((hset_c (by decide)).trans ((hset_c (by decide)).trans ((hset_c (by decide)).trans ((hset_c (by decide)).trans (hset_j (by decide)))))) ?_
          refine v_iconst dX12_members_90 (c32 rfl) ?_
          refine v_iadd dX12_members_91 ?_
          refine v_puti (ci := 12) (j := 14) (ji := 14) dX12_members_92 k_1430 (by decide) kk_116 (by decide) rfl rfl rfl ?_
          refine v_iconst dX12_members_95 (c32 rfl) ?_
          refine v_iretz dX12_members_96 rfl (by decide) (Nat.le_refl _) (Nat.le_refl _) ?_
          exact q_8 c11_1 c15_5 c15_6 c27_10 c27_11 c34_15 c34_16

set_option maxHeartbeats 4000000 in
set_option maxRecDepth 100000 in
theorem s_X12_force {l : Launch} {G : GG} {d : Nat} {h : AH} {Q : Option AV → List Kd → AH → Prop} {p0 p1 p2 : Int} (hd : 3 ≤ d) (b0 : 0 ≤ (h 116 15)) (bN : (h 116 15) ≤ 20)
    (q_1 : p0 < 0 → Q (some (0, (-1))) K0 (hset h 116 0 0))
    (q_2 : 0 ≤ p0 → 3 < p0 → Q (some (0, (-1))) K0 (hset h 116 0 0))
    (q_3 : 0 ≤ p0 → p0 ≤ 3 → p1 < 0 → Q (some (0, (-1))) K0 (hset h 116 0 0))
    (q_4 : 0 ≤ p0 → p0 ≤ 3 → 0 ≤ p1 → 2000 < p1 → Q (some (0, (-1))) K0 (hset h 116 0 0))
    (q_5 : 0 ≤ p0 → p0 ≤ 3 → 0 ≤ p1 → p1 ≤ 2000 → p2 < 0 → Q (some (0, (-1))) K0 (hset h 116 0 0))
    (q_6 : 0 ≤ p0 → p0 ≤ 3 → 0 ≤ p1 → p1 ≤ 2000 → 0 ≤ p2 → (h 116 1) < p2 → Q (some (0, (-1))) K0 (hset h 116 0 0))
    (q_7 : 0 ≤ p0 → p0 ≤ 3 → 0 ≤ p1 → p1 ≤ 2000 → 0 ≤ p2 → p2 ≤ (h 116 1) → Q (some (0, (ifc (h 121) (h 122) (h 123) p0 p1 p2 (h 116 15)))) K0 (hset h 116 0 0)) : Sp l G mX12_force d 0 0 K0 [(2, 116), (0, p0), (0, p1), (0, p2)] h Q := by
  refine sp_of (L := [(2, 116), (0, p0), (0, p1), (0, p2)]) pl_X12 (Nat.le_of_ble_eq_true rfl) (tg_c (by decide) (tg_c (by decide) (tg_c (by decide) (tg_c (by decide) tg_0)))) rfl ?_
  refine v_aload_n dX12_force_0 rfl ?_
  refine v_iconst dX12_force_1 (c32 rfl) ?_
  refine v_puti (ci := 12) (j := 0) (ji := 0) dX12_force_2 k_1416 (by decide) kk_116 (by decide) rfl rfl rfl ?_
  refine v_iload_n dX12_force_5 rfl ?_
  refine v_calls (M' := mX12_isWeb) (d' := d - 1) (mc' := 0) (ms' := 0) (As := [_]) dX12_force_6 k_1707 cm_X12_isWeb (by omega) (Nat.le_of_ble_eq_true rfl) rfl ⟨Nat.le_refl _, Nat.le_refl _⟩ ?_
  refine s_X12_isWeb (by omega) (fun c6_1 => ?_) (fun c6_2 c6_3 => ?_) (fun c6_4 c6_5 => ?_)
  · dsimp only [Option.toList, List.cons_append, List.nil_append, Nat.add_zero]
    refine v_if_eq_t (tgt := 37) dX12_force_9 (by decide) (by decide) ?_
    refine v_iconst dX12_force_37 (c32 rfl) ?_
    refine v_ireti dX12_force_38 rfl (Nat.le_refl _) (Nat.le_refl _) ?_
    exact q_1 c6_1
  · dsimp only [Option.toList, List.cons_append, List.nil_append, Nat.add_zero]
    refine v_if_eq_t (tgt := 37) dX12_force_9 (by decide) (by decide) ?_
    refine v_iconst dX12_force_37 (c32 rfl) ?_
    refine v_ireti dX12_force_38 rfl (Nat.le_refl _) (Nat.le_refl _) ?_
    exact q_2 c6_2 c6_3
  · dsimp only [Option.toList, List.cons_append, List.nil_append, Nat.add_zero]
    refine v_if_eq_f (tgt := 37) dX12_force_9 (by decide) (by decide) ?_
    refine v_iload_n dX12_force_12 rfl ?_
    refine v_calls (M' := mX12_isDay) (d' := d - 1) (mc' := 0) (ms' := 0) (As := [_]) dX12_force_13 k_1712 cm_X12_isDay (by omega) (Nat.le_of_ble_eq_true rfl) rfl ⟨Nat.le_refl _, Nat.le_refl _⟩ ?_
    refine s_X12_isDay (by omega) (fun c13_6 => ?_) (fun c13_7 c13_8 => ?_) (fun c13_9 c13_10 => ?_)
    · dsimp only [Option.toList, List.cons_append, List.nil_append, Nat.add_zero]
      refine v_if_eq_t (tgt := 37) dX12_force_16 (by decide) (by decide) ?_
      refine v_iconst dX12_force_37 (c32 rfl) ?_
      refine v_ireti dX12_force_38 rfl (Nat.le_refl _) (Nat.le_refl _) ?_
      exact q_3 c6_4 c6_5 c13_6
    · dsimp only [Option.toList, List.cons_append, List.nil_append, Nat.add_zero]
      refine v_if_eq_t (tgt := 37) dX12_force_16 (by decide) (by decide) ?_
      refine v_iconst dX12_force_37 (c32 rfl) ?_
      refine v_ireti dX12_force_38 rfl (Nat.le_refl _) (Nat.le_refl _) ?_
      exact q_4 c6_4 c6_5 c13_7 c13_8
    · dsimp only [Option.toList, List.cons_append, List.nil_append, Nat.add_zero]
      refine v_if_eq_f (tgt := 37) dX12_force_16 (by decide) (by decide) ?_
      refine v_aload_n dX12_force_19 rfl ?_
      refine v_iload_n dX12_force_20 rfl ?_
      refine v_callv (M' := mX12_isKnown) (d' := d - 1) (mc' := 0) (ms' := 0) (ci := 12) (c := 116) (As := [_]) dX12_force_21 k_1720 cm_X12_isKnown rfl (by omega) (by decide) kk_116 (Nat.le_of_ble_eq_true rfl) rfl ⟨Nat.le_refl _, Nat.le_refl _⟩ ?_
      refine s_X12_isKnown (by omega) (fun c21_11 => ?_) (fun c21_12 c21_13 => ?_) (fun c21_14 c21_15 => ?_)
      · dsimp only [Option.toList, List.cons_append, List.nil_append, Nat.add_zero]
        refine v_if_eq_t (tgt := 37) dX12_force_24 (by decide) (by decide) ?_
        refine v_iconst dX12_force_37 (c32 rfl) ?_
        refine v_ireti dX12_force_38 rfl (Nat.le_refl _) (Nat.le_refl _) ?_
        exact q_5 c6_4 c6_5 c13_9 c13_10 c21_11
      · dsimp only [Option.toList, List.cons_append, List.nil_append, Nat.add_zero]
        rw [show (hset h 116 0 0) 116 1 = (h 116 1) from (hset_j (by decide))] at c21_13
        refine v_if_eq_t (tgt := 37) dX12_force_24 (by decide) (by decide) ?_
        refine v_iconst dX12_force_37 (c32 rfl) ?_
        refine v_ireti dX12_force_38 rfl (Nat.le_refl _) (Nat.le_refl _) ?_
        exact q_6 c6_4 c6_5 c13_9 c13_10 c21_12 c21_13
      · dsimp only [Option.toList, List.cons_append, List.nil_append, Nat.add_zero]
        rw [show (hset h 116 0 0) 116 1 = (h 116 1) from (hset_j (by decide))] at c21_15
        refine v_if_eq_f (tgt := 37) dX12_force_24 (by decide) (by decide) ?_
        refine v_aload_n dX12_force_27 rfl ?_
        refine v_iload_n dX12_force_28 rfl ?_
        refine v_iload_n dX12_force_29 rfl ?_
        refine v_iload_n dX12_force_30 rfl ?_
        refine v_callv (M' := mX12_protocolOn) (d' := d - 1) (mc' := 0) (ms' := 0) (ci := 12) (c := 116) (As := [_, _, _]) dX12_force_31 k_1824 cm_X12_protocolOn rfl (by omega) (by decide) kk_116 (Nat.le_of_ble_eq_true rfl) rfl ⟨Nat.le_refl _, Nat.le_refl _⟩ ?_
        refine s_X12_protocolOn (by omega) (by rw [show (hset h 116 0 0) 116 15 = (h 116 15) from (hset_j (by decide))]; omega) (by rw [show (hset h 116 0 0) 116 15 = (h 116 15) from (hset_j (by decide))]; omega) ?_
        dsimp only [Option.toList, List.cons_append, List.nil_append, Nat.add_zero]
        rw [show (hset h 116 0 0) 121 = h 121 from (hset_r (by decide)), show (hset h 116 0 0) 122 = h 122 from (hset_r (by decide)), show (hset h 116 0 0) 123 = h 123 from (hset_r (by decide)), show (hset h 116 0 0) 116 15 = (h 116 15) from (hset_j (by decide))]
        refine v_goto (tgt := 38) dX12_force_34 (by decide) ?_
        refine v_ireti dX12_force_38 rfl (Nat.le_refl _) (Nat.le_refl _) ?_
        exact q_7 c6_4 c6_5 c13_9 c13_10 c21_14 c21_15

