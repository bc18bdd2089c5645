/-! ===== the reference: failing, states (written by wip/whole/p28.py) ===== -/
set_option maxHeartbeats 4000000 in
set_option maxRecDepth 100000 in
theorem lp_failing {l : Launch} {G : GG} {d : Nat} {h : AH} {Q : Option AV → List Kd → AH → Prop} {F : AH} {z O Lr : Int → Int} {b w q : Int} (hd : 1 ≤ d) (W : RW h) (hb : 0 ≤ b ∧ b < h 116 45) (q1 : ∀ k, 0 ≤ k → k < h 137 b → O (eB h b k) = 0 → (∀ j, 0 ≤ j → j < k → O (eB h b j) ≠ 0) → Q (some (0, k)) K0 (jst (kst h F) z O Lr)) (q2 : (∀ j, 0 ≤ j → j < h 137 b → O (eB h b j) ≠ 0) → Q (some (0, -1)) K0 (jst (kst h F) z O Lr)) : ∀ k, 0 ≤ k → k ≤ h 137 b → (∀ j, 0 ≤ j → j < k → O (eB h b j) ≠ 0) → V l G mX12_failing d 0 0 0 0 K0 15 [(2, 116), (0, b), (0, w), (0, q), (0, k)] [] (jst (kst h F) z O Lr) Q := by
  have nb := W.nb
  have hen := W.en b hb.1 hb.2
  refine loop_m3 (fun k hk hkN ih hall => ?_)
  refine v_iload dX12_failing_15 rfl ?_
  refine v_aload_n dX12_failing_17 rfl ?_
  refine v_getr (ci := 12) (j := 34) (ji := 34) (z := 137) dX12_failing_18 k_1450 (by decide) kk_116 (by decide) rfl rfl (fun r => rt_116_34 (r rfl)) (by decide) ?_
  refine v_iload_n dX12_failing_21 rfl ?_
  refine v_ialoadv dX12_failing_22 (by decide) kk_137 (by omega) (by omega) ((jst_c (by decide)).trans (kst_n (by decide))) ?_
  refine v_icmp_ge (tgt := 55) dX12_failing_23 (by decide) (fun c23_1 => ?_) (fun c23_1 => ?_)
  · refine v_iconst dX12_failing_55 (c32 rfl) ?_
    refine v_ireti dX12_failing_56 rfl (Nat.le_refl _) (Nat.le_refl _) ?_
    obtain rfl : k = h 137 b := by omega
    exact q2 hall
  · have hen9 := W.eb hb.1 hb.2 k hk (by omega)
    refine v_aload_n dX12_failing_26 rfl ?_
    refine v_getr (ci := 12) (j := 49) (ji := 49) (z := 148) dX12_failing_27 k_1465 (by decide) kk_116 (by decide) rfl rfl (fun r => rt_116_49 (r rfl)) (by decide) ?_
    refine v_aload_n dX12_failing_30 rfl ?_
    refine v_getr (ci := 12) (j := 35) (ji := 35) (z := 138) dX12_failing_31 k_1451 (by decide) kk_116 (by decide) rfl rfl (fun r => rt_116_35 (r rfl)) (by decide) ?_
    refine v_bipush dX12_failing_34 (c32 rfl) (by decide) ?_
    refine v_iload_n dX12_failing_36 rfl ?_
    refine v_imulE dX12_failing_37 (by omega) ?_
    refine v_iload dX12_failing_38 rfl ?_
    refine v_iaddE dX12_failing_40 (by omega) ?_
    refine v_ialoadv dX12_failing_41 (by decide) kk_138 (by omega) (by omega) ((jst_c (by decide)).trans ((kst_n (by decide)).trans ((show h 138 (6 * b + k) = eB h b k from rfl)))) ?_
    refine v_zaloadv dX12_failing_42 (by decide) kk_148 (by omega) (by omega) (jst_o) ?_
    refine v_if_ne (tgt := 49) dX12_failing_43 (by decide) (fun c43_2 => ?_) (fun c43_2 => ?_)
    · refine v_iinc_4 dX12_failing_49 (by decide) rfl ?_
      rw [iadd_eq (x := k) (y := 1) (by unfold ok32; omega)]
      refine v_goto (tgt := 15) dX12_failing_52 (by decide) ?_
      exact ih (by omega) (fun j j0 j1 => by
        by_cases e : j = k
        · rw [e]; exact c43_2
        · exact hall j j0 (by omega))
    · refine v_iload dX12_failing_46 rfl ?_
      refine v_ireti dX12_failing_48 rfl (Nat.le_refl _) (Nat.le_refl _) ?_
      exact q1 k hk (by omega) c43_2 hall

set_option maxHeartbeats 4000000 in
set_option maxRecDepth 100000 in
theorem s_failing {l : Launch} {G : GG} {d : Nat} {h : AH} {Q : Option AV → List Kd → AH → Prop} {F : AH} {z O Lr : Int → Int} {cs : Int → List (Int × List Int)} {b w q : Int} (hd : 41 ≤ d) (W : RW h) (hX : TX h cs) (q0 : ¬ ((0 ≤ b ∧ b < h 116 45) ∧ (0 ≤ w ∧ w ≤ 3) ∧ (0 ≤ q ∧ q ≤ h 116 1) ∧ h 134 b ≤ q) → Q (some (0, -1)) K0 (jst (kst h (hset F 116 0 0)) z O Lr)) (q1 : ∀ z Lr, (0 ≤ b ∧ b < h 116 45) ∧ (0 ≤ w ∧ w ≤ 3) ∧ (0 ≤ q ∧ q ≤ h 116 1) ∧ h 134 b ≤ q → ∀ k, 0 ≤ k → k < h 137 b → (jO h cs w q (-1) O (b + 1)) (eB h b k) = 0 → (∀ j, 0 ≤ j → j < k → (jO h cs w q (-1) O (b + 1)) (eB h b j) ≠ 0) → Q (some (0, k)) K0 (jst (kst h (hset F 116 0 0)) z (jO h cs w q (-1) O (b + 1)) Lr)) (q2 : ∀ z Lr, (0 ≤ b ∧ b < h 116 45) ∧ (0 ≤ w ∧ w ≤ 3) ∧ (0 ≤ q ∧ q ≤ h 116 1) ∧ h 134 b ≤ q → (∀ j, 0 ≤ j → j < h 137 b → (jO h cs w q (-1) O (b + 1)) (eB h b j) ≠ 0) → Q (some (0, -1)) K0 (jst (kst h (hset F 116 0 0)) z (jO h cs w q (-1) O (b + 1)) Lr)) : Sp l G mX12_failing d 0 0 K0 [(2, 116), (0, b), (0, w), (0, q)] (jst (kst h F) z O Lr) Q := by
  have nb := W.nb
  have nt := W.nt
  refine sp_of (L := [(2, 116), (0, b), (0, w), (0, q), (9, 0)]) pl_X12 (Nat.le_of_ble_eq_true rfl) (tg_c (by decide) (tg_c (by decide) (tg_c (by decide) (tg_c (by decide) tg_0)))) rfl ?_
  refine v_aload_n dX12_failing_0 rfl ?_
  refine v_iload_n dX12_failing_1 rfl ?_
  refine v_iload_n dX12_failing_2 rfl ?_
  refine v_iload_n dX12_failing_3 rfl ?_
  refine v_callv (M' := mX12_asks) (d' := d - 1) (mc' := 0) (ms' := 0) (ci := 12) (c := 116) (As := [_, _, _]) dX12_failing_4 k_1917 cm_X12_asks rfl (by omega) (by decide) kk_116 (Nat.le_of_ble_eq_true rfl) rfl ⟨Nat.le_refl _, Nat.le_refl _⟩ ?_
  refine s_asks (cs := cs) (by omega) W hX (fun c4_1 => ?_) (fun xz_2 xl_2 c4_2 => ?_)
  · dsimp only [Option.toList, List.cons_append, List.nil_append, Nat.add_zero]
    refine v_if_ne_f (tgt := 12) dX12_failing_7 (by decide) (by decide) ?_
    refine v_iconst dX12_failing_10 (c32 rfl) ?_
    refine v_ireti dX12_failing_11 rfl (Nat.le_refl _) (Nat.le_refl _) ?_
    exact q0 c4_1
  · dsimp only [Option.toList, List.cons_append, List.nil_append, Nat.add_zero]
    refine v_if_ne_t (tgt := 12) dX12_failing_7 (by decide) (by decide) ?_
    refine v_iconst dX12_failing_12 (c32 rfl) ?_
    refine v_istore_4 dX12_failing_13 (by decide) rfl ?_
    have c9 := c4_2
    exact lp_failing (by omega) W c9.1 (fun k a1 a2 a3 a4 => q1 _ _ c9 k a1 a2 a3 a4) (fun a1 => q2 _ _ c9 a1) 0 (Int.le_refl _) (W.en b c9.1.1 c9.1.2).1 (fun j j0 j1 => by omega)

set_option maxHeartbeats 4000000 in
set_option maxRecDepth 100000 in
theorem s_isLike {l : Launch} {G : GG} {d : Nat} {h : AH} {Q : Option AV → List Kd → AH → Prop} {F : AH} {z O Lr : Int → Int} {s o : Int} (hd : 1 ≤ d) (W : RW h) (S : RS h) (hs : 0 ≤ s ∧ s < h 116 65) (ho : 0 ≤ o ∧ o < h 116 65) (q1 : lik h s o → Q (some (0, 1)) K0 (jst (kst h F) z O Lr)) (q0 : ¬ lik h s o → Q (some (0, 0)) K0 (jst (kst h F) z O Lr)) : Sp l G mX12_isLike d 0 0 K0 [(2, 116), (0, s), (0, o)] (jst (kst h F) z O Lr) Q := by
  have a1 := S.1
  have a2 := S.2.2.1 s hs.1 hs.2
  have a3 := S.2.2.1 o ho.1 ho.2
  have nb := W.nb
  refine sp_of (L := [(2, 116), (0, s), (0, o)]) pl_X12 (Nat.le_of_ble_eq_true rfl) (tg_c (by decide) (tg_c (by decide) (tg_c (by decide) tg_0))) rfl ?_
  refine v_aload_n dX12_isLike_0 rfl ?_
  refine v_getr (ci := 12) (j := 53) (ji := 53) (z := 152) dX12_isLike_1 k_1469 (by decide) kk_116 (by decide) rfl rfl (fun r => rt_116_53 (r rfl)) (by decide) ?_
  refine v_iload_n dX12_isLike_4 rfl ?_
  refine v_ialoadv dX12_isLike_5 (by decide) kk_152 (by omega) (by omega) ((jst_c (by decide)).trans (kst_n (by decide))) ?_
  refine v_aload_n dX12_isLike_6 rfl ?_
  refine v_getr (ci := 12) (j := 53) (ji := 53) (z := 152) dX12_isLike_7 k_1469 (by decide) kk_116 (by decide) rfl rfl (fun r => rt_116_53 (r rfl)) (by decide) ?_
  refine v_iload_n dX12_isLike_10 rfl ?_
  refine v_ialoadv dX12_isLike_11 (by decide) kk_152 (by omega) (by omega) ((jst_c (by decide)).trans (kst_n (by decide))) ?_
  refine v_icmp_ne (tgt := 82) dX12_isLike_12 (by decide) (fun c12_1 => ?_) (fun c12_1 => ?_)
  · refine v_iconst dX12_isLike_82 (c32 rfl) ?_
    refine v_iretz dX12_isLike_83 rfl (by decide) (Nat.le_refl _) (Nat.le_refl _) ?_
    exact q0 (by unfold lik; omega)
  · refine v_aload_n dX12_isLike_15 rfl ?_
    refine v_getr (ci := 12) (j := 54) (ji := 54) (z := 153) dX12_isLike_16 k_1470 (by decide) kk_116 (by decide) rfl rfl (fun r => rt_116_54 (r rfl)) (by decide) ?_
    refine v_iload_n dX12_isLike_19 rfl ?_
    refine v_ialoadv dX12_isLike_20 (by decide) kk_153 (by omega) (by omega) ((jst_c (by decide)).trans (kst_n (by decide))) ?_
    refine v_aload_n dX12_isLike_21 rfl ?_
    refine v_getr (ci := 12) (j := 54) (ji := 54) (z := 153) dX12_isLike_22 k_1470 (by decide) kk_116 (by decide) rfl rfl (fun r => rt_116_54 (r rfl)) (by decide) ?_
    refine v_iload_n dX12_isLike_25 rfl ?_
    refine v_ialoadv dX12_isLike_26 (by decide) kk_153 (by omega) (by omega) ((jst_c (by decide)).trans (kst_n (by decide))) ?_
    refine v_icmp_ne (tgt := 82) dX12_isLike_27 (by decide) (fun c27_2 => ?_) (fun c27_2 => ?_)
    · refine v_iconst dX12_isLike_82 (c32 rfl) ?_
      refine v_iretz dX12_isLike_83 rfl (by decide) (Nat.le_refl _) (Nat.le_refl _) ?_
      exact q0 (by unfold lik; omega)
    · refine v_aload_n dX12_isLike_30 rfl ?_
      refine v_getr (ci := 12) (j := 27) (ji := 27) (z := 130) dX12_isLike_31 k_1443 (by decide) kk_116 (by decide) rfl rfl (fun r => rt_116_27 (r rfl)) (by decide) ?_
      refine v_aload_n dX12_isLike_34 rfl ?_
      refine v_getr (ci := 12) (j := 51) (ji := 51) (z := 150) dX12_isLike_35 k_1467 (by decide) kk_116 (by decide) rfl rfl (fun r => rt_116_51 (r rfl)) (by decide) ?_
      refine v_iload_n dX12_isLike_38 rfl ?_
      refine v_ialoadv dX12_isLike_39 (by decide) kk_150 (by omega) (by omega) ((jst_c (by decide)).trans (kst_n (by decide))) ?_
      refine v_ialoadv dX12_isLike_40 (by decide) kk_130 (by omega) (by omega) ((jst_c (by decide)).trans (kst_n (by decide))) ?_
      refine v_aload_n dX12_isLike_41 rfl ?_
      refine v_getr (ci := 12) (j := 27) (ji := 27) (z := 130) dX12_isLike_42 k_1443 (by decide) kk_116 (by decide) rfl rfl (fun r => rt_116_27 (r rfl)) (by decide) ?_
      refine v_aload_n dX12_isLike_45 rfl ?_
      refine v_getr (ci := 12) (j := 51) (ji := 51) (z := 150) dX12_isLike_46 k_1467 (by decide) kk_116 (by decide) rfl rfl (fun r => rt_116_51 (r rfl)) (by decide) ?_
      refine v_iload_n dX12_isLike_49 rfl ?_
      refine v_ialoadv dX12_isLike_50 (by decide) kk_150 (by omega) (by omega) ((jst_c (by decide)).trans (kst_n (by decide))) ?_
      refine v_ialoadv dX12_isLike_51 (by decide) kk_130 (by omega) (by omega) ((jst_c (by decide)).trans (kst_n (by decide))) ?_
      refine v_icmp_ne (tgt := 82) dX12_isLike_52 (by decide) (fun c52_3 => ?_) (fun c52_3 => ?_)
      · refine v_iconst dX12_isLike_82 (c32 rfl) ?_
        refine v_iretz dX12_isLike_83 rfl (by decide) (Nat.le_refl _) (Nat.le_refl _) ?_
        exact q0 (by unfold lik; omega)
      · refine v_aload_n dX12_isLike_55 rfl ?_
        refine v_getr (ci := 12) (j := 56) (ji := 56) (z := 155) dX12_isLike_56 k_1472 (by decide) kk_116 (by decide) rfl rfl (fun r => rt_116_56 (r rfl)) (by decide) ?_
        refine v_iload_n dX12_isLike_59 rfl ?_
        refine v_ialoadv dX12_isLike_60 (by decide) kk_155 (by omega) (by omega) ((jst_c (by decide)).trans (kst_n (by decide))) ?_
        refine v_sipush dX12_isLike_61 (c32 rfl) (by decide) ?_
        refine v_idiv dX12_isLike_64 (by decide) ?_
        refine v_aload_n dX12_isLike_65 rfl ?_
        refine v_getr (ci := 12) (j := 56) (ji := 56) (z := 155) dX12_isLike_66 k_1472 (by decide) kk_116 (by decide) rfl rfl (fun r => rt_116_56 (r rfl)) (by decide) ?_
        refine v_iload_n dX12_isLike_69 rfl ?_
        refine v_ialoadv dX12_isLike_70 (by decide) kk_155 (by omega) (by omega) ((jst_c (by decide)).trans (kst_n (by decide))) ?_
        refine v_sipush dX12_isLike_71 (c32 rfl) (by decide) ?_
        refine v_idiv dX12_isLike_74 (by decide) ?_
        refine v_icmp_ne (tgt := 82) dX12_isLike_75 (by decide) (fun c75_4 => ?_) (fun c75_4 => ?_)
        · refine v_iconst dX12_isLike_82 (c32 rfl) ?_
          refine v_iretz dX12_isLike_83 rfl (by decide) (Nat.le_refl _) (Nat.le_refl _) ?_
          exact q0 (by unfold lik; omega)
        · refine v_iconst dX12_isLike_78 (c32 rfl) ?_
          refine v_goto (tgt := 83) dX12_isLike_79 (by decide) ?_
          refine v_iretz dX12_isLike_83 rfl (by decide) (Nat.le_refl _) (Nat.le_refl _) ?_
          exact q1 (by unfold lik; omega)

set_option maxHeartbeats 4000000 in
set_option maxRecDepth 100000 in
theorem lp_fstate {l : Launch} {G : GG} {d : Nat} {h : AH} {Q : Option AV → List Kd → AH → Prop} {F : AH} {z O Lr : Int → Int} {b s q : Int} (S : RS h) (hq : V l G mX12_firstState d 0 0 0 0 K0 180 [(2, 116), (0, s), (0, q), (0, b), (0, pap h s q (h 116 66)), (0, (h 116 66))] [] (jst (kst h F) z O Lr) Q) : ∀ k, 0 ≤ k → k ≤ h 116 66 → V l G mX12_firstState d 0 0 0 0 K0 134 [(2, 116), (0, s), (0, q), (0, b), (0, pap h s q k), (0, k)] [] (jst (kst h F) z O Lr) Q := by
  have a1 := S.2.1
  refine loop_m3 (fun k hk hkN ih => ?_)
  refine v_iload dX12_firstState_134 rfl ?_
  refine v_aload_n dX12_firstState_136 rfl ?_
  refine v_getv (ci := 12) (j := 66) (ji := 66) (tg := 0) dX12_firstState_137 k_1482 (by decide) kk_116 (by decide) rfl rfl (by decide) ((jst_j (by decide)).trans (kst_c (by decide))) ?_
  refine v_icmp_ge (tgt := 180) dX12_firstState_140 (by decide) (fun c140_1 => ?_) (fun c140_1 => ?_)
  · obtain rfl : k = h 116 66 := by omega
    exact hq
  · refine v_aload_n dX12_firstState_143 rfl ?_
    refine v_getr (ci := 12) (j := 57) (ji := 57) (z := 156) dX12_firstState_144 k_1473 (by decide) kk_116 (by decide) rfl rfl (fun r => rt_116_57 (r rfl)) (by decide) ?_
    refine v_iload dX12_firstState_147 rfl ?_
    refine v_ialoadv dX12_firstState_149 (by decide) kk_156 (by omega) (by omega) ((jst_c (by decide)).trans (kst_n (by decide))) ?_
    refine v_iload_n dX12_firstState_150 rfl ?_
    refine v_icmp_ne (tgt := 174) dX12_firstState_151 (by decide) (fun c151_2 => ?_) (fun c151_2 => ?_)
    · refine v_iinc_5 dX12_firstState_174 (by decide) rfl ?_
      rw [iadd_eq (x := k) (y := 1) (by unfold ok32; omega)]
      refine v_goto (tgt := 134) dX12_firstState_177 (by decide) ?_
      have ih9 := ih (by omega)
      have e9 : pap h s q (k + 1) = (pap h s q k) := by unfold pap; rw [laF_s hk]; unfold laSt; first | (rw [if_pos (by omega)]; done) | (rw [if_neg (by omega)]; done)
      rw [e9] at ih9
      exact ih9
    · refine v_aload_n dX12_firstState_154 rfl ?_
      refine v_getr (ci := 12) (j := 59) (ji := 59) (z := 158) dX12_firstState_155 k_1475 (by decide) kk_116 (by decide) rfl rfl (fun r => rt_116_59 (r rfl)) (by decide) ?_
      refine v_iload dX12_firstState_158 rfl ?_
      refine v_ialoadv dX12_firstState_160 (by decide) kk_158 (by omega) (by omega) ((jst_c (by decide)).trans (kst_n (by decide))) ?_
      refine v_iload_n dX12_firstState_161 rfl ?_
      refine v_icmp_gt (tgt := 174) dX12_firstState_162 (by decide) (fun c162_3 => ?_) (fun c162_3 => ?_)
      · refine v_iinc_5 dX12_firstState_174 (by decide) rfl ?_
        rw [iadd_eq (x := k) (y := 1) (by unfold ok32; omega)]
        refine v_goto (tgt := 134) dX12_firstState_177 (by decide) ?_
        have ih9 := ih (by omega)
        have e9 : pap h s q (k + 1) = (pap h s q k) := by unfold pap; rw [laF_s hk]; unfold laSt; first | (rw [if_pos (by omega)]; done) | (rw [if_neg (by omega)]; done)
        rw [e9] at ih9
        exact ih9
      · refine v_aload_n dX12_firstState_165 rfl ?_
        refine v_getr (ci := 12) (j := 58) (ji := 58) (z := 157) dX12_firstState_166 k_1474 (by decide) kk_116 (by decide) rfl rfl (fun r => rt_116_58 (r rfl)) (by decide) ?_
        refine v_iload dX12_firstState_169 rfl ?_
        refine v_ialoadv dX12_firstState_171 (by decide) kk_157 (by omega) (by omega) ((jst_c (by decide)).trans (kst_n (by decide))) ?_
        refine v_istore_4 dX12_firstState_172 (by decide) rfl ?_
        refine v_iinc_5 dX12_firstState_174 (by decide) rfl ?_
        rw [iadd_eq (x := k) (y := 1) (by unfold ok32; omega)]
        refine v_goto (tgt := 134) dX12_firstState_177 (by decide) ?_
        have ih9 := ih (by omega)
        have e9 : pap h s q (k + 1) = (h 157 k) := by unfold pap; rw [laF_s hk]; unfold laSt; first | (rw [if_pos (by omega)]; done) | (rw [if_neg (by omega)]; done)
        rw [e9] at ih9
        exact ih9

set_option maxHeartbeats 4000000 in
set_option maxRecDepth 100000 in
theorem s_firstState {l : Launch} {G : GG} {d : Nat} {h : AH} {Q : Option AV → List Kd → AH → Prop} {F : AH} {z O Lr : Int → Int} {cs : Int → List (Int × List Int)} {s q : Int} (hd : 40 ≤ d) (W : RW h) (S : RS h) (hX : TX h cs) (hs : 0 ≤ s ∧ s < h 116 65) (hq : ∀ z Lr, Q (some (0, fS h cs (F 164) s q)) K0 (jst (kst h F) z O Lr)) : Sp l G mX12_firstState d 0 0 K0 [(2, 116), (0, s), (0, q)] (jst (kst h F) z O Lr) Q := by
  have a1 := S.1
  have a2 := S.2.2.1 s hs.1 hs.2
  have nb := W.nb
  have w1 := @wS_ok h cs s q 103
  have w2 := @wS_ok h cs s q 115
  refine sp_of (L := [(2, 116), (0, s), (0, q), (9, 0), (9, 0), (9, 0)]) pl_X12 (Nat.le_of_ble_eq_true rfl) (tg_c (by decide) (tg_c (by decide) (tg_c (by decide) tg_0))) rfl ?_
  refine v_aload_n dX12_firstState_0 rfl ?_
  refine v_getr (ci := 12) (j := 54) (ji := 54) (z := 153) dX12_firstState_1 k_1470 (by decide) kk_116 (by decide) rfl rfl (fun r => rt_116_54 (r rfl)) (by decide) ?_
  refine v_iload_n dX12_firstState_4 rfl ?_
  refine v_ialoadv dX12_firstState_5 (by decide) kk_153 (by omega) (by omega) ((jst_c (by decide)).trans (kst_n (by decide))) ?_
  refine v_iconst dX12_firstState_6 (c32 rfl) ?_
  refine v_icmp_ne (tgt := 12) dX12_firstState_7 (by decide) (fun c7_1 => ?_) (fun c7_1 => ?_)
  · refine v_aload_n dX12_firstState_12 rfl ?_
    refine v_getr (ci := 12) (j := 51) (ji := 51) (z := 150) dX12_firstState_13 k_1467 (by decide) kk_116 (by decide) rfl rfl (fun r => rt_116_51 (r rfl)) (by decide) ?_
    refine v_iload_n dX12_firstState_16 rfl ?_
    refine v_ialoadv dX12_firstState_17 (by decide) kk_150 (by omega) (by omega) ((jst_c (by decide)).trans (kst_n (by decide))) ?_
    refine v_istore_n_3 dX12_firstState_18 (by decide) rfl ?_
    refine v_aload_n dX12_firstState_19 rfl ?_
    refine v_getr (ci := 12) (j := 26) (ji := 26) (z := 129) dX12_firstState_20 k_1442 (by decide) kk_116 (by decide) rfl rfl (fun r => rt_116_26 (r rfl)) (by decide) ?_
    refine v_iload_n dX12_firstState_23 rfl ?_
    refine v_ialoadv dX12_firstState_24 (by decide) kk_129 (by omega) (by omega) ((jst_c (by decide)).trans (kst_n (by decide))) ?_
    refine v_aload_n dX12_firstState_25 rfl ?_
    refine v_getr (ci := 12) (j := 53) (ji := 53) (z := 152) dX12_firstState_26 k_1469 (by decide) kk_116 (by decide) rfl rfl (fun r => rt_116_53 (r rfl)) (by decide) ?_
    refine v_iload_n dX12_firstState_29 rfl ?_
    refine v_ialoadv dX12_firstState_30 (by decide) kk_152 (by omega) (by omega) ((jst_c (by decide)).trans (kst_n (by decide))) ?_
    refine v_icmp_eq (tgt := 86) dX12_firstState_31 (by decide) (fun c31_2 => ?_) (fun c31_2 => ?_)
    · refine v_iconst dX12_firstState_86 (c32 rfl) ?_
      refine v_ireti dX12_firstState_87 rfl (Nat.le_refl _) (Nat.le_refl _) ?_
      have e9 : fS h cs (F 164) s q = 2 := by
        unfold fS
        rw [if_neg (by omega), if_pos (by omega)]
      rw [e9] at hq
      exact hq _ _
    · refine v_aload_n dX12_firstState_34 rfl ?_
      refine v_aload_n dX12_firstState_35 rfl ?_
      refine v_getr (ci := 12) (j := 26) (ji := 26) (z := 129) dX12_firstState_36 k_1442 (by decide) kk_116 (by decide) rfl rfl (fun r => rt_116_26 (r rfl)) (by decide) ?_
      refine v_iload_n dX12_firstState_39 rfl ?_
      refine v_ialoadv dX12_firstState_40 (by decide) kk_129 (by omega) (by omega) ((jst_c (by decide)).trans (kst_n (by decide))) ?_
      refine v_aload_n dX12_firstState_41 rfl ?_
      refine v_getr (ci := 12) (j := 54) (ji := 54) (z := 153) dX12_firstState_42 k_1470 (by decide) kk_116 (by decide) rfl rfl (fun r => rt_116_54 (r rfl)) (by decide) ?_
      refine v_iload_n dX12_firstState_45 rfl ?_
      refine v_ialoadv dX12_firstState_46 (by decide) kk_153 (by omega) (by omega) ((jst_c (by decide)).trans (kst_n (by decide))) ?_
      refine v_aload_n dX12_firstState_47 rfl ?_
      refine v_getr (ci := 12) (j := 56) (ji := 56) (z := 155) dX12_firstState_48 k_1472 (by decide) kk_116 (by decide) rfl rfl (fun r => rt_116_56 (r rfl)) (by decide) ?_
      refine v_iload_n dX12_firstState_51 rfl ?_
      refine v_ialoadv dX12_firstState_52 (by decide) kk_155 (by omega) (by omega) ((jst_c (by decide)).trans (kst_n (by decide))) ?_
      refine v_iload_n dX12_firstState_53 rfl ?_
      refine v_callv (M' := mX12_isMember) (d' := d - 1) (mc' := 0) (ms' := 0) (ci := 12) (c := 116) (As := [_, _, _, _]) dX12_firstState_54 k_1925 cm_X12_isMember rfl (by omega) (by decide) kk_116 (Nat.le_of_ble_eq_true rfl) rfl ⟨Nat.le_refl _, Nat.le_refl _⟩ ?_
      refine s_memK (by omega) W (fun c54_3 => ?_) (fun c54_4 => ?_)
      · dsimp only [Option.toList, List.cons_append, List.nil_append, Nat.add_zero]
        refine v_if_eq_t (tgt := 86) dX12_firstState_57 (by decide) (by decide) ?_
        refine v_iconst dX12_firstState_86 (c32 rfl) ?_
        refine v_ireti dX12_firstState_87 rfl (Nat.le_refl _) (Nat.le_refl _) ?_
        have e9 : fS h cs (F 164) s q = 2 := by
          unfold fS
          rw [if_neg (by omega), if_pos (by omega)]
        rw [e9] at hq
        exact hq _ _
      · dsimp only [Option.toList, List.cons_append, List.nil_append, Nat.add_zero]
        refine v_if_eq_f (tgt := 86) dX12_firstState_57 (by decide) (by decide) ?_
        refine v_aload_n dX12_firstState_60 rfl ?_
        refine v_aload_n dX12_firstState_61 rfl ?_
        refine v_getr (ci := 12) (j := 53) (ji := 53) (z := 152) dX12_firstState_62 k_1469 (by decide) kk_116 (by decide) rfl rfl (fun r => rt_116_53 (r rfl)) (by decide) ?_
        refine v_iload_n dX12_firstState_65 rfl ?_
        refine v_ialoadv dX12_firstState_66 (by decide) kk_152 (by omega) (by omega) ((jst_c (by decide)).trans (kst_n (by decide))) ?_
        refine v_aload_n dX12_firstState_67 rfl ?_
        refine v_getr (ci := 12) (j := 54) (ji := 54) (z := 153) dX12_firstState_68 k_1470 (by decide) kk_116 (by decide) rfl rfl (fun r => rt_116_54 (r rfl)) (by decide) ?_
        refine v_iload_n dX12_firstState_71 rfl ?_
        refine v_ialoadv dX12_firstState_72 (by decide) kk_153 (by omega) (by omega) ((jst_c (by decide)).trans (kst_n (by decide))) ?_
        refine v_aload_n dX12_firstState_73 rfl ?_
        refine v_getr (ci := 12) (j := 56) (ji := 56) (z := 155) dX12_firstState_74 k_1472 (by decide) kk_116 (by decide) rfl rfl (fun r => rt_116_56 (r rfl)) (by decide) ?_
        refine v_iload_n dX12_firstState_77 rfl ?_
        refine v_ialoadv dX12_firstState_78 (by decide) kk_155 (by omega) (by omega) ((jst_c (by decide)).trans (kst_n (by decide))) ?_
        refine v_iload_n dX12_firstState_79 rfl ?_
        refine v_callv (M' := mX12_isMember) (d' := d - 1) (mc' := 0) (ms' := 0) (ci := 12) (c := 116) (As := [_, _, _, _]) dX12_firstState_80 k_1925 cm_X12_isMember rfl (by omega) (by decide) kk_116 (Nat.le_of_ble_eq_true rfl) rfl ⟨Nat.le_refl _, Nat.le_refl _⟩ ?_
        refine s_memK (by omega) W (fun c80_5 => ?_) (fun c80_6 => ?_)
        · dsimp only [Option.toList, List.cons_append, List.nil_append, Nat.add_zero]
          refine v_if_ne_f (tgt := 88) dX12_firstState_83 (by decide) (by decide) ?_
          refine v_iconst dX12_firstState_86 (c32 rfl) ?_
          refine v_ireti dX12_firstState_87 rfl (Nat.le_refl _) (Nat.le_refl _) ?_
          have e9 : fS h cs (F 164) s q = 2 := by
            unfold fS
            rw [if_neg (by omega), if_pos (by omega)]
          rw [e9] at hq
          exact hq _ _
        · dsimp only [Option.toList, List.cons_append, List.nil_append, Nat.add_zero]
          refine v_if_ne_t (tgt := 88) dX12_firstState_83 (by decide) (by decide) ?_
          refine v_aload_n dX12_firstState_88 rfl ?_
          refine v_getr (ci := 12) (j := 69) (ji := 69) (z := 164) dX12_firstState_89 k_1485 (by decide) kk_116 (by decide) rfl rfl (fun r => rt_116_69 (r rfl)) (by decide) ?_
          refine v_bipush dX12_firstState_92 (c32 rfl) (by decide) ?_
          refine v_aload_n dX12_firstState_94 rfl ?_
          refine v_getr (ci := 12) (j := 54) (ji := 54) (z := 153) dX12_firstState_95 k_1470 (by decide) kk_116 (by decide) rfl rfl (fun r => rt_116_54 (r rfl)) (by decide) ?_
          refine v_iload_n dX12_firstState_98 rfl ?_
          refine v_ialoadv dX12_firstState_99 (by decide) kk_153 (by omega) (by omega) ((jst_c (by decide)).trans (kst_n (by decide))) ?_
          refine v_imulE dX12_firstState_100 (by omega) ?_
          refine v_iload_n dX12_firstState_101 rfl ?_
          refine v_iaddE dX12_firstState_102 (by omega) ?_
          refine v_zaloadv dX12_firstState_103 (by decide) kk_164 (by omega) (by omega) ((jst_c (by decide)).trans (kst_m (by decide))) ?_
          refine v_if_ne (tgt := 109) dX12_firstState_104 (by decide) (fun c104_7 => ?_) (fun c104_7 => ?_)
          · refine v_aload_n dX12_firstState_109 rfl ?_
            refine v_getr (ci := 12) (j := 55) (ji := 55) (z := 154) dX12_firstState_110 k_1471 (by decide) kk_116 (by decide) rfl rfl (fun r => rt_116_55 (r rfl)) (by decide) ?_
            refine v_iload_n dX12_firstState_113 rfl ?_
            refine v_ialoadv dX12_firstState_114 (by decide) kk_154 (by omega) (by omega) ((jst_c (by decide)).trans (kst_n (by decide))) ?_
            refine v_aload_n dX12_firstState_115 rfl ?_
            refine v_iload_n dX12_firstState_116 rfl ?_
            refine v_iload_n dX12_firstState_117 rfl ?_
            refine v_bipush dX12_firstState_118 (c32 rfl) (by decide) ?_
            refine v_callv (M' := mX12_worthFor) (d' := d - 1) (mc' := 0) (ms' := 0) (ci := 12) (c := 116) (As := [_, _, _]) dX12_firstState_120 k_1983 cm_X12_worthFor rfl (by omega) (by decide) kk_116 (Nat.le_of_ble_eq_true rfl) rfl ⟨Nat.le_refl _, Nat.le_refl _⟩ ?_
            refine s_worthFor (cs := cs) (by omega) W S hX (by omega) (fun xz_7 xl_7 => ?_)
            dsimp only [Option.toList, List.cons_append, List.nil_append, Nat.add_zero]
            refine v_icmp_le (tgt := 128) dX12_firstState_123 (by decide) (fun c123_8 => ?_) (fun c123_8 => ?_)
            · refine v_iconst dX12_firstState_128 (c32 rfl) ?_
              refine v_istore_4 dX12_firstState_129 (by decide) rfl ?_
              refine v_iconst dX12_firstState_131 (c32 rfl) ?_
              refine v_istore_5 dX12_firstState_132 (by decide) rfl ?_
              refine lp_fstate (l := l) (G := G) S ?_ 0 (Int.le_refl _) S.2.1.1
              refine v_iload dX12_firstState_180 rfl ?_
              refine v_iconst dX12_firstState_182 (c32 rfl) ?_
              refine v_icmp_eq (tgt := 206) dX12_firstState_183 (by decide) (fun c183_9 => ?_) (fun c183_9 => ?_)
              · refine v_iconst dX12_firstState_206 (c32 rfl) ?_
                refine v_ireti dX12_firstState_207 rfl (Nat.le_refl _) (Nat.le_refl _) ?_
                have e9 : fS h cs (F 164) s q = 5 := by
                  unfold fS
                  rw [if_neg (by omega), if_neg (by omega), if_neg (by omega), if_neg (by omega), if_pos (by omega)]
                rw [e9] at hq
                exact hq _ _
              · refine v_iload dX12_firstState_186 rfl ?_
                refine v_aload_n dX12_firstState_188 rfl ?_
                refine v_getr (ci := 12) (j := 56) (ji := 56) (z := 155) dX12_firstState_189 k_1472 (by decide) kk_116 (by decide) rfl rfl (fun r => rt_116_56 (r rfl)) (by decide) ?_
                refine v_iload_n dX12_firstState_192 rfl ?_
                refine v_ialoadv dX12_firstState_193 (by decide) kk_155 (by omega) (by omega) ((jst_c (by decide)).trans (kst_n (by decide))) ?_
                refine v_aload_n dX12_firstState_194 rfl ?_
                refine v_iload_n dX12_firstState_195 rfl ?_
                refine v_iload_n dX12_firstState_196 rfl ?_
                refine v_bipush dX12_firstState_197 (c32 rfl) (by decide) ?_
                refine v_callv (M' := mX12_worthFor) (d' := d - 1) (mc' := 0) (ms' := 0) (ci := 12) (c := 116) (As := [_, _, _]) dX12_firstState_199 k_1983 cm_X12_worthFor rfl (by omega) (by decide) kk_116 (Nat.le_of_ble_eq_true rfl) rfl ⟨Nat.le_refl _, Nat.le_refl _⟩ ?_
                refine s_worthFor (cs := cs) (by omega) W S hX (by omega) (fun xz_9 xl_9 => ?_)
                dsimp only [Option.toList, List.cons_append, List.nil_append, Nat.add_zero]
                refine v_iaddE dX12_firstState_202 (by omega) ?_
                refine v_icmp_le (tgt := 208) dX12_firstState_203 (by decide) (fun c203_10 => ?_) (fun c203_10 => ?_)
                · refine v_iconst dX12_firstState_208 (c32 rfl) ?_
                  refine v_ireti dX12_firstState_209 rfl (Nat.le_refl _) (Nat.le_refl _) ?_
                  have e9 : fS h cs (F 164) s q = 1 := by
                    unfold fS
                    rw [if_neg (by omega), if_neg (by omega), if_neg (by omega), if_neg (by omega), if_neg (by omega)]
                  rw [e9] at hq
                  exact hq _ _
                · refine v_iconst dX12_firstState_206 (c32 rfl) ?_
                  refine v_ireti dX12_firstState_207 rfl (Nat.le_refl _) (Nat.le_refl _) ?_
                  have e9 : fS h cs (F 164) s q = 5 := by
                    unfold fS
                    rw [if_neg (by omega), if_neg (by omega), if_neg (by omega), if_neg (by omega), if_pos (by omega)]
                  rw [e9] at hq
                  exact hq _ _
            · refine v_iconst dX12_firstState_126 (c32 rfl) ?_
              refine v_ireti dX12_firstState_127 rfl (Nat.le_refl _) (Nat.le_refl _) ?_
              have e9 : fS h cs (F 164) s q = 4 := by
                unfold fS
                rw [if_neg (by omega), if_neg (by omega), if_neg (by omega), if_pos (by omega)]
              rw [e9] at hq
              exact hq _ _
          · refine v_iconst dX12_firstState_107 (c32 rfl) ?_
            refine v_ireti dX12_firstState_108 rfl (Nat.le_refl _) (Nat.le_refl _) ?_
            have e9 : fS h cs (F 164) s q = 3 := by
              unfold fS
              rw [if_neg (by omega), if_neg (by omega), if_pos (by omega)]
            rw [e9] at hq
            exact hq _ _
  · refine v_iconst dX12_firstState_10 (c32 rfl) ?_
    refine v_ireti dX12_firstState_11 rfl (Nat.le_refl _) (Nat.le_refl _) ?_
    have e9 : fS h cs (F 164) s q = 0 := by
      unfold fS
      rw [if_pos (by omega)]
    rw [e9] at hq
    exact hq _ _

