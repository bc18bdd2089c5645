/-! ===== the reference: findFirst (written by wip/whole/p29.py) ===== -/
set_option maxHeartbeats 4000000 in
set_option maxRecDepth 100000 in
theorem lp_ff2 {l : Launch} {G : GG} {d : Nat} {h : AH} {Q : Option AV → List Kd → AH → Prop} {cs : Int → List (Int × List Int)} {z O Lr : Int → Int} {q w : Int} (W : RW h) (hw : 0 ≤ w ∧ w < 4) (hO : ∀ b, 0 ≤ b → b < h 116 45 → O b = own h cs w q (-1) b) (hq : ∀ F, I1 h cs q (w + 1) F → V l G mX12_findFirst d 0 0 0 0 K0 53 [(2, 116), (0, q), (0, w), (0, h 116 45)] [] (jst (kst h F) z O Lr) Q) : ∀ k, 0 ≤ k → k ≤ h 116 45 → ∀ F, I2 h cs q w k F → V l G mX12_findFirst d 0 0 0 0 K0 22 [(2, 116), (0, q), (0, w), (0, k)] [] (jst (kst h F) z O Lr) Q := by
  have nb := W.nb
  refine loop_m3 (fun k hk hkN ih F hI => ?_)
  refine v_iload_n dX12_findFirst_22 rfl ?_
  refine v_aload_n dX12_findFirst_23 rfl ?_
  refine v_getv (ci := 12) (j := 45) (ji := 45) (tg := 0) dX12_findFirst_24 k_1461 (by decide) kk_116 (by decide) rfl rfl (by decide) ((jst_j (by decide)).trans (kst_c (by decide))) ?_
  refine v_icmp_ge (tgt := 53) dX12_findFirst_27 (by decide) (fun c27_1 => ?_) (fun c27_1 => ?_)
  · obtain rfl : k = h 116 45 := by omega
    exact hq _ (I2_e hI)
  · have ow := @own_rng h cs w q (-1) k hk
    refine v_aload_n dX12_findFirst_30 rfl ?_
    refine v_getr (ci := 12) (j := 69) (ji := 69) (z := 164) dX12_findFirst_31 k_1485 (by decide) kk_116 (by decide) rfl rfl (fun r => rt_116_69 (r rfl)) (by decide) ?_
    refine v_bipush dX12_findFirst_34 (c32 rfl) (by decide) ?_
    refine v_iload_n dX12_findFirst_36 rfl ?_
    refine v_imulE dX12_findFirst_37 (by omega) ?_
    refine v_iload_n dX12_findFirst_38 rfl ?_
    refine v_iaddE dX12_findFirst_39 (by omega) ?_
    refine v_aload_n dX12_findFirst_40 rfl ?_
    refine v_getr (ci := 12) (j := 49) (ji := 49) (z := 148) dX12_findFirst_41 k_1465 (by decide) kk_116 (by decide) rfl rfl (fun r => rt_116_49 (r rfl)) (by decide) ?_
    refine v_iload_n dX12_findFirst_44 rfl ?_
    refine v_zaloadv dX12_findFirst_45 (by decide) kk_148 (by omega) (by omega) ((jst_o).trans ((hO k (by omega) (by omega)))) ?_
    refine v_zastore dX12_findFirst_46 (by decide) kk_164 (by omega) (by omega) (by omega) ?_
    rw [jst_wc (by decide), kst_wm (by decide)]
    refine v_iinc_3 dX12_findFirst_47 (by decide) rfl ?_
    rw [iadd_eq (x := k) (y := 1) (by unfold ok32; omega)]
    refine v_goto (tgt := 22) dX12_findFirst_50 (by decide) ?_
    exact ih (by omega) _ (I2_s W hI hk (by omega))

set_option maxHeartbeats 4000000 in
set_option maxRecDepth 100000 in
theorem lp_ff1 {l : Launch} {G : GG} {d : Nat} {h : AH} {Q : Option AV → List Kd → AH → Prop} {cs : Int → List (Int × List Int)} {q : Int} (hd : 40 ≤ d) (W : RW h) (S : RS h) (hX : TX h cs) (hq : ∀ F z O Lr, I1 h cs q 4 F → V l G mX12_findFirst d 0 0 0 0 K0 59 [(2, 116), (0, q), (0, 4), (9, 0)] [] (jst (kst h F) z O Lr) Q) : ∀ k, 0 ≤ k → k ≤ 4 → ∀ F z O Lr, I1 h cs q k F → V l G mX12_findFirst d 0 0 0 0 K0 2 [(2, 116), (0, q), (0, k), (9, 0)] [] (jst (kst h F) z O Lr) Q := by
  have nb := W.nb
  have nt := W.nt
  refine loop_m3 (fun k hk hkN ih F z O Lr hI => ?_)
  refine v_iload_n dX12_findFirst_2 rfl ?_
  refine v_iconst dX12_findFirst_3 (c32 rfl) ?_
  refine v_icmp_ge (tgt := 59) dX12_findFirst_4 (by decide) (fun c4_1 => ?_) (fun c4_1 => ?_)
  · obtain rfl : k = 4 := by omega
    exact hq _ _ _ _ hI
  · refine v_aload_n dX12_findFirst_7 rfl ?_
    refine v_aload_n dX12_findFirst_8 rfl ?_
    refine v_getv (ci := 12) (j := 45) (ji := 45) (tg := 0) dX12_findFirst_9 k_1461 (by decide) kk_116 (by decide) rfl rfl (by decide) ((jst_j (by decide)).trans (kst_c (by decide))) ?_
    refine v_iconst dX12_findFirst_12 (c32 rfl) ?_
    refine v_isubE dX12_findFirst_13 (by omega) ?_
    refine v_iload_n dX12_findFirst_14 rfl ?_
    refine v_iload_n dX12_findFirst_15 rfl ?_
    refine v_iconst dX12_findFirst_16 (c32 rfl) ?_
    refine v_callv (M' := mX12_judge) (d' := d - 1) (mc' := 0) (ms' := 0) (ci := 12) (c := 116) (As := [_, _, _, _]) dX12_findFirst_17 k_1921 cm_X12_judge rfl (by omega) (by decide) kk_116 (Nat.le_of_ble_eq_true rfl) rfl ⟨Nat.le_refl _, Nat.le_refl _⟩ ?_
    refine s_judgeK (cs := cs) (by omega) W hX (by omega) (by omega) (fun xz_1 xl_1 => ?_)
    dsimp only [Option.toList, List.cons_append, List.nil_append, Nat.add_zero]
    refine v_iconst dX12_findFirst_20 (c32 rfl) ?_
    refine v_istore_n_3 dX12_findFirst_21 (by decide) rfl ?_
    refine (fun q9 => ?_) (lp_ff2 (l := l) (G := G) (d := d) (Q := Q) (cs := cs) (q := q) (w := k) (z := xz_1) (O := jO h cs k q (-1) O (h 116 45)) (Lr := xl_1) W ⟨hk, by omega⟩ (fun b b0 b1 => jO_own (O0 := O) W (by omega) b0 b1) (fun F9 hI9 => ?_) 0 (Int.le_refl _) nb.1 F ⟨hI, fun b b0 b1 => by omega⟩)
    · rw [show h 116 45 - 1 + 1 = h 116 45 by omega]
      exact q9
    · refine v_iinc_2 dX12_findFirst_53 (by decide) rfl ?_
      rw [iadd_eq (x := k) (y := 1) (by unfold ok32; omega)]
      refine v_goto (tgt := 2) dX12_findFirst_56 (by decide) ?_
      refine v_loc (lo_k (lo_k (lo_k (lo_d lo_nil)))) ?_
      exact ih (by omega) _ _ _ _ hI9

set_option maxHeartbeats 4000000 in
set_option maxRecDepth 100000 in
theorem lp_ff3 {l : Launch} {G : GG} {d : Nat} {h : AH} {Q : Option AV → List Kd → AH → Prop} {cs : Int → List (Int × List Int)} {q : Int} (hd : 41 ≤ d) (W : RW h) (S : RS h) (hX : TX h cs) (hq : ∀ F z O Lr, I3 h cs q (h 116 65) F → Q none K0 (jst (kst h F) z O Lr)) : ∀ k, 0 ≤ k → k ≤ h 116 65 → ∀ F z O Lr, I3 h cs q k F → V l G mX12_findFirst d 0 0 0 0 K0 61 [(2, 116), (0, q), (0, k), (9, 0)] [] (jst (kst h F) z O Lr) Q := by
  have ns := S.1
  refine loop_m3 (fun k hk hkN ih F z O Lr hI => ?_)
  refine v_iload_n dX12_findFirst_61 rfl ?_
  refine v_aload_n dX12_findFirst_62 rfl ?_
  refine v_getv (ci := 12) (j := 65) (ji := 65) (tg := 0) dX12_findFirst_63 k_1481 (by decide) kk_116 (by decide) rfl rfl (by decide) ((jst_j (by decide)).trans (kst_c (by decide))) ?_
  refine v_icmp_ge (tgt := 101) dX12_findFirst_66 (by decide) (fun c66_1 => ?_) (fun c66_1 => ?_)
  · refine v_vret dX12_findFirst_101 rfl (Nat.le_refl _) (Nat.le_refl _) ?_
    obtain rfl : k = h 116 65 := by omega
    exact hq _ _ _ _ hI
  · refine v_aload_n dX12_findFirst_69 rfl ?_
    refine v_getr (ci := 12) (j := 70) (ji := 70) (z := 165) dX12_findFirst_70 k_1486 (by decide) kk_116 (by decide) rfl rfl (fun r => rt_116_70 (r rfl)) (by decide) ?_
    refine v_iload_n dX12_findFirst_73 rfl ?_
    refine v_aload_n dX12_findFirst_74 rfl ?_
    refine v_getr (ci := 12) (j := 56) (ji := 56) (z := 155) dX12_findFirst_75 k_1472 (by decide) kk_116 (by decide) rfl rfl (fun r => rt_116_56 (r rfl)) (by decide) ?_
    refine v_iload_n dX12_findFirst_78 rfl ?_
    refine v_ialoadv dX12_findFirst_79 (by decide) kk_155 (by omega) (by omega) ((jst_c (by decide)).trans (kst_n (by decide))) ?_
    refine v_iload_n dX12_findFirst_80 rfl ?_
    refine v_icmp_gt (tgt := 93) dX12_findFirst_81 (by decide) (fun c81_2 => ?_) (fun c81_2 => ?_)
    · refine v_iconst dX12_findFirst_93 (c32 rfl) ?_
      refine v_iastore dX12_findFirst_94 (by decide) kk_165 (by omega) (by omega) ?_
      rw [jst_wc (by decide), kst_wm (by decide)]
      refine v_iinc_2 dX12_findFirst_95 (by decide) rfl ?_
      rw [iadd_eq (x := k) (y := 1) (by unfold ok32; omega)]
      refine v_goto (tgt := 61) dX12_findFirst_98 (by decide) ?_
      exact ih (by omega) _ _ _ _ (I3_s hI _ (by rw [if_neg (by omega)]))
    · refine v_aload_n dX12_findFirst_84 rfl ?_
      refine v_iload_n dX12_findFirst_85 rfl ?_
      refine v_iload_n dX12_findFirst_86 rfl ?_
      refine v_callv (M' := mX12_firstState) (d' := d - 1) (mc' := 0) (ms' := 0) (ci := 12) (c := 116) (As := [_, _]) dX12_findFirst_87 k_1979 cm_X12_firstState rfl (by omega) (by decide) kk_116 (Nat.le_of_ble_eq_true rfl) rfl ⟨Nat.le_refl _, Nat.le_refl _⟩ ?_
      refine s_firstState (cs := cs) (by omega) W S hX (by omega) (fun xz_2 xl_2 => ?_)
      dsimp only [Option.toList, List.cons_append, List.nil_append, Nat.add_zero]
      refine v_goto (tgt := 94) dX12_findFirst_90 (by decide) ?_
      refine v_iastore dX12_findFirst_94 (by decide) kk_165 (by omega) (by omega) ?_
      rw [jst_wc (by decide), kst_wm (by decide)]
      refine v_iinc_2 dX12_findFirst_95 (by decide) rfl ?_
      rw [iadd_eq (x := k) (y := 1) (by unfold ok32; omega)]
      refine v_goto (tgt := 61) dX12_findFirst_98 (by decide) ?_
      exact ih (by omega) _ _ _ _ (I3_s hI _ (by rw [if_pos (by omega)]; exact fS_I S hI.1 hk (by omega)))

set_option maxHeartbeats 4000000 in
set_option maxRecDepth 100000 in
theorem s_findFirst {l : Launch} {G : GG} {d : Nat} {h : AH} {Q : Option AV → List Kd → AH → Prop} {F : AH} {z O Lr : Int → Int} {cs : Int → List (Int × List Int)} {q : Int} (hd : 41 ≤ d) (W : RW h) (S : RS h) (hX : TX h cs) (hF0 : F 116 0 = 0) (hq : ∀ F z O Lr, I3 h cs q (h 116 65) F → Q none K0 (jst (kst h F) z O Lr)) : Sp l G mX12_findFirst d 0 0 K0 [(2, 116), (0, q)] (jst (kst h F) z O Lr) Q := by
  refine sp_of (L := [(2, 116), (0, q), (9, 0), (9, 0)]) pl_X12 (Nat.le_of_ble_eq_true rfl) (tg_c (by decide) (tg_c (by decide) tg_0)) rfl ?_
  refine v_iconst dX12_findFirst_0 (c32 rfl) ?_
  refine v_istore_n_2 dX12_findFirst_1 (by decide) rfl ?_
  refine lp_ff1 (cs := cs) (by omega) W S hX (fun F z O Lr hI => ?_) 0 (Int.le_refl _) (by decide) F z O Lr ⟨hF0, fun x b x0 x1 => by omega⟩
  refine v_iconst dX12_findFirst_59 (c32 rfl) ?_
  refine v_istore_n_2 dX12_findFirst_60 (by decide) rfl ?_
  exact lp_ff3 hd W S hX hq 0 (Int.le_refl _) S.1.1 _ _ _ _ ⟨hI, fun s s0 s1 => by omega⟩

