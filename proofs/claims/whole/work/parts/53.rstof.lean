/-! ===== the reference: states, duties (written by wip/whole/p30.py) ===== -/
set_option maxHeartbeats 4000000 in
set_option maxRecDepth 100000 in
theorem lp_stateOf {l : Launch} {G : GG} {d : Nat} {h : AH} {Q : Option AV → List Kd → AH → Prop} {cs : Int → List (Int × List Int)} {F : AH} {O : Int → Int} {s q : Int} (hd : 40 ≤ d) (W : RW h) (S : RS h) (hX : TX h cs) (hs : 0 ≤ s ∧ s < h 116 65) (hI : I3 h cs q (h 116 65) F) (hq : ∀ z Lr, Q (some (0, if (qF h cs s q (s + 1)).2 = 0 then 6 else 1)) K0 (jst (kst h F) z O Lr)) : ∀ k, 0 ≤ k → k ≤ s + 1 → ∀ z Lr, V l G mX12_stateOf d 0 0 0 0 K0 23 [(2, 116), (0, s), (0, q), (9, 0), (0, (qF h cs s q k).1), (0, (qF h cs s q k).2), (0, k), (9, 0)] [] (jst (kst h F) z O Lr) Q := by
  have ns := S.1
  refine loop_m3 (fun k hk hkN ih z Lr => ?_)
  refine v_iload dX12_stateOf_23 rfl ?_
  refine v_iload_n dX12_stateOf_25 rfl ?_
  refine v_icmp_gt (tgt := 118) dX12_stateOf_26 (by decide) (fun c26_1 => ?_) (fun c26_1 => ?_)
  · have r9 := (qF_rng (cs := cs) (s := s) (q := q) S k hk (by omega))
    refine v_iload dX12_stateOf_118 rfl ?_
    refine v_if_eq (tgt := 127) dX12_stateOf_120 (by decide) (fun c120_2 => ?_) (fun c120_2 => ?_)
    · refine v_bipush dX12_stateOf_127 (c32 rfl) (by decide) ?_
      refine v_ireti dX12_stateOf_129 rfl (Nat.le_refl _) (Nat.le_refl _) ?_
      obtain rfl : k = s + 1 := by omega
      rw [show (6 : Int) = (if (qF h cs s q (s + 1)).2 = 0 then 6 else 1) by first | (rw [if_pos (by omega)]; done) | (rw [if_neg (by omega)]; done)]
      exact hq _ _
    · refine v_iconst dX12_stateOf_123 (c32 rfl) ?_
      refine v_goto (tgt := 129) dX12_stateOf_124 (by decide) ?_
      refine v_ireti dX12_stateOf_129 rfl (Nat.le_refl _) (Nat.le_refl _) ?_
      obtain rfl : k = s + 1 := by omega
      rw [show (1 : Int) = (if (qF h cs s q (s + 1)).2 = 0 then 6 else 1) by first | (rw [if_pos (by omega)]; done) | (rw [if_neg (by omega)]; done)]
      exact hq _ _
  · have r9 := (qF_rng (cs := cs) (s := s) (q := q) S k hk (by omega))
    have m9 := (S.2.2.1 k hk (by omega)).2.1
    refine v_aload_n dX12_stateOf_29 rfl ?_
    refine v_iload dX12_stateOf_30 rfl ?_
    refine v_iload_n dX12_stateOf_32 rfl ?_
    refine v_callv (M' := mX12_isLike) (d' := d - 1) (mc' := 0) (ms' := 0) (ci := 12) (c := 116) (As := [_, _]) dX12_stateOf_33 k_1995 cm_X12_isLike rfl (by omega) (by decide) kk_116 (Nat.le_of_ble_eq_true rfl) rfl ⟨Nat.le_refl _, Nat.le_refl _⟩ ?_
    refine s_isLike (by omega) W S (by omega) (by omega) (fun c33_3 => ?_) (fun c33_4 => ?_)
    · dsimp only [Option.toList, List.cons_append, List.nil_append, Nat.add_zero]
      refine v_if_eq_f (tgt := 112) dX12_stateOf_36 (by decide) (by decide) ?_
      refine v_aload_n dX12_stateOf_39 rfl ?_
      refine v_getr (ci := 12) (j := 70) (ji := 70) (z := 165) dX12_stateOf_40 k_1486 (by decide) kk_116 (by decide) rfl rfl (fun r => rt_116_70 (r rfl)) (by decide) ?_
      refine v_iload dX12_stateOf_43 rfl ?_
      refine v_ialoadv dX12_stateOf_45 (by decide) kk_165 (by omega) (by omega) ((jst_c (by decide)).trans ((kst_m (by decide)).trans ((show F 165 k = fI h cs k q from hI.2 k (by omega) (by omega))))) ?_
      refine v_iconst dX12_stateOf_46 (c32 rfl) ?_
      refine v_icmp_eq (tgt := 53) dX12_stateOf_47 (by decide) (fun c47_5 => ?_) (fun c47_5 => ?_)
      · refine v_aload_n dX12_stateOf_53 rfl ?_
        refine v_iload dX12_stateOf_54 rfl ?_
        refine v_iload_n dX12_stateOf_56 rfl ?_
        refine v_bipush dX12_stateOf_57 (c32 rfl) (by decide) ?_
        refine v_callv (M' := mX12_worthFor) (d' := d - 1) (mc' := 0) (ms' := 0) (ci := 12) (c := 116) (As := [_, _, _]) dX12_stateOf_59 k_1983 cm_X12_worthFor rfl (by omega) (by decide) kk_116 (Nat.le_of_ble_eq_true rfl) rfl ⟨Nat.le_refl _, Nat.le_refl _⟩ ?_
        refine s_worthFor (cs := cs) (by omega) W S hX (by omega) (fun xz_5 xl_5 => ?_)
        dsimp only [Option.toList, List.cons_append, List.nil_append, Nat.add_zero]
        refine v_istore_7 dX12_stateOf_62 (by decide) rfl ?_
        refine v_iload dX12_stateOf_64 rfl ?_
        refine v_if_le (tgt := 84) dX12_stateOf_66 (by decide) (fun c66_6 => ?_) (fun c66_6 => ?_)
        · refine v_iconst dX12_stateOf_84 (c32 rfl) ?_
          refine v_goto (tgt := 89) dX12_stateOf_85 (by decide) ?_
          refine v_istore_5 dX12_stateOf_89 (by decide) rfl ?_
          refine v_iload dX12_stateOf_91 rfl ?_
          refine v_iload dX12_stateOf_93 rfl ?_
          refine v_if_eq_f (tgt := 108) dX12_stateOf_95 (by decide) (by decide) ?_
          refine v_aload_n dX12_stateOf_98 rfl ?_
          refine v_getr (ci := 12) (j := 52) (ji := 52) (z := 151) dX12_stateOf_99 k_1468 (by decide) kk_116 (by decide) rfl rfl (fun r => rt_116_52 (r rfl)) (by decide) ?_
          refine v_iload dX12_stateOf_102 rfl ?_
          refine v_ialoadv dX12_stateOf_104 (by decide) kk_151 (by omega) (by omega) ((jst_c (by decide)).trans (kst_n (by decide))) ?_
          refine v_goto (tgt := 109) dX12_stateOf_105 (by decide) ?_
          refine v_iaddE dX12_stateOf_109 (by omega) ?_
          refine v_istore_4 dX12_stateOf_110 (by decide) rfl ?_
          refine v_iinc_6 dX12_stateOf_112 (by decide) rfl ?_
          rw [iadd_eq (x := k) (y := 1) (by unfold ok32; omega)]
          refine v_goto (tgt := 23) dX12_stateOf_115 (by decide) ?_
          have e9 : qF h cs s q (k + 1) = (((qF h cs s q k).1 + (h 151 k)), 1) := by
            rw [qF_s hk]
            refine qS_y c33_3 c47_5 ((qF h cs s q k).1 + (h 151 k)) 1 ?_ ?_
            · unfold oOK; first | (rw [if_pos (by omega)]; done) | (rw [if_neg (by omega), if_pos (by omega)]; done) | (rw [if_neg (by omega), if_neg (by omega)]; done)
            · first | (rw [if_pos rfl]; done) | (rw [if_pos rfl]; omega) | (rw [if_neg (by decide)]; done) | (rw [if_neg (by decide)]; omega)
          have ih9 := ih (by omega) xz_5 xl_5
          rw [e9] at ih9
          refine v_loc (lo_k (lo_k (lo_k (lo_d (lo_k (lo_k (lo_k (lo_d lo_nil)))))))) ?_
          exact ih9
        · refine v_iload dX12_stateOf_69 rfl ?_
          refine v_aload_n dX12_stateOf_71 rfl ?_
          refine v_getr (ci := 12) (j := 52) (ji := 52) (z := 151) dX12_stateOf_72 k_1468 (by decide) kk_116 (by decide) rfl rfl (fun r => rt_116_52 (r rfl)) (by decide) ?_
          refine v_iload dX12_stateOf_75 rfl ?_
          refine v_ialoadv dX12_stateOf_77 (by decide) kk_151 (by omega) (by omega) ((jst_c (by decide)).trans (kst_n (by decide))) ?_
          refine v_iaddE dX12_stateOf_78 (by omega) ?_
          refine v_iload dX12_stateOf_79 rfl ?_
          refine v_icmp_gt (tgt := 88) dX12_stateOf_81 (by decide) (fun c81_7 => ?_) (fun c81_7 => ?_)
          · refine v_iconst dX12_stateOf_88 (c32 rfl) ?_
            refine v_istore_5 dX12_stateOf_89 (by decide) rfl ?_
            refine v_iload dX12_stateOf_91 rfl ?_
            refine v_iload dX12_stateOf_93 rfl ?_
            refine v_if_eq_t (tgt := 108) dX12_stateOf_95 (by decide) (by decide) ?_
            refine v_iconst dX12_stateOf_108 (c32 rfl) ?_
            refine v_iaddE dX12_stateOf_109 (by omega) ?_
            refine v_istore_4 dX12_stateOf_110 (by decide) rfl ?_
            refine v_iinc_6 dX12_stateOf_112 (by decide) rfl ?_
            rw [iadd_eq (x := k) (y := 1) (by unfold ok32; omega)]
            refine v_goto (tgt := 23) dX12_stateOf_115 (by decide) ?_
            have e9 : qF h cs s q (k + 1) = (((qF h cs s q k).1 + 0), 0) := by
              rw [qF_s hk]
              refine qS_y c33_3 c47_5 ((qF h cs s q k).1 + 0) 0 ?_ ?_
              · unfold oOK; first | (rw [if_pos (by omega)]; done) | (rw [if_neg (by omega), if_pos (by omega)]; done) | (rw [if_neg (by omega), if_neg (by omega)]; done)
              · first | (rw [if_pos rfl]; done) | (rw [if_pos rfl]; omega) | (rw [if_neg (by decide)]; done) | (rw [if_neg (by decide)]; omega)
            have ih9 := ih (by omega) xz_5 xl_5
            rw [e9] at ih9
            refine v_loc (lo_k (lo_k (lo_k (lo_d (lo_k (lo_k (lo_k (lo_d lo_nil)))))))) ?_
            exact ih9
          · refine v_iconst dX12_stateOf_84 (c32 rfl) ?_
            refine v_goto (tgt := 89) dX12_stateOf_85 (by decide) ?_
            refine v_istore_5 dX12_stateOf_89 (by decide) rfl ?_
            refine v_iload dX12_stateOf_91 rfl ?_
            refine v_iload dX12_stateOf_93 rfl ?_
            refine v_if_eq_f (tgt := 108) dX12_stateOf_95 (by decide) (by decide) ?_
            refine v_aload_n dX12_stateOf_98 rfl ?_
            refine v_getr (ci := 12) (j := 52) (ji := 52) (z := 151) dX12_stateOf_99 k_1468 (by decide) kk_116 (by decide) rfl rfl (fun r => rt_116_52 (r rfl)) (by decide) ?_
            refine v_iload dX12_stateOf_102 rfl ?_
            refine v_ialoadv dX12_stateOf_104 (by decide) kk_151 (by omega) (by omega) ((jst_c (by decide)).trans (kst_n (by decide))) ?_
            refine v_goto (tgt := 109) dX12_stateOf_105 (by decide) ?_
            refine v_iaddE dX12_stateOf_109 (by omega) ?_
            refine v_istore_4 dX12_stateOf_110 (by decide) rfl ?_
            refine v_iinc_6 dX12_stateOf_112 (by decide) rfl ?_
            rw [iadd_eq (x := k) (y := 1) (by unfold ok32; omega)]
            refine v_goto (tgt := 23) dX12_stateOf_115 (by decide) ?_
            have e9 : qF h cs s q (k + 1) = (((qF h cs s q k).1 + (h 151 k)), 1) := by
              rw [qF_s hk]
              refine qS_y c33_3 c47_5 ((qF h cs s q k).1 + (h 151 k)) 1 ?_ ?_
              · unfold oOK; first | (rw [if_pos (by omega)]; done) | (rw [if_neg (by omega), if_pos (by omega)]; done) | (rw [if_neg (by omega), if_neg (by omega)]; done)
              · first | (rw [if_pos rfl]; done) | (rw [if_pos rfl]; omega) | (rw [if_neg (by decide)]; done) | (rw [if_neg (by decide)]; omega)
            have ih9 := ih (by omega) xz_5 xl_5
            rw [e9] at ih9
            refine v_loc (lo_k (lo_k (lo_k (lo_d (lo_k (lo_k (lo_k (lo_d lo_nil)))))))) ?_
            exact ih9
      · refine v_goto (tgt := 112) dX12_stateOf_50 (by decide) ?_
        refine v_iinc_6 dX12_stateOf_112 (by decide) rfl ?_
        rw [iadd_eq (x := k) (y := 1) (by unfold ok32; omega)]
        refine v_goto (tgt := 23) dX12_stateOf_115 (by decide) ?_
        have e9 : qF h cs s q (k + 1) = qF h cs s q k := by rw [qF_s hk, qS_no (fun e => c47_5 e.2)]
        have ih9 := ih (by omega) z Lr
        rw [e9] at ih9
        refine v_loc (lo_k (lo_k (lo_k (lo_d (lo_k (lo_k (lo_k (lo_d lo_nil)))))))) ?_
        exact ih9
    · dsimp only [Option.toList, List.cons_append, List.nil_append, Nat.add_zero]
      refine v_if_eq_t (tgt := 112) dX12_stateOf_36 (by decide) (by decide) ?_
      refine v_iinc_6 dX12_stateOf_112 (by decide) rfl ?_
      rw [iadd_eq (x := k) (y := 1) (by unfold ok32; omega)]
      refine v_goto (tgt := 23) dX12_stateOf_115 (by decide) ?_
      have e9 : qF h cs s q (k + 1) = qF h cs s q k := by rw [qF_s hk, qS_no (fun e => c33_4 e.1)]
      have ih9 := ih (by omega) z Lr
      rw [e9] at ih9
      refine v_loc (lo_k (lo_k (lo_k (lo_d (lo_k (lo_k (lo_k (lo_d lo_nil)))))))) ?_
      exact ih9

set_option maxHeartbeats 4000000 in
set_option maxRecDepth 100000 in
theorem s_stateOf {l : Launch} {G : GG} {d : Nat} {h : AH} {Q : Option AV → List Kd → AH → Prop} {F : AH} {z O Lr : Int → Int} {cs : Int → List (Int × List Int)} {s q : Int} (hd : 40 ≤ d) (W : RW h) (S : RS h) (hX : TX h cs) (hs : 0 ≤ s ∧ s < h 116 65) (hI : I3 h cs q (h 116 65) F) (hq : ∀ z Lr, Q (some (0, stF h cs s q)) K0 (jst (kst h F) z O Lr)) : Sp l G mX12_stateOf d 0 0 K0 [(2, 116), (0, s), (0, q)] (jst (kst h F) z O Lr) Q := by
  have ns := S.1
  refine sp_of (L := [(2, 116), (0, s), (0, q), (9, 0), (9, 0), (9, 0), (9, 0), (9, 0)]) pl_X12 (Nat.le_of_ble_eq_true rfl) (tg_c (by decide) (tg_c (by decide) (tg_c (by decide) tg_0))) rfl ?_
  refine v_aload_n dX12_stateOf_0 rfl ?_
  refine v_getr (ci := 12) (j := 70) (ji := 70) (z := 165) dX12_stateOf_1 k_1486 (by decide) kk_116 (by decide) rfl rfl (fun r => rt_116_70 (r rfl)) (by decide) ?_
  refine v_iload_n dX12_stateOf_4 rfl ?_
  refine v_ialoadv dX12_stateOf_5 (by decide) kk_165 (by omega) (by omega) ((jst_c (by decide)).trans ((kst_m (by decide)).trans ((show F 165 s = fI h cs s q from hI.2 s (by omega) (by omega))))) ?_
  refine v_istore_n_3 dX12_stateOf_6 (by decide) rfl ?_
  refine v_iload_n dX12_stateOf_7 rfl ?_
  refine v_iconst dX12_stateOf_8 (c32 rfl) ?_
  refine v_icmp_eq (tgt := 14) dX12_stateOf_9 (by decide) (fun c9_1 => ?_) (fun c9_1 => ?_)
  · refine v_iconst dX12_stateOf_14 (c32 rfl) ?_
    refine v_istore_4 dX12_stateOf_15 (by decide) rfl ?_
    refine v_iconst dX12_stateOf_17 (c32 rfl) ?_
    refine v_istore_5 dX12_stateOf_18 (by decide) rfl ?_
    refine v_iconst dX12_stateOf_20 (c32 rfl) ?_
    refine v_istore_6 dX12_stateOf_21 (by decide) rfl ?_
    have e9 : stF h cs s q = if (qF h cs s q (s + 1)).2 = 0 then 6 else 1 := by unfold stF; rw [if_neg (fun e => e c9_1)]
    rw [e9] at hq
    refine v_loc (lo_k (lo_k (lo_k (lo_d (lo_k (lo_k (lo_k (lo_d lo_nil)))))))) ?_
    exact lp_stateOf hd W S hX hs hI hq 0 (Int.le_refl _) (by omega) z Lr
  · refine v_iload_n dX12_stateOf_12 rfl ?_
    refine v_ireti dX12_stateOf_13 rfl (Nat.le_refl _) (Nat.le_refl _) ?_
    have e9 : stF h cs s q = fI h cs s q := by unfold stF; rw [if_pos c9_1]
    rw [e9] at hq
    exact hq _ _

