/-! ===== judging: the reference (written by wip/whole/p26.py) ===== -/
set_option maxHeartbeats 4000000 in
set_option maxRecDepth 100000 in
theorem lp_judge {l : Launch} {G : GG} {d : Nat} {h : AH} {Q : Option AV → List Kd → AH → Prop} {cs : Int → List (Int × List Int)} {O0 : Int → Int} {to w q al : Int} (hd : 39 ≤ d) (W : RW h) (hX : TX h cs) (hal : -1 ≤ al ∧ (al < h 116 15 ∨ al = -1)) (hto : -1 ≤ to ∧ to < h 116 45) (hq : ∀ z Lr, Q none K0 (jst h z (jO h cs w q al O0 (to + 1)) Lr)) : ∀ k, 0 ≤ k → k ≤ to + 1 → ∀ z Lr, V l G mX12_judge d 0 0 0 0 K0 3 [(2, 116), (0, to), (0, w), (0, q), (0, al), (0, k)] [] (jst h z (jO h cs w q al O0 k) Lr) Q := by
  refine loop_m3 (fun k hk hkN ih z Lr => ?_)
  refine v_iload dX12_judge_3 rfl ?_
  refine v_iload_n dX12_judge_5 rfl ?_
  refine v_icmp_gt (tgt := 138) dX12_judge_6 (by decide) (fun c6_1 => ?_) (fun c6_1 => ?_)
  · refine v_vret dX12_judge_138 rfl (Nat.le_refl _) (Nat.le_refl _) ?_
    obtain rfl : k = to + 1 := by omega
    exact hq _ _
  · have hnb := W.nb
    refine v_aload_n dX12_judge_9 rfl ?_
    refine v_getr (ci := 12) (j := 49) (ji := 49) (z := 148) dX12_judge_10 k_1465 (by decide) kk_116 (by decide) rfl rfl (fun r => rt_116_49 (r rfl)) (by decide) ?_
    refine v_iload dX12_judge_13 rfl ?_
    refine v_iconst dX12_judge_15 (c32 rfl) ?_
    refine v_zastore dX12_judge_16 (by decide) kk_148 (by omega) (by omega) (by omega) ?_
    rw [jst_wo]
    refine v_aload_n dX12_judge_17 rfl ?_
    refine v_aload_n dX12_judge_18 rfl ?_
    refine v_getr (ci := 12) (j := 26) (ji := 26) (z := 129) dX12_judge_19 k_1442 (by decide) kk_116 (by decide) rfl rfl (fun r => rt_116_26 (r rfl)) (by decide) ?_
    refine v_iload dX12_judge_22 rfl ?_
    refine v_ialoadv dX12_judge_24 (by decide) kk_129 (by omega) (by omega) (jst_c (by decide)) ?_
    refine v_iload_n dX12_judge_25 rfl ?_
    refine v_aload_n dX12_judge_26 rfl ?_
    refine v_getr (ci := 12) (j := 31) (ji := 31) (z := 134) dX12_judge_27 k_1447 (by decide) kk_116 (by decide) rfl rfl (fun r => rt_116_31 (r rfl)) (by decide) ?_
    refine v_iload dX12_judge_30 rfl ?_
    refine v_ialoadv dX12_judge_32 (by decide) kk_134 (by omega) (by omega) (jst_c (by decide)) ?_
    refine v_iload_n dX12_judge_33 rfl ?_
    refine v_callv (M' := mX12_isMember) (d' := d - 1) (mc' := 0) (ms' := 0) (ci := 12) (c := 116) (As := [_, _, _, _]) dX12_judge_34 k_1925 cm_X12_isMember rfl (by omega) (by decide) kk_116 (Nat.le_of_ble_eq_true rfl) rfl ⟨Nat.le_refl _, Nat.le_refl _⟩ ?_
    refine s_memJ (by omega) W (fun c34_2 => ?_) (fun c34_3 => ?_)
    · dsimp only [Option.toList, List.cons_append, List.nil_append, Nat.add_zero]
      refine v_if_ne_f (tgt := 43) dX12_judge_37 (by decide) (by decide) ?_
      refine v_goto (tgt := 132) dX12_judge_40 (by decide) ?_
      refine v_iinc_5 dX12_judge_132 (by decide) rfl ?_
      rw [iadd_eq (x := k) (y := 1) (by unfold ok32; omega)]
      refine v_goto (tgt := 3) dX12_judge_135 (by decide) ?_
      have e9 : jO h cs w q al O0 (k + 1) = (fset (jO h cs w q al O0 k) k 0) := by
        rw [jO_s hk]
        unfold jv
        rw [if_pos c34_2]
      have ih9 := ih (by omega) z Lr
      rw [e9] at ih9
      exact ih9
    · dsimp only [Option.toList, List.cons_append, List.nil_append, Nat.add_zero]
      refine v_if_ne_t (tgt := 43) dX12_judge_37 (by decide) (by decide) ?_
      refine v_aload_n dX12_judge_43 rfl ?_
      refine v_getr (ci := 12) (j := 32) (ji := 32) (z := 135) dX12_judge_44 k_1448 (by decide) kk_116 (by decide) rfl rfl (fun r => rt_116_32 (r rfl)) (by decide) ?_
      refine v_iload dX12_judge_47 rfl ?_
      refine v_ialoadv dX12_judge_49 (by decide) kk_135 (by omega) (by omega) (jst_c (by decide)) ?_
      refine v_iconst dX12_judge_50 (c32 rfl) ?_
      refine v_icmp_ne (tgt := 80) dX12_judge_51 (by decide) (fun c51_4 => ?_) (fun c51_4 => ?_)
      · refine v_aload_n dX12_judge_80 rfl ?_
        refine v_iload dX12_judge_81 rfl ?_
        refine v_iload_n dX12_judge_83 rfl ?_
        refine v_callv (M' := mX12_findLetters) (d' := d - 1) (mc' := 0) (ms' := 0) (ci := 12) (c := 116) (As := [_, _]) dX12_judge_84 k_1929 cm_X12_findLetters rfl (by omega) (by decide) kk_116 (Nat.le_of_ble_eq_true rfl) rfl ⟨Nat.le_refl _, Nat.le_refl _⟩ ?_
        refine s_findLetters (by omega) ⟨by omega, by omega⟩ W.nm (W.en k (by omega) (by omega)) (W.eb (by omega) (by omega)) (W.ev (by omega) (by omega)) (W.pb (by omega) (by omega)) (W.he k (by omega) (by omega)) (W.ps k (by omega) (by omega)) ?_
        dsimp only [Option.toList, List.cons_append, List.nil_append, Nat.add_zero]
        refine v_aload_n dX12_judge_87 rfl ?_
        refine v_getr (ci := 12) (j := 49) (ji := 49) (z := 148) dX12_judge_88 k_1465 (by decide) kk_116 (by decide) rfl rfl (fun r => rt_116_49 (r rfl)) (by decide) ?_
        refine v_iload dX12_judge_91 rfl ?_
        refine v_aload_n dX12_judge_93 rfl ?_
        refine v_iload dX12_judge_94 rfl ?_
        refine v_iconst dX12_judge_96 (c32 rfl) ?_
        refine v_icmp_ne (tgt := 116) dX12_judge_97 (by decide) (fun c97_5 => ?_) (fun c97_5 => ?_)
        · refine v_iload dX12_judge_116 rfl ?_
          refine v_bipush dX12_judge_118 (c32 rfl) (by decide) ?_
          refine v_callv (M' := mX12_worth) (d' := d - 1) (mc' := 0) (ms' := 0) (ci := 12) (c := 116) (As := [_, _]) dX12_judge_120 k_1940 cm_X12_worth rfl (by omega) (by decide) kk_116 (Nat.le_of_ble_eq_true rfl) rfl ⟨Nat.le_refl _, Nat.le_refl _⟩ ?_
          refine s_worthJ (by omega) W hX (by first | omega | (have := @pOn_rng h W w (h 134 k) q; omega)) (lbok_let (W.lb (by omega) (by omega))) (fun xz_5 => ?_)
          dsimp only [Option.toList, List.cons_append, List.nil_append, Nat.add_zero]
          refine v_if_eq (tgt := 130) dX12_judge_123 (by decide) (fun c123_6 => ?_) (fun c123_6 => ?_)
          · refine v_iconst dX12_judge_130 (c32 rfl) ?_
            refine v_zastore dX12_judge_131 (by decide) kk_148 (by omega) (by omega) (by omega) ?_
            rw [jst_wo]
            refine v_iinc_5 dX12_judge_132 (by decide) rfl ?_
            rw [iadd_eq (x := k) (y := 1) (by unfold ok32; omega)]
            refine v_goto (tgt := 3) dX12_judge_135 (by decide) ?_
            have e9 : jO h cs w q al O0 (k + 1) = (fset (fset (jO h cs w q al O0 k) k 0) k 0) := by
              rw [jO_s hk, fset_tw]
              unfold jv
              rw [if_neg (fun e => e c34_3), if_neg c51_4, if_neg c97_5, if_pos (wth_let.symm.trans c123_6)]
            have ih9 := ih (by omega) xz_5 (fLet h (fset (jO h cs w q al O0 k) k 0) k q Lr)
            rw [e9] at ih9
            exact ih9
          · refine v_iconst dX12_judge_126 (c32 rfl) ?_
            refine v_goto (tgt := 131) dX12_judge_127 (by decide) ?_
            refine v_zastore dX12_judge_131 (by decide) kk_148 (by omega) (by omega) (by omega) ?_
            rw [jst_wo]
            refine v_iinc_5 dX12_judge_132 (by decide) rfl ?_
            rw [iadd_eq (x := k) (y := 1) (by unfold ok32; omega)]
            refine v_goto (tgt := 3) dX12_judge_135 (by decide) ?_
            have e9 : jO h cs w q al O0 (k + 1) = (fset (fset (jO h cs w q al O0 k) k 0) k 1) := by
              rw [jO_s hk, fset_tw]
              unfold jv
              rw [if_neg (fun e => e c34_3), if_neg c51_4, if_neg c97_5, if_neg (fun e => c123_6 (wth_let.trans e))]
            have ih9 := ih (by omega) xz_5 (fLet h (fset (jO h cs w q al O0 k) k 0) k q Lr)
            rw [e9] at ih9
            exact ih9
        · refine v_aload_n dX12_judge_100 rfl ?_
          refine v_iload_n dX12_judge_101 rfl ?_
          refine v_aload_n dX12_judge_102 rfl ?_
          refine v_getr (ci := 12) (j := 31) (ji := 31) (z := 134) dX12_judge_103 k_1447 (by decide) kk_116 (by decide) rfl rfl (fun r => rt_116_31 (r rfl)) (by decide) ?_
          refine v_iload dX12_judge_106 rfl ?_
          refine v_ialoadv dX12_judge_108 (by decide) kk_134 (by omega) (by omega) (jst_c (by decide)) ?_
          refine v_iload_n dX12_judge_109 rfl ?_
          refine v_callv (M' := mX12_protocolOn) (d' := d - 1) (mc' := 0) (ms' := 0) (ci := 12) (c := 116) (As := [_, _, _]) dX12_judge_110 k_1824 cm_X12_protocolOn rfl (by omega) (by decide) kk_116 (Nat.le_of_ble_eq_true rfl) rfl ⟨Nat.le_refl _, Nat.le_refl _⟩ ?_
          refine s_pOnJ (by omega) W ?_
          dsimp only [Option.toList, List.cons_append, List.nil_append, Nat.add_zero]
          refine v_goto (tgt := 118) dX12_judge_113 (by decide) ?_
          refine v_bipush dX12_judge_118 (c32 rfl) (by decide) ?_
          refine v_callv (M' := mX12_worth) (d' := d - 1) (mc' := 0) (ms' := 0) (ci := 12) (c := 116) (As := [_, _]) dX12_judge_120 k_1940 cm_X12_worth rfl (by omega) (by decide) kk_116 (Nat.le_of_ble_eq_true rfl) rfl ⟨Nat.le_refl _, Nat.le_refl _⟩ ?_
          refine s_worthJ (by omega) W hX (by first | omega | (have := @pOn_rng h W w (h 134 k) q; omega)) (lbok_let (W.lb (by omega) (by omega))) (fun xz_6 => ?_)
          dsimp only [Option.toList, List.cons_append, List.nil_append, Nat.add_zero]
          refine v_if_eq (tgt := 130) dX12_judge_123 (by decide) (fun c123_7 => ?_) (fun c123_7 => ?_)
          · refine v_iconst dX12_judge_130 (c32 rfl) ?_
            refine v_zastore dX12_judge_131 (by decide) kk_148 (by omega) (by omega) (by omega) ?_
            rw [jst_wo]
            refine v_iinc_5 dX12_judge_132 (by decide) rfl ?_
            rw [iadd_eq (x := k) (y := 1) (by unfold ok32; omega)]
            refine v_goto (tgt := 3) dX12_judge_135 (by decide) ?_
            have e9 : jO h cs w q al O0 (k + 1) = (fset (fset (jO h cs w q al O0 k) k 0) k 0) := by
              rw [jO_s hk, fset_tw]
              unfold jv
              rw [if_neg (fun e => e c34_3), if_neg c51_4, if_pos c97_5, if_pos (wth_let.symm.trans c123_7)]
            have ih9 := ih (by omega) xz_6 (fLet h (fset (jO h cs w q al O0 k) k 0) k q Lr)
            rw [e9] at ih9
            exact ih9
          · refine v_iconst dX12_judge_126 (c32 rfl) ?_
            refine v_goto (tgt := 131) dX12_judge_127 (by decide) ?_
            refine v_zastore dX12_judge_131 (by decide) kk_148 (by omega) (by omega) (by omega) ?_
            rw [jst_wo]
            refine v_iinc_5 dX12_judge_132 (by decide) rfl ?_
            rw [iadd_eq (x := k) (y := 1) (by unfold ok32; omega)]
            refine v_goto (tgt := 3) dX12_judge_135 (by decide) ?_
            have e9 : jO h cs w q al O0 (k + 1) = (fset (fset (jO h cs w q al O0 k) k 0) k 1) := by
              rw [jO_s hk, fset_tw]
              unfold jv
              rw [if_neg (fun e => e c34_3), if_neg c51_4, if_pos c97_5, if_neg (fun e => c123_7 (wth_let.trans e))]
            have ih9 := ih (by omega) xz_6 (fLet h (fset (jO h cs w q al O0 k) k 0) k q Lr)
            rw [e9] at ih9
            exact ih9
      · refine v_aload_n dX12_judge_54 rfl ?_
        refine v_getr (ci := 12) (j := 49) (ji := 49) (z := 148) dX12_judge_55 k_1465 (by decide) kk_116 (by decide) rfl rfl (fun r => rt_116_49 (r rfl)) (by decide) ?_
        refine v_iload dX12_judge_58 rfl ?_
        refine v_aload_n dX12_judge_60 rfl ?_
        refine v_getr (ci := 12) (j := 33) (ji := 33) (z := 136) dX12_judge_61 k_1449 (by decide) kk_116 (by decide) rfl rfl (fun r => rt_116_33 (r rfl)) (by decide) ?_
        refine v_iload dX12_judge_64 rfl ?_
        refine v_ialoadv dX12_judge_66 (by decide) kk_136 (by omega) (by omega) (jst_c (by decide)) ?_
        refine v_iload_n dX12_judge_67 rfl ?_
        refine v_icmp_le (tgt := 75) dX12_judge_68 (by decide) (fun c68_8 => ?_) (fun c68_8 => ?_)
        · refine v_iconst dX12_judge_75 (c32 rfl) ?_
          refine v_zastore dX12_judge_76 (by decide) kk_148 (by omega) (by omega) (by omega) ?_
          rw [jst_wo]
          refine v_goto (tgt := 132) dX12_judge_77 (by decide) ?_
          refine v_iinc_5 dX12_judge_132 (by decide) rfl ?_
          rw [iadd_eq (x := k) (y := 1) (by unfold ok32; omega)]
          refine v_goto (tgt := 3) dX12_judge_135 (by decide) ?_
          have e9 : jO h cs w q al O0 (k + 1) = (fset (fset (jO h cs w q al O0 k) k 0) k 0) := by
            rw [jO_s hk, fset_tw]
            unfold jv
            rw [if_neg (fun e => e c34_3), if_pos c51_4, if_neg (by omega)]
          have ih9 := ih (by omega) z Lr
          rw [e9] at ih9
          exact ih9
        · refine v_iconst dX12_judge_71 (c32 rfl) ?_
          refine v_goto (tgt := 76) dX12_judge_72 (by decide) ?_
          refine v_zastore dX12_judge_76 (by decide) kk_148 (by omega) (by omega) (by omega) ?_
          rw [jst_wo]
          refine v_goto (tgt := 132) dX12_judge_77 (by decide) ?_
          refine v_iinc_5 dX12_judge_132 (by decide) rfl ?_
          rw [iadd_eq (x := k) (y := 1) (by unfold ok32; omega)]
          refine v_goto (tgt := 3) dX12_judge_135 (by decide) ?_
          have e9 : jO h cs w q al O0 (k + 1) = (fset (fset (jO h cs w q al O0 k) k 0) k 1) := by
            rw [jO_s hk, fset_tw]
            unfold jv
            rw [if_neg (fun e => e c34_3), if_pos c51_4, if_pos c68_8]
          have ih9 := ih (by omega) z Lr
          rw [e9] at ih9
          exact ih9

set_option maxHeartbeats 4000000 in
set_option maxRecDepth 100000 in
theorem s_judge {l : Launch} {G : GG} {d : Nat} {h : AH} {Q : Option AV → List Kd → AH → Prop} {cs : Int → List (Int × List Int)} {z O0 Lr : Int → Int} {to w q al : Int} (hd : 39 ≤ d) (W : RW h) (hX : TX h cs) (hal : -1 ≤ al ∧ (al < h 116 15 ∨ al = -1)) (hto : -1 ≤ to ∧ to < h 116 45) (hq : ∀ z Lr, Q none K0 (jst h z (jO h cs w q al O0 (to + 1)) Lr)) : Sp l G mX12_judge d 0 0 K0 [(2, 116), (0, to), (0, w), (0, q), (0, al)] (jst h z O0 Lr) Q := by
  refine sp_of (L := [(2, 116), (0, to), (0, w), (0, q), (0, al), (9, 0)]) pl_X12 (Nat.le_of_ble_eq_true rfl) (tg_c (by decide) (tg_c (by decide) (tg_c (by decide) (tg_c (by decide) (tg_c (by decide) tg_0))))) rfl ?_
  refine v_iconst dX12_judge_0 (c32 rfl) ?_
  refine v_istore_5 dX12_judge_1 (by decide) rfl ?_
  exact lp_judge hd W hX hal hto hq 0 (Int.le_refl _) (by omega) z Lr

