/-! ===== the reference: told, weights (written by wip/whole/p32.py) ===== -/
set_option maxHeartbeats 4000000 in
set_option maxRecDepth 100000 in
theorem s_told {l : Launch} {G : GG} {d : Nat} {h : AH} {Q : Option AV → List Kd → AH → Prop} {F : AH} {z O Lr : Int → Int} {b what : Int} (hd : 3 ≤ d) (W : RW h)
    (q_1 : ¬ (0 ≤ b ∧ b < h 116 45) → Q (some (0, 0)) K0 (jst (kst h (hset F 116 0 1)) z O Lr))
    (q_2 : 0 ≤ b ∧ b < h 116 45 → what < 0 → Q (some (0, 0)) K0 (jst (kst h (hset F 116 0 1)) z O Lr))
    (q_3 : 0 ≤ b ∧ b < h 116 45 → 0 ≤ what → 8 < what → Q (some (0, 0)) K0 (jst (kst h (hset F 116 0 1)) z O Lr))
    (q_4 : 0 ≤ b ∧ b < h 116 45 → 0 ≤ what → what ≤ 8 → (what < 0 ∨ 7 < what) → (h 136 b) = 9999 → Q (some (0, 0)) K0 (jst (kst h (hset F 116 0 0)) z O Lr))
    (q_5 : 0 ≤ b ∧ b < h 116 45 → 0 ≤ what → what ≤ 8 → (what < 0 ∨ 7 < what) → (h 136 b) ≠ 9999 → Q (some (0, 1)) K0 (jst (kst h (hset F 116 0 0)) z O Lr))
    (q_6 : 0 ≤ b ∧ b < h 116 45 → 0 ≤ what → what ≤ 8 → what = 0 → Q (some (0, (h 129 b))) K0 (jst (kst h (hset F 116 0 0)) z O Lr))
    (q_7 : 0 ≤ b ∧ b < h 116 45 → 0 ≤ what → what ≤ 8 → what = 1 → Q (some (0, (h 130 b))) K0 (jst (kst h (hset F 116 0 0)) z O Lr))
    (q_8 : 0 ≤ b ∧ b < h 116 45 → 0 ≤ what → what ≤ 8 → what = 2 → Q (some (0, (prc h (h 116 1) b))) K0 (jst (kst h (hset F 116 0 0)) z O Lr))
    (q_9 : 0 ≤ b ∧ b < h 116 45 → 0 ≤ what → what ≤ 8 → what = 3 → Q (some (0, (h 132 b))) K0 (jst (kst h (hset F 116 0 0)) z O Lr))
    (q_10 : 0 ≤ b ∧ b < h 116 45 → 0 ≤ what → what ≤ 8 → what = 4 → Q (some (0, (h 133 b))) K0 (jst (kst h (hset F 116 0 0)) z O Lr))
    (q_11 : 0 ≤ b ∧ b < h 116 45 → 0 ≤ what → what ≤ 8 → what = 5 → Q (some (0, (h 134 b))) K0 (jst (kst h (hset F 116 0 0)) z O Lr))
    (q_12 : 0 ≤ b ∧ b < h 116 45 → 0 ≤ what → what ≤ 8 → what = 6 → Q (some (0, (h 135 b))) K0 (jst (kst h (hset F 116 0 0)) z O Lr))
    (q_13 : 0 ≤ b ∧ b < h 116 45 → 0 ≤ what → what ≤ 8 → what = 7 → Q (some (0, (h 137 b))) K0 (jst (kst h (hset F 116 0 0)) z O Lr)) : Sp l G mX12_told d 0 0 K0 [(2, 116), (0, b), (0, what)] (jst (kst h F) z O Lr) Q := by
  have nb := W.nb
  refine sp_of (L := [(2, 116), (0, b), (0, what)]) pl_X12 (Nat.le_of_ble_eq_true rfl) (tg_c (by decide) (tg_c (by decide) (tg_c (by decide) tg_0))) rfl ?_
  refine v_aload_n dX12_told_0 rfl ?_
  refine v_aload_n dX12_told_1 rfl ?_
  refine v_iload_n dX12_told_2 rfl ?_
  refine v_callv (M' := mX12_isBatch) (d' := d - 1) (mc' := 0) (ms' := 0) (ci := 12) (c := 116) (As := [_]) dX12_told_3 k_1861 cm_X12_isBatch rfl (by omega) (by decide) kk_116 (Nat.le_of_ble_eq_true rfl) rfl ⟨Nat.le_refl _, Nat.le_refl _⟩ ?_
  refine s_isBatchK (by omega) (fun c3_1 => ?_) (fun c3_2 => ?_)
  · dsimp only [Option.toList, List.cons_append, List.nil_append, Nat.add_zero]
    refine v_if_eq_t (tgt := 25) dX12_told_6 (by decide) (by decide) ?_
    refine v_iconst dX12_told_25 (c32 rfl) ?_
    refine v_puti (ci := 12) (j := 0) (ji := 0) dX12_told_26 k_1416 (by decide) kk_116 (by decide) rfl rfl rfl ?_
    rw [jst_wj (by decide), kst_w (by decide)]
    refine v_aload_n dX12_told_29 rfl ?_
    refine v_getv (ci := 12) (j := 0) (ji := 0) (tg := 0) dX12_told_30 k_1416 (by decide) kk_116 (by decide) rfl rfl (by decide) ((jst_j (by decide)).trans ((kst_s (by decide)).trans (hset_same _ _ _ _))) ?_
    refine v_if_le_f (tgt := 38) dX12_told_33 (by decide) (by decide) ?_
    refine v_iconst dX12_told_36 (c32 rfl) ?_
    refine v_ireti dX12_told_37 rfl (Nat.le_refl _) (Nat.le_refl _) ?_
    exact q_1 c3_1
  · dsimp only [Option.toList, List.cons_append, List.nil_append, Nat.add_zero]
    refine v_if_eq_f (tgt := 25) dX12_told_6 (by decide) (by decide) ?_
    refine v_iload_n dX12_told_9 rfl ?_
    refine v_i2l dX12_told_10 ?_
    refine v_lconst (z := 0) dX12_told_11 (c64 rfl) (by decide) ?_
    refine v_ldc2 (n := 8) dX12_told_12 k_1904 (c64 rfl) (by decide) ?_
    refine v_calls (M' := mX12_isIn) (d' := d - 1) (mc' := 0) (ms' := 0) (As := [_, _, _]) dX12_told_15 k_1700 cm_X12_isIn (by omega) (Nat.le_of_ble_eq_true rfl) rfl ⟨Nat.le_refl _, Nat.le_refl _⟩ ?_
    refine s_X12_isIn (by omega) (fun c15_3 => ?_) (fun c15_4 c15_5 => ?_) (fun c15_6 c15_7 => ?_)
    · dsimp only [Option.toList, List.cons_append, List.nil_append, Nat.add_zero]
      refine v_if_eq_t (tgt := 25) dX12_told_18 (by decide) (by decide) ?_
      refine v_iconst dX12_told_25 (c32 rfl) ?_
      refine v_puti (ci := 12) (j := 0) (ji := 0) dX12_told_26 k_1416 (by decide) kk_116 (by decide) rfl rfl rfl ?_
      rw [jst_wj (by decide), kst_w (by decide)]
      refine v_aload_n dX12_told_29 rfl ?_
      refine v_getv (ci := 12) (j := 0) (ji := 0) (tg := 0) dX12_told_30 k_1416 (by decide) kk_116 (by decide) rfl rfl (by decide) ((jst_j (by decide)).trans ((kst_s (by decide)).trans (hset_same _ _ _ _))) ?_
      refine v_if_le_f (tgt := 38) dX12_told_33 (by decide) (by decide) ?_
      refine v_iconst dX12_told_36 (c32 rfl) ?_
      refine v_ireti dX12_told_37 rfl (Nat.le_refl _) (Nat.le_refl _) ?_
      exact q_2 c3_2 c15_3
    · dsimp only [Option.toList, List.cons_append, List.nil_append, Nat.add_zero]
      refine v_if_eq_t (tgt := 25) dX12_told_18 (by decide) (by decide) ?_
      refine v_iconst dX12_told_25 (c32 rfl) ?_
      refine v_puti (ci := 12) (j := 0) (ji := 0) dX12_told_26 k_1416 (by decide) kk_116 (by decide) rfl rfl rfl ?_
      rw [jst_wj (by decide), kst_w (by decide)]
      refine v_aload_n dX12_told_29 rfl ?_
      refine v_getv (ci := 12) (j := 0) (ji := 0) (tg := 0) dX12_told_30 k_1416 (by decide) kk_116 (by decide) rfl rfl (by decide) ((jst_j (by decide)).trans ((kst_s (by decide)).trans (hset_same _ _ _ _))) ?_
      refine v_if_le_f (tgt := 38) dX12_told_33 (by decide) (by decide) ?_
      refine v_iconst dX12_told_36 (c32 rfl) ?_
      refine v_ireti dX12_told_37 rfl (Nat.le_refl _) (Nat.le_refl _) ?_
      exact q_3 c3_2 c15_4 c15_5
    · dsimp only [Option.toList, List.cons_append, List.nil_append, Nat.add_zero]
      refine v_if_eq_f (tgt := 25) dX12_told_18 (by decide) (by decide) ?_
      refine v_iconst dX12_told_21 (c32 rfl) ?_
      refine v_goto (tgt := 26) dX12_told_22 (by decide) ?_
      refine v_puti (ci := 12) (j := 0) (ji := 0) dX12_told_26 k_1416 (by decide) kk_116 (by decide) rfl rfl rfl ?_
      rw [jst_wj (by decide), kst_w (by decide)]
      refine v_aload_n dX12_told_29 rfl ?_
      refine v_getv (ci := 12) (j := 0) (ji := 0) (tg := 0) dX12_told_30 k_1416 (by decide) kk_116 (by decide) rfl rfl (by decide) ((jst_j (by decide)).trans ((kst_s (by decide)).trans (hset_same _ _ _ _))) ?_
      refine v_if_le_t (tgt := 38) dX12_told_33 (by decide) (by decide) ?_
      refine v_iload_n dX12_told_38 rfl ?_
      rcases (show (what < 0 ∨ 7 < what) ∨ what = 0 ∨ what = 1 ∨ what = 2 ∨ what = 3 ∨ what = 4 ∨ what = 5 ∨ what = 6 ∨ what = 7 by omega) with c39_8 | c39_8 | c39_8 | c39_8 | c39_8 | c39_8 | c39_8 | c39_8 | c39_8
      · refine v_tsw_out (tgt := 143) dX12_told_39 c39_8 (by decide) ?_
        refine v_aload_n dX12_told_143 rfl ?_
        refine v_getr (ci := 12) (j := 33) (ji := 33) (z := 136) dX12_told_144 k_1449 (by decide) kk_116 (by decide) rfl rfl (fun r => rt_116_33 (r rfl)) (by decide) ?_
        refine v_iload_n dX12_told_147 rfl ?_
        refine v_ialoadv dX12_told_148 (by decide) kk_136 (by omega) (by omega) ((jst_c (by decide)).trans (kst_n (by decide))) ?_
        refine v_sipush dX12_told_149 (c32 rfl) (by decide) ?_
        refine v_icmp_eq (tgt := 159) dX12_told_152 (by decide) (fun c152_9 => ?_) (fun c152_9 => ?_)
        · refine v_iconst dX12_told_159 (c32 rfl) ?_
          refine v_ireti dX12_told_160 rfl (Nat.le_refl _) (Nat.le_refl _) ?_
          exact q_4 c3_2 c15_6 c15_7 c39_8 c152_9
        · refine v_iconst dX12_told_155 (c32 rfl) ?_
          refine v_goto (tgt := 160) dX12_told_156 (by decide) ?_
          refine v_ireti dX12_told_160 rfl (Nat.le_refl _) (Nat.le_refl _) ?_
          exact q_5 c3_2 c15_6 c15_7 c39_8 c152_9
      · refine v_tsw_in (off := 45) (tgt := 84) dX12_told_39 (by omega) (by omega) (by rw [c39_8]; rfl) (by decide) ?_
        refine v_aload_n dX12_told_84 rfl ?_
        refine v_getr (ci := 12) (j := 26) (ji := 26) (z := 129) dX12_told_85 k_1442 (by decide) kk_116 (by decide) rfl rfl (fun r => rt_116_26 (r rfl)) (by decide) ?_
        refine v_iload_n dX12_told_88 rfl ?_
        refine v_ialoadv dX12_told_89 (by decide) kk_129 (by omega) (by omega) ((jst_c (by decide)).trans (kst_n (by decide))) ?_
        refine v_ireti dX12_told_90 rfl (Nat.le_refl _) (Nat.le_refl _) ?_
        exact q_6 c3_2 c15_6 c15_7 c39_8
      · refine v_tsw_in (off := 52) (tgt := 91) dX12_told_39 (by omega) (by omega) (by rw [c39_8]; rfl) (by decide) ?_
        refine v_aload_n dX12_told_91 rfl ?_
        refine v_getr (ci := 12) (j := 27) (ji := 27) (z := 130) dX12_told_92 k_1443 (by decide) kk_116 (by decide) rfl rfl (fun r => rt_116_27 (r rfl)) (by decide) ?_
        refine v_iload_n dX12_told_95 rfl ?_
        refine v_ialoadv dX12_told_96 (by decide) kk_130 (by omega) (by omega) ((jst_c (by decide)).trans (kst_n (by decide))) ?_
        refine v_ireti dX12_told_97 rfl (Nat.le_refl _) (Nat.le_refl _) ?_
        exact q_7 c3_2 c15_6 c15_7 c39_8
      · refine v_tsw_in (off := 59) (tgt := 98) dX12_told_39 (by omega) (by omega) (by rw [c39_8]; rfl) (by decide) ?_
        refine v_aload_n dX12_told_98 rfl ?_
        refine v_iload_n dX12_told_99 rfl ?_
        refine v_aload_n dX12_told_100 rfl ?_
        refine v_getv (ci := 12) (j := 1) (ji := 1) (tg := 0) dX12_told_101 k_1417 (by decide) kk_116 (by decide) rfl rfl (by decide) ((jst_j (by decide)).trans (kst_c (by decide))) ?_
        refine v_callv (M' := mX12_priceOf) (d' := d - 1) (mc' := 0) (ms' := 0) (ci := 12) (c := 116) (As := [_, _]) dX12_told_104 k_1905 cm_X12_priceOf rfl (by omega) (by decide) kk_116 (Nat.le_of_ble_eq_true rfl) rfl ⟨Nat.le_refl _, Nat.le_refl _⟩ ?_
        refine s_prcK (by omega) W (by omega) ?_
        dsimp only [Option.toList, List.cons_append, List.nil_append, Nat.add_zero]
        refine v_ireti dX12_told_107 rfl (Nat.le_refl _) (Nat.le_refl _) ?_
        exact q_8 c3_2 c15_6 c15_7 c39_8
      · refine v_tsw_in (off := 69) (tgt := 108) dX12_told_39 (by omega) (by omega) (by rw [c39_8]; rfl) (by decide) ?_
        refine v_aload_n dX12_told_108 rfl ?_
        refine v_getr (ci := 12) (j := 29) (ji := 29) (z := 132) dX12_told_109 k_1445 (by decide) kk_116 (by decide) rfl rfl (fun r => rt_116_29 (r rfl)) (by decide) ?_
        refine v_iload_n dX12_told_112 rfl ?_
        refine v_ialoadv dX12_told_113 (by decide) kk_132 (by omega) (by omega) ((jst_c (by decide)).trans (kst_n (by decide))) ?_
        refine v_ireti dX12_told_114 rfl (Nat.le_refl _) (Nat.le_refl _) ?_
        exact q_9 c3_2 c15_6 c15_7 c39_8
      · refine v_tsw_in (off := 76) (tgt := 115) dX12_told_39 (by omega) (by omega) (by rw [c39_8]; rfl) (by decide) ?_
        refine v_aload_n dX12_told_115 rfl ?_
        refine v_getr (ci := 12) (j := 30) (ji := 30) (z := 133) dX12_told_116 k_1446 (by decide) kk_116 (by decide) rfl rfl (fun r => rt_116_30 (r rfl)) (by decide) ?_
        refine v_iload_n dX12_told_119 rfl ?_
        refine v_ialoadv dX12_told_120 (by decide) kk_133 (by omega) (by omega) ((jst_c (by decide)).trans (kst_n (by decide))) ?_
        refine v_ireti dX12_told_121 rfl (Nat.le_refl _) (Nat.le_refl _) ?_
        exact q_10 c3_2 c15_6 c15_7 c39_8
      · refine v_tsw_in (off := 83) (tgt := 122) dX12_told_39 (by omega) (by omega) (by rw [c39_8]; rfl) (by decide) ?_
        refine v_aload_n dX12_told_122 rfl ?_
        refine v_getr (ci := 12) (j := 31) (ji := 31) (z := 134) dX12_told_123 k_1447 (by decide) kk_116 (by decide) rfl rfl (fun r => rt_116_31 (r rfl)) (by decide) ?_
        refine v_iload_n dX12_told_126 rfl ?_
        refine v_ialoadv dX12_told_127 (by decide) kk_134 (by omega) (by omega) ((jst_c (by decide)).trans (kst_n (by decide))) ?_
        refine v_ireti dX12_told_128 rfl (Nat.le_refl _) (Nat.le_refl _) ?_
        exact q_11 c3_2 c15_6 c15_7 c39_8
      · refine v_tsw_in (off := 90) (tgt := 129) dX12_told_39 (by omega) (by omega) (by rw [c39_8]; rfl) (by decide) ?_
        refine v_aload_n dX12_told_129 rfl ?_
        refine v_getr (ci := 12) (j := 32) (ji := 32) (z := 135) dX12_told_130 k_1448 (by decide) kk_116 (by decide) rfl rfl (fun r => rt_116_32 (r rfl)) (by decide) ?_
        refine v_iload_n dX12_told_133 rfl ?_
        refine v_ialoadv dX12_told_134 (by decide) kk_135 (by omega) (by omega) ((jst_c (by decide)).trans (kst_n (by decide))) ?_
        refine v_ireti dX12_told_135 rfl (Nat.le_refl _) (Nat.le_refl _) ?_
        exact q_12 c3_2 c15_6 c15_7 c39_8
      · refine v_tsw_in (off := 97) (tgt := 136) dX12_told_39 (by omega) (by omega) (by rw [c39_8]; rfl) (by decide) ?_
        refine v_aload_n dX12_told_136 rfl ?_
        refine v_getr (ci := 12) (j := 34) (ji := 34) (z := 137) dX12_told_137 k_1450 (by decide) kk_116 (by decide) rfl rfl (fun r => rt_116_34 (r rfl)) (by decide) ?_
        refine v_iload_n dX12_told_140 rfl ?_
        refine v_ialoadv dX12_told_141 (by decide) kk_137 (by omega) (by omega) ((jst_c (by decide)).trans (kst_n (by decide))) ?_
        refine v_ireti dX12_told_142 rfl (Nat.le_refl _) (Nat.le_refl _) ?_
        exact q_13 c3_2 c15_6 c15_7 c39_8

set_option maxHeartbeats 4000000 in
set_option maxRecDepth 100000 in
theorem s_X12_thrown {l : Launch} {G : GG} {d : Nat} {h : AH} {Q : Option AV → List Kd → AH → Prop} (hd : 1 ≤ d) 
    (q_1 : Q (some (0, (h 116 0))) K0 h) : Sp l G mX12_thrown d 0 0 K0 [(2, 116)] h Q := by
  refine sp_of (L := [(2, 116)]) pl_X12 (Nat.le_of_ble_eq_true rfl) (tg_c (by decide) tg_0) rfl ?_
  refine v_aload_n dX12_thrown_0 rfl ?_
  refine v_get (ci := 12) (j := 0) (ji := 0) (tg := 0) dX12_thrown_1 k_1416 (by decide) kk_116 (by decide) rfl rfl (by decide) ?_
  refine v_ireti dX12_thrown_4 rfl (Nat.le_refl _) (Nat.le_refl _) ?_
  exact q_1 

theorem RW.l1 {h : AH} (W : RW h) {O : Int → Int} {q b : Int} (h0 : 0 ≤ b) (h1 : b < h 116 45) : 0 ≤ mLt h O b q 1 ∧ mLt h O b q 1 ≤ 10000000 := by
  have r2 := sm_rng (f := fO h O b q) (hfO (W.ev h0 h1)) _ (W.en b h0 h1).1 (Int.le_refl _)
  have hp := W.pb (q := q) h0 h1
  have he := W.en b h0 h1
  rw [show mLt h O b q 1 = shr (sm (fO h O b q) (h 137 b)) (prc h q b * h 132 b) from rfl]
  exact shr_rng (by omega) (by omega) (by omega) (by omega)
/-- a shipment's weight for a check -/
def wgt (h : AH) (cs : Int → List (Int × List Int)) (s q : Int) : Int := if h 135 (h 150 s) = -1 then 1 else 1 + idiv (mLt h (fun e => own h cs (h 153 s) q (-1) e) (h 150 s) q 1) 100

set_option maxHeartbeats 4000000 in
set_option maxRecDepth 100000 in
theorem s_weightOf {l : Launch} {G : GG} {d : Nat} {h : AH} {Q : Option AV → List Kd → AH → Prop} {F : AH} {z O Lr : Int → Int} {cs : Int → List (Int × List Int)} {s : Int} (hd : 42 ≤ d) (W : RW h) (S : RS h) (hX : TX h cs) (hs : 0 ≤ s ∧ s < h 116 65) (hq : ∀ z O Lr, Q (some (0, wgt h cs s (h 116 1))) K0 (jst (kst h F) z O Lr)) : Sp l G mX12_weightOf d 0 0 K0 [(2, 116), (0, s)] (jst (kst h F) z O Lr) Q := by
  have ns := S.1
  have nb := W.nb
  have nt := W.nt
  have a2 := S.2.2.1 s hs.1 hs.2
  refine sp_of (L := [(2, 116), (0, s), (9, 0)]) pl_X12 (Nat.le_of_ble_eq_true rfl) (tg_c (by decide) (tg_c (by decide) tg_0)) rfl ?_
  refine v_aload_n dX12_weightOf_0 rfl ?_
  refine v_getr (ci := 12) (j := 51) (ji := 51) (z := 150) dX12_weightOf_1 k_1467 (by decide) kk_116 (by decide) rfl rfl (fun r => rt_116_51 (r rfl)) (by decide) ?_
  refine v_iload_n dX12_weightOf_4 rfl ?_
  refine v_ialoadv dX12_weightOf_5 (by decide) kk_150 (by omega) (by omega) ((jst_c (by decide)).trans (kst_n (by decide))) ?_
  refine v_istore_n_2 dX12_weightOf_6 (by decide) rfl ?_
  refine v_aload_n dX12_weightOf_7 rfl ?_
  refine v_getr (ci := 12) (j := 32) (ji := 32) (z := 135) dX12_weightOf_8 k_1448 (by decide) kk_116 (by decide) rfl rfl (fun r => rt_116_32 (r rfl)) (by decide) ?_
  refine v_iload_n dX12_weightOf_11 rfl ?_
  refine v_ialoadv dX12_weightOf_12 (by decide) kk_135 (by omega) (by omega) ((jst_c (by decide)).trans (kst_n (by decide))) ?_
  refine v_iconst dX12_weightOf_13 (c32 rfl) ?_
  refine v_icmp_ne (tgt := 19) dX12_weightOf_14 (by decide) (fun c14_1 => ?_) (fun c14_1 => ?_)
  · refine v_aload_n dX12_weightOf_19 rfl ?_
    refine v_iload_n dX12_weightOf_20 rfl ?_
    refine v_aload_n dX12_weightOf_21 rfl ?_
    refine v_getr (ci := 12) (j := 54) (ji := 54) (z := 153) dX12_weightOf_22 k_1470 (by decide) kk_116 (by decide) rfl rfl (fun r => rt_116_54 (r rfl)) (by decide) ?_
    refine v_iload_n dX12_weightOf_25 rfl ?_
    refine v_ialoadv dX12_weightOf_26 (by decide) kk_153 (by omega) (by omega) ((jst_c (by decide)).trans (kst_n (by decide))) ?_
    refine v_aload_n dX12_weightOf_27 rfl ?_
    refine v_getv (ci := 12) (j := 1) (ji := 1) (tg := 0) dX12_weightOf_28 k_1417 (by decide) kk_116 (by decide) rfl rfl (by decide) ((jst_j (by decide)).trans (kst_c (by decide))) ?_
    refine v_iconst dX12_weightOf_31 (c32 rfl) ?_
    refine v_callv (M' := mX12_judge) (d' := d - 1) (mc' := 0) (ms' := 0) (ci := 12) (c := 116) (As := [_, _, _, _]) dX12_weightOf_32 k_1921 cm_X12_judge rfl (by omega) (by decide) kk_116 (Nat.le_of_ble_eq_true rfl) rfl ⟨Nat.le_refl _, Nat.le_refl _⟩ ?_
    refine s_judgeK (cs := cs) (by omega) W hX (by omega) (by omega) (fun xz_1 xl_1 => ?_)
    dsimp only [Option.toList, List.cons_append, List.nil_append, Nat.add_zero]
    refine v_aload_n dX12_weightOf_35 rfl ?_
    refine v_iload_n dX12_weightOf_36 rfl ?_
    refine v_aload_n dX12_weightOf_37 rfl ?_
    refine v_getv (ci := 12) (j := 1) (ji := 1) (tg := 0) dX12_weightOf_38 k_1417 (by decide) kk_116 (by decide) rfl rfl (by decide) ((jst_j (by decide)).trans (kst_c (by decide))) ?_
    refine v_callv (M' := mX12_findLetters) (d' := d - 1) (mc' := 0) (ms' := 0) (ci := 12) (c := 116) (As := [_, _]) dX12_weightOf_41 k_1929 cm_X12_findLetters rfl (by omega) (by decide) kk_116 (Nat.le_of_ble_eq_true rfl) rfl ⟨Nat.le_refl _, Nat.le_refl _⟩ ?_
    refine s_flK (by omega) W (by omega) (fun xl_2 c41_2 => ?_)
    dsimp only [Option.toList, List.cons_append, List.nil_append, Nat.add_zero]
    have l9 : xl_2 110 = mLt h (jO h cs (h 153 s) (h 116 1) (-1) O ((h 150 s) + 1)) (h 150 s) (h 116 1) 1 := c41_2 1 (by decide) (by decide)
    have m9 := congrFun (mLt_O (q := h 116 1) (O := (jO h cs (h 153 s) (h 116 1) (-1) O ((h 150 s) + 1))) (O' := fun e => own h cs (h 153 s) (h 116 1) (-1) e) W a2.1.1 a2.1.2 (fun e e0 e1 => jO_own W (by omega) e0 (by omega))) 1
    have r9 := W.l1 (O := (jO h cs (h 153 s) (h 116 1) (-1) O ((h 150 s) + 1))) (q := h 116 1) a2.1.1 a2.1.2
    rw [← l9] at r9
    have d9 := idiv_nn (x := xl_2 110) (y := 100) (by omega) (by omega) (by decide) (by decide)
    refine v_iconst dX12_weightOf_44 (c32 rfl) ?_
    refine v_aload_n dX12_weightOf_45 rfl ?_
    refine v_getr (ci := 12) (j := 11) (ji := 11) (z := 126) dX12_weightOf_46 k_1427 (by decide) kk_116 (by decide) rfl rfl (fun r => rt_116_11 (r rfl)) (by decide) ?_
    refine v_bipush dX12_weightOf_49 (c32 rfl) (by decide) ?_
    refine v_ialoadv dX12_weightOf_51 (by decide) kk_126 (by omega) (by omega) (jst_l) ?_
    refine v_bipush dX12_weightOf_52 (c32 rfl) (by decide) ?_
    refine v_idiv dX12_weightOf_54 (by decide) ?_
    refine v_iaddE dX12_weightOf_55 (by omega) ?_
    refine v_ireti dX12_weightOf_56 rfl (Nat.le_refl _) (Nat.le_refl _) ?_
    have e9 : wgt h cs s (h 116 1) = (1 + (idiv (xl_2 110) 100)) := by unfold wgt; rw [if_neg c14_1, ← m9, ← l9]
    rw [e9] at hq
    exact hq _ _ _
  · refine v_iconst dX12_weightOf_17 (c32 rfl) ?_
    refine v_ireti dX12_weightOf_18 rfl (Nat.le_refl _) (Nat.le_refl _) ?_
    have e9 : wgt h cs s (h 116 1) = 1 := by unfold wgt; rw [if_pos c14_1]
    rw [e9] at hq
    exact hq _ _ _

