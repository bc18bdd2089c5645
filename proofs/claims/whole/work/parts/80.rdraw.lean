/-! ===== draws: the reference (written by wip/whole/p54.py) ===== -/
theorem I3_159 {h F : AH} {cs : Int → List (Int × List Int)} {q k i x : Int} (hI : I3 h cs q k F) : I3 h cs q k (hset F 159 i x) :=
  ⟨⟨by rw [hset_c (by decide)]; exact hI.1.1, fun a b a0 a1 b0 b1 => by rw [hset_c (by decide)]; exact hI.1.2 a b a0 a1 b0 b1⟩, fun s s0 s1 => by rw [hset_c (by decide)]; exact hI.2 s s0 s1⟩

set_option maxHeartbeats 4000000 in
set_option maxRecDepth 100000 in
theorem lp_rc1 {l : Launch} {G : GG} {d : Nat} {h : AH} {Q : Option AV → List Kd → AH → Prop} {cs : Int → List (Int × List Int)} {n x0 i : Int} (hd : 43 ≤ d) (I : CI h cs) (hq : ∀ F z O Lr, (∀ t, 0 ≤ t → t < h 116 65 → F 159 t = wF h cs t) → V l G mX12_check d 0 0 0 0 K0 100 [(2, 116), (0, n), (1, x0), (8, 0), (0, i), (0, sm (wF h cs) (h 116 65)), (0, sm (cP h cs (h 116 1)) (h 116 65)), (9, 0), (9, 0), (9, 0), (9, 0), (9, 0)] [] (jst (kst h F) z O Lr) Q) : ∀ k, 0 ≤ k → k ≤ h 116 65 → ∀ F z O Lr, I3 h cs (h 116 1) (h 116 65) F → (∀ t, 0 ≤ t → t < k → F 159 t = wF h cs t) → V l G mX12_check d 0 0 0 0 K0 22 [(2, 116), (0, n), (1, x0), (8, 0), (0, i), (0, sm (wF h cs) k), (0, sm (cP h cs (h 116 1)) k), (0, k), (9, 0), (9, 0), (9, 0), (9, 0)] [] (jst (kst h F) z O Lr) Q := by
  have ns := I.S.1
  refine loop_m3 (fun k hk hkN ih F z O Lr hI hW => ?_)
  refine v_iload dX12_check_22 rfl ?_
  refine v_aload_n dX12_check_24 rfl ?_
  refine v_getv (ci := 12) (j := 65) (ji := 65) (tg := 0) dX12_check_25 k_1481 (by decide) kk_116 (by decide) rfl rfl (by decide) ((jst_j (by decide)).trans (kst_c (by decide))) ?_
  refine v_icmp_ge (tgt := 100) dX12_check_28 (by decide) (fun c28_1 => ?_) (fun c28_1 => ?_)
  · obtain rfl : k = h 116 65 := by omega
    refine v_loc (lo_k (lo_k (lo_k (lo_k (lo_k (lo_k (lo_k (lo_d (lo_d (lo_d (lo_d (lo_d lo_nil)))))))))))) ?_
    exact hq _ _ _ _ hW
  · have r9 := sm_rng (wF_rng I) k hk (by omega)
    have r7 := sm_rng (cP_r (h := h) (cs := cs) (q := h 116 1) (n := h 116 65)) k hk (by omega)
    have wr9 := wgt_rng (q := h 116 1) I (s := k) ⟨hk, by omega⟩
    refine v_aload_n dX12_check_31 rfl ?_
    refine v_getr (ci := 12) (j := 60) (ji := 60) (z := 159) dX12_check_32 k_1476 (by decide) kk_116 (by decide) rfl rfl (fun r => rt_116_60 (r rfl)) (by decide) ?_
    refine v_iload dX12_check_35 rfl ?_
    refine v_aload_n dX12_check_37 rfl ?_
    refine v_iload dX12_check_38 rfl ?_
    refine v_aload_n dX12_check_40 rfl ?_
    refine v_getv (ci := 12) (j := 1) (ji := 1) (tg := 0) dX12_check_41 k_1417 (by decide) kk_116 (by decide) rfl rfl (by decide) ((jst_j (by decide)).trans (kst_c (by decide))) ?_
    refine v_callv (M' := mX12_stateOf) (d' := d - 1) (mc' := 0) (ms' := 0) (ci := 12) (c := 116) (As := [_, _]) dX12_check_44 k_1991 cm_X12_stateOf rfl (by omega) (by decide) kk_116 (Nat.le_of_ble_eq_true rfl) rfl ⟨Nat.le_refl _, Nat.le_refl _⟩ ?_
    refine s_stateOf (cs := cs) (by omega) I.W I.S I.T ⟨by omega, by omega⟩ hI (fun xz_1 xl_1 => ?_)
    dsimp only [Option.toList, List.cons_append, List.nil_append, Nat.add_zero]
    refine v_iconst dX12_check_47 (c32 rfl) ?_
    refine v_icmp_ne (tgt := 60) dX12_check_48 (by decide) (fun c48_2 => ?_) (fun c48_2 => ?_)
    · refine v_iconst dX12_check_60 (c32 rfl) ?_
      refine v_iastore dX12_check_61 (by decide) kk_159 (by omega) (by omega) ?_
      rw [jst_wc (by decide), kst_wm (by decide)]
      refine v_iload dX12_check_62 rfl ?_
      refine v_aload_n dX12_check_64 rfl ?_
      refine v_getr (ci := 12) (j := 60) (ji := 60) (z := 159) dX12_check_65 k_1476 (by decide) kk_116 (by decide) rfl rfl (fun r => rt_116_60 (r rfl)) (by decide) ?_
      refine v_iload dX12_check_68 rfl ?_
      refine v_ialoadv dX12_check_70 (by decide) kk_159 (by omega) (by omega) ((jst_c (by decide)).trans ((kst_m (by decide)).trans (hset_same _ _ _ _))) ?_
      refine v_iaddE dX12_check_71 (by omega) ?_
      refine v_istore_5 dX12_check_72 (by decide) rfl ?_
      refine v_iload dX12_check_74 rfl ?_
      refine v_aload_n dX12_check_76 rfl ?_
      refine v_getr (ci := 12) (j := 60) (ji := 60) (z := 159) dX12_check_77 k_1476 (by decide) kk_116 (by decide) rfl rfl (fun r => rt_116_60 (r rfl)) (by decide) ?_
      refine v_iload dX12_check_80 rfl ?_
      refine v_ialoadv dX12_check_82 (by decide) kk_159 (by omega) (by omega) ((jst_c (by decide)).trans ((kst_m (by decide)).trans (hset_same _ _ _ _))) ?_
      refine v_if_le_t (tgt := 90) dX12_check_83 (by decide) (by decide) ?_
      refine v_iconst dX12_check_90 (c32 rfl) ?_
      refine v_iaddE dX12_check_91 (by omega) ?_
      refine v_istore_6 dX12_check_92 (by decide) rfl ?_
      refine v_iinc_7 dX12_check_94 (by decide) rfl ?_
      rw [iadd_eq (x := k) (y := 1) (by unfold ok32; omega)]
      refine v_goto (tgt := 22) dX12_check_97 (by decide) ?_
      have e8 : wF h cs k = 0 := if_neg c48_2
      have e7 : cP h cs (h 116 1) k = 0 := if_neg c48_2
      have e9 : sm (wF h cs) (k + 1) = ((sm (wF h cs) k) + 0) := by rw [sm_s hk, e8]
      have e6 : sm (cP h cs (h 116 1)) (k + 1) = ((sm (cP h cs (h 116 1)) k) + 0) := by rw [sm_s hk, e7]
      have ih9 := ih (by omega) _ xz_1 O xl_1 (I3_159 hI) (fun t t0 t1 => by
        by_cases e : t = k
        · subst e; rw [hset_same, e8]
        · rw [hset_j e]; exact hW t t0 (by omega))
      rw [e9, e6] at ih9
      exact ih9
    · refine v_aload_n dX12_check_51 rfl ?_
      refine v_iload dX12_check_52 rfl ?_
      refine v_callv (M' := mX12_weightOf) (d' := d - 1) (mc' := 0) (ms' := 0) (ci := 12) (c := 116) (As := [_]) dX12_check_54 k_2077 cm_X12_weightOf rfl (by omega) (by decide) kk_116 (Nat.le_of_ble_eq_true rfl) rfl ⟨Nat.le_refl _, Nat.le_refl _⟩ ?_
      refine s_weightOf (cs := cs) (by omega) I.W I.S I.T ⟨by omega, by omega⟩ (fun xz_2 xo_2 xl_2 => ?_)
      dsimp only [Option.toList, List.cons_append, List.nil_append, Nat.add_zero]
      refine v_goto (tgt := 61) dX12_check_57 (by decide) ?_
      refine v_iastore dX12_check_61 (by decide) kk_159 (by omega) (by omega) ?_
      rw [jst_wc (by decide), kst_wm (by decide)]
      refine v_iload dX12_check_62 rfl ?_
      refine v_aload_n dX12_check_64 rfl ?_
      refine v_getr (ci := 12) (j := 60) (ji := 60) (z := 159) dX12_check_65 k_1476 (by decide) kk_116 (by decide) rfl rfl (fun r => rt_116_60 (r rfl)) (by decide) ?_
      refine v_iload dX12_check_68 rfl ?_
      refine v_ialoadv dX12_check_70 (by decide) kk_159 (by omega) (by omega) ((jst_c (by decide)).trans ((kst_m (by decide)).trans (hset_same _ _ _ _))) ?_
      refine v_iaddE dX12_check_71 (by omega) ?_
      refine v_istore_5 dX12_check_72 (by decide) rfl ?_
      refine v_iload dX12_check_74 rfl ?_
      refine v_aload_n dX12_check_76 rfl ?_
      refine v_getr (ci := 12) (j := 60) (ji := 60) (z := 159) dX12_check_77 k_1476 (by decide) kk_116 (by decide) rfl rfl (fun r => rt_116_60 (r rfl)) (by decide) ?_
      refine v_iload dX12_check_80 rfl ?_
      refine v_ialoadv dX12_check_82 (by decide) kk_159 (by omega) (by omega) ((jst_c (by decide)).trans ((kst_m (by decide)).trans (hset_same _ _ _ _))) ?_
      refine v_if_le_f (tgt := 90) dX12_check_83 (by decide) (by omega) ?_
      refine v_iconst dX12_check_86 (c32 rfl) ?_
      refine v_goto (tgt := 91) dX12_check_87 (by decide) ?_
      refine v_iaddE dX12_check_91 (by omega) ?_
      refine v_istore_6 dX12_check_92 (by decide) rfl ?_
      refine v_iinc_7 dX12_check_94 (by decide) rfl ?_
      rw [iadd_eq (x := k) (y := 1) (by unfold ok32; omega)]
      refine v_goto (tgt := 22) dX12_check_97 (by decide) ?_
      have e8 : wF h cs k = wgt h cs k (h 116 1) := if_pos c48_2
      have e7 : cP h cs (h 116 1) k = 1 := if_pos c48_2
      have e9 : sm (wF h cs) (k + 1) = ((sm (wF h cs) k) + (wgt h cs k (h 116 1))) := by rw [sm_s hk, e8]
      have e6 : sm (cP h cs (h 116 1)) (k + 1) = ((sm (cP h cs (h 116 1)) k) + 1) := by rw [sm_s hk, e7]
      have ih9 := ih (by omega) _ xz_2 xo_2 xl_2 (I3_159 hI) (fun t t0 t1 => by
        by_cases e : t = k
        · subst e; rw [hset_same, e8]
        · rw [hset_j e]; exact hW t t0 (by omega))
      rw [e9, e6] at ih9
      exact ih9

set_option maxHeartbeats 4000000 in
set_option maxRecDepth 100000 in
theorem lp_rc3 {l : Launch} {G : GG} {d : Nat} {h : AH} {Q : Option AV → List Kd → AH → Prop} {cs : Int → List (Int × List Int)} {F : AH} {z O Lr : Int → Int} {n i su x g : Int} (hd : 1 ≤ d) (hns : 0 ≤ h 116 65 ∧ h 116 65 ≤ 100) (hW : ∀ t, 0 ≤ t → t < h 116 65 → 0 ≤ F 159 t ∧ F 159 t ≤ 200000) : ∀ {m : Nat} {j r : Int}, 0 ≤ j → j + m = h 116 65 → 0 ≤ r → r < smF (F 159) m j → r < 2147483648 → (∀ r2, V l G mX12_check d 0 0 0 0 K0 200 [(2, 116), (0, n), (9, 0), (9, 0), (0, i), (0, su), (9, 0), (1, x), (8, 0), (0, (pkA (F 159) m j r)), (0, g), (0, r2)] [] (jst (kst h F) z O Lr) Q) → V l G mX12_check d 0 0 0 0 K0 170 [(2, 116), (0, n), (9, 0), (9, 0), (0, i), (0, su), (9, 0), (1, x), (8, 0), (0, j), (0, g), (0, r)] [] (jst (kst h F) z O Lr) Q := by
  intro m
  induction m with
  | zero => intro j r _ _ h0 h1; exact absurd h1 (by show ¬ r < 0; omega)
  | succ m ih =>
    intro j r hj hm hr0 hr1 hr3 hq
    have w9 := hW j hj (by omega)
    have hr2 : r < F 159 j + smF (F 159) m (j + 1) := hr1
    refine v_iload dX12_check_170 rfl ?_
    refine v_aload_n dX12_check_172 rfl ?_
    refine v_getr (ci := 12) (j := 60) (ji := 60) (z := 159) dX12_check_173 k_1476 (by decide) kk_116 (by decide) rfl rfl (fun r => rt_116_60 (r rfl)) (by decide) ?_
    refine v_iload dX12_check_176 rfl ?_
    refine v_ialoadv dX12_check_178 (by decide) kk_159 (by omega) (by omega) ((jst_c (by decide)).trans (kst_m (by decide))) ?_
    refine v_icmp_lt (tgt := 200) dX12_check_179 (by decide) (fun c179_1 => ?_) (fun c179_1 => ?_)
    · rw [pkA, if_pos (by omega)] at hq
      exact hq _
    · refine v_iload dX12_check_182 rfl ?_
      refine v_aload_n dX12_check_184 rfl ?_
      refine v_getr (ci := 12) (j := 60) (ji := 60) (z := 159) dX12_check_185 k_1476 (by decide) kk_116 (by decide) rfl rfl (fun r => rt_116_60 (r rfl)) (by decide) ?_
      refine v_iload dX12_check_188 rfl ?_
      refine v_ialoadv dX12_check_190 (by decide) kk_159 (by omega) (by omega) ((jst_c (by decide)).trans (kst_m (by decide))) ?_
      refine v_isubE dX12_check_191 (by omega) ?_
      refine v_istore_11 dX12_check_192 (by decide) rfl ?_
      refine v_iinc_9 dX12_check_194 (by decide) rfl ?_
      rw [iadd_eq (x := j) (y := 1) (by unfold ok32; omega)]
      refine v_goto (tgt := 170) dX12_check_197 (by decide) ?_
      rw [pkA, if_neg (by omega)] at hq
      exact ih (by omega) (by omega) (by omega) (by omega) (by omega) hq

set_option maxHeartbeats 4000000 in
set_option maxRecDepth 100000 in
theorem lp_rc2 {l : Launch} {G : GG} {d : Nat} {h : AH} {Q : Option AV → List Kd → AH → Prop} {cs : Int → List (Int × List Int)} {z O Lr : Int → Int} {n x0 i : Int} (hd : 1 ≤ d) (I : CI h cs) (hi : 0 ≤ i ∧ i < (sm (cP h cs (h 116 1)) (h 116 65))) (hq : ∀ F (p : DT), p = (dF (h 116 65) (x0, sm (wF h cs) (h 116 65), wF h cs, -1) (i + 1)) → Q (some (0, p.2.2.2)) K0 (jst (kst h F) z O Lr)) : ∀ k, 0 ≤ k → k ≤ i + 1 → ∀ p : DT, p = (dF (h 116 65) (x0, sm (wF h cs) (h 116 65), wF h cs, -1) k) → ∀ F : AH, DI (h 116 65) ((sm (cP h cs (h 116 1)) (h 116 65)) - k) p → (∀ t, 0 ≤ t → t < h 116 65 → F 159 t = p.2.2.1 t) → V l G mX12_check d 0 0 0 0 K0 136 [(2, 116), (0, n), (9, 0), (9, 0), (0, i), (0, p.2.1), (9, 0), (1, p.1), (8, 0), (0, p.2.2.2), (0, k), (9, 0)] [] (jst (kst h F) z O Lr) Q := by
  have ns := I.S.1
  have al9 := sm_rng (cP_r (h := h) (cs := cs) (q := h 116 1) (n := h 116 65)) (h 116 65) ns.1 (Int.le_refl _)
  refine loop_m3 (fun k hk hkN ih p hp F D hW => ?_)
  refine v_iload dX12_check_136 rfl ?_
  refine v_iload dX12_check_138 rfl ?_
  refine v_icmp_gt (tgt := 226) dX12_check_140 (by decide) (fun c140_1 => ?_) (fun c140_1 => ?_)
  · refine v_iload dX12_check_226 rfl ?_
    refine v_ireti dX12_check_228 rfl (Nat.le_refl _) (Nat.le_refl _) ?_
    obtain rfl : k = i + 1 := by omega
    exact hq _ p hp
  · have D9 := D
    have hp9 := DI_pos ns D (by omega)
    have hm9 := mrk_rng hp9.1 hp9.2
    unfold mrk at hm9
    have pk9 := DI_pick ns D (by omega)
    obtain ⟨J9, hJ9⟩ : ∃ J9, J9 = dpk p.2.2.1 (h 116 65) (mrk p) := ⟨_, rfl⟩
    rw [← hJ9] at pk9
    have wj9 := D.2.2 J9 pk9.1 pk9.2.1
    refine v_lload dX12_check_143 rfl ?_
    refine v_ldc2 (n := 6364136223846793005) dX12_check_145 k_2081 (c64 rfl) (by decide) ?_
    refine v_lmul dX12_check_148 ?_
    refine v_ldc2 (n := 1442695040888963407) dX12_check_149 k_2082 (c64 rfl) (by decide) ?_
    refine v_ladd dX12_check_152 ?_
    refine v_lstore_7 dX12_check_153 (by decide) rfl ?_
    refine v_lload dX12_check_155 rfl ?_
    refine v_bipush dX12_check_157 (c32 rfl) (by decide) ?_
    refine v_lushr dX12_check_159 ?_
    refine v_iload dX12_check_160 rfl ?_
    refine v_i2l dX12_check_162 ?_
    refine v_lrem dX12_check_163 (by omega) ?_
    refine v_l2i dX12_check_164 ?_
    refine v_istore_11 dX12_check_165 (by decide) rfl ?_
    refine v_iconst dX12_check_167 (c32 rfl) ?_
    refine v_istore_9 dX12_check_168 (by decide) rfl ?_
    rw [show l2i (lrem (lushr (ladd (lmul p.1 6364136223846793005) 1442695040888963407) 33) p.2.1) = lrem (lushr (ladd (lmul p.1 6364136223846793005) 1442695040888963407) 33) p.2.1 from l2i_eq (by unfold ok32; omega)]
    have hsm : smF (F 159) (h 116 65).toNat 0 = p.2.1 := by
      have e := smF_sm (W := F 159) (m := (h 116 65).toNat) (j := 0) (Int.le_refl _)
      rw [sm_0, Int.zero_add, Int.zero_add, Int.toNat_of_nonneg ns.1] at e
      rw [e, D.1]
      exact sm_congr hW
    refine v_loc (lo_k (lo_k (lo_d (lo_d (lo_k (lo_k (lo_d (lo_k (lo_k (lo_k (lo_k (lo_k lo_nil)))))))))))) ?_
    refine lp_rc3 (cs := cs) (by omega) ns (fun t t0 t1 => by rw [hW t t0 t1]; exact D.2.2 t t0 t1) (m := (h 116 65).toNat) (j := 0) (by decide) (by omega) hm9.1 (by rw [hsm]; exact hm9.2) (by omega) (fun r2 => ?_)
    rw [show pkA (F 159) (h 116 65).toNat 0 (lrem (lushr (ladd (lmul p.1 6364136223846793005) 1442695040888963407) 33) p.2.1) = J9 from (dpk_congr (n := h 116 65) ns.1 hW).trans hJ9.symm]
    refine v_iload dX12_check_200 rfl ?_
    refine v_aload_n dX12_check_202 rfl ?_
    refine v_getr (ci := 12) (j := 60) (ji := 60) (z := 159) dX12_check_203 k_1476 (by decide) kk_116 (by decide) rfl rfl (fun r => rt_116_60 (r rfl)) (by decide) ?_
    refine v_iload dX12_check_206 rfl ?_
    refine v_ialoadv dX12_check_208 (by decide) kk_159 (by omega) (by omega) ((jst_c (by decide)).trans ((kst_m (by decide)).trans ((hW J9 (by omega) (by omega))))) ?_
    refine v_isubE dX12_check_209 (by omega) ?_
    refine v_istore_5 dX12_check_210 (by decide) rfl ?_
    refine v_aload_n dX12_check_212 rfl ?_
    refine v_getr (ci := 12) (j := 60) (ji := 60) (z := 159) dX12_check_213 k_1476 (by decide) kk_116 (by decide) rfl rfl (fun r => rt_116_60 (r rfl)) (by decide) ?_
    refine v_iload dX12_check_216 rfl ?_
    refine v_iconst dX12_check_218 (c32 rfl) ?_
    refine v_iastore dX12_check_219 (by decide) kk_159 (by omega) (by omega) ?_
    rw [jst_wc (by decide), kst_wm (by decide)]
    refine v_iinc_10 dX12_check_220 (by decide) rfl ?_
    rw [iadd_eq (x := k) (y := 1) (by unfold ok32; omega)]
    refine v_goto (tgt := 136) dX12_check_223 (by decide) ?_
    have eS : dS (h 116 65) p = (ladd (lmul p.1 6364136223846793005) 1442695040888963407, p.2.1 - p.2.2.1 J9, fset p.2.2.1 J9 0, J9) := by unfold dS; rw [← hJ9]
    have ih9 := ih (by omega) (dS (h 116 65) p) (by rw [hp]; exact (dF_s hk).symm) (hset F 159 J9 0) (by rw [show (sm (cP h cs (h 116 1)) (h 116 65)) - (k + 1) = (sm (cP h cs (h 116 1)) (h 116 65)) - k - 1 by omega]; exact DI_s ns D (by omega)) (fun t t0 t1 => by
      rw [eS]
      show _ = fset p.2.2.1 J9 0 t
      by_cases e : t = J9
      · rw [e, hset_same, fset_same]
      · rw [hset_j e, fset_ne e]; exact hW t t0 t1)
    rw [eS] at ih9
    dsimp only at ih9
    refine v_loc (lo_k (lo_k (lo_d (lo_d (lo_k (lo_k (lo_d (lo_k (lo_k (lo_k (lo_k (lo_d lo_nil)))))))))))) ?_
    exact ih9

set_option maxHeartbeats 4000000 in
set_option maxRecDepth 100000 in
theorem s_rcheck {l : Launch} {G : GG} {d : Nat} {h : AH} {Q : Option AV → List Kd → AH → Prop} {cs : Int → List (Int × List Int)} {F : AH} {z O Lr : Int → Int} {n x0 i : Int} (hd : 44 ≤ d) (I : CI h cs) (q0 : ¬ (1 ≤ n ∧ (0 ≤ i ∧ i ≤ n - 1) ∧ n ≤ (sm (cP h cs (h 116 1)) (h 116 65))) → ∀ F z O Lr, Q (some (0, -1)) K0 (jst (kst h F) z O Lr)) (q1 : 1 ≤ n ∧ (0 ≤ i ∧ i ≤ n - 1) ∧ n ≤ (sm (cP h cs (h 116 1)) (h 116 65)) → ∀ F z O Lr, Q (some (0, (dF (h 116 65) (x0, sm (wF h cs) (h 116 65), wF h cs, -1) (i + 1)).2.2.2)) K0 (jst (kst h F) z O Lr)) : Sp l G mX12_check d 0 0 K0 [(2, 116), (0, n), (1, x0), (0, i)] (jst (kst h F) z O Lr) Q := by
  have ns := I.S.1
  have al9 := sm_rng (cP_r (h := h) (cs := cs) (q := h 116 1) (n := h 116 65)) (h 116 65) ns.1 (Int.le_refl _)
  refine sp_of (L := [(2, 116), (0, n), (1, x0), (8, 0), (0, i), (9, 0), (9, 0), (9, 0), (9, 0), (9, 0), (9, 0), (9, 0)]) pl_X12 (Nat.le_of_ble_eq_true rfl) (tg_c (by decide) (tg_c (by decide) (tg_c (by decide) (tg_c (by decide) tg_0)))) rfl ?_
  refine v_aload_n dX12_check_0 rfl ?_
  refine v_iconst dX12_check_1 (c32 rfl) ?_
  refine v_puti (ci := 12) (j := 0) (ji := 0) dX12_check_2 k_1416 (by decide) kk_116 (by decide) rfl rfl rfl ?_
  rw [jst_wj (by decide), kst_w (by decide)]
  refine v_iconst dX12_check_5 (c32 rfl) ?_
  refine v_istore_5 dX12_check_6 (by decide) rfl ?_
  refine v_iconst dX12_check_8 (c32 rfl) ?_
  refine v_istore_6 dX12_check_9 (by decide) rfl ?_
  refine v_aload_n dX12_check_11 rfl ?_
  refine v_aload_n dX12_check_12 rfl ?_
  refine v_getv (ci := 12) (j := 1) (ji := 1) (tg := 0) dX12_check_13 k_1417 (by decide) kk_116 (by decide) rfl rfl (by decide) ((jst_j (by decide)).trans (kst_c (by decide))) ?_
  refine v_callv (M' := mX12_findFirst) (d' := d - 1) (mc' := 0) (ms' := 0) (ci := 12) (c := 116) (As := [_]) dX12_check_16 k_1975 cm_X12_findFirst rfl (by omega) (by decide) kk_116 (Nat.le_of_ble_eq_true rfl) rfl ⟨Nat.le_refl _, Nat.le_refl _⟩ ?_
  refine s_findFirst (cs := cs) (by omega) I.W I.S I.T (hset_same _ _ _ _) (fun xF_1 xz_1 xo_1 xl_1 c16_1 => ?_)
  dsimp only [Option.toList, List.cons_append, List.nil_append, Nat.add_zero]
  refine v_iconst dX12_check_19 (c32 rfl) ?_
  refine v_istore_7 dX12_check_20 (by decide) rfl ?_
  refine lp_rc1 (l := l) (G := G) (d := d) (h := h) (cs := cs) (n := n) (x0 := x0) (i := i) (Q := Q) (by omega) I (fun F9 z9 O9 L9 hW9 => ?_) 0 (Int.le_refl _) I.S.1.1 _ _ _ _ c16_1 (fun t t0 t1 => by omega)
  refine v_known (fun hL9 _ => ?_)
  have hn32 : ok32 n := (hL9 (0, n) (by simp)).1 rfl
  unfold ok32 at hn32
  refine v_iload_n dX12_check_100 rfl ?_
  refine v_iconst dX12_check_101 (c32 rfl) ?_
  refine v_icmp_lt (tgt := 125) dX12_check_102 (by decide) (fun c102_1 => ?_) (fun c102_1 => ?_)
  · refine v_iconst dX12_check_125 (c32 rfl) ?_
    refine v_ireti dX12_check_126 rfl (Nat.le_refl _) (Nat.le_refl _) ?_
    exact q0 (by omega) _ _ _ _
  · refine v_iload_n dX12_check_105 rfl ?_
    refine v_iload dX12_check_106 rfl ?_
    refine v_icmp_gt (tgt := 125) dX12_check_108 (by decide) (fun c108_2 => ?_) (fun c108_2 => ?_)
    · refine v_iconst dX12_check_125 (c32 rfl) ?_
      refine v_ireti dX12_check_126 rfl (Nat.le_refl _) (Nat.le_refl _) ?_
      exact q0 (by omega) _ _ _ _
    · refine v_iload dX12_check_111 rfl ?_
      refine v_i2l dX12_check_113 ?_
      refine v_lconst (z := 0) dX12_check_114 (c64 rfl) (by decide) ?_
      refine v_iload_n dX12_check_115 rfl ?_
      refine v_iconst dX12_check_116 (c32 rfl) ?_
      refine v_isubE dX12_check_117 (by omega) ?_
      refine v_i2l dX12_check_118 ?_
      refine v_calls (M' := mX12_isIn) (d' := d - 1) (mc' := 0) (ms' := 0) (As := [_, _, _]) dX12_check_119 k_1700 cm_X12_isIn (by omega) (Nat.le_of_ble_eq_true rfl) rfl ⟨Nat.le_refl _, Nat.le_refl _⟩ ?_
      refine s_X12_isIn (by omega) (fun c119_3 => ?_) (fun c119_4 c119_5 => ?_) (fun c119_6 c119_7 => ?_)
      · dsimp only [Option.toList, List.cons_append, List.nil_append, Nat.add_zero]
        refine v_if_ne_f (tgt := 127) dX12_check_122 (by decide) (by decide) ?_
        refine v_iconst dX12_check_125 (c32 rfl) ?_
        refine v_ireti dX12_check_126 rfl (Nat.le_refl _) (Nat.le_refl _) ?_
        exact q0 (by omega) _ _ _ _
      · dsimp only [Option.toList, List.cons_append, List.nil_append, Nat.add_zero]
        refine v_if_ne_f (tgt := 127) dX12_check_122 (by decide) (by decide) ?_
        refine v_iconst dX12_check_125 (c32 rfl) ?_
        refine v_ireti dX12_check_126 rfl (Nat.le_refl _) (Nat.le_refl _) ?_
        exact q0 (by omega) _ _ _ _
      · dsimp only [Option.toList, List.cons_append, List.nil_append, Nat.add_zero]
        refine v_if_ne_t (tgt := 127) dX12_check_122 (by decide) (by decide) ?_
        refine v_lload_n dX12_check_127 rfl ?_
        refine v_lstore_7 dX12_check_128 (by decide) rfl ?_
        refine v_iconst dX12_check_130 (c32 rfl) ?_
        refine v_istore_9 dX12_check_131 (by decide) rfl ?_
        refine v_iconst dX12_check_133 (c32 rfl) ?_
        refine v_istore_10 dX12_check_134 (by decide) rfl ?_
        refine v_loc (lo_k (lo_k (lo_d (lo_d (lo_k (lo_k (lo_d (lo_k (lo_k (lo_k (lo_k (lo_d lo_nil)))))))))))) ?_
        exact lp_rc2 (l := l) (G := G) (d := d) (x0 := x0) (i := i) (Q := Q) (by omega) I ⟨by omega, by omega⟩ (fun F9 p hp => by subst hp; exact q1 (by omega) _ _ _ _) 0 (Int.le_refl _) (by omega) (x0, sm (wF h cs) (h 116 65), wF h cs, -1) rfl _ (by rw [Int.sub_zero]; exact DI_0 I) hW9

