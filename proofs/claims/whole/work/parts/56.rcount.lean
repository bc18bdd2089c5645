/-! ===== the reference: count (written by wip/whole/p33.py) ===== -/
def cU (h : AH) (b : Int) : Int := if h 136 b = 9999 then 0 else 1
def cP (h : AH) (cs : Int → List (Int × List Int)) (q s : Int) : Int := if stF h cs s q = 1 then 1 else 0
theorem cU_r {h : AH} {n : Int} : ∀ i, 0 ≤ i → i < n → 0 ≤ cU h i ∧ cU h i ≤ 1 := fun i _ _ => by unfold cU; split <;> omega
theorem cP_r {h : AH} {cs : Int → List (Int × List Int)} {q n : Int} : ∀ i, 0 ≤ i → i < n → 0 ≤ cP h cs q i ∧ cP h cs q i ≤ 1 := fun i _ _ => by unfold cP; split <;> omega

set_option maxHeartbeats 4000000 in
set_option maxRecDepth 100000 in
theorem lp_count9 {l : Launch} {G : GG} {d : Nat} {h : AH} {Q : Option AV → List Kd → AH → Prop} {cs : Int → List (Int × List Int)} {F : AH} {O : Int → Int} {z Lr : Int → Int} {w : Int} (W : RW h) (hq : Q (some (0, sm (cU h) (h 116 45))) K0 (jst (kst h F) z O Lr)) : ∀ k, 0 ≤ k → k ≤ h 116 45 → ∀ (_ _ : Int → Int), V l G mX12_count d 0 0 0 0 K0 120 [(2, 116), (0, w), (0, sm (cU h) k), (0, k)] [] (jst (kst h F) z O Lr) Q := by
  have nb := W.nb
  refine loop_m3 (fun k hk hkN ih _ _ => ?_)
  refine v_iload_n dX12_count_120 rfl ?_
  refine v_aload_n dX12_count_121 rfl ?_
  refine v_getv (ci := 12) (j := 45) (ji := 45) (tg := 0) dX12_count_122 k_1461 (by decide) kk_116 (by decide) rfl rfl (by decide) ((jst_j (by decide)).trans (kst_c (by decide))) ?_
  refine v_icmp_ge (tgt := 154) dX12_count_125 (by decide) (fun c125_1 => ?_) (fun c125_1 => ?_)
  · refine v_iload_n dX12_count_154 rfl ?_
    refine v_ireti dX12_count_155 rfl (Nat.le_refl _) (Nat.le_refl _) ?_
    obtain rfl : k = h 116 45 := by omega
    exact hq
  · have r9 := sm_rng (cU_r (h := h) (n := h 116 45)) k hk (by omega)
    refine v_iload_n dX12_count_128 rfl ?_
    refine v_aload_n dX12_count_129 rfl ?_
    refine v_getr (ci := 12) (j := 33) (ji := 33) (z := 136) dX12_count_130 k_1449 (by decide) kk_116 (by decide) rfl rfl (fun r => rt_116_33 (r rfl)) (by decide) ?_
    refine v_iload_n dX12_count_133 rfl ?_
    refine v_ialoadv dX12_count_134 (by decide) kk_136 (by omega) (by omega) ((jst_c (by decide)).trans (kst_n (by decide))) ?_
    refine v_sipush dX12_count_135 (c32 rfl) (by decide) ?_
    refine v_icmp_eq (tgt := 145) dX12_count_138 (by decide) (fun c138_2 => ?_) (fun c138_2 => ?_)
    · refine v_iconst dX12_count_145 (c32 rfl) ?_
      refine v_iaddE dX12_count_146 (by omega) ?_
      refine v_istore_n_2 dX12_count_147 (by decide) rfl ?_
      refine v_iinc_3 dX12_count_148 (by decide) rfl ?_
      rw [iadd_eq (x := k) (y := 1) (by unfold ok32; omega)]
      refine v_goto (tgt := 120) dX12_count_151 (by decide) ?_
      have e9 : sm (cU h) (k + 1) = ((sm (cU h) k) + 0) := by rw [sm_s hk]; unfold cU; first | (rw [if_pos (by omega)]; done) | (rw [if_neg (by omega)]; done)
      have ih9 := ih (by omega) z Lr
      rw [e9] at ih9
      exact ih9
    · refine v_iconst dX12_count_141 (c32 rfl) ?_
      refine v_goto (tgt := 146) dX12_count_142 (by decide) ?_
      refine v_iaddE dX12_count_146 (by omega) ?_
      refine v_istore_n_2 dX12_count_147 (by decide) rfl ?_
      refine v_iinc_3 dX12_count_148 (by decide) rfl ?_
      rw [iadd_eq (x := k) (y := 1) (by unfold ok32; omega)]
      refine v_goto (tgt := 120) dX12_count_151 (by decide) ?_
      have e9 : sm (cU h) (k + 1) = ((sm (cU h) k) + 1) := by rw [sm_s hk]; unfold cU; first | (rw [if_pos (by omega)]; done) | (rw [if_neg (by omega)]; done)
      have ih9 := ih (by omega) z Lr
      rw [e9] at ih9
      exact ih9

set_option maxHeartbeats 4000000 in
set_option maxRecDepth 100000 in
theorem lp_count10 {l : Launch} {G : GG} {d : Nat} {h : AH} {Q : Option AV → List Kd → AH → Prop} {cs : Int → List (Int × List Int)} {F : AH} {O : Int → Int} {w : Int} (hd : 41 ≤ d) (W : RW h) (S : RS h) (hX : TX h cs) (hI : I3 h cs (h 116 1) (h 116 65) F) (hq : ∀ z Lr, Q (some (0, sm (cP h cs (h 116 1)) (h 116 65))) K0 (jst (kst h F) z O Lr)) : ∀ k, 0 ≤ k → k ≤ h 116 65 → ∀ z Lr, V l G mX12_count d 0 0 0 0 K0 166 [(2, 116), (0, w), (0, sm (cP h cs (h 116 1)) k), (0, k)] [] (jst (kst h F) z O Lr) Q := by
  have ns := S.1
  refine loop_m3 (fun k hk hkN ih z Lr => ?_)
  refine v_iload_n dX12_count_166 rfl ?_
  refine v_aload_n dX12_count_167 rfl ?_
  refine v_getv (ci := 12) (j := 65) (ji := 65) (tg := 0) dX12_count_168 k_1481 (by decide) kk_116 (by decide) rfl rfl (by decide) ((jst_j (by decide)).trans (kst_c (by decide))) ?_
  refine v_icmp_ge (tgt := 201) dX12_count_171 (by decide) (fun c171_1 => ?_) (fun c171_1 => ?_)
  · refine v_iload_n dX12_count_201 rfl ?_
    refine v_ireti dX12_count_202 rfl (Nat.le_refl _) (Nat.le_refl _) ?_
    obtain rfl : k = h 116 65 := by omega
    exact hq _ _
  · have r9 := sm_rng (cP_r (h := h) (cs := cs) (q := h 116 1) (n := h 116 65)) k hk (by omega)
    refine v_iload_n dX12_count_174 rfl ?_
    refine v_aload_n dX12_count_175 rfl ?_
    refine v_iload_n dX12_count_176 rfl ?_
    refine v_aload_n dX12_count_177 rfl ?_
    refine v_getv (ci := 12) (j := 1) (ji := 1) (tg := 0) dX12_count_178 k_1417 (by decide) kk_116 (by decide) rfl rfl (by decide) ((jst_j (by decide)).trans (kst_c (by decide))) ?_
    refine v_callv (M' := mX12_stateOf) (d' := d - 1) (mc' := 0) (ms' := 0) (ci := 12) (c := 116) (As := [_, _]) dX12_count_181 k_1991 cm_X12_stateOf rfl (by omega) (by decide) kk_116 (Nat.le_of_ble_eq_true rfl) rfl ⟨Nat.le_refl _, Nat.le_refl _⟩ ?_
    refine s_stateOf (cs := cs) (by omega) W S hX (by omega) hI (fun xz_1 xl_1 => ?_)
    dsimp only [Option.toList, List.cons_append, List.nil_append, Nat.add_zero]
    refine v_iconst dX12_count_184 (c32 rfl) ?_
    refine v_icmp_ne (tgt := 192) dX12_count_185 (by decide) (fun c185_2 => ?_) (fun c185_2 => ?_)
    · refine v_iconst dX12_count_192 (c32 rfl) ?_
      refine v_iaddE dX12_count_193 (by omega) ?_
      refine v_istore_n_2 dX12_count_194 (by decide) rfl ?_
      refine v_iinc_3 dX12_count_195 (by decide) rfl ?_
      rw [iadd_eq (x := k) (y := 1) (by unfold ok32; omega)]
      refine v_goto (tgt := 166) dX12_count_198 (by decide) ?_
      have e9 : sm (cP h cs (h 116 1)) (k + 1) = ((sm (cP h cs (h 116 1)) k) + 0) := by rw [sm_s hk]; unfold cP; first | (rw [if_pos (by omega)]; done) | (rw [if_neg (by omega)]; done)
      have ih9 := ih (by omega) xz_1 xl_1
      rw [e9] at ih9
      exact ih9
    · refine v_iconst dX12_count_188 (c32 rfl) ?_
      refine v_goto (tgt := 193) dX12_count_189 (by decide) ?_
      refine v_iaddE dX12_count_193 (by omega) ?_
      refine v_istore_n_2 dX12_count_194 (by decide) rfl ?_
      refine v_iinc_3 dX12_count_195 (by decide) rfl ?_
      rw [iadd_eq (x := k) (y := 1) (by unfold ok32; omega)]
      refine v_goto (tgt := 166) dX12_count_198 (by decide) ?_
      have e9 : sm (cP h cs (h 116 1)) (k + 1) = ((sm (cP h cs (h 116 1)) k) + 1) := by rw [sm_s hk]; unfold cP; first | (rw [if_pos (by omega)]; done) | (rw [if_neg (by omega)]; done)
      have ih9 := ih (by omega) xz_1 xl_1
      rw [e9] at ih9
      exact ih9

set_option maxHeartbeats 4000000 in
set_option maxRecDepth 100000 in
theorem s_count {l : Launch} {G : GG} {d : Nat} {h : AH} {Q : Option AV → List Kd → AH → Prop} {F : AH} {z O Lr : Int → Int} {cs : Int → List (Int × List Int)} {w : Int} (hd : 42 ≤ d) (W : RW h) (S : RS h) (hX : TX h cs) (q0 : w = 0 → Q (some (0, h 116 1)) K0 (jst (kst h (hset F 116 0 0)) z O Lr)) (q1 : w = 1 → Q (some (0, h 116 15)) K0 (jst (kst h (hset F 116 0 0)) z O Lr)) (q2 : w = 2 → Q (some (0, h 116 45)) K0 (jst (kst h (hset F 116 0 0)) z O Lr)) (q3 : w = 3 → Q (some (0, h 116 46)) K0 (jst (kst h (hset F 116 0 0)) z O Lr)) (q4 : w = 4 → Q (some (0, h 116 65)) K0 (jst (kst h (hset F 116 0 0)) z O Lr)) (q5 : w = 5 → Q (some (0, h 116 67)) K0 (jst (kst h (hset F 116 0 0)) z O Lr)) (q6 : w = 6 → Q (some (0, l2i (ldiv (h 116 68) 1000))) K0 (jst (kst h (hset F 116 0 0)) z O Lr)) (q7 : w = 7 → Q (some (0, h 116 88)) K0 (jst (kst h (hset F 116 0 0)) z O Lr)) (q8 : w = 8 → Q (some (0, h 116 16)) K0 (jst (kst h (hset F 116 0 0)) z O Lr)) (q9 : w = 9 → Q (some (0, sm (cU h) (h 116 45))) K0 (jst (kst h (hset F 116 0 0)) z O Lr)) (q10 : w = 10 → ∀ F z O Lr, I3 h cs (h 116 1) (h 116 65) F → Q (some (0, sm (cP h cs (h 116 1)) (h 116 65))) K0 (jst (kst h F) z O Lr)) (q11 : (w < 0 ∨ 10 < w) → Q (some (0, -1)) K0 (jst (kst h (hset F 116 0 0)) z O Lr)) : Sp l G mX12_count d 0 0 K0 [(2, 116), (0, w)] (jst (kst h F) z O Lr) Q := by
  have ns := S.1
  have nb := W.nb
  refine sp_of (L := [(2, 116), (0, w), (9, 0), (9, 0)]) pl_X12 (Nat.le_of_ble_eq_true rfl) (tg_c (by decide) (tg_c (by decide) tg_0)) rfl ?_
  refine v_aload_n dX12_count_0 rfl ?_
  refine v_iconst dX12_count_1 (c32 rfl) ?_
  refine v_puti (ci := 12) (j := 0) (ji := 0) dX12_count_2 k_1416 (by decide) kk_116 (by decide) rfl rfl rfl ?_
  rw [jst_wj (by decide), kst_w (by decide)]
  refine v_iconst dX12_count_5 (c32 rfl) ?_
  refine v_istore_n_2 dX12_count_6 (by decide) rfl ?_
  refine v_iload_n dX12_count_7 rfl ?_
  rcases (show (w < 0 ∨ 10 < w) ∨ w = 0 ∨ w = 1 ∨ w = 2 ∨ w = 3 ∨ w = 4 ∨ w = 5 ∨ w = 6 ∨ w = 7 ∨ w = 8 ∨ w = 9 ∨ w = 10 by omega) with c8_1 | c8_1 | c8_1 | c8_1 | c8_1 | c8_1 | c8_1 | c8_1 | c8_1 | c8_1 | c8_1 | c8_1
  · refine v_tsw_out (tgt := 203) dX12_count_8 c8_1 (by decide) ?_
    refine v_iconst dX12_count_203 (c32 rfl) ?_
    refine v_ireti dX12_count_204 rfl (Nat.le_refl _) (Nat.le_refl _) ?_
    exact q11 c8_1
  · refine v_tsw_in (off := 60) (tgt := 68) dX12_count_8 (by omega) (by omega) (by rw [c8_1]; rfl) (by decide) ?_
    refine v_aload_n dX12_count_68 rfl ?_
    refine v_getv (ci := 12) (j := 1) (ji := 1) (tg := 0) dX12_count_69 k_1417 (by decide) kk_116 (by decide) rfl rfl (by decide) ((jst_j (by decide)).trans (kst_c (by decide))) ?_
    refine v_ireti dX12_count_72 rfl (Nat.le_refl _) (Nat.le_refl _) ?_
    exact q0 c8_1
  · refine v_tsw_in (off := 65) (tgt := 73) dX12_count_8 (by omega) (by omega) (by rw [c8_1]; rfl) (by decide) ?_
    refine v_aload_n dX12_count_73 rfl ?_
    refine v_getv (ci := 12) (j := 15) (ji := 15) (tg := 0) dX12_count_74 k_1431 (by decide) kk_116 (by decide) rfl rfl (by decide) ((jst_j (by decide)).trans (kst_c (by decide))) ?_
    refine v_ireti dX12_count_77 rfl (Nat.le_refl _) (Nat.le_refl _) ?_
    exact q1 c8_1
  · refine v_tsw_in (off := 70) (tgt := 78) dX12_count_8 (by omega) (by omega) (by rw [c8_1]; rfl) (by decide) ?_
    refine v_aload_n dX12_count_78 rfl ?_
    refine v_getv (ci := 12) (j := 45) (ji := 45) (tg := 0) dX12_count_79 k_1461 (by decide) kk_116 (by decide) rfl rfl (by decide) ((jst_j (by decide)).trans (kst_c (by decide))) ?_
    refine v_ireti dX12_count_82 rfl (Nat.le_refl _) (Nat.le_refl _) ?_
    exact q2 c8_1
  · refine v_tsw_in (off := 75) (tgt := 83) dX12_count_8 (by omega) (by omega) (by rw [c8_1]; rfl) (by decide) ?_
    refine v_aload_n dX12_count_83 rfl ?_
    refine v_getv (ci := 12) (j := 46) (ji := 46) (tg := 0) dX12_count_84 k_1462 (by decide) kk_116 (by decide) rfl rfl (by decide) ((jst_j (by decide)).trans (kst_c (by decide))) ?_
    refine v_ireti dX12_count_87 rfl (Nat.le_refl _) (Nat.le_refl _) ?_
    exact q3 c8_1
  · refine v_tsw_in (off := 80) (tgt := 88) dX12_count_8 (by omega) (by omega) (by rw [c8_1]; rfl) (by decide) ?_
    refine v_aload_n dX12_count_88 rfl ?_
    refine v_getv (ci := 12) (j := 65) (ji := 65) (tg := 0) dX12_count_89 k_1481 (by decide) kk_116 (by decide) rfl rfl (by decide) ((jst_j (by decide)).trans (kst_c (by decide))) ?_
    refine v_ireti dX12_count_92 rfl (Nat.le_refl _) (Nat.le_refl _) ?_
    exact q4 c8_1
  · refine v_tsw_in (off := 85) (tgt := 93) dX12_count_8 (by omega) (by omega) (by rw [c8_1]; rfl) (by decide) ?_
    refine v_aload_n dX12_count_93 rfl ?_
    refine v_getv (ci := 12) (j := 67) (ji := 67) (tg := 0) dX12_count_94 k_1483 (by decide) kk_116 (by decide) rfl rfl (by decide) ((jst_j (by decide)).trans (kst_c (by decide))) ?_
    refine v_ireti dX12_count_97 rfl (Nat.le_refl _) (Nat.le_refl _) ?_
    exact q5 c8_1
  · refine v_tsw_in (off := 90) (tgt := 98) dX12_count_8 (by omega) (by omega) (by rw [c8_1]; rfl) (by decide) ?_
    refine v_aload_n dX12_count_98 rfl ?_
    refine v_getv (ci := 12) (j := 68) (ji := 68) (tg := 1) dX12_count_99 k_1484 (by decide) kk_116 (by decide) rfl rfl (by decide) ((jst_j (by decide)).trans (kst_c (by decide))) ?_
    refine v_ldc2 (n := 1000) dX12_count_102 k_1699 (c64 rfl) (by decide) ?_
    refine v_ldiv dX12_count_105 (by decide) ?_
    refine v_l2i dX12_count_106 ?_
    refine v_ireti dX12_count_107 rfl (Nat.le_refl _) (Nat.le_refl _) ?_
    exact q6 c8_1
  · refine v_tsw_in (off := 100) (tgt := 108) dX12_count_8 (by omega) (by omega) (by rw [c8_1]; rfl) (by decide) ?_
    refine v_aload_n dX12_count_108 rfl ?_
    refine v_getv (ci := 12) (j := 88) (ji := 88) (tg := 0) dX12_count_109 k_1504 (by decide) kk_116 (by decide) rfl rfl (by decide) ((jst_j (by decide)).trans (kst_c (by decide))) ?_
    refine v_ireti dX12_count_112 rfl (Nat.le_refl _) (Nat.le_refl _) ?_
    exact q7 c8_1
  · refine v_tsw_in (off := 105) (tgt := 113) dX12_count_8 (by omega) (by omega) (by rw [c8_1]; rfl) (by decide) ?_
    refine v_aload_n dX12_count_113 rfl ?_
    refine v_getv (ci := 12) (j := 16) (ji := 16) (tg := 0) dX12_count_114 k_1432 (by decide) kk_116 (by decide) rfl rfl (by decide) ((jst_j (by decide)).trans (kst_c (by decide))) ?_
    refine v_ireti dX12_count_117 rfl (Nat.le_refl _) (Nat.le_refl _) ?_
    exact q8 c8_1
  · refine v_tsw_in (off := 110) (tgt := 118) dX12_count_8 (by omega) (by omega) (by rw [c8_1]; rfl) (by decide) ?_
    refine v_iconst dX12_count_118 (c32 rfl) ?_
    refine v_istore_n_3 dX12_count_119 (by decide) rfl ?_
    exact lp_count9 (cs := cs) W (q9 c8_1) 0 (Int.le_refl _) nb.1 z Lr
  · refine v_tsw_in (off := 148) (tgt := 156) dX12_count_8 (by omega) (by omega) (by rw [c8_1]; rfl) (by decide) ?_
    refine v_aload_n dX12_count_156 rfl ?_
    refine v_aload_n dX12_count_157 rfl ?_
    refine v_getv (ci := 12) (j := 1) (ji := 1) (tg := 0) dX12_count_158 k_1417 (by decide) kk_116 (by decide) rfl rfl (by decide) ((jst_j (by decide)).trans (kst_c (by decide))) ?_
    refine v_callv (M' := mX12_findFirst) (d' := d - 1) (mc' := 0) (ms' := 0) (ci := 12) (c := 116) (As := [_]) dX12_count_161 k_1975 cm_X12_findFirst rfl (by omega) (by decide) kk_116 (Nat.le_of_ble_eq_true rfl) rfl ⟨Nat.le_refl _, Nat.le_refl _⟩ ?_
    refine s_findFirst (cs := cs) (by omega) W S hX (hset_same _ _ _ _) (fun xf_2 xz_2 xo_2 xl_2 c161_2 => ?_)
    dsimp only [Option.toList, List.cons_append, List.nil_append, Nat.add_zero]
    refine v_iconst dX12_count_164 (c32 rfl) ?_
    refine v_istore_n_3 dX12_count_165 (by decide) rfl ?_
    exact lp_count10 (by omega) W S hX c161_2 (fun z Lr => q10 c8_1 _ z _ Lr c161_2) 0 (Int.le_refl _) ns.1 _ _

