/-! ===== the reference: moved (written by wip/whole/p34.py) ===== -/
def I4 (h : AH) (cs : Int → List (Int × List Int)) (w q k : Int) (F : AH) : Prop := F 116 0 = 0 ∧ ∀ b, 0 ≤ b → b < k → F 149 b = own h cs w q (-1) b
theorem I4_s {h F : AH} {cs : Int → List (Int × List Int)} {w q k : Int} (hI : I4 h cs w q k F) : I4 h cs w q (k + 1) (hset F 149 k (own h cs w q (-1) k)) := by
  refine ⟨by rw [hset_c (by decide)]; exact hI.1, fun b b0 b1 => ?_⟩
  by_cases e : b = k
  · subst e; rw [hset_same]
  · rw [hset_j e]; exact hI.2 b b0 (by omega)
def mvF (h : AH) (cs : Int → List (Int × List Int)) (w q p wh b : Int) : Int :=
  if h 135 b = -1 then 0 else if own h cs w q (-1) b = own h cs w q p b then 0 else if own h cs w q p b = (if wh = 1 then 1 else 0) then 1 else 0
theorem mvF_r {h : AH} {cs : Int → List (Int × List Int)} {w q p wh n : Int} : ∀ i, 0 ≤ i → i < n → 0 ≤ mvF h cs w q p wh i ∧ mvF h cs w q p wh i ≤ 1 := fun i _ _ => by
  unfold mvF
  split
  · omega
  · split
    · omega
    · split <;> omega

set_option maxHeartbeats 4000000 in
set_option maxRecDepth 100000 in
theorem lp_mv1 {l : Launch} {G : GG} {d : Nat} {h : AH} {Q : Option AV → List Kd → AH → Prop} {cs : Int → List (Int × List Int)} {z O Lr : Int → Int} {p wh w q : Int} (W : RW h) (hO : ∀ b, 0 ≤ b → b < h 116 45 → O b = own h cs w q (-1) b) (hq : ∀ F, I4 h cs w q (h 116 45) F → V l G mX12_moved d 0 0 0 0 K0 88 [(2, 116), (0, p), (0, wh), (0, w), (0, h 116 45), (9, 0)] [] (jst (kst h F) z O Lr) Q) : ∀ k, 0 ≤ k → k ≤ h 116 45 → ∀ F, I4 h cs w q k F → V l G mX12_moved d 0 0 0 0 K0 59 [(2, 116), (0, p), (0, wh), (0, w), (0, k), (9, 0)] [] (jst (kst h F) z O Lr) Q := by
  have nb := W.nb
  refine loop_m3 (fun k hk hkN ih F hI => ?_)
  refine v_iload dX12_moved_59 rfl ?_
  refine v_aload_n dX12_moved_61 rfl ?_
  refine v_getv (ci := 12) (j := 45) (ji := 45) (tg := 0) dX12_moved_62 k_1461 (by decide) kk_116 (by decide) rfl rfl (by decide) ((jst_j (by decide)).trans (kst_c (by decide))) ?_
  refine v_icmp_ge (tgt := 88) dX12_moved_65 (by decide) (fun c65_1 => ?_) (fun c65_1 => ?_)
  · obtain rfl : k = h 116 45 := by omega
    exact hq _ hI
  · have ow := @own_rng h cs w q (-1) k hk
    refine v_aload_n dX12_moved_68 rfl ?_
    refine v_getr (ci := 12) (j := 50) (ji := 50) (z := 149) dX12_moved_69 k_1466 (by decide) kk_116 (by decide) rfl rfl (fun r => rt_116_50 (r rfl)) (by decide) ?_
    refine v_iload dX12_moved_72 rfl ?_
    refine v_aload_n dX12_moved_74 rfl ?_
    refine v_getr (ci := 12) (j := 49) (ji := 49) (z := 148) dX12_moved_75 k_1465 (by decide) kk_116 (by decide) rfl rfl (fun r => rt_116_49 (r rfl)) (by decide) ?_
    refine v_iload dX12_moved_78 rfl ?_
    refine v_zaloadv dX12_moved_80 (by decide) kk_148 (by omega) (by omega) ((jst_o).trans ((hO k (by omega) (by omega)))) ?_
    refine v_zastore dX12_moved_81 (by decide) kk_149 (by omega) (by omega) (by omega) ?_
    rw [jst_wc (by decide), kst_wm (by decide)]
    refine v_iinc_4 dX12_moved_82 (by decide) rfl ?_
    rw [iadd_eq (x := k) (y := 1) (by unfold ok32; omega)]
    refine v_goto (tgt := 59) dX12_moved_85 (by decide) ?_
    exact ih (by omega) _ (I4_s hI)

set_option maxHeartbeats 4000000 in
set_option maxRecDepth 100000 in
theorem lp_mv2 {l : Launch} {G : GG} {d : Nat} {h : AH} {Q : Option AV → List Kd → AH → Prop} {cs : Int → List (Int × List Int)} {F : AH} {z O Lr : Int → Int} {p wh w q : Int} (W : RW h) (hO : ∀ b, 0 ≤ b → b < h 116 45 → O b = own h cs w q p b) (hI : I4 h cs w q (h 116 45) F) (hq : Q (some (0, sm (mvF h cs w q p wh) (h 116 45))) K0 (jst (kst h F) z O Lr)) : ∀ k, 0 ≤ k → k ≤ h 116 45 → V l G mX12_moved d 0 0 0 0 K0 110 [(2, 116), (0, p), (0, wh), (0, w), (0, sm (mvF h cs w q p wh) k), (0, k)] [] (jst (kst h F) z O Lr) Q := by
  have nb := W.nb
  refine loop_m3 (fun k hk hkN ih => ?_)
  refine v_iload dX12_moved_110 rfl ?_
  refine v_aload_n dX12_moved_112 rfl ?_
  refine v_getv (ci := 12) (j := 45) (ji := 45) (tg := 0) dX12_moved_113 k_1461 (by decide) kk_116 (by decide) rfl rfl (by decide) ((jst_j (by decide)).trans (kst_c (by decide))) ?_
  refine v_icmp_ge (tgt := 183) dX12_moved_116 (by decide) (fun c116_1 => ?_) (fun c116_1 => ?_)
  · refine v_iload dX12_moved_183 rfl ?_
    refine v_ireti dX12_moved_185 rfl (Nat.le_refl _) (Nat.le_refl _) ?_
    obtain rfl : k = h 116 45 := by omega
    exact hq
  · have o1 := @own_rng h cs w q (-1) k hk
    have o2 := @own_rng h cs w q p k hk
    have r9 := sm_rng (mvF_r (h := h) (cs := cs) (w := w) (q := q) (p := p) (wh := wh) (n := h 116 45)) k hk (by omega)
    refine v_iload dX12_moved_119 rfl ?_
    refine v_aload_n dX12_moved_121 rfl ?_
    refine v_getr (ci := 12) (j := 32) (ji := 32) (z := 135) dX12_moved_122 k_1448 (by decide) kk_116 (by decide) rfl rfl (fun r => rt_116_32 (r rfl)) (by decide) ?_
    refine v_iload dX12_moved_125 rfl ?_
    refine v_ialoadv dX12_moved_127 (by decide) kk_135 (by omega) (by omega) ((jst_c (by decide)).trans (kst_n (by decide))) ?_
    refine v_iconst dX12_moved_128 (c32 rfl) ?_
    refine v_icmp_eq (tgt := 173) dX12_moved_129 (by decide) (fun c129_2 => ?_) (fun c129_2 => ?_)
    · refine v_iconst dX12_moved_173 (c32 rfl) ?_
      refine v_iaddE dX12_moved_174 (by omega) ?_
      refine v_istore_4 dX12_moved_175 (by decide) rfl ?_
      refine v_iinc_5 dX12_moved_177 (by decide) rfl ?_
      rw [iadd_eq (x := k) (y := 1) (by unfold ok32; omega)]
      refine v_goto (tgt := 110) dX12_moved_180 (by decide) ?_
      have e8 : mvF h cs w q p wh k = 0 := by unfold mvF; split <;> (try split) <;> (try split) <;> (try split) <;> omega
      have e9 : sm (mvF h cs w q p wh) (k + 1) = ((sm (mvF h cs w q p wh) k) + 0) := by rw [sm_s hk, e8]
      have ih9 := ih (by omega)
      rw [e9] at ih9
      exact ih9
    · refine v_aload_n dX12_moved_132 rfl ?_
      refine v_getr (ci := 12) (j := 50) (ji := 50) (z := 149) dX12_moved_133 k_1466 (by decide) kk_116 (by decide) rfl rfl (fun r => rt_116_50 (r rfl)) (by decide) ?_
      refine v_iload dX12_moved_136 rfl ?_
      refine v_zaloadv dX12_moved_138 (by decide) kk_149 (by omega) (by omega) ((jst_c (by decide)).trans ((kst_m (by decide)).trans ((hI.2 k (by omega) (by omega))))) ?_
      refine v_aload_n dX12_moved_139 rfl ?_
      refine v_getr (ci := 12) (j := 49) (ji := 49) (z := 148) dX12_moved_140 k_1465 (by decide) kk_116 (by decide) rfl rfl (fun r => rt_116_49 (r rfl)) (by decide) ?_
      refine v_iload dX12_moved_143 rfl ?_
      refine v_zaloadv dX12_moved_145 (by decide) kk_148 (by omega) (by omega) ((jst_o).trans ((hO k (by omega) (by omega)))) ?_
      refine v_icmp_eq (tgt := 173) dX12_moved_146 (by decide) (fun c146_3 => ?_) (fun c146_3 => ?_)
      · refine v_iconst dX12_moved_173 (c32 rfl) ?_
        refine v_iaddE dX12_moved_174 (by omega) ?_
        refine v_istore_4 dX12_moved_175 (by decide) rfl ?_
        refine v_iinc_5 dX12_moved_177 (by decide) rfl ?_
        rw [iadd_eq (x := k) (y := 1) (by unfold ok32; omega)]
        refine v_goto (tgt := 110) dX12_moved_180 (by decide) ?_
        have e8 : mvF h cs w q p wh k = 0 := by unfold mvF; split <;> (try split) <;> (try split) <;> (try split) <;> omega
        have e9 : sm (mvF h cs w q p wh) (k + 1) = ((sm (mvF h cs w q p wh) k) + 0) := by rw [sm_s hk, e8]
        have ih9 := ih (by omega)
        rw [e9] at ih9
        exact ih9
      · refine v_aload_n dX12_moved_149 rfl ?_
        refine v_getr (ci := 12) (j := 49) (ji := 49) (z := 148) dX12_moved_150 k_1465 (by decide) kk_116 (by decide) rfl rfl (fun r => rt_116_49 (r rfl)) (by decide) ?_
        refine v_iload dX12_moved_153 rfl ?_
        refine v_zaloadv dX12_moved_155 (by decide) kk_148 (by omega) (by omega) ((jst_o).trans ((hO k (by omega) (by omega)))) ?_
        refine v_iload_n dX12_moved_156 rfl ?_
        refine v_iconst dX12_moved_157 (c32 rfl) ?_
        refine v_icmp_ne (tgt := 165) dX12_moved_158 (by decide) (fun c158_4 => ?_) (fun c158_4 => ?_)
        · refine v_iconst dX12_moved_165 (c32 rfl) ?_
          refine v_icmp_ne (tgt := 173) dX12_moved_166 (by decide) (fun c166_5 => ?_) (fun c166_5 => ?_)
          · refine v_iconst dX12_moved_173 (c32 rfl) ?_
            refine v_iaddE dX12_moved_174 (by omega) ?_
            refine v_istore_4 dX12_moved_175 (by decide) rfl ?_
            refine v_iinc_5 dX12_moved_177 (by decide) rfl ?_
            rw [iadd_eq (x := k) (y := 1) (by unfold ok32; omega)]
            refine v_goto (tgt := 110) dX12_moved_180 (by decide) ?_
            have e8 : mvF h cs w q p wh k = 0 := by unfold mvF; split <;> (try split) <;> (try split) <;> (try split) <;> omega
            have e9 : sm (mvF h cs w q p wh) (k + 1) = ((sm (mvF h cs w q p wh) k) + 0) := by rw [sm_s hk, e8]
            have ih9 := ih (by omega)
            rw [e9] at ih9
            exact ih9
          · refine v_iconst dX12_moved_169 (c32 rfl) ?_
            refine v_goto (tgt := 174) dX12_moved_170 (by decide) ?_
            refine v_iaddE dX12_moved_174 (by omega) ?_
            refine v_istore_4 dX12_moved_175 (by decide) rfl ?_
            refine v_iinc_5 dX12_moved_177 (by decide) rfl ?_
            rw [iadd_eq (x := k) (y := 1) (by unfold ok32; omega)]
            refine v_goto (tgt := 110) dX12_moved_180 (by decide) ?_
            have e8 : mvF h cs w q p wh k = 1 := by unfold mvF; split <;> (try split) <;> (try split) <;> (try split) <;> omega
            have e9 : sm (mvF h cs w q p wh) (k + 1) = ((sm (mvF h cs w q p wh) k) + 1) := by rw [sm_s hk, e8]
            have ih9 := ih (by omega)
            rw [e9] at ih9
            exact ih9
        · refine v_iconst dX12_moved_161 (c32 rfl) ?_
          refine v_goto (tgt := 166) dX12_moved_162 (by decide) ?_
          refine v_icmp_ne (tgt := 173) dX12_moved_166 (by decide) (fun c166_6 => ?_) (fun c166_6 => ?_)
          · refine v_iconst dX12_moved_173 (c32 rfl) ?_
            refine v_iaddE dX12_moved_174 (by omega) ?_
            refine v_istore_4 dX12_moved_175 (by decide) rfl ?_
            refine v_iinc_5 dX12_moved_177 (by decide) rfl ?_
            rw [iadd_eq (x := k) (y := 1) (by unfold ok32; omega)]
            refine v_goto (tgt := 110) dX12_moved_180 (by decide) ?_
            have e8 : mvF h cs w q p wh k = 0 := by unfold mvF; split <;> (try split) <;> (try split) <;> (try split) <;> omega
            have e9 : sm (mvF h cs w q p wh) (k + 1) = ((sm (mvF h cs w q p wh) k) + 0) := by rw [sm_s hk, e8]
            have ih9 := ih (by omega)
            rw [e9] at ih9
            exact ih9
          · refine v_iconst dX12_moved_169 (c32 rfl) ?_
            refine v_goto (tgt := 174) dX12_moved_170 (by decide) ?_
            refine v_iaddE dX12_moved_174 (by omega) ?_
            refine v_istore_4 dX12_moved_175 (by decide) rfl ?_
            refine v_iinc_5 dX12_moved_177 (by decide) rfl ?_
            rw [iadd_eq (x := k) (y := 1) (by unfold ok32; omega)]
            refine v_goto (tgt := 110) dX12_moved_180 (by decide) ?_
            have e8 : mvF h cs w q p wh k = 1 := by unfold mvF; split <;> (try split) <;> (try split) <;> (try split) <;> omega
            have e9 : sm (mvF h cs w q p wh) (k + 1) = ((sm (mvF h cs w q p wh) k) + 1) := by rw [sm_s hk, e8]
            have ih9 := ih (by omega)
            rw [e9] at ih9
            exact ih9

set_option maxHeartbeats 4000000 in
set_option maxRecDepth 100000 in
theorem s_moved {l : Launch} {G : GG} {d : Nat} {h : AH} {Q : Option AV → List Kd → AH → Prop} {F : AH} {z O Lr : Int → Int} {cs : Int → List (Int × List Int)} {p wh : Int} (hd : 42 ≤ d) (W : RW h) (hX : TX h cs) (q0 : ¬ ((0 ≤ p ∧ p < h 116 15) ∧ (0 ≤ wh ∧ wh ≤ 1)) → Q (some (0, -1)) K0 (jst (kst h (hset F 116 0 0)) z O Lr)) (q1 : ∀ F z O Lr, ((0 ≤ p ∧ p < h 116 15) ∧ (0 ≤ wh ∧ wh ≤ 1)) → F 116 0 = 0 → Q (some (0, sm (mvF h cs (h 121 p) (h 116 1) p wh) (h 116 45))) K0 (jst (kst h F) z O Lr)) : Sp l G mX12_moved d 0 0 K0 [(2, 116), (0, p), (0, wh)] (jst (kst h F) z O Lr) Q := by
  have nb := W.nb
  have nt := W.nt
  refine sp_of (L := [(2, 116), (0, p), (0, wh), (9, 0), (9, 0), (9, 0)]) pl_X12 (Nat.le_of_ble_eq_true rfl) (tg_c (by decide) (tg_c (by decide) (tg_c (by decide) tg_0))) rfl ?_
  refine v_aload_n dX12_moved_0 rfl ?_
  refine v_iconst dX12_moved_1 (c32 rfl) ?_
  refine v_puti (ci := 12) (j := 0) (ji := 0) dX12_moved_2 k_1416 (by decide) kk_116 (by decide) rfl rfl rfl ?_
  rw [jst_wj (by decide), kst_w (by decide)]
  refine v_iload_n dX12_moved_5 rfl ?_
  refine v_i2l dX12_moved_6 ?_
  refine v_lconst (z := 0) dX12_moved_7 (c64 rfl) (by decide) ?_
  refine v_aload_n dX12_moved_8 rfl ?_
  refine v_getv (ci := 12) (j := 15) (ji := 15) (tg := 0) dX12_moved_9 k_1431 (by decide) kk_116 (by decide) rfl rfl (by decide) ((jst_j (by decide)).trans (kst_c (by decide))) ?_
  refine v_iconst dX12_moved_12 (c32 rfl) ?_
  refine v_isubE dX12_moved_13 (by omega) ?_
  refine v_i2l dX12_moved_14 ?_
  refine v_calls (M' := mX12_isIn) (d' := d - 1) (mc' := 0) (ms' := 0) (As := [_, _, _]) dX12_moved_15 k_1700 cm_X12_isIn (by omega) (Nat.le_of_ble_eq_true rfl) rfl ⟨Nat.le_refl _, Nat.le_refl _⟩ ?_
  refine s_X12_isIn (by omega) (fun c15_1 => ?_) (fun c15_2 c15_3 => ?_) (fun c15_4 c15_5 => ?_)
  · dsimp only [Option.toList, List.cons_append, List.nil_append, Nat.add_zero]
    refine v_if_eq_t (tgt := 31) dX12_moved_18 (by decide) (by decide) ?_
    refine v_iconst dX12_moved_31 (c32 rfl) ?_
    refine v_ireti dX12_moved_32 rfl (Nat.le_refl _) (Nat.le_refl _) ?_
    exact q0 (by omega)
  · dsimp only [Option.toList, List.cons_append, List.nil_append, Nat.add_zero]
    refine v_if_eq_t (tgt := 31) dX12_moved_18 (by decide) (by decide) ?_
    refine v_iconst dX12_moved_31 (c32 rfl) ?_
    refine v_ireti dX12_moved_32 rfl (Nat.le_refl _) (Nat.le_refl _) ?_
    exact q0 (by omega)
  · dsimp only [Option.toList, List.cons_append, List.nil_append, Nat.add_zero]
    refine v_if_eq_f (tgt := 31) dX12_moved_18 (by decide) (by decide) ?_
    refine v_iload_n dX12_moved_21 rfl ?_
    refine v_i2l dX12_moved_22 ?_
    refine v_lconst (z := 0) dX12_moved_23 (c64 rfl) (by decide) ?_
    refine v_lconst (z := 1) dX12_moved_24 (c64 rfl) (by decide) ?_
    refine v_calls (M' := mX12_isIn) (d' := d - 1) (mc' := 0) (ms' := 0) (As := [_, _, _]) dX12_moved_25 k_1700 cm_X12_isIn (by omega) (Nat.le_of_ble_eq_true rfl) rfl ⟨Nat.le_refl _, Nat.le_refl _⟩ ?_
    refine s_X12_isIn (by omega) (fun c25_6 => ?_) (fun c25_7 c25_8 => ?_) (fun c25_9 c25_10 => ?_)
    · dsimp only [Option.toList, List.cons_append, List.nil_append, Nat.add_zero]
      refine v_if_ne_f (tgt := 33) dX12_moved_28 (by decide) (by decide) ?_
      refine v_iconst dX12_moved_31 (c32 rfl) ?_
      refine v_ireti dX12_moved_32 rfl (Nat.le_refl _) (Nat.le_refl _) ?_
      exact q0 (by omega)
    · dsimp only [Option.toList, List.cons_append, List.nil_append, Nat.add_zero]
      refine v_if_ne_f (tgt := 33) dX12_moved_28 (by decide) (by decide) ?_
      refine v_iconst dX12_moved_31 (c32 rfl) ?_
      refine v_ireti dX12_moved_32 rfl (Nat.le_refl _) (Nat.le_refl _) ?_
      exact q0 (by omega)
    · dsimp only [Option.toList, List.cons_append, List.nil_append, Nat.add_zero]
      refine v_if_ne_t (tgt := 33) dX12_moved_28 (by decide) (by decide) ?_
      refine v_aload_n dX12_moved_33 rfl ?_
      refine v_getr (ci := 12) (j := 6) (ji := 6) (z := 121) dX12_moved_34 k_1422 (by decide) kk_116 (by decide) rfl rfl (fun r => rt_116_6 (r rfl)) (by decide) ?_
      refine v_iload_n dX12_moved_37 rfl ?_
      refine v_ialoadv dX12_moved_38 (by decide) kk_121 (by omega) (by omega) ((jst_c (by decide)).trans (kst_n (by decide))) ?_
      refine v_istore_n_3 dX12_moved_39 (by decide) rfl ?_
      refine v_aload_n dX12_moved_40 rfl ?_
      refine v_aload_n dX12_moved_41 rfl ?_
      refine v_getv (ci := 12) (j := 45) (ji := 45) (tg := 0) dX12_moved_42 k_1461 (by decide) kk_116 (by decide) rfl rfl (by decide) ((jst_j (by decide)).trans (kst_c (by decide))) ?_
      refine v_iconst dX12_moved_45 (c32 rfl) ?_
      refine v_isubE dX12_moved_46 (by omega) ?_
      refine v_iload_n dX12_moved_47 rfl ?_
      refine v_aload_n dX12_moved_48 rfl ?_
      refine v_getv (ci := 12) (j := 1) (ji := 1) (tg := 0) dX12_moved_49 k_1417 (by decide) kk_116 (by decide) rfl rfl (by decide) ((jst_j (by decide)).trans (kst_c (by decide))) ?_
      refine v_iconst dX12_moved_52 (c32 rfl) ?_
      refine v_callv (M' := mX12_judge) (d' := d - 1) (mc' := 0) (ms' := 0) (ci := 12) (c := 116) (As := [_, _, _, _]) dX12_moved_53 k_1921 cm_X12_judge rfl (by omega) (by decide) kk_116 (Nat.le_of_ble_eq_true rfl) rfl ⟨Nat.le_refl _, Nat.le_refl _⟩ ?_
      refine s_judgeK (cs := cs) (by omega) W hX (by omega) (by omega) (fun xz_10 xl_10 => ?_)
      dsimp only [Option.toList, List.cons_append, List.nil_append, Nat.add_zero]
      refine v_iconst dX12_moved_56 (c32 rfl) ?_
      refine v_istore_4 dX12_moved_57 (by decide) rfl ?_
      have c9 : (0 ≤ p ∧ p < h 116 15) ∧ (0 ≤ wh ∧ wh ≤ 1) := by omega
      refine lp_mv1 (cs := cs) (w := h 121 p) (q := h 116 1) (O := (jO h cs (h 121 p) (h 116 1) (-1) O (((h 116 45) - 1) + 1))) W (fun b b0 b1 => jO_own W (by omega) b0 (by omega)) (fun F9 hI9 => ?_) 0 (Int.le_refl _) nb.1 _ ⟨hset_same _ _ _ _, fun b b0 b1 => by omega⟩
      refine v_aload_n dX12_moved_88 rfl ?_
      refine v_aload_n dX12_moved_89 rfl ?_
      refine v_getv (ci := 12) (j := 45) (ji := 45) (tg := 0) dX12_moved_90 k_1461 (by decide) kk_116 (by decide) rfl rfl (by decide) ((jst_j (by decide)).trans (kst_c (by decide))) ?_
      refine v_iconst dX12_moved_93 (c32 rfl) ?_
      refine v_isubE dX12_moved_94 (by omega) ?_
      refine v_iload_n dX12_moved_95 rfl ?_
      refine v_aload_n dX12_moved_96 rfl ?_
      refine v_getv (ci := 12) (j := 1) (ji := 1) (tg := 0) dX12_moved_97 k_1417 (by decide) kk_116 (by decide) rfl rfl (by decide) ((jst_j (by decide)).trans (kst_c (by decide))) ?_
      refine v_iload_n dX12_moved_100 rfl ?_
      refine v_callv (M' := mX12_judge) (d' := d - 1) (mc' := 0) (ms' := 0) (ci := 12) (c := 116) (As := [_, _, _, _]) dX12_moved_101 k_1921 cm_X12_judge rfl (by omega) (by decide) kk_116 (Nat.le_of_ble_eq_true rfl) rfl ⟨Nat.le_refl _, Nat.le_refl _⟩ ?_
      refine s_judgeK (cs := cs) (by omega) W hX (by omega) (by omega) (fun xz_0 xl_0 => ?_)
      dsimp only [Option.toList, List.cons_append, List.nil_append, Nat.add_zero]
      refine v_iconst dX12_moved_104 (c32 rfl) ?_
      refine v_istore_4 dX12_moved_105 (by decide) rfl ?_
      refine v_iconst dX12_moved_107 (c32 rfl) ?_
      refine v_istore_5 dX12_moved_108 (by decide) rfl ?_
      have q9 := lp_mv2 (l := l) (G := G) (d := d) (h := h) (cs := cs) (p := p) (wh := wh) (w := h 121 p) (q := h 116 1) (z := xz_0) (O := (jO h cs (h 121 p) (h 116 1) p (jO h cs (h 121 p) (h 116 1) (-1) O (((h 116 45) - 1) + 1)) (((h 116 45) - 1) + 1))) (Lr := xl_0) W (fun b b0 b1 => jO_own W (by omega) b0 (by omega)) hI9 (q1 _ _ _ _ c9 hI9.1) 0 (Int.le_refl _) nb.1
      rw [sm_0] at q9
      exact q9

