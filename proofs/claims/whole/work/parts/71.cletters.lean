/-! ===== the class: letters of a made batch, judging (written by wip/whole/p47.py) ===== -/
/-- the class's sums while letters are found -/
def lfs (F : AH) (L H a f k b s : Int) : AH := hset (hset (hset (hset (hset (hset (hset F 38 1 L) 38 2 H) 38 3 a) 38 4 f) 38 5 k) 38 6 b) 38 7 s
section LFS
variable {F : AH} {L H a f k b s c j v : Int}
theorem lfs_r1 : lfs F L H a f k b s 38 1 = L := by unfold lfs; rw [hset_j (by decide), hset_j (by decide), hset_j (by decide), hset_j (by decide), hset_j (by decide), hset_j (by decide), hset_same]
theorem lfs_r2 : lfs F L H a f k b s 38 2 = H := by unfold lfs; rw [hset_j (by decide), hset_j (by decide), hset_j (by decide), hset_j (by decide), hset_j (by decide), hset_same]
theorem lfs_r3 : lfs F L H a f k b s 38 3 = a := by unfold lfs; rw [hset_j (by decide), hset_j (by decide), hset_j (by decide), hset_j (by decide), hset_same]
theorem lfs_r4 : lfs F L H a f k b s 38 4 = f := by unfold lfs; rw [hset_j (by decide), hset_j (by decide), hset_j (by decide), hset_same]
theorem lfs_r5 : lfs F L H a f k b s 38 5 = k := by unfold lfs; rw [hset_j (by decide), hset_j (by decide), hset_same]
theorem lfs_r6 : lfs F L H a f k b s 38 6 = b := by unfold lfs; rw [hset_j (by decide), hset_same]
theorem lfs_r7 : lfs F L H a f k b s 38 7 = s := by unfold lfs; rw [hset_same]
theorem lfs_c (q : c ≠ 38) : lfs F L H a f k b s c j = F c j := by unfold lfs; rw [hset_c q, hset_c q, hset_c q, hset_c q, hset_c q, hset_c q, hset_c q]
theorem lfs_w (q : c ≠ 38) : lfs F L H a f k b s c = F c := funext fun _ => lfs_c q
theorem lfs_w1 : hset (lfs F L H a f k b s) 38 1 v = lfs F v H a f k b s := by unfold lfs; rw [hset_dj (b := 7) (j := 1) (by decide), hset_dj (b := 6) (j := 1) (by decide), hset_dj (b := 5) (j := 1) (by decide), hset_dj (b := 4) (j := 1) (by decide), hset_dj (b := 3) (j := 1) (by decide), hset_dj (b := 2) (j := 1) (by decide), hset_tw]
theorem lfs_w2 : hset (lfs F L H a f k b s) 38 2 v = lfs F L v a f k b s := by unfold lfs; rw [hset_dj (b := 7) (j := 2) (by decide), hset_dj (b := 6) (j := 2) (by decide), hset_dj (b := 5) (j := 2) (by decide), hset_dj (b := 4) (j := 2) (by decide), hset_dj (b := 3) (j := 2) (by decide), hset_tw]
theorem lfs_w3 : hset (lfs F L H a f k b s) 38 3 v = lfs F L H v f k b s := by unfold lfs; rw [hset_dj (b := 7) (j := 3) (by decide), hset_dj (b := 6) (j := 3) (by decide), hset_dj (b := 5) (j := 3) (by decide), hset_dj (b := 4) (j := 3) (by decide), hset_tw]
theorem lfs_w4 : hset (lfs F L H a f k b s) 38 4 v = lfs F L H a v k b s := by unfold lfs; rw [hset_dj (b := 7) (j := 4) (by decide), hset_dj (b := 6) (j := 4) (by decide), hset_dj (b := 5) (j := 4) (by decide), hset_tw]
theorem lfs_w5 : hset (lfs F L H a f k b s) 38 5 v = lfs F L H a f v b s := by unfold lfs; rw [hset_dj (b := 7) (j := 5) (by decide), hset_dj (b := 6) (j := 5) (by decide), hset_tw]
theorem lfs_w6 : hset (lfs F L H a f k b s) 38 6 v = lfs F L H a f k v s := by unfold lfs; rw [hset_dj (b := 7) (j := 6) (by decide), hset_tw]
theorem lfs_w7 : hset (lfs F L H a f k b s) 38 7 v = lfs F L H a f k b v := by unfold lfs; rw [hset_tw]
theorem lfs_n (q : c ≠ 38) : hset (lfs F L H a f k b s) c j v = lfs (hset F c j v) L H a f k b s := by
  unfold lfs
  rw [hset_comm (a := 38) (c := c) (Ne.symm q), hset_comm (a := 38) (c := c) (Ne.symm q), hset_comm (a := 38) (c := c) (Ne.symm q), hset_comm (a := 38) (c := c) (Ne.symm q), hset_comm (a := 38) (c := c) (Ne.symm q), hset_comm (a := 38) (c := c) (Ne.symm q), hset_comm (a := 38) (c := c) (Ne.symm q)]
theorem Fr_lfs : Fr 2 F (lfs F L H a f k b s) := by
  unfold lfs
  exact Fr_t (Fr_t (Fr_t (Fr_t (Fr_t (Fr_t (Fr_s (by decide)) (Fr_s (by decide))) (Fr_s (by decide))) (Fr_s (by decide))) (Fr_s (by decide))) (Fr_s (by decide))) (Fr_s (by decide))
end LFS
set_option maxHeartbeats 4000000 in
set_option maxRecDepth 100000 in
theorem s_cbegin {l : Launch} {G : GG} {d : Nat} {h F : AH} {Q : Option AV → List Kd → AH → Prop} {L H : Int} (hd : 1 ≤ d) (hq : Q none K0 (cst h (lfs F L H 0 0 0 0 0))) : Sp l G mX2_begin d 0 0 K0 [(2, 38), (0, L), (0, H)] (cst h F) Q := by
  refine sp_of (L := [(2, 38), (0, L), (0, H)]) pl_X2 (Nat.le_of_ble_eq_true rfl) (tg_c (by decide) (tg_c (by decide) (tg_c (by decide) tg_0))) rfl ?_
  refine v_aload_n dX2_begin_0 rfl ?_
  refine v_iload_n dX2_begin_1 rfl ?_
  refine v_puti (ci := 2) (j := 1) (ji := 1) dX2_begin_2 k_206 (by decide) kk_38 (by decide) rfl rfl rfl ?_
  rw [cst_w1 (by decide)]
  refine v_aload_n dX2_begin_5 rfl ?_
  refine v_iload_n dX2_begin_6 rfl ?_
  refine v_puti (ci := 2) (j := 2) (ji := 2) dX2_begin_7 k_207 (by decide) kk_38 (by decide) rfl rfl rfl ?_
  rw [cst_w1 (by decide)]
  refine v_aload_n dX2_begin_10 rfl ?_
  refine v_lconst (z := 0) dX2_begin_11 (c64 rfl) (by decide) ?_
  refine v_putl (ci := 2) (j := 3) (ji := 3) dX2_begin_12 k_208 (by decide) kk_38 (by decide) rfl rfl rfl ?_
  rw [cst_w1 (by decide)]
  refine v_aload_n dX2_begin_15 rfl ?_
  refine v_lconst (z := 0) dX2_begin_16 (c64 rfl) (by decide) ?_
  refine v_putl (ci := 2) (j := 4) (ji := 4) dX2_begin_17 k_209 (by decide) kk_38 (by decide) rfl rfl rfl ?_
  rw [cst_w1 (by decide)]
  refine v_aload_n dX2_begin_20 rfl ?_
  refine v_lconst (z := 0) dX2_begin_21 (c64 rfl) (by decide) ?_
  refine v_putl (ci := 2) (j := 5) (ji := 5) dX2_begin_22 k_210 (by decide) kk_38 (by decide) rfl rfl rfl ?_
  rw [cst_w1 (by decide)]
  refine v_aload_n dX2_begin_25 rfl ?_
  refine v_lconst (z := 0) dX2_begin_26 (c64 rfl) (by decide) ?_
  refine v_putl (ci := 2) (j := 6) (ji := 6) dX2_begin_27 k_211 (by decide) kk_38 (by decide) rfl rfl rfl ?_
  rw [cst_w1 (by decide)]
  refine v_aload_n dX2_begin_30 rfl ?_
  refine v_iconst dX2_begin_31 (c32 rfl) ?_
  refine v_puti (ci := 2) (j := 7) (ji := 7) dX2_begin_32 k_212 (by decide) kk_38 (by decide) rfl rfl rfl ?_
  rw [cst_w1 (by decide)]
  refine v_vret dX2_begin_35 rfl (Nat.le_refl _) (Nat.le_refl _) ?_
  exact hq

set_option maxHeartbeats 4000000 in
set_option maxRecDepth 100000 in
theorem s_cadd {l : Launch} {G : GG} {d : Nat} {h F : AH} {Q : Option AV → List Kd → AH → Prop} {v ld hd2 w L H a f k b s : Int} (hd : 1 ≤ d) (hv : 0 ≤ v ∧ v ≤ 1000000000) (ha : 0 ≤ a ∧ a ≤ 1000000000000) (hf : 0 ≤ f ∧ f ≤ 1000000000000) (hk : 0 ≤ k ∧ k ≤ 1000000000000) (hb : 0 ≤ b ∧ b ≤ 1000000000000) (hs : 0 ≤ s ∧ s ≤ 1000) (hq : Q none K0 (cst h (lfs F L H (a + v) (f + if w = 0 then v else 0) (k + if w = 0 then (if hd2 = H then v else 0) else 0) (b + if w = 0 then 0 else if ld ≠ L then v else 0) (s + if w = 0 then 1 else 0)))) : Sp l G mX2_add d 0 0 K0 [(2, 38), (1, v), (0, ld), (0, hd2), (0, w)] (cst h (lfs F L H a f k b s)) Q := by
  refine sp_of (L := [(2, 38), (1, v), (8, 0), (0, ld), (0, hd2), (0, w)]) pl_X2 (Nat.le_of_ble_eq_true rfl) (tg_c (by decide) (tg_c (by decide) (tg_c (by decide) (tg_c (by decide) (tg_c (by decide) tg_0))))) rfl ?_
  refine v_aload_n dX2_add_0 rfl ?_
  refine v_dup dX2_add_1 rfl ?_
  refine v_getv (ci := 2) (j := 3) (ji := 3) (tg := 1) dX2_add_2 k_208 (by decide) kk_38 (by decide) rfl rfl (by decide) ((cst_m (by decide)).trans (lfs_r3)) ?_
  refine v_lload_n dX2_add_5 rfl ?_
  refine v_laddE dX2_add_6 (by omega) ?_
  refine v_putl (ci := 2) (j := 3) (ji := 3) dX2_add_7 k_208 (by decide) kk_38 (by decide) rfl rfl rfl ?_
  rw [cst_w1 (by decide), lfs_w3]
  refine v_iload dX2_add_10 rfl ?_
  refine v_if_ne (tgt := 61) dX2_add_12 (by decide) (fun c12_1 => ?_) (fun c12_1 => ?_)
  · refine v_iload_n dX2_add_61 rfl ?_
    refine v_aload_n dX2_add_62 rfl ?_
    refine v_getv (ci := 2) (j := 1) (ji := 1) (tg := 0) dX2_add_63 k_206 (by decide) kk_38 (by decide) rfl rfl (by decide) ((cst_m (by decide)).trans (lfs_r1)) ?_
    refine v_icmp_eq (tgt := 79) dX2_add_66 (by decide) (fun c66_2 => ?_) (fun c66_2 => ?_)
    · refine v_vret dX2_add_79 rfl (Nat.le_refl _) (Nat.le_refl _) ?_
      have e1 : (if w = 0 then v else 0) = 0 := if_neg (by omega)
      have e2 : (if w = 0 then (if hd2 = H then v else 0) else 0) = 0 := if_neg (by omega)
      have e3 : (if w = 0 then 0 else if ld ≠ L then v else 0) = 0 := by rw [if_neg (by omega), if_neg (by omega)]
      have e4 : (if w = 0 then 1 else 0 : Int) = 0 := if_neg (by omega)
      rw [e1, e2, e3, e4] at hq
      simp only [Int.add_zero] at hq
      exact hq
    · refine v_aload_n dX2_add_69 rfl ?_
      refine v_dup dX2_add_70 rfl ?_
      refine v_getv (ci := 2) (j := 6) (ji := 6) (tg := 1) dX2_add_71 k_211 (by decide) kk_38 (by decide) rfl rfl (by decide) ((cst_m (by decide)).trans (lfs_r6)) ?_
      refine v_lload_n dX2_add_74 rfl ?_
      refine v_laddE dX2_add_75 (by omega) ?_
      refine v_putl (ci := 2) (j := 6) (ji := 6) dX2_add_76 k_211 (by decide) kk_38 (by decide) rfl rfl rfl ?_
      rw [cst_w1 (by decide), lfs_w6]
      refine v_vret dX2_add_79 rfl (Nat.le_refl _) (Nat.le_refl _) ?_
      have e1 : (if w = 0 then v else 0) = 0 := if_neg (by omega)
      have e2 : (if w = 0 then (if hd2 = H then v else 0) else 0) = 0 := if_neg (by omega)
      have e3 : (if w = 0 then 0 else if ld ≠ L then v else 0) = v := by rw [if_neg (by omega), if_pos (by omega)]
      have e4 : (if w = 0 then 1 else 0 : Int) = 0 := if_neg (by omega)
      rw [e1, e2, e3, e4] at hq
      simp only [Int.add_zero] at hq
      exact hq
  · refine v_aload_n dX2_add_15 rfl ?_
    refine v_dup dX2_add_16 rfl ?_
    refine v_getv (ci := 2) (j := 4) (ji := 4) (tg := 1) dX2_add_17 k_209 (by decide) kk_38 (by decide) rfl rfl (by decide) ((cst_m (by decide)).trans (lfs_r4)) ?_
    refine v_lload_n dX2_add_20 rfl ?_
    refine v_laddE dX2_add_21 (by omega) ?_
    refine v_putl (ci := 2) (j := 4) (ji := 4) dX2_add_22 k_209 (by decide) kk_38 (by decide) rfl rfl rfl ?_
    rw [cst_w1 (by decide), lfs_w4]
    refine v_aload_n dX2_add_25 rfl ?_
    refine v_dup dX2_add_26 rfl ?_
    refine v_getv (ci := 2) (j := 7) (ji := 7) (tg := 0) dX2_add_27 k_212 (by decide) kk_38 (by decide) rfl rfl (by decide) ((cst_m (by decide)).trans (lfs_r7)) ?_
    refine v_iconst dX2_add_30 (c32 rfl) ?_
    refine v_iaddE dX2_add_31 (by omega) ?_
    refine v_puti (ci := 2) (j := 7) (ji := 7) dX2_add_32 k_212 (by decide) kk_38 (by decide) rfl rfl rfl ?_
    rw [cst_w1 (by decide), lfs_w7]
    refine v_aload_n dX2_add_35 rfl ?_
    refine v_dup dX2_add_36 rfl ?_
    refine v_getv (ci := 2) (j := 5) (ji := 5) (tg := 1) dX2_add_37 k_210 (by decide) kk_38 (by decide) rfl rfl (by decide) ((cst_m (by decide)).trans (lfs_r5)) ?_
    refine v_iload dX2_add_40 rfl ?_
    refine v_aload_n dX2_add_42 rfl ?_
    refine v_getv (ci := 2) (j := 2) (ji := 2) (tg := 0) dX2_add_43 k_207 (by decide) kk_38 (by decide) rfl rfl (by decide) ((cst_m (by decide)).trans (lfs_r2)) ?_
    refine v_icmp_ne (tgt := 53) dX2_add_46 (by decide) (fun c46_3 => ?_) (fun c46_3 => ?_)
    · refine v_lconst (z := 0) dX2_add_53 (c64 rfl) (by decide) ?_
      refine v_laddE dX2_add_54 (by omega) ?_
      refine v_putl (ci := 2) (j := 5) (ji := 5) dX2_add_55 k_210 (by decide) kk_38 (by decide) rfl rfl rfl ?_
      rw [cst_w1 (by decide), lfs_w5]
      refine v_goto (tgt := 79) dX2_add_58 (by decide) ?_
      refine v_vret dX2_add_79 rfl (Nat.le_refl _) (Nat.le_refl _) ?_
      have e1 : (if w = 0 then v else 0) = v := if_pos (by omega)
      have e2 : (if w = 0 then (if hd2 = H then v else 0) else 0) = 0 := by rw [if_pos (by omega), if_neg (by omega)]
      have e3 : (if w = 0 then 0 else if ld ≠ L then v else 0) = 0 := if_pos (by omega)
      have e4 : (if w = 0 then 1 else 0 : Int) = 1 := if_pos (by omega)
      rw [e1, e2, e3, e4] at hq
      simp only [Int.add_zero] at hq ⊢
      exact hq
    · refine v_lload_n dX2_add_49 rfl ?_
      refine v_goto (tgt := 54) dX2_add_50 (by decide) ?_
      refine v_laddE dX2_add_54 (by omega) ?_
      refine v_putl (ci := 2) (j := 5) (ji := 5) dX2_add_55 k_210 (by decide) kk_38 (by decide) rfl rfl rfl ?_
      rw [cst_w1 (by decide), lfs_w5]
      refine v_goto (tgt := 79) dX2_add_58 (by decide) ?_
      refine v_vret dX2_add_79 rfl (Nat.le_refl _) (Nat.le_refl _) ?_
      have e1 : (if w = 0 then v else 0) = v := if_pos (by omega)
      have e2 : (if w = 0 then (if hd2 = H then v else 0) else 0) = v := by rw [if_pos (by omega), if_pos (by omega)]
      have e3 : (if w = 0 then 0 else if ld ≠ L then v else 0) = 0 := if_pos (by omega)
      have e4 : (if w = 0 then 1 else 0 : Int) = 1 := if_pos (by omega)
      rw [e1, e2, e3, e4] at hq
      simp only [Int.add_zero] at hq ⊢
      exact hq

theorem lmul_comm {x y : Int} : lmul x y = lmul y x := by unfold lmul; rw [Int64.mul_comm]
set_option maxHeartbeats 4000000 in
set_option maxRecDepth 100000 in
theorem s_cthou {l : Launch} {G : GG} {d : Nat} {h : AH} {Q : Option AV → List Kd → AH → Prop} {p w : Int} (hd : 1 ≤ d) (hw : 0 < w) (hq : Q (some (0, shr p w)) K0 h) : Sp l G mX2_thousandths d 0 0 K0 [(1, p), (1, w)] h Q := by
  refine sp_of (L := [(1, p), (8, 0), (1, w), (8, 0)]) pl_X2 (Nat.le_of_ble_eq_true rfl) (tg_c (by decide) (tg_c (by decide) tg_0)) rfl ?_
  refine v_lload_n dX2_thousandths_0 rfl ?_
  refine v_lconst (z := 0) dX2_thousandths_1 (c64 rfl) (by decide) ?_
  refine v_lcmp_le (tgt := 23) dX2_thousandths_2 dX2_thousandths_3 (by decide) (fun c2_1 => ?_) (fun c2_1 => ?_)
  · refine v_iconst dX2_thousandths_23 (c32 rfl) ?_
    refine v_ireti dX2_thousandths_24 rfl (Nat.le_refl _) (Nat.le_refl _) ?_
    exfalso; omega
  · refine v_ldc2 (n := 10000000) dX2_thousandths_6 k_995 (c64 rfl) (by decide) ?_
    refine v_lload_n dX2_thousandths_9 rfl ?_
    refine v_ldc2 (n := 1000) dX2_thousandths_10 k_996 (c64 rfl) (by decide) ?_
    refine v_lmul dX2_thousandths_13 ?_
    refine v_lload_n dX2_thousandths_14 rfl ?_
    refine v_ldiv dX2_thousandths_15 (by omega) ?_
    refine v_mminl dX2_thousandths_16 k_997 (by omega) (Nat.le_of_ble_eq_true rfl) ⟨Nat.le_refl _, Nat.le_refl _⟩ ?_
    refine v_l2i dX2_thousandths_19 ?_
    refine v_goto (tgt := 24) dX2_thousandths_20 (by decide) ?_
    refine v_ireti dX2_thousandths_24 rfl (Nat.le_refl _) (Nat.le_refl _) ?_
    rw [lmul_comm]
    exact hq

set_option maxHeartbeats 4000000 in
set_option maxRecDepth 100000 in
theorem s_cfinish {l : Launch} {G : GG} {d : Nat} {h F : AH} {Q : Option AV → List Kd → AH → Prop} {pr w L H a f k b s : Int} (hd : 2 ≤ d) (hw : 0 < w) (hq : Q none K0 (cst h (lfs (hset (hset (hset (hset (hset (hset (hset (hset F 39 0 (shr a w)) 39 1 (shr f w)) 39 2 (shr k w)) 39 3 (shr b w)) 39 4 s) 39 5 H) 39 6 pr) 39 7 0) L H a f k b s))) : Sp l G mX2_finish d 0 0 K0 [(2, 38), (0, pr), (1, w)] (cst h (lfs F L H a f k b s)) Q := by
  refine sp_of (L := [(2, 38), (0, pr), (1, w), (8, 0)]) pl_X2 (Nat.le_of_ble_eq_true rfl) (tg_c (by decide) (tg_c (by decide) (tg_c (by decide) tg_0))) rfl ?_
  refine v_aload_n dX2_finish_0 rfl ?_
  refine v_getr (ci := 2) (j := 0) (ji := 0) (z := 39) dX2_finish_1 k_203 (by decide) kk_38 (by decide) rfl rfl (fun r => rt_38_0 (r rfl)) (by decide) ?_
  refine v_iconst dX2_finish_4 (c32 rfl) ?_
  refine v_aload_n dX2_finish_5 rfl ?_
  refine v_getv (ci := 2) (j := 3) (ji := 3) (tg := 1) dX2_finish_6 k_208 (by decide) kk_38 (by decide) rfl rfl (by decide) ((cst_m (by decide)).trans (lfs_r3)) ?_
  refine v_lload_n dX2_finish_9 rfl ?_
  refine v_calls (M' := mX2_thousandths) (d' := d - 1) (mc' := 0) (ms' := 0) (As := [_, _]) dX2_finish_10 k_992 cm_X2_thousandths (by omega) (Nat.le_of_ble_eq_true rfl) rfl ⟨Nat.le_refl _, Nat.le_refl _⟩ ?_
  refine s_cthou (by omega) (by omega) ?_
  dsimp only [Option.toList, List.cons_append, List.nil_append, Nat.add_zero]
  refine v_iastore dX2_finish_13 (by decide) kk_39 (by omega) (by omega) ?_
  rw [cst_w1 (by decide), lfs_n (by decide)]
  refine v_aload_n dX2_finish_14 rfl ?_
  refine v_getr (ci := 2) (j := 0) (ji := 0) (z := 39) dX2_finish_15 k_203 (by decide) kk_38 (by decide) rfl rfl (fun r => rt_38_0 (r rfl)) (by decide) ?_
  refine v_iconst dX2_finish_18 (c32 rfl) ?_
  refine v_aload_n dX2_finish_19 rfl ?_
  refine v_getv (ci := 2) (j := 4) (ji := 4) (tg := 1) dX2_finish_20 k_209 (by decide) kk_38 (by decide) rfl rfl (by decide) ((cst_m (by decide)).trans (lfs_r4)) ?_
  refine v_lload_n dX2_finish_23 rfl ?_
  refine v_calls (M' := mX2_thousandths) (d' := d - 1) (mc' := 0) (ms' := 0) (As := [_, _]) dX2_finish_24 k_992 cm_X2_thousandths (by omega) (Nat.le_of_ble_eq_true rfl) rfl ⟨Nat.le_refl _, Nat.le_refl _⟩ ?_
  refine s_cthou (by omega) (by omega) ?_
  dsimp only [Option.toList, List.cons_append, List.nil_append, Nat.add_zero]
  refine v_iastore dX2_finish_27 (by decide) kk_39 (by omega) (by omega) ?_
  rw [cst_w1 (by decide), lfs_n (by decide)]
  refine v_aload_n dX2_finish_28 rfl ?_
  refine v_getr (ci := 2) (j := 0) (ji := 0) (z := 39) dX2_finish_29 k_203 (by decide) kk_38 (by decide) rfl rfl (fun r => rt_38_0 (r rfl)) (by decide) ?_
  refine v_iconst dX2_finish_32 (c32 rfl) ?_
  refine v_aload_n dX2_finish_33 rfl ?_
  refine v_getv (ci := 2) (j := 5) (ji := 5) (tg := 1) dX2_finish_34 k_210 (by decide) kk_38 (by decide) rfl rfl (by decide) ((cst_m (by decide)).trans (lfs_r5)) ?_
  refine v_lload_n dX2_finish_37 rfl ?_
  refine v_calls (M' := mX2_thousandths) (d' := d - 1) (mc' := 0) (ms' := 0) (As := [_, _]) dX2_finish_38 k_992 cm_X2_thousandths (by omega) (Nat.le_of_ble_eq_true rfl) rfl ⟨Nat.le_refl _, Nat.le_refl _⟩ ?_
  refine s_cthou (by omega) (by omega) ?_
  dsimp only [Option.toList, List.cons_append, List.nil_append, Nat.add_zero]
  refine v_iastore dX2_finish_41 (by decide) kk_39 (by omega) (by omega) ?_
  rw [cst_w1 (by decide), lfs_n (by decide)]
  refine v_aload_n dX2_finish_42 rfl ?_
  refine v_getr (ci := 2) (j := 0) (ji := 0) (z := 39) dX2_finish_43 k_203 (by decide) kk_38 (by decide) rfl rfl (fun r => rt_38_0 (r rfl)) (by decide) ?_
  refine v_iconst dX2_finish_46 (c32 rfl) ?_
  refine v_aload_n dX2_finish_47 rfl ?_
  refine v_getv (ci := 2) (j := 6) (ji := 6) (tg := 1) dX2_finish_48 k_211 (by decide) kk_38 (by decide) rfl rfl (by decide) ((cst_m (by decide)).trans (lfs_r6)) ?_
  refine v_lload_n dX2_finish_51 rfl ?_
  refine v_calls (M' := mX2_thousandths) (d' := d - 1) (mc' := 0) (ms' := 0) (As := [_, _]) dX2_finish_52 k_992 cm_X2_thousandths (by omega) (Nat.le_of_ble_eq_true rfl) rfl ⟨Nat.le_refl _, Nat.le_refl _⟩ ?_
  refine s_cthou (by omega) (by omega) ?_
  dsimp only [Option.toList, List.cons_append, List.nil_append, Nat.add_zero]
  refine v_iastore dX2_finish_55 (by decide) kk_39 (by omega) (by omega) ?_
  rw [cst_w1 (by decide), lfs_n (by decide)]
  refine v_aload_n dX2_finish_56 rfl ?_
  refine v_getr (ci := 2) (j := 0) (ji := 0) (z := 39) dX2_finish_57 k_203 (by decide) kk_38 (by decide) rfl rfl (fun r => rt_38_0 (r rfl)) (by decide) ?_
  refine v_iconst dX2_finish_60 (c32 rfl) ?_
  refine v_aload_n dX2_finish_61 rfl ?_
  refine v_getv (ci := 2) (j := 7) (ji := 7) (tg := 0) dX2_finish_62 k_212 (by decide) kk_38 (by decide) rfl rfl (by decide) ((cst_m (by decide)).trans (lfs_r7)) ?_
  refine v_iastore dX2_finish_65 (by decide) kk_39 (by omega) (by omega) ?_
  rw [cst_w1 (by decide), lfs_n (by decide)]
  refine v_aload_n dX2_finish_66 rfl ?_
  refine v_getr (ci := 2) (j := 0) (ji := 0) (z := 39) dX2_finish_67 k_203 (by decide) kk_38 (by decide) rfl rfl (fun r => rt_38_0 (r rfl)) (by decide) ?_
  refine v_iconst dX2_finish_70 (c32 rfl) ?_
  refine v_aload_n dX2_finish_71 rfl ?_
  refine v_getv (ci := 2) (j := 2) (ji := 2) (tg := 0) dX2_finish_72 k_207 (by decide) kk_38 (by decide) rfl rfl (by decide) ((cst_m (by decide)).trans (lfs_r2)) ?_
  refine v_iastore dX2_finish_75 (by decide) kk_39 (by omega) (by omega) ?_
  rw [cst_w1 (by decide), lfs_n (by decide)]
  refine v_aload_n dX2_finish_76 rfl ?_
  refine v_getr (ci := 2) (j := 0) (ji := 0) (z := 39) dX2_finish_77 k_203 (by decide) kk_38 (by decide) rfl rfl (fun r => rt_38_0 (r rfl)) (by decide) ?_
  refine v_bipush dX2_finish_80 (c32 rfl) (by decide) ?_
  refine v_iload_n dX2_finish_82 rfl ?_
  refine v_iastore dX2_finish_83 (by decide) kk_39 (by omega) (by omega) ?_
  rw [cst_w1 (by decide), lfs_n (by decide)]
  refine v_aload_n dX2_finish_84 rfl ?_
  refine v_getr (ci := 2) (j := 0) (ji := 0) (z := 39) dX2_finish_85 k_203 (by decide) kk_38 (by decide) rfl rfl (fun r => rt_38_0 (r rfl)) (by decide) ?_
  refine v_bipush dX2_finish_88 (c32 rfl) (by decide) ?_
  refine v_iconst dX2_finish_90 (c32 rfl) ?_
  refine v_iastore dX2_finish_91 (by decide) kk_39 (by omega) (by omega) ?_
  rw [cst_w1 (by decide), lfs_n (by decide)]
  refine v_vret dX2_finish_92 rfl (Nat.le_refl _) (Nat.le_refl _) ?_
  exact hq

set_option maxHeartbeats 4000000 in
set_option maxRecDepth 100000 in
theorem s_cpart {l : Launch} {G : GG} {d : Nat} {h F : AH} {Q : Option AV → List Kd → AH → Prop} {cs : Int → List (Int × List Int)} {b k : Int} (hd : 1 ≤ d) (I : CI h cs) (hb : 0 ≤ b ∧ b < 100) (hk : 0 ≤ k ∧ k < 6) (hq : Q (some (0, eB h b k)) K0 (cst h F)) : Sp l G mX6_partOf d 0 0 K0 [(2, 41), (0, b), (0, k)] (cst h F) Q := by
  refine sp_of (L := [(2, 41), (0, b), (0, k)]) pl_X6 (Nat.le_of_ble_eq_true rfl) (tg_c (by decide) (tg_c (by decide) (tg_c (by decide) tg_0))) rfl ?_
  refine v_aload_n dX6_partOf_0 rfl ?_
  refine v_getr (ci := 6) (j := 9) (ji := 9) (z := 51) dX6_partOf_1 k_314 (by decide) kk_41 (by decide) rfl rfl (fun r => rt_41_9 (r rfl)) (by decide) ?_
  refine v_iload_n dX6_partOf_4 rfl ?_
  refine v_bipush dX6_partOf_5 (c32 rfl) (by decide) ?_
  refine v_imulE dX6_partOf_7 (by omega) ?_
  refine v_iload_n dX6_partOf_8 rfl ?_
  refine v_iaddE dX6_partOf_9 (by omega) ?_
  refine v_ialoadv dX6_partOf_10 (by decide) kk_51 (by omega) (by omega) ((cst_n (by decide)).trans ((congrFun I.e51 ((b * 6) + k)))) ?_
  refine v_ireti dX6_partOf_11 rfl (Nat.le_refl _) (Nat.le_refl _) ?_
  rw [show b * 6 + k = 6 * b + k by omega]
  exact hq

set_option maxHeartbeats 4000000 in
set_option maxRecDepth 100000 in
theorem s_cmany {l : Launch} {G : GG} {d : Nat} {h F : AH} {Q : Option AV → List Kd → AH → Prop} {cs : Int → List (Int × List Int)} {b k : Int} (hd : 1 ≤ d) (I : CI h cs) (hb : 0 ≤ b ∧ b < 100) (hk : 0 ≤ k ∧ k < 6) (hq : Q (some (0, h 139 (6 * b + k))) K0 (cst h F)) : Sp l G mX6_manyOf d 0 0 K0 [(2, 41), (0, b), (0, k)] (cst h F) Q := by
  refine sp_of (L := [(2, 41), (0, b), (0, k)]) pl_X6 (Nat.le_of_ble_eq_true rfl) (tg_c (by decide) (tg_c (by decide) (tg_c (by decide) tg_0))) rfl ?_
  refine v_aload_n dX6_manyOf_0 rfl ?_
  refine v_getr (ci := 6) (j := 10) (ji := 10) (z := 52) dX6_manyOf_1 k_315 (by decide) kk_41 (by decide) rfl rfl (fun r => rt_41_10 (r rfl)) (by decide) ?_
  refine v_iload_n dX6_manyOf_4 rfl ?_
  refine v_bipush dX6_manyOf_5 (c32 rfl) (by decide) ?_
  refine v_imulE dX6_manyOf_7 (by omega) ?_
  refine v_iload_n dX6_manyOf_8 rfl ?_
  refine v_iaddE dX6_manyOf_9 (by omega) ?_
  refine v_ialoadv dX6_manyOf_10 (by decide) kk_52 (by omega) (by omega) ((cst_n (by decide)).trans ((congrFun I.e52 ((b * 6) + k)))) ?_
  refine v_ireti dX6_manyOf_11 rfl (Nat.le_refl _) (Nat.le_refl _) ?_
  rw [show b * 6 + k = 6 * b + k by omega]
  exact hq

set_option maxHeartbeats 4000000 in
set_option maxRecDepth 100000 in
theorem lp_cweigh {l : Launch} {G : GG} {d : Nat} {h F : AH} {Q : Option AV → List Kd → AH → Prop} {cs : Int → List (Int × List Int)} {F0 : AH} {r b q : Int} (hd : 3 ≤ d) (I : CI h cs) (hr : 0 ≤ r ∧ r < 5) (hb : 0 ≤ b ∧ b < h 116 45) (hP : ∀ e, 0 ≤ e → e < h 116 45 → F 63 e = prc h q e) (hO : F (58 + r) = F0 (58 + r)) (hq : ∀ X, X = (cst h (lfs (hset (hset (hset (hset (hset (hset (hset (hset F 39 0 (shr (sm (eV h b q) (h 137 b)) ((prc h q b) * (h 132 b)))) 39 1 (shr (sm (fO h (F0 (58 + r)) b q) (h 137 b)) ((prc h q b) * (h 132 b)))) 39 2 (shr (sm (fK h (F0 (58 + r)) b q) (h 137 b)) ((prc h q b) * (h 132 b)))) 39 3 (shr (sm (fB h (F0 (58 + r)) b q) (h 137 b)) ((prc h q b) * (h 132 b)))) 39 4 (sm (fC h (F0 (58 + r)) b) (h 137 b))) 39 5 (h 130 b)) 39 6 (h 135 b)) 39 7 0) (h 129 b) (h 130 b) (sm (eV h b q) (h 137 b)) (sm (fO h (F0 (58 + r)) b q) (h 137 b)) (sm (fK h (F0 (58 + r)) b q) (h 137 b)) (sm (fB h (F0 (58 + r)) b q) (h 137 b)) (sm (fC h (F0 (58 + r)) b) (h 137 b)))) → Q none K0 X) : ∀ k, 0 ≤ k → k ≤ h 137 b → V l G mX4_weigh d 0 0 0 0 K0 33 [(2, 5), (0, r), (0, b), (2, 38), (0, k), (9, 0), (9, 0), (9, 0)] [] (cst h (lfs F (h 129 b) (h 130 b) (sm (eV h b q) k) (sm (fO h (F0 (58 + r)) b q) k) (sm (fK h (F0 (58 + r)) b q) k) (sm (fB h (F0 (58 + r)) b q) k) (sm (fC h (F0 (58 + r)) b) k))) Q := by
  have W := I.W
  have nb := I.W.nb
  have hen := W.en b hb.1 hb.2
  refine loop_m3 (fun k hk hkN ih => ?_)
  refine v_iload dX4_weigh_33 rfl ?_
  refine v_aload_n dX4_weigh_35 rfl ?_
  refine v_getr (ci := 4) (j := 1) (ji := 1) (z := 41) dX4_weigh_36 k_356 (by decide) kk_5 (by decide) rfl rfl (fun r => rt_5_1 (r rfl)) (by decide) ?_
  refine v_getrN (ci := 6) (j := 8) (ji := 8) (z := 50) dX4_weigh_39 k_312 (by decide) kk_41 (by decide) rfl rfl (fun r => rt_41_8 (r rfl)) (by decide) ?_
  refine v_iload_n dX4_weigh_42 rfl ?_
  refine v_ialoadv dX4_weigh_43 (by decide) kk_50 (by omega) (by omega) ((cst_n (by decide)).trans ((congrFun I.e50 b))) ?_
  refine v_icmp_ge (tgt := 130) dX4_weigh_44 (by decide) (fun c44_1 => ?_) (fun c44_1 => ?_)
  · obtain rfl : k = h 137 b := by omega
    have hpb9 := W.pb (q := q) hb.1 hb.2
    refine v_aload_n dX4_weigh_130 rfl ?_
    refine v_aload_n dX4_weigh_131 rfl ?_
    refine v_getr (ci := 4) (j := 1) (ji := 1) (z := 41) dX4_weigh_132 k_356 (by decide) kk_5 (by decide) rfl rfl (fun r => rt_5_1 (r rfl)) (by decide) ?_
    refine v_getrN (ci := 6) (j := 6) (ji := 6) (z := 48) dX4_weigh_135 k_308 (by decide) kk_41 (by decide) rfl rfl (fun r => rt_41_6 (r rfl)) (by decide) ?_
    refine v_iload_n dX4_weigh_138 rfl ?_
    refine v_ialoadv dX4_weigh_139 (by decide) kk_48 (by omega) (by omega) ((cst_n (by decide)).trans ((congrFun I.e48 b))) ?_
    refine v_aload_n dX4_weigh_140 rfl ?_
    refine v_getr (ci := 4) (j := 3) (ji := 3) (z := 63) dX4_weigh_141 k_360 (by decide) kk_5 (by decide) rfl rfl (fun r => rt_5_3 (r rfl)) (by decide) ?_
    refine v_iload_n dX4_weigh_144 rfl ?_
    refine v_ialoadv dX4_weigh_145 (by decide) kk_63 (by omega) (by omega) ((cst_m (by decide)).trans ((lfs_c (by decide)).trans ((hP b hb.1 hb.2)))) ?_
    refine v_i2l dX4_weigh_146 ?_
    refine v_aload_n dX4_weigh_147 rfl ?_
    refine v_getr (ci := 4) (j := 1) (ji := 1) (z := 41) dX4_weigh_148 k_356 (by decide) kk_5 (by decide) rfl rfl (fun r => rt_5_1 (r rfl)) (by decide) ?_
    refine v_getrN (ci := 6) (j := 3) (ji := 3) (z := 45) dX4_weigh_151 k_299 (by decide) kk_41 (by decide) rfl rfl (fun r => rt_41_3 (r rfl)) (by decide) ?_
    refine v_iload_n dX4_weigh_154 rfl ?_
    refine v_ialoadv dX4_weigh_155 (by decide) kk_45 (by omega) (by omega) ((cst_n (by decide)).trans ((congrFun I.e45 b))) ?_
    refine v_i2l dX4_weigh_156 ?_
    refine v_lmulE dX4_weigh_157 (by omega) ?_
    refine v_callv (M' := mX2_finish) (d' := d - 1) (mc' := 0) (ms' := 0) (ci := 2) (c := 38) (As := [_, _]) dX4_weigh_158 k_988 cm_X2_finish rfl (by omega) (by decide) kk_38 (Nat.le_of_ble_eq_true rfl) rfl ⟨Nat.le_refl _, Nat.le_refl _⟩ ?_
    refine s_cfinish (by omega) (by omega) ?_
    dsimp only [Option.toList, List.cons_append, List.nil_append, Nat.add_zero]
    refine v_vret dX4_weigh_161 rfl (Nat.le_refl _) (Nat.le_refl _) ?_
    exact hq _ rfl
  · have hen9 := W.eo b hb.1 hb.2 k hk (by omega)
    have hen8 : 0 ≤ eB h b k ∧ eB h b k < b := hen9
    have hpv9 := W.ev (q := q) hb.1 hb.2 k hk (by omega)
    have r1 := sm_rng (f := eV h b q) (W.ev hb.1 hb.2) k hk (by omega)
    have r2 := sm_rng (f := fO h (F0 (58 + r)) b q) (hfO (W.ev hb.1 hb.2)) k hk (by omega)
    have r3 := sm_rng (f := fK h (F0 (58 + r)) b q) (hfK (W.ev hb.1 hb.2)) k hk (by omega)
    have r4 := sm_rng (f := fB h (F0 (58 + r)) b q) (hfB (W.ev hb.1 hb.2)) k hk (by omega)
    have r5 := sm_rng (f := fC h (F0 (58 + r)) b) (N := h 137 b) (B := 1) hfC k hk (by omega)
    have hv9 : eV h b q k = prc h q (eB h b k) * h 139 (6 * b + k) := rfl
    refine v_aload_n dX4_weigh_47 rfl ?_
    refine v_getr (ci := 4) (j := 1) (ji := 1) (z := 41) dX4_weigh_48 k_356 (by decide) kk_5 (by decide) rfl rfl (fun r => rt_5_1 (r rfl)) (by decide) ?_
    refine v_iload_n dX4_weigh_51 rfl ?_
    refine v_iload dX4_weigh_52 rfl ?_
    refine v_callv (M' := mX6_partOf) (d' := d - 1) (mc' := 0) (ms' := 0) (ci := 6) (c := 41) (As := [_, _]) dX4_weigh_54 k_982 cm_X6_partOf rfl (by omega) (by decide) kk_41 (Nat.le_of_ble_eq_true rfl) rfl ⟨Nat.le_refl _, Nat.le_refl _⟩ ?_
    refine s_cpart (by omega) I ⟨by omega, by omega⟩ ⟨by omega, by omega⟩ ?_
    dsimp only [Option.toList, List.cons_append, List.nil_append, Nat.add_zero]
    refine v_istore_5 dX4_weigh_57 (by decide) rfl ?_
    refine v_aload_n dX4_weigh_59 rfl ?_
    refine v_getr (ci := 4) (j := 3) (ji := 3) (z := 63) dX4_weigh_60 k_360 (by decide) kk_5 (by decide) rfl rfl (fun r => rt_5_3 (r rfl)) (by decide) ?_
    refine v_iload dX4_weigh_63 rfl ?_
    refine v_ialoadv dX4_weigh_65 (by decide) kk_63 (by omega) (by omega) ((cst_m (by decide)).trans ((lfs_c (by decide)).trans ((hP _ hen9.1 (by omega))))) ?_
    refine v_i2l dX4_weigh_66 ?_
    refine v_aload_n dX4_weigh_67 rfl ?_
    refine v_getr (ci := 4) (j := 1) (ji := 1) (z := 41) dX4_weigh_68 k_356 (by decide) kk_5 (by decide) rfl rfl (fun r => rt_5_1 (r rfl)) (by decide) ?_
    refine v_iload_n dX4_weigh_71 rfl ?_
    refine v_iload dX4_weigh_72 rfl ?_
    refine v_callv (M' := mX6_manyOf) (d' := d - 1) (mc' := 0) (ms' := 0) (ci := 6) (c := 41) (As := [_, _]) dX4_weigh_74 k_983 cm_X6_manyOf rfl (by omega) (by decide) kk_41 (Nat.le_of_ble_eq_true rfl) rfl ⟨Nat.le_refl _, Nat.le_refl _⟩ ?_
    refine s_cmany (by omega) I ⟨by omega, by omega⟩ ⟨by omega, by omega⟩ ?_
    dsimp only [Option.toList, List.cons_append, List.nil_append, Nat.add_zero]
    refine v_i2l dX4_weigh_77 ?_
    refine v_lmulE dX4_weigh_78 (by omega) ?_
    rw [show prc h q (eB h b k) * h 139 (6 * b + k) = eV h b q k from rfl]
    refine v_lstore_6 dX4_weigh_79 (by decide) rfl ?_
    refine v_aload_n dX4_weigh_81 rfl ?_
    refine v_lload dX4_weigh_82 rfl ?_
    refine v_aload_n dX4_weigh_84 rfl ?_
    refine v_getr (ci := 4) (j := 1) (ji := 1) (z := 41) dX4_weigh_85 k_356 (by decide) kk_5 (by decide) rfl rfl (fun r => rt_5_1 (r rfl)) (by decide) ?_
    refine v_getrN (ci := 6) (j := 0) (ji := 0) (z := 42) dX4_weigh_88 k_292 (by decide) kk_41 (by decide) rfl rfl (fun r => rt_41_0 (r rfl)) (by decide) ?_
    refine v_iload dX4_weigh_91 rfl ?_
    refine v_ialoadv dX4_weigh_93 (by decide) kk_42 (by omega) (by omega) ((cst_n (by decide)).trans ((congrFun I.e42 (eB h b k)))) ?_
    refine v_aload_n dX4_weigh_94 rfl ?_
    refine v_getr (ci := 4) (j := 1) (ji := 1) (z := 41) dX4_weigh_95 k_356 (by decide) kk_5 (by decide) rfl rfl (fun r => rt_5_1 (r rfl)) (by decide) ?_
    refine v_getrN (ci := 6) (j := 1) (ji := 1) (z := 43) dX4_weigh_98 k_295 (by decide) kk_41 (by decide) rfl rfl (fun r => rt_41_1 (r rfl)) (by decide) ?_
    refine v_iload dX4_weigh_101 rfl ?_
    refine v_ialoadv dX4_weigh_103 (by decide) kk_43 (by omega) (by omega) ((cst_n (by decide)).trans ((congrFun I.e43 (eB h b k)))) ?_
    refine v_aload_n dX4_weigh_104 rfl ?_
    refine v_getr (ci := 4) (j := 2) (ji := 2) (z := 57) dX4_weigh_105 k_359 (by decide) kk_5 (by decide) rfl rfl (fun r => rt_5_2 (r rfl)) (by decide) ?_
    refine v_iload_n dX4_weigh_108 rfl ?_
    refine v_aaload dX4_weigh_109 (by decide) kk_57 (by omega) (by omega) (fun r => rb_57 (r rfl) (by omega) (by omega)) (by omega) ?_
    refine v_iload dX4_weigh_110 rfl ?_
    refine v_ialoadv dX4_weigh_112 (by omega) (krow_57 (by omega) (by omega)) (by omega) (by omega) ((cst_m (by unfold cR; omega)).trans ((lfs_c (by omega)).trans ((congrFun hO (eB h b k))))) ?_
    refine v_if_eq (tgt := 120) dX4_weigh_113 (by decide) (fun c113_2 => ?_) (fun c113_2 => ?_)
    · refine v_iconst dX4_weigh_120 (c32 rfl) ?_
      have zV : sm (eV h b q) (k + 1) = sm (eV h b q) k + eV h b q k := sm_s hk
      have zfO : sm (fO h (F0 (58 + r)) b q) (k + 1) = sm (fO h (F0 (58 + r)) b q) k + (if (0 : Int) = 0 then eV h b q k else 0) := by
        rw [sm_s hk]
        congr 1
        unfold fO
        rw [if_neg (by omega), if_pos (show (0 : Int) = 0 by decide)]
      have zfK : sm (fK h (F0 (58 + r)) b q) (k + 1) = sm (fK h (F0 (58 + r)) b q) k + (if (0 : Int) = 0 then (if h 130 (eB h b k) = h 130 b then eV h b q k else 0) else 0) := by
        rw [sm_s hk]
        congr 1
        unfold fK
        rw [if_neg (by omega), if_pos (show (0 : Int) = 0 by decide)]
      have zfB : sm (fB h (F0 (58 + r)) b q) (k + 1) = sm (fB h (F0 (58 + r)) b q) k + (if (0 : Int) = 0 then 0 else if h 129 (eB h b k) ≠ h 129 b then eV h b q k else 0) := by
        rw [sm_s hk]
        congr 1
        unfold fB
        rw [if_neg (by omega), if_pos (show (0 : Int) = 0 by decide)]
      have zC : sm (fC h (F0 (58 + r)) b) (k + 1) = sm (fC h (F0 (58 + r)) b) k + (if (0 : Int) = 0 then 1 else 0) := by
        rw [sm_s hk]
        congr 1
        unfold fC
        rw [if_neg (by omega), if_pos (show (0 : Int) = 0 by decide)]
      have ih9 := ih (by omega)
      rw [zV, zfO, zfK, zfB, zC] at ih9
      refine v_callv (M' := mX2_add) (d' := d - 1) (mc' := 0) (ms' := 0) (ci := 2) (c := 38) (As := [_, _, _, _]) dX4_weigh_121 k_984 cm_X2_add rfl (by omega) (by decide) kk_38 (Nat.le_of_ble_eq_true rfl) rfl ⟨Nat.le_refl _, Nat.le_refl _⟩ ?_
      refine s_cadd (by omega) ⟨by omega, by omega⟩ ⟨by omega, by omega⟩ ⟨by omega, by omega⟩ ⟨by omega, by omega⟩ ⟨by omega, by omega⟩ ⟨by omega, by omega⟩ ?_
      dsimp only [Option.toList, List.cons_append, List.nil_append, Nat.add_zero]
      refine v_iinc_4 dX4_weigh_124 (by decide) rfl ?_
      rw [iadd_eq (x := k) (y := 1) (by unfold ok32; omega)]
      refine v_goto (tgt := 33) dX4_weigh_127 (by decide) ?_
      refine v_loc (lo_k (lo_k (lo_k (lo_k (lo_k (lo_d (lo_d (lo_d lo_nil)))))))) ?_
      exact ih9
    · refine v_iconst dX4_weigh_116 (c32 rfl) ?_
      refine v_goto (tgt := 121) dX4_weigh_117 (by decide) ?_
      have zV : sm (eV h b q) (k + 1) = sm (eV h b q) k + eV h b q k := sm_s hk
      have zfO : sm (fO h (F0 (58 + r)) b q) (k + 1) = sm (fO h (F0 (58 + r)) b q) k + (if (1 : Int) = 0 then eV h b q k else 0) := by
        rw [sm_s hk]
        congr 1
        unfold fO
        rw [if_pos c113_2, if_neg (show ¬ (1 : Int) = 0 by decide)]
      have zfK : sm (fK h (F0 (58 + r)) b q) (k + 1) = sm (fK h (F0 (58 + r)) b q) k + (if (1 : Int) = 0 then (if h 130 (eB h b k) = h 130 b then eV h b q k else 0) else 0) := by
        rw [sm_s hk]
        congr 1
        unfold fK
        rw [if_pos c113_2, if_neg (show ¬ (1 : Int) = 0 by decide)]
      have zfB : sm (fB h (F0 (58 + r)) b q) (k + 1) = sm (fB h (F0 (58 + r)) b q) k + (if (1 : Int) = 0 then 0 else if h 129 (eB h b k) ≠ h 129 b then eV h b q k else 0) := by
        rw [sm_s hk]
        congr 1
        unfold fB
        rw [if_pos c113_2, if_neg (show ¬ (1 : Int) = 0 by decide)]
      have zC : sm (fC h (F0 (58 + r)) b) (k + 1) = sm (fC h (F0 (58 + r)) b) k + (if (1 : Int) = 0 then 1 else 0) := by
        rw [sm_s hk]
        congr 1
        unfold fC
        rw [if_pos c113_2, if_neg (show ¬ (1 : Int) = 0 by decide)]
      have ih9 := ih (by omega)
      rw [zV, zfO, zfK, zfB, zC] at ih9
      refine v_callv (M' := mX2_add) (d' := d - 1) (mc' := 0) (ms' := 0) (ci := 2) (c := 38) (As := [_, _, _, _]) dX4_weigh_121 k_984 cm_X2_add rfl (by omega) (by decide) kk_38 (Nat.le_of_ble_eq_true rfl) rfl ⟨Nat.le_refl _, Nat.le_refl _⟩ ?_
      refine s_cadd (by omega) ⟨by omega, by omega⟩ ⟨by omega, by omega⟩ ⟨by omega, by omega⟩ ⟨by omega, by omega⟩ ⟨by omega, by omega⟩ ⟨by omega, by omega⟩ ?_
      dsimp only [Option.toList, List.cons_append, List.nil_append, Nat.add_zero]
      refine v_iinc_4 dX4_weigh_124 (by decide) rfl ?_
      rw [iadd_eq (x := k) (y := 1) (by unfold ok32; omega)]
      refine v_goto (tgt := 33) dX4_weigh_127 (by decide) ?_
      refine v_loc (lo_k (lo_k (lo_k (lo_k (lo_k (lo_d (lo_d (lo_d lo_nil)))))))) ?_
      exact ih9

set_option maxHeartbeats 4000000 in
set_option maxRecDepth 100000 in
theorem s_cweigh {l : Launch} {G : GG} {d : Nat} {h F : AH} {Q : Option AV → List Kd → AH → Prop} {cs : Int → List (Int × List Int)} {r b q : Int} (hd : 3 ≤ d) (I : CI h cs) (hr : 0 ≤ r ∧ r < 5) (hb : 0 ≤ b ∧ b < h 116 45) (hP : ∀ e, 0 ≤ e → e < h 116 45 → F 63 e = prc h q e) (hq : ∀ F', Fr 2 F F' → (∀ i, 0 ≤ i → i < 8 → F' 39 i = mLt h (F (58 + r)) b q i) → Q none K0 (cst h F')) : Sp l G mX4_weigh d 0 0 K0 [(2, 5), (0, r), (0, b)] (cst h F) Q := by
  have nb := I.W.nb
  have hen := I.W.en b hb.1 hb.2
  refine sp_of (L := [(2, 5), (0, r), (0, b), (9, 0), (9, 0), (9, 0), (9, 0), (9, 0)]) pl_X4 (Nat.le_of_ble_eq_true rfl) (tg_c (by decide) (tg_c (by decide) (tg_c (by decide) tg_0))) rfl ?_
  refine v_aload_n dX4_weigh_0 rfl ?_
  refine v_getr (ci := 4) (j := 0) (ji := 0) (z := 6) dX4_weigh_1 k_353 (by decide) kk_5 (by decide) rfl rfl (fun r => rt_5_0 (r rfl)) (by decide) ?_
  refine v_getrN (ci := 8) (j := 5) (ji := 5) (z := 38) dX4_weigh_4 k_240 (by decide) kk_6 (by decide) rfl rfl (fun r => rt_6_5 (r rfl)) (by decide) ?_
  refine v_astore_n_3 dX4_weigh_7 (by decide) rfl ?_
  refine v_aload_n dX4_weigh_8 rfl ?_
  refine v_aload_n dX4_weigh_9 rfl ?_
  refine v_getr (ci := 4) (j := 1) (ji := 1) (z := 41) dX4_weigh_10 k_356 (by decide) kk_5 (by decide) rfl rfl (fun r => rt_5_1 (r rfl)) (by decide) ?_
  refine v_getrN (ci := 6) (j := 0) (ji := 0) (z := 42) dX4_weigh_13 k_292 (by decide) kk_41 (by decide) rfl rfl (fun r => rt_41_0 (r rfl)) (by decide) ?_
  refine v_iload_n dX4_weigh_16 rfl ?_
  refine v_ialoadv dX4_weigh_17 (by decide) kk_42 (by omega) (by omega) ((cst_n (by decide)).trans ((congrFun I.e42 b))) ?_
  refine v_aload_n dX4_weigh_18 rfl ?_
  refine v_getr (ci := 4) (j := 1) (ji := 1) (z := 41) dX4_weigh_19 k_356 (by decide) kk_5 (by decide) rfl rfl (fun r => rt_5_1 (r rfl)) (by decide) ?_
  refine v_getrN (ci := 6) (j := 1) (ji := 1) (z := 43) dX4_weigh_22 k_295 (by decide) kk_41 (by decide) rfl rfl (fun r => rt_41_1 (r rfl)) (by decide) ?_
  refine v_iload_n dX4_weigh_25 rfl ?_
  refine v_ialoadv dX4_weigh_26 (by decide) kk_43 (by omega) (by omega) ((cst_n (by decide)).trans ((congrFun I.e43 b))) ?_
  refine v_callv (M' := mX2_begin) (d' := d - 1) (mc' := 0) (ms' := 0) (ci := 2) (c := 38) (As := [_, _]) dX4_weigh_27 k_978 cm_X2_begin rfl (by omega) (by decide) kk_38 (Nat.le_of_ble_eq_true rfl) rfl ⟨Nat.le_refl _, Nat.le_refl _⟩ ?_
  refine s_cbegin (by omega) ?_
  dsimp only [Option.toList, List.cons_append, List.nil_append, Nat.add_zero]
  refine v_iconst dX4_weigh_30 (c32 rfl) ?_
  refine v_istore_4 dX4_weigh_31 (by decide) rfl ?_
  have q9 := lp_cweigh (l := l) (G := G) (d := d) (h := h) (F := F) (F0 := F) (cs := cs) (r := r) (b := b) (q := q) (Q := Q) (by omega) I hr hb hP rfl (fun X e => by
    subst e
    refine hq _ (Fr_t (Fr_w (Fr_w (Fr_w (Fr_w (Fr_w (Fr_w (Fr_w (Fr_s (by decide)) (by decide)) (by decide)) (by decide)) (by decide)) (by decide)) (by decide)) (by decide)) Fr_lfs) (fun i i0 i1 => ?_)
    rcases (show i = 0 ∨ i = 1 ∨ i = 2 ∨ i = 3 ∨ i = 4 ∨ i = 5 ∨ i = 6 ∨ i = 7 by omega) with e | e | e | e | e | e | e | e <;> subst e
    · rw [lfs_c (by decide), hset_j (by decide), hset_j (by decide), hset_j (by decide), hset_j (by decide), hset_j (by decide), hset_j (by decide), hset_j (by decide), hset_same]
      rfl
    · rw [lfs_c (by decide), hset_j (by decide), hset_j (by decide), hset_j (by decide), hset_j (by decide), hset_j (by decide), hset_j (by decide), hset_same]
      rfl
    · rw [lfs_c (by decide), hset_j (by decide), hset_j (by decide), hset_j (by decide), hset_j (by decide), hset_j (by decide), hset_same]
      rfl
    · rw [lfs_c (by decide), hset_j (by decide), hset_j (by decide), hset_j (by decide), hset_j (by decide), hset_same]
      rfl
    · rw [lfs_c (by decide), hset_j (by decide), hset_j (by decide), hset_j (by decide), hset_same]
      rfl
    · rw [lfs_c (by decide), hset_j (by decide), hset_j (by decide), hset_same]
      rfl
    · rw [lfs_c (by decide), hset_j (by decide), hset_same]
      rfl
    · rw [lfs_c (by decide), hset_same]
      rfl) 0 (Int.le_refl _) hen.1
  rw [sm_0, sm_0, sm_0, sm_0, sm_0] at q9
  exact q9

