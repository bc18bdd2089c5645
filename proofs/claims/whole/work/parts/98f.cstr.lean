/-! ===== words struck: the class (written by wip/whole/p72.py) ===== -/
/-- what gather leaves -/
def WF (h : AH) (b : Int) (F : AH) : Prop := F 97 4 = wdN h b ∧ ∀ i, 0 ≤ i → i < wdN h b → F 100 i = wdQ h b i
/-- row i of the table, its first k places -/
def RB (h : AH) (b i k : Int) (F : AH) : Prop := ∀ j, 0 ≤ j → j < k → F (102 + i) j = wdM h b i j
/-- the table's rows from i on -/
def TB (h : AH) (b i : Int) (F : AH) : Prop := ∀ i', i ≤ i' → i' ≤ wdN h b → RB h b i' (wdN h b + 1) F
/-- what is struck of the first k -/
def PQw (h : AH) (b k : Int) (R : Int → Int) : Prop := ∀ j, 0 ≤ j → j < k → wdC h b j → R (pkC (wdC h b) j) = wdQ h b j
section WFS
variable {h F : AH} {b i k : Int}
theorem WF_s {c j x : Int} (a : WF h b F) (q : 97 < c ∧ c ≠ 100 ∨ c = 97 ∧ j ≠ 4) : WF h b (hset F c j x) := ⟨(hset_ne F (by omega)).trans a.1, fun i i0 i1 => (hset_ne F (by omega)).trans (a.2 i i0 i1)⟩
theorem RB_0 : RB h b i 0 F := fun j j0 j1 => by omega
theorem RB_s {x : Int} (a : RB h b i k F) (e : x = wdM h b i k) : RB h b i (k + 1) (hset F (102 + i) k x) := fun j j0 j1 => by
  by_cases z : j = k
  · rw [z, hset_same, e]
  · rw [hset_j z]; exact a j j0 (by omega)
theorem RB_o {c j x : Int} (a : RB h b i k F) (q : c ≠ 102 + i) : RB h b i k (hset F c j x) := fun u u0 u1 => (hset_c (fun z => q z.symm)).trans (a u u0 u1)
theorem TB_s {c j x : Int} (a : TB h b i F) (hn : wdN h b ≤ 12) (q : c < 102 + i ∨ 114 < c) : TB h b i (hset F c j x) := fun i' h0 h1 => RB_o (a i' h0 h1) (by omega)
theorem TB_i (a : TB h b (i + 1) F) (r : RB h b i (wdN h b + 1) F) : TB h b i F := fun i' h0 h1 => by
  by_cases z : i' = i
  · rw [z]; exact r
  · exact a i' (by omega) h1
theorem PQw_1 {R : Int → Int} (a : PQw h b k R) : PQw h b (k + 1) (fset R (pkC (wdC h b) k) (wdQ h b k)) := fun j j0 j1 c => by
  by_cases z : j = k
  · rw [z]; exact fset_same
  · have := pkC_lt (c := wdC h b) (a := j) (k := k) j0 (by omega) c
    rw [fset_ne (by omega)]
    exact a j j0 (by omega) c
theorem PQw_0 {R : Int → Int} (a : PQw h b k R) (n : ¬ wdC h b k) : PQw h b (k + 1) R := fun j j0 j1 c => by
  by_cases z : j = k
  · rw [z] at c; exact absurd c n
  · exact a j j0 (by omega) c
end WFS

set_option maxHeartbeats 4000000 in
set_option maxRecDepth 100000 in
theorem lp_wfc {l : Launch} {G : GG} {d : Nat} {h : AH} {Q : Option AV → List Kd → AH → Prop} {cs : Int → List (Int × List Int)} {b i : Int} (hd : 1 ≤ d) (I : CI h cs) (h12 : wdN h b ≤ 12) (hi : 0 ≤ i ∧ i < wdN h b) (hq : ∀ F', WF h b F' → TB h b i F' → V l G mX9_fillMost d 0 0 0 0 K0 118 [(2, 97), (0, i), (9, 0)] [] (cst h F') Q) : ∀ k, 1 ≤ k → k ≤ wdN h b + 1 → ∀ F : AH, WF h b F → TB h b (i + 1) F → RB h b i k F → V l G mX9_fillMost d 0 0 0 0 K0 59 [(2, 97), (0, i), (0, k)] [] (cst h F) Q := by
  refine loop_m3 (fun k hk hkN ih F hW hT hR => ?_)
  refine v_iload_n dX9_fillMost_59 rfl ?_
  refine v_aload_n dX9_fillMost_60 rfl ?_
  refine v_getv (ci := 9) (j := 4) (ji := 4) (tg := 0) dX9_fillMost_61 k_532 (by decide) kk_97 (by decide) rfl rfl (by decide) ((cst_s (by decide)).trans (hW.1)) ?_
  refine v_icmp_gt (tgt := 118) dX9_fillMost_64 (by decide) (fun c64_1 => ?_) (fun c64_1 => ?_)
  · obtain rfl : k = wdN h b + 1 := by omega
    refine v_loc (lo_k (lo_k (lo_d lo_nil))) ?_
    exact hq _ hW (TB_i hT hR)
  · have q8 := wdQ_r I (b := b) (i := i) (by omega) (by omega)
    have v8 := I.wo.2 _ q8.1 q8.2
    have w8 := I.wo.1
    have m8 := wdM_r I (b := b) (i := i + 1) (k := k - 1) (by omega) h12
    refine v_aload_n dX9_fillMost_67 rfl ?_
    refine v_getr (ci := 9) (j := 5) (ji := 5) (z := 101) dX9_fillMost_68 k_533 (by decide) kk_97 (by decide) rfl rfl (fun r => rt_97_5 (r rfl)) (by decide) ?_
    refine v_iload_n dX9_fillMost_71 rfl ?_
    refine v_aaload dX9_fillMost_72 (by decide) kk_101 (by omega) (by omega) (fun r => rb_101 (r rfl) (by omega) (by omega)) (by omega) ?_
    refine v_iload_n dX9_fillMost_73 rfl ?_
    refine v_aload_n dX9_fillMost_74 rfl ?_
    refine v_getr (ci := 9) (j := 5) (ji := 5) (z := 101) dX9_fillMost_75 k_533 (by decide) kk_97 (by decide) rfl rfl (fun r => rt_97_5 (r rfl)) (by decide) ?_
    refine v_iload_n dX9_fillMost_78 rfl ?_
    refine v_iconst dX9_fillMost_79 (c32 rfl) ?_
    refine v_iaddE dX9_fillMost_80 (by omega) ?_
    refine v_aaload dX9_fillMost_81 (by decide) kk_101 (by omega) (by omega) (fun r => rb_101 (r rfl) (by omega) (by omega)) (by omega) ?_
    refine v_iload_n dX9_fillMost_82 rfl ?_
    refine v_ialoadv dX9_fillMost_83 (by omega) (krow_101 (by omega) (by omega)) (by omega) (by omega) ((cst_m (by unfold cR; omega)).trans ((hT (i + 1) (by omega) (by omega) k (by omega) (by omega)))) ?_
    refine v_aload_n dX9_fillMost_84 rfl ?_
    refine v_getr (ci := 9) (j := 1) (ji := 1) (z := 99) dX9_fillMost_85 k_528 (by decide) kk_97 (by decide) rfl rfl (fun r => rt_97_1 (r rfl)) (by decide) ?_
    refine v_aload_n dX9_fillMost_88 rfl ?_
    refine v_getr (ci := 9) (j := 3) (ji := 3) (z := 100) dX9_fillMost_89 k_531 (by decide) kk_97 (by decide) rfl rfl (fun r => rt_97_3 (r rfl)) (by decide) ?_
    refine v_iload_n dX9_fillMost_92 rfl ?_
    refine v_ialoadv dX9_fillMost_93 (by decide) kk_100 (by omega) (by omega) ((cst_m (by decide)).trans ((hW.2 i (by omega) (by omega)))) ?_
    refine v_ialoadv dX9_fillMost_94 (by decide) kk_99 (by omega) (by omega) ((cst_n (by decide)).trans ((congrFun I.e99 (wdQ h b i)))) ?_
    refine v_aload_n dX9_fillMost_95 rfl ?_
    refine v_getr (ci := 9) (j := 5) (ji := 5) (z := 101) dX9_fillMost_96 k_533 (by decide) kk_97 (by decide) rfl rfl (fun r => rt_97_5 (r rfl)) (by decide) ?_
    refine v_iload_n dX9_fillMost_99 rfl ?_
    refine v_iconst dX9_fillMost_100 (c32 rfl) ?_
    refine v_iaddE dX9_fillMost_101 (by omega) ?_
    refine v_aaload dX9_fillMost_102 (by decide) kk_101 (by omega) (by omega) (fun r => rb_101 (r rfl) (by omega) (by omega)) (by omega) ?_
    refine v_iload_n dX9_fillMost_103 rfl ?_
    refine v_iconst dX9_fillMost_104 (c32 rfl) ?_
    refine v_isubE dX9_fillMost_105 (by omega) ?_
    refine v_ialoadv dX9_fillMost_106 (by omega) (krow_101 (by omega) (by omega)) (by omega) (by omega) ((cst_m (by unfold cR; omega)).trans ((hT (i + 1) (by omega) (by omega) (k - 1) (by omega) (by omega)))) ?_
    refine v_iaddE dX9_fillMost_107 (by omega) ?_
    refine v_mmax dX9_fillMost_108 k_1293 (by omega) (Nat.le_of_ble_eq_true rfl) ⟨Nat.le_refl _, Nat.le_refl _⟩ ?_
    refine v_iastore dX9_fillMost_111 (by omega) (krow_101 (by omega) (by omega)) (by omega) (by omega) ?_
    rw [cst_w1 (by unfold cR; omega)]
    refine v_iinc_2 dX9_fillMost_112 (by decide) rfl ?_
    rw [iadd_eq (x := k) (y := 1) (by unfold ok32; omega)]
    refine v_goto (tgt := 59) dX9_fillMost_115 (by decide) ?_
    exact ih (by omega) _ (WF_s hW (by omega)) (TB_s hT h12 (by omega)) (RB_s hR (by rw [wdM_s (i := i) (k := k) (by omega) (by omega) (by omega)]))

set_option maxHeartbeats 4000000 in
set_option maxRecDepth 100000 in
theorem lp_wfb {l : Launch} {G : GG} {d : Nat} {h : AH} {Q : Option AV → List Kd → AH → Prop} {cs : Int → List (Int × List Int)} {b : Int} (hd : 1 ≤ d) (I : CI h cs) (h12 : wdN h b ≤ 12) (hq : ∀ F', WF h b F' → TB h b 0 F' → Q none K0 (cst h F')) : ∀ k, 0 ≤ k → k ≤ wdN h b → ∀ F : AH, WF h b F → TB h b (wdN h b - k) F → V l G mX9_fillMost d 0 0 0 0 K0 44 [(2, 97), (0, wdN h b - 1 - k), (9, 0)] [] (cst h F) Q := by
  refine loop_m3 (fun k hk hkN ih F hW hT => ?_)
  refine v_iload_n dX9_fillMost_44 rfl ?_
  refine v_if_lt (tgt := 124) dX9_fillMost_45 (by decide) (fun c45_1 => ?_) (fun c45_1 => ?_)
  · refine v_vret dX9_fillMost_124 rfl (Nat.le_refl _) (Nat.le_refl _) ?_
    exact hq _ hW (by rw [show (0 : Int) = wdN h b - k by omega]; exact hT)
  · refine v_aload_n dX9_fillMost_48 rfl ?_
    refine v_getr (ci := 9) (j := 5) (ji := 5) (z := 101) dX9_fillMost_49 k_533 (by decide) kk_97 (by decide) rfl rfl (fun r => rt_97_5 (r rfl)) (by decide) ?_
    refine v_iload_n dX9_fillMost_52 rfl ?_
    refine v_aaload dX9_fillMost_53 (by decide) kk_101 (by omega) (by omega) (fun r => rb_101 (r rfl) (by omega) (by omega)) (by omega) ?_
    refine v_iconst dX9_fillMost_54 (c32 rfl) ?_
    refine v_iconst dX9_fillMost_55 (c32 rfl) ?_
    refine v_iastore dX9_fillMost_56 (by omega) (krow_101 (by omega) (by omega)) (by omega) (by omega) ?_
    rw [cst_w1 (by unfold cR; omega)]
    refine v_iconst dX9_fillMost_57 (c32 rfl) ?_
    refine v_istore_n_2 dX9_fillMost_58 (by decide) rfl ?_
    refine lp_wfc (i := (wdN h b - 1 - k)) hd I h12 ⟨by omega, by omega⟩ (fun F2 hW2 hT2 => ?_) 1 (by omega) (by omega) _ (WF_s hW (by omega)) (TB_s (by rw [show (wdN h b - 1 - k) + 1 = wdN h b - k by omega]; exact hT) h12 (by omega)) (RB_s RB_0 wdM_0.symm)
    refine v_iinc_1 dX9_fillMost_118 (by decide) rfl ?_
    rw [iadd_eq (x := (wdN h b - 1 - k)) (y := (-1)) (by unfold ok32; omega)]
    refine v_goto (tgt := 44) dX9_fillMost_121 (by decide) ?_
    rw [show (wdN h b - 1 - k) + (-1) = wdN h b - 1 - (k + 1) by omega]
    exact ih (by omega) _ hW2 (by rw [show wdN h b - (k + 1) = (wdN h b - 1 - k) by omega]; exact hT2)

set_option maxHeartbeats 4000000 in
set_option maxRecDepth 100000 in
theorem lp_wfa {l : Launch} {G : GG} {d : Nat} {h : AH} {Q : Option AV → List Kd → AH → Prop} {cs : Int → List (Int × List Int)} {b : Int} (hd : 1 ≤ d) (I : CI h cs) (h12 : wdN h b ≤ 12) (hq : ∀ F', WF h b F' → TB h b 0 F' → Q none K0 (cst h F')) : ∀ k, 0 ≤ k → k ≤ wdN h b + 1 → ∀ F : AH, WF h b F → RB h b (wdN h b) k F → V l G mX9_fillMost d 0 0 0 0 K0 2 [(2, 97), (0, k), (9, 0)] [] (cst h F) Q := by
  have n0 := (wdN_0 (b := b) I).1
  refine loop_m3 (fun k hk hkN ih F hW hR => ?_)
  refine v_iload_n dX9_fillMost_2 rfl ?_
  refine v_aload_n dX9_fillMost_3 rfl ?_
  refine v_getv (ci := 9) (j := 4) (ji := 4) (tg := 0) dX9_fillMost_4 k_532 (by decide) kk_97 (by decide) rfl rfl (by decide) ((cst_s (by decide)).trans (hW.1)) ?_
  refine v_icmp_gt (tgt := 37) dX9_fillMost_7 (by decide) (fun c7_1 => ?_) (fun c7_1 => ?_)
  · refine v_aload_n dX9_fillMost_37 rfl ?_
    refine v_getv (ci := 9) (j := 4) (ji := 4) (tg := 0) dX9_fillMost_38 k_532 (by decide) kk_97 (by decide) rfl rfl (by decide) ((cst_s (by decide)).trans (hW.1)) ?_
    refine v_iconst dX9_fillMost_41 (c32 rfl) ?_
    refine v_isubE dX9_fillMost_42 (by omega) ?_
    refine v_istore_n_1 dX9_fillMost_43 (by decide) rfl ?_
    obtain rfl : k = wdN h b + 1 := by omega
    rw [show wdN h b - 1 = wdN h b - 1 - 0 by omega]
    exact lp_wfb hd I h12 hq 0 (Int.le_refl _) n0 _ hW (fun i i0 i1 => by
      obtain rfl : i = wdN h b := by omega
      exact hR)
  · refine v_aload_n dX9_fillMost_10 rfl ?_
    refine v_getr (ci := 9) (j := 5) (ji := 5) (z := 101) dX9_fillMost_11 k_533 (by decide) kk_97 (by decide) rfl rfl (fun r => rt_97_5 (r rfl)) (by decide) ?_
    refine v_aload_n dX9_fillMost_14 rfl ?_
    refine v_getv (ci := 9) (j := 4) (ji := 4) (tg := 0) dX9_fillMost_15 k_532 (by decide) kk_97 (by decide) rfl rfl (by decide) ((cst_s (by decide)).trans (hW.1)) ?_
    refine v_aaload dX9_fillMost_18 (by decide) kk_101 (by omega) (by omega) (fun r => rb_101 (r rfl) (by omega) (by omega)) (by omega) ?_
    refine v_iload_n dX9_fillMost_19 rfl ?_
    refine v_iload_n dX9_fillMost_20 rfl ?_
    refine v_if_ne (tgt := 28) dX9_fillMost_21 (by decide) (fun c21_2 => ?_) (fun c21_2 => ?_)
    · refine v_ldc (n := -10000000) dX9_fillMost_28 k_1292 (c32 rfl) (by decide) ?_
      refine v_iastore dX9_fillMost_30 (by omega) (krow_101 (by omega) (by omega)) (by omega) (by omega) ?_
      rw [cst_w1 (by unfold cR; omega)]
      refine v_iinc_1 dX9_fillMost_31 (by decide) rfl ?_
      rw [iadd_eq (x := k) (y := 1) (by unfold ok32; omega)]
      refine v_goto (tgt := 2) dX9_fillMost_34 (by decide) ?_
      exact ih (by omega) _ (WF_s hW (by omega)) (RB_s hR (by rw [wdM_n (by omega)]))
    · refine v_iconst dX9_fillMost_24 (c32 rfl) ?_
      refine v_goto (tgt := 30) dX9_fillMost_25 (by decide) ?_
      refine v_iastore dX9_fillMost_30 (by omega) (krow_101 (by omega) (by omega)) (by omega) (by omega) ?_
      rw [cst_w1 (by unfold cR; omega)]
      refine v_iinc_1 dX9_fillMost_31 (by decide) rfl ?_
      rw [iadd_eq (x := k) (y := 1) (by unfold ok32; omega)]
      refine v_goto (tgt := 2) dX9_fillMost_34 (by decide) ?_
      exact ih (by omega) _ (WF_s hW (by omega)) (RB_s hR (by rw [c21_2, wdM_0]))

set_option maxHeartbeats 4000000 in
set_option maxRecDepth 100000 in
theorem s_cfill {l : Launch} {G : GG} {d : Nat} {h F : AH} {Q : Option AV → List Kd → AH → Prop} {cs : Int → List (Int × List Int)} {b : Int} (hd : 1 ≤ d) (I : CI h cs) (h12 : wdN h b ≤ 12) (hW : WF h b F) (hq : ∀ F', WF h b F' → TB h b 0 F' → Q none K0 (cst h F')) : Sp l G mX9_fillMost d 0 0 K0 [(2, 97)] (cst h F) Q := by
  refine sp_of (L := [(2, 97), (9, 0), (9, 0)]) pl_X9 (Nat.le_of_ble_eq_true rfl) (tg_c (by decide) tg_0) rfl ?_
  refine v_iconst dX9_fillMost_0 (c32 rfl) ?_
  refine v_istore_n_1 dX9_fillMost_1 (by decide) rfl ?_
  have n0 := (wdN_0 (b := b) I).1
  exact lp_wfa hd I h12 hq 0 (Int.le_refl _) (by omega) _ hW RB_0

set_option maxHeartbeats 4000000 in
set_option maxRecDepth 100000 in
theorem lp_wsum {l : Launch} {G : GG} {d : Nat} {h : AH} {Q : Option AV → List Kd → AH → Prop} {cs : Int → List (Int × List Int)} {F : AH} {b : Int} (hd : 1 ≤ d) (I : CI h cs) (h12 : wdN h b ≤ 12) (hW : WF h b F) (hq : Q (some (0, sm (fun i => wdW h b i) (wdN h b))) K0 (cst h F)) : ∀ k, 0 ≤ k → k ≤ wdN h b → V l G mX9_sumAsked d 0 0 0 0 K0 4 [(2, 97), (0, (sm (fun i => wdW h b i) k)), (0, k)] [] (cst h F) Q := by
  refine loop_m3 (fun k hk hkN ih => ?_)
  refine v_iload_n dX9_sumAsked_4 rfl ?_
  refine v_aload_n dX9_sumAsked_5 rfl ?_
  refine v_getv (ci := 9) (j := 4) (ji := 4) (tg := 0) dX9_sumAsked_6 k_532 (by decide) kk_97 (by decide) rfl rfl (by decide) ((cst_s (by decide)).trans (hW.1)) ?_
  refine v_icmp_ge (tgt := 32) dX9_sumAsked_9 (by decide) (fun c9_1 => ?_) (fun c9_1 => ?_)
  · refine v_iload_n dX9_sumAsked_32 rfl ?_
    refine v_ireti dX9_sumAsked_33 rfl (Nat.le_refl _) (Nat.le_refl _) ?_
    obtain rfl : k = wdN h b := by omega
    exact hq
  · have q8 := wdQ_r I (b := b) (i := k) (by omega) (by omega)
    have v8 := I.wo.2 _ q8.1 q8.2
    have w8 := I.wo.1
    have m8 := sm_rng (f := fun i => wdW h b i) (N := wdN h b) (B := 10000) (fun i i0 i1 => by have := wdW_r I i0 i1; omega) k hk hkN
    refine v_iload_n dX9_sumAsked_12 rfl ?_
    refine v_aload_n dX9_sumAsked_13 rfl ?_
    refine v_getr (ci := 9) (j := 1) (ji := 1) (z := 99) dX9_sumAsked_14 k_528 (by decide) kk_97 (by decide) rfl rfl (fun r => rt_97_1 (r rfl)) (by decide) ?_
    refine v_aload_n dX9_sumAsked_17 rfl ?_
    refine v_getr (ci := 9) (j := 3) (ji := 3) (z := 100) dX9_sumAsked_18 k_531 (by decide) kk_97 (by decide) rfl rfl (fun r => rt_97_3 (r rfl)) (by decide) ?_
    refine v_iload_n dX9_sumAsked_21 rfl ?_
    refine v_ialoadv dX9_sumAsked_22 (by decide) kk_100 (by omega) (by omega) ((cst_m (by decide)).trans ((hW.2 k (by omega) (by omega)))) ?_
    refine v_ialoadv dX9_sumAsked_23 (by decide) kk_99 (by omega) (by omega) ((cst_n (by decide)).trans ((congrFun I.e99 (wdQ h b k)))) ?_
    refine v_iaddE dX9_sumAsked_24 (by omega) ?_
    refine v_istore_n_1 dX9_sumAsked_25 (by decide) rfl ?_
    refine v_iinc_2 dX9_sumAsked_26 (by decide) rfl ?_
    rw [iadd_eq (x := k) (y := 1) (by unfold ok32; omega)]
    refine v_goto (tgt := 4) dX9_sumAsked_29 (by decide) ?_
    rw [show (sm (fun i => wdW h b i) k) + h 175 (wdQ h b k) = sm (fun i => wdW h b i) (k + 1) from (sm_s hk).symm]
    exact ih (by omega)

set_option maxHeartbeats 4000000 in
set_option maxRecDepth 100000 in
theorem s_csum9 {l : Launch} {G : GG} {d : Nat} {h F : AH} {Q : Option AV → List Kd → AH → Prop} {cs : Int → List (Int × List Int)} {b : Int} (hd : 1 ≤ d) (I : CI h cs) (h12 : wdN h b ≤ 12) (hW : WF h b F) (hq : Q (some (0, sm (fun i => wdW h b i) (wdN h b))) K0 (cst h F)) : Sp l G mX9_sumAsked d 0 0 K0 [(2, 97)] (cst h F) Q := by
  refine sp_of (L := [(2, 97), (9, 0), (9, 0)]) pl_X9 (Nat.le_of_ble_eq_true rfl) (tg_c (by decide) tg_0) rfl ?_
  refine v_iconst dX9_sumAsked_0 (c32 rfl) ?_
  refine v_istore_n_1 dX9_sumAsked_1 (by decide) rfl ?_
  refine v_iconst dX9_sumAsked_2 (c32 rfl) ?_
  refine v_istore_n_2 dX9_sumAsked_3 (by decide) rfl ?_
  exact lp_wsum hd I h12 hW hq 0 (Int.le_refl _) (wdN_0 I).1

set_option maxHeartbeats 4000000 in
set_option maxRecDepth 100000 in
theorem lp_wgre {l : Launch} {G : GG} {d : Nat} {h : AH} {Q : Option AV → List Kd → AH → Prop} {cs : Int → List (Int × List Int)} {b : Int} (hd : 2 ≤ d) (I : CI h cs) (h12 : wdN h b ≤ 12) (hq : ∀ F', F' 97 7 = pkC (wdC h b) (wdN h b) → PQw h b (wdN h b) (F' 115) → Q none K0 (cst h F')) : ∀ i, 0 ≤ i → i ≤ wdN h b → ∀ (F : AH) (t x : Int), WF h b F → TB h b 0 F → F 97 7 = (pkC (wdC h b) i) → PQw h b i (F 115) → (0 ≤ t ∧ t ≤ wdN h b) → wdI h b i t x → (-10000 - 10000 * i ≤ x ∧ x ≤ 120000) → V l G mX9_strikeFewest d 0 0 0 0 K0 47 [(2, 97), (0, h 132 b), (0, x), (0, t), (0, i), (9, 0)] [] (cst h F) Q := by
  refine loop_m3 (fun i hi hiN ih F t x hW hT hc hP ⟨ht, htN⟩ hI hx => ?_)
  refine v_iload dX9_strikeFewest_47 rfl ?_
  refine v_aload_n dX9_strikeFewest_49 rfl ?_
  refine v_getv (ci := 9) (j := 4) (ji := 4) (tg := 0) dX9_strikeFewest_50 k_532 (by decide) kk_97 (by decide) rfl rfl (by decide) ((cst_s (by decide)).trans (hW.1)) ?_
  refine v_icmp_ge (tgt := 134) dX9_strikeFewest_53 (by decide) (fun c53_1 => ?_) (fun c53_1 => ?_)
  · refine v_vret dX9_strikeFewest_134 rfl (Nat.le_refl _) (Nat.le_refl _) ?_
    obtain rfl : i = wdN h b := by omega
    exact hq _ hc hP
  · refine v_iload_n dX9_strikeFewest_56 rfl ?_
    refine v_if_le (tgt := 134) dX9_strikeFewest_57 (by decide) (fun c57_2 => ?_) (fun c57_2 => ?_)
    · refine v_vret dX9_strikeFewest_134 rfl (Nat.le_refl _) (Nat.le_refl _) ?_
      obtain rfl : t = 0 := by omega
      have nz := wdI_z hI hi
      exact hq _ (by rw [hc, pkC_z hi hiN nz]) (fun j j0 j1 c => by
        by_cases z : j < i
        · exact hP j j0 z c
        · exact absurd c (nz j (by omega) j1))
    · have q8 := wdQ_r I (b := b) (i := i) (by omega) (by omega)
      have v8 := I.wo.2 _ q8.1 q8.2
      have w8 := I.wo.1
      have i1 : i < wdN h b := by omega
      have m8 := wdM_r I (b := b) (i := i + 1) (k := t - 1) (by omega) h12
      have c8 := pkC_r (c := wdC h b) hi
      have eW : wdW h b i = h 175 (wdQ h b i) := rfl
      refine v_aload_n dX9_strikeFewest_60 rfl ?_
      refine v_getr (ci := 9) (j := 1) (ji := 1) (z := 99) dX9_strikeFewest_61 k_528 (by decide) kk_97 (by decide) rfl rfl (fun r => rt_97_1 (r rfl)) (by decide) ?_
      refine v_aload_n dX9_strikeFewest_64 rfl ?_
      refine v_getr (ci := 9) (j := 3) (ji := 3) (z := 100) dX9_strikeFewest_65 k_531 (by decide) kk_97 (by decide) rfl rfl (fun r => rt_97_3 (r rfl)) (by decide) ?_
      refine v_iload dX9_strikeFewest_68 rfl ?_
      refine v_ialoadv dX9_strikeFewest_70 (by decide) kk_100 (by omega) (by omega) ((cst_m (by decide)).trans ((hW.2 i (by omega) (by omega)))) ?_
      refine v_ialoadv dX9_strikeFewest_71 (by decide) kk_99 (by omega) (by omega) ((cst_n (by decide)).trans ((congrFun I.e99 (wdQ h b i)))) ?_
      refine v_istore_5 dX9_strikeFewest_72 (by decide) rfl ?_
      refine v_iload dX9_strikeFewest_74 rfl ?_
      refine v_aload_n dX9_strikeFewest_76 rfl ?_
      refine v_getr (ci := 9) (j := 5) (ji := 5) (z := 101) dX9_strikeFewest_77 k_533 (by decide) kk_97 (by decide) rfl rfl (fun r => rt_97_5 (r rfl)) (by decide) ?_
      refine v_iload dX9_strikeFewest_80 rfl ?_
      refine v_iconst dX9_strikeFewest_82 (c32 rfl) ?_
      refine v_iaddE dX9_strikeFewest_83 (by omega) ?_
      refine v_aaload dX9_strikeFewest_84 (by decide) kk_101 (by omega) (by omega) (fun r => rb_101 (r rfl) (by omega) (by omega)) (by omega) ?_
      refine v_iload_n dX9_strikeFewest_85 rfl ?_
      refine v_iconst dX9_strikeFewest_86 (c32 rfl) ?_
      refine v_isubE dX9_strikeFewest_87 (by omega) ?_
      refine v_ialoadv dX9_strikeFewest_88 (by omega) (krow_101 (by omega) (by omega)) (by omega) (by omega) ((cst_m (by unfold cR; omega)).trans ((hT (i + 1) (by omega) (by omega) (t - 1) (by omega) (by omega)))) ?_
      refine v_iaddE dX9_strikeFewest_89 (by omega) ?_
      refine v_iload_n dX9_strikeFewest_90 rfl ?_
      refine v_icmp_lt (tgt := 128) dX9_strikeFewest_91 (by decide) (fun c91_3 => ?_) (fun c91_3 => ?_)
      · refine v_iinc_4 dX9_strikeFewest_128 (by decide) rfl ?_
        rw [iadd_eq (x := i) (y := 1) (by unfold ok32; omega)]
        refine v_goto (tgt := 47) dX9_strikeFewest_131 (by decide) ?_
        obtain ⟨nc, iI⟩ := wdI_2 hI hi i1 ht (by omega)
        refine v_loc (lo_k (lo_k (lo_k (lo_k (lo_k (lo_d lo_nil)))))) ?_
        exact ih (by omega) _ _ _ hW hT (by rw [pkC_0 hi nc]; exact hc) (PQw_0 hP nc) ⟨ht, htN⟩ iI (by omega)
      · refine v_aload_n dX9_strikeFewest_94 rfl ?_
        refine v_getr (ci := 9) (j := 6) (ji := 6) (z := 115) dX9_strikeFewest_95 k_534 (by decide) kk_97 (by decide) rfl rfl (fun r => rt_97_6 (r rfl)) (by decide) ?_
        refine v_aload_n dX9_strikeFewest_98 rfl ?_
        refine v_getv (ci := 9) (j := 7) (ji := 7) (tg := 0) dX9_strikeFewest_99 k_535 (by decide) kk_97 (by decide) rfl rfl (by decide) ((cst_s (by decide)).trans (hc)) ?_
        refine v_aload_n dX9_strikeFewest_102 rfl ?_
        refine v_getr (ci := 9) (j := 3) (ji := 3) (z := 100) dX9_strikeFewest_103 k_531 (by decide) kk_97 (by decide) rfl rfl (fun r => rt_97_3 (r rfl)) (by decide) ?_
        refine v_iload dX9_strikeFewest_106 rfl ?_
        refine v_ialoadv dX9_strikeFewest_108 (by decide) kk_100 (by omega) (by omega) ((cst_m (by decide)).trans ((hW.2 i (by omega) (by omega)))) ?_
        refine v_iastore dX9_strikeFewest_109 (by decide) kk_115 (by omega) (by omega) ?_
        rw [cst_w1 (by decide)]
        refine v_aload_n dX9_strikeFewest_110 rfl ?_
        refine v_dup dX9_strikeFewest_111 rfl ?_
        refine v_getv (ci := 9) (j := 7) (ji := 7) (tg := 0) dX9_strikeFewest_112 k_535 (by decide) kk_97 (by decide) rfl rfl (by decide) ((cst_s (by decide)).trans ((hset_c (by decide)).trans (hc))) ?_
        refine v_iconst dX9_strikeFewest_115 (c32 rfl) ?_
        refine v_iaddE dX9_strikeFewest_116 (by omega) ?_
        refine v_puti (ci := 9) (j := 7) (ji := 7) dX9_strikeFewest_117 k_535 (by decide) kk_97 (by decide) rfl rfl rfl ?_
        rw [cst_w (by decide)]
        refine v_iinc_3 dX9_strikeFewest_120 (by decide) rfl ?_
        rw [iadd_eq (x := t) (y := (-1)) (by unfold ok32; omega)]
        refine v_iload_n dX9_strikeFewest_123 rfl ?_
        refine v_iload dX9_strikeFewest_124 rfl ?_
        refine v_isubE dX9_strikeFewest_126 (by omega) ?_
        refine v_istore_n_2 dX9_strikeFewest_127 (by decide) rfl ?_
        refine v_iinc_4 dX9_strikeFewest_128 (by decide) rfl ?_
        rw [iadd_eq (x := i) (y := 1) (by unfold ok32; omega)]
        refine v_goto (tgt := 47) dX9_strikeFewest_131 (by decide) ?_
        obtain ⟨yc, iI⟩ := wdI_1 hI hi i1 (by omega) (by omega)
        rw [show t + (-1) = t - 1 by omega]
        refine v_loc (lo_k (lo_k (lo_k (lo_k (lo_k (lo_d lo_nil)))))) ?_
        exact ih (by omega) _ _ _ (WF_s (WF_s hW (by omega)) (by omega)) (TB_s (TB_s hT h12 (by omega)) h12 (by omega)) (by rw [hset_same, pkC_1 hi yc]) (by rw [hset_r (by decide), hset_f]; exact PQw_1 hP) (by omega) iI (by omega)

set_option maxHeartbeats 4000000 in
set_option maxRecDepth 100000 in
theorem lp_wmany {l : Launch} {G : GG} {d : Nat} {h : AH} {Q : Option AV → List Kd → AH → Prop} {cs : Int → List (Int × List Int)} {F : AH} {b : Int} (hd : 2 ≤ d) (I : CI h cs) (h12 : wdN h b ≤ 12) (hb : 0 ≤ b ∧ b < h 116 45) (hW : WF h b F) (hT : TB h b 0 F) (hq : ∀ F', F' 97 7 = pkC (wdC h b) (wdN h b) → PQw h b (wdN h b) (F' 115) → Q none K0 (cst h F')) : ∀ k, 0 ≤ k → k ≤ wdN h b → (∀ j, 0 ≤ j → j < k → wdM h b 0 j < wdE h b) → V l G mX9_strikeFewest d 0 0 0 0 K0 13 [(2, 97), (0, h 132 b), (0, wdE h b), (0, k), (9, 0), (9, 0)] [] (cst h F) Q := by
  refine loop_m3 (fun k hk hkN ih ha => ?_)
  refine v_iload_n dX9_strikeFewest_13 rfl ?_
  refine v_aload_n dX9_strikeFewest_14 rfl ?_
  refine v_getv (ci := 9) (j := 4) (ji := 4) (tg := 0) dX9_strikeFewest_15 k_532 (by decide) kk_97 (by decide) rfl rfl (by decide) ((cst_s (by decide)).trans (hW.1)) ?_
  refine v_icmp_ge (tgt := 39) dX9_strikeFewest_18 (by decide) (fun c18_1 => ?_) (fun c18_1 => ?_)
  · refine v_aload_n dX9_strikeFewest_39 rfl ?_
    refine v_iconst dX9_strikeFewest_40 (c32 rfl) ?_
    refine v_puti (ci := 9) (j := 7) (ji := 7) dX9_strikeFewest_41 k_535 (by decide) kk_97 (by decide) rfl rfl rfl ?_
    rw [cst_w (by decide)]
    refine v_iconst dX9_strikeFewest_44 (c32 rfl) ?_
    refine v_istore_4 dX9_strikeFewest_45 (by decide) rfl ?_
    have kK := wdK_u hk hkN ha (Or.inl (by omega))
    have i9 := wdI_0 (b := b) I
    rw [kK] at i9
    have er := wdE_r I h12 hb
    exact lp_wgre hd I h12 hq 0 (Int.le_refl _) (by omega) _ _ _ (WF_s hW (by omega)) (TB_s hT h12 (by omega)) (hset_same _ _ _ _) (fun j j0 j1 => by omega) ⟨hk, hkN⟩ i9 (by omega)
  · refine v_aload_n dX9_strikeFewest_21 rfl ?_
    refine v_getr (ci := 9) (j := 5) (ji := 5) (z := 101) dX9_strikeFewest_22 k_533 (by decide) kk_97 (by decide) rfl rfl (fun r => rt_97_5 (r rfl)) (by decide) ?_
    refine v_iconst dX9_strikeFewest_25 (c32 rfl) ?_
    refine v_aaload dX9_strikeFewest_26 (by decide) kk_101 (by omega) (by omega) (fun r => rb_101 (r rfl) (by omega) (by omega)) (by omega) ?_
    refine v_iload_n dX9_strikeFewest_27 rfl ?_
    refine v_ialoadv dX9_strikeFewest_28 (by omega) (krow_101 (by omega) (by omega)) (by omega) (by omega) ((cst_m (by unfold cR; omega)).trans ((hT 0 (by omega) (by omega) k (by omega) (by omega)))) ?_
    refine v_iload_n dX9_strikeFewest_29 rfl ?_
    refine v_icmp_ge (tgt := 39) dX9_strikeFewest_30 (by decide) (fun c30_2 => ?_) (fun c30_2 => ?_)
    · refine v_aload_n dX9_strikeFewest_39 rfl ?_
      refine v_iconst dX9_strikeFewest_40 (c32 rfl) ?_
      refine v_puti (ci := 9) (j := 7) (ji := 7) dX9_strikeFewest_41 k_535 (by decide) kk_97 (by decide) rfl rfl rfl ?_
      rw [cst_w (by decide)]
      refine v_iconst dX9_strikeFewest_44 (c32 rfl) ?_
      refine v_istore_4 dX9_strikeFewest_45 (by decide) rfl ?_
      have kK := wdK_u hk hkN ha (Or.inr (by omega))
      have i9 := wdI_0 (b := b) I
      rw [kK] at i9
      have er := wdE_r I h12 hb
      exact lp_wgre hd I h12 hq 0 (Int.le_refl _) (by omega) _ _ _ (WF_s hW (by omega)) (TB_s hT h12 (by omega)) (hset_same _ _ _ _) (fun j j0 j1 => by omega) ⟨hk, hkN⟩ i9 (by omega)
    · refine v_iinc_3 dX9_strikeFewest_33 (by decide) rfl ?_
      rw [iadd_eq (x := k) (y := 1) (by unfold ok32; omega)]
      refine v_goto (tgt := 13) dX9_strikeFewest_36 (by decide) ?_
      exact ih (by omega) (fun j j0 j1 => by
        by_cases z : j = k
        · rw [z]; assumption
        · exact ha j j0 (by omega))

set_option maxHeartbeats 4000000 in
set_option maxRecDepth 100000 in
theorem s_cstrF {l : Launch} {G : GG} {d : Nat} {h F : AH} {Q : Option AV → List Kd → AH → Prop} {cs : Int → List (Int × List Int)} {b : Int} (hd : 2 ≤ d) (I : CI h cs) (h12 : wdN h b ≤ 12) (hb : 0 ≤ b ∧ b < h 116 45) (hW : WF h b F) (hq : ∀ F', F' 97 7 = pkC (wdC h b) (wdN h b) → PQw h b (wdN h b) (F' 115) → Q none K0 (cst h F')) : Sp l G mX9_strikeFewest d 0 0 K0 [(2, 97), (0, h 132 b)] (cst h F) Q := by
  refine sp_of (L := [(2, 97), (0, h 132 b), (9, 0), (9, 0), (9, 0), (9, 0)]) pl_X9 (Nat.le_of_ble_eq_true rfl) (tg_c (by decide) (tg_c (by decide) tg_0)) rfl ?_
  refine v_aload_n dX9_strikeFewest_0 rfl ?_
  refine v_callv (M' := mX9_fillMost) (d' := d - 1) (mc' := 0) (ms' := 0) (ci := 9) (c := 97) (As := []) dX9_strikeFewest_1 k_1288 cm_X9_fillMost rfl (by omega) (by decide) kk_97 (Nat.le_of_ble_eq_true rfl) rfl ⟨Nat.le_refl _, Nat.le_refl _⟩ ?_
  refine s_cfill (by omega) I h12 hW (fun xf_2 c1_1 c1_2 => ?_)
  dsimp only [Option.toList, List.cons_append, List.nil_append, Nat.add_zero]
  refine v_aload_n dX9_strikeFewest_4 rfl ?_
  refine v_callv (M' := mX9_sumAsked) (d' := d - 1) (mc' := 0) (ms' := 0) (ci := 9) (c := 97) (As := []) dX9_strikeFewest_5 k_1294 cm_X9_sumAsked rfl (by omega) (by decide) kk_97 (Nat.le_of_ble_eq_true rfl) rfl ⟨Nat.le_refl _, Nat.le_refl _⟩ ?_
  refine s_csum9 (b := b) (by omega) I h12 c1_1 ?_
  dsimp only [Option.toList, List.cons_append, List.nil_append, Nat.add_zero]
  refine v_iload_n dX9_strikeFewest_8 rfl ?_
  have er := wdE_r I h12 hb
  unfold wdE at er
  have ma := I.W.ma b hb.1 hb.2
  have n0 := (wdN_0 (b := b) I).1
  refine v_isubE dX9_strikeFewest_9 (by omega) ?_
  refine v_istore_n_2 dX9_strikeFewest_10 (by decide) rfl ?_
  refine v_iconst dX9_strikeFewest_11 (c32 rfl) ?_
  refine v_istore_n_3 dX9_strikeFewest_12 (by decide) rfl ?_
  exact lp_wmany hd I h12 hb c1_1 c1_2 hq 0 (Int.le_refl _) n0 (fun j j0 j1 => by omega)

