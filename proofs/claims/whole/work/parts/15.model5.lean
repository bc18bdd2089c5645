/-! ===== the reference: loops that write (written by wip/whole/p15.py) ===== -/
set_option maxHeartbeats 4000000 in
set_option maxRecDepth 100000 in
theorem lp_X12_clear0_2 {l : Launch} {G : GG} {d : Nat} {h : AH} {Q : Option AV → List Kd → AH → Prop} (hd : 1 ≤ d)  (hq : Q none K0 (hfil h 126 128 0)) : ∀ k, 0 ≤ k → k ≤ 128 → V l G mX12_clear0 d 0 0 0 0 K0 2 [(2, 116), (0, k)] [] (hfil h 126 k 0) Q := by
  refine loop_m3 (fun k hk hkN ih => ?_)
  refine v_iload_n dX12_clear0_2 rfl ?_
  refine v_sipush dX12_clear0_3 (c32 rfl) (by decide) ?_
  refine v_icmp_ge (tgt := 22) dX12_clear0_6 (by decide) (fun c6_1 => ?_) (fun c6_1 => ?_)
  · obtain rfl : k = 128 := by omega
    refine v_vret dX12_clear0_22 rfl (Nat.le_refl _) (Nat.le_refl _) ?_
    exact hq
  · refine v_aload_n dX12_clear0_9 rfl ?_
    refine v_getr (ci := 12) (j := 11) (ji := 11) (z := 126) dX12_clear0_10 k_1427 (by decide) kk_116 (by decide) rfl rfl (fun r => rt_116_11 (r rfl)) (by decide) ?_
    refine v_iload_n dX12_clear0_13 rfl ?_
    refine v_iconst dX12_clear0_14 (c32 rfl) ?_
    refine v_iastore dX12_clear0_15 (by decide) kk_126 (by omega) (by omega) ?_
    refine v_iinc_1 dX12_clear0_16 (by decide) rfl ?_
    rw [iadd_eq (x := k) (y := 1) (by unfold ok32; omega)]
    refine v_goto (tgt := 2) dX12_clear0_19 (by decide) ?_
    have ih := ih (by omega)
    have eh : (hfil h 126 (k + 1) 0) = (hset (hfil h 126 k 0) 126 k 0) := by exact hfil_s hk
    rw [eh] at ih
    exact ih

set_option maxHeartbeats 4000000 in
set_option maxRecDepth 100000 in
theorem s_X12_clear0 {l : Launch} {G : GG} {d : Nat} {h : AH} {Q : Option AV → List Kd → AH → Prop} (hd : 1 ≤ d)  (hq : Q none K0 (hfil h 126 128 0)) : Sp l G mX12_clear0 d 0 0 K0 [(2, 116)] h Q := by
  refine sp_of (L := [(2, 116), (9, 0)]) pl_X12 (Nat.le_of_ble_eq_true rfl) (tg_c (by decide) tg_0) rfl ?_
  refine v_iconst dX12_clear0_0 (c32 rfl) ?_
  refine v_istore_n_1 dX12_clear0_1 (by decide) rfl ?_
  have q := lp_X12_clear0_2 (l := l) (G := G) hd hq 0 (by omega) (by omega)
  rw [hfil_0] at q
  exact q

set_option maxHeartbeats 4000000 in
set_option maxRecDepth 100000 in
theorem lp_X12_clear_12 {l : Launch} {G : GG} {d : Nat} {h : AH} {Q : Option AV → List Kd → AH → Prop} {n : Int} (hd : 1 ≤ d) (hN : (h 116 46) = n) (c0 : n ≤ 6) (e0 : ∀ j, 0 ≤ j → j < n → 0 ≤ (h 140 j) ∧ (h 140 j) < 100) (hq : Q (some (0, n)) K0 (hset (clrH h 140 141 133 n) 116 46 0)) : ∀ k, 0 ≤ k → k ≤ n → V l G mX12_clear d 0 0 0 0 K0 12 [(2, 116), (0, n), (0, k)] [] (clrH h 140 141 133 k) Q := by
  refine loop_m3 (fun k hk hkN ih => ?_)
  refine v_iload_n dX12_clear_12 rfl ?_
  refine v_aload_n dX12_clear_13 rfl ?_
  refine v_getv (ci := 12) (j := 46) (ji := 46) (tg := 0) dX12_clear_14 k_1462 (by decide) kk_116 (by decide) rfl rfl (by decide) ((clrH_c (by decide)).trans (hN)) ?_
  refine v_icmp_ge (tgt := 46) dX12_clear_17 (by decide) (fun c17_1 => ?_) (fun c17_1 => ?_)
  · obtain rfl : k = n := by omega
    refine v_aload_n dX12_clear_46 rfl ?_
    refine v_iconst dX12_clear_47 (c32 rfl) ?_
    refine v_puti (ci := 12) (j := 46) (ji := 46) dX12_clear_48 k_1462 (by decide) kk_116 (by decide) rfl rfl rfl ?_
    refine v_iload_n dX12_clear_51 rfl ?_
    refine v_ireti dX12_clear_52 rfl (Nat.le_refl _) (Nat.le_refl _) ?_
    exact hq
  · have e1 := e0 k hk (by omega)
    refine v_aload_n dX12_clear_20 rfl ?_
    refine v_getr (ci := 12) (j := 30) (ji := 30) (z := 133) dX12_clear_21 k_1446 (by decide) kk_116 (by decide) rfl rfl (fun r => rt_116_30 (r rfl)) (by decide) ?_
    refine v_aload_n dX12_clear_24 rfl ?_
    refine v_getr (ci := 12) (j := 37) (ji := 37) (z := 140) dX12_clear_25 k_1453 (by decide) kk_116 (by decide) rfl rfl (fun r => rt_116_37 (r rfl)) (by decide) ?_
    refine v_iload_n dX12_clear_28 rfl ?_
    refine v_ialoadv dX12_clear_29 (by decide) kk_140 (by omega) (by omega) (clrH_c (by decide)) ?_
    refine v_dup2 dX12_clear_30 rfl rfl ?_
    refine v_iaload dX12_clear_31 (by decide) kk_133 (by omega) (by omega) ?_
    refine v_aload_n dX12_clear_32 rfl ?_
    refine v_getr (ci := 12) (j := 38) (ji := 38) (z := 141) dX12_clear_33 k_1454 (by decide) kk_116 (by decide) rfl rfl (fun r => rt_116_38 (r rfl)) (by decide) ?_
    refine v_iload_n dX12_clear_36 rfl ?_
    refine v_ialoadv dX12_clear_37 (by decide) kk_141 (by omega) (by omega) (clrH_c (by decide)) ?_
    refine v_iadd dX12_clear_38 ?_
    refine v_iastore dX12_clear_39 (by decide) kk_133 (by omega) (by omega) ?_
    refine v_iinc_2 dX12_clear_40 (by decide) rfl ?_
    rw [iadd_eq (x := k) (y := 1) (by unfold ok32; omega)]
    refine v_goto (tgt := 12) dX12_clear_43 (by decide) ?_
    have ih := ih (by omega)
    have eh : (clrH h 140 141 133 (k + 1)) = (hset (clrH h 140 141 133 k) 133 (h 140 k) (iadd ((clrH h 140 141 133 k) 133 (h 140 k)) (h 141 k))) := by exact clrH_s hk
    rw [eh] at ih
    exact ih

set_option maxHeartbeats 4000000 in
set_option maxRecDepth 100000 in
theorem s_X12_clear {l : Launch} {G : GG} {d : Nat} {h : AH} {Q : Option AV → List Kd → AH → Prop} (hd : 1 ≤ d) (z0 : 0 ≤ (h 116 46)) (c0 : (h 116 46) ≤ 6) (e0 : ∀ j, 0 ≤ j → j < (h 116 46) → 0 ≤ (h 140 j) ∧ (h 140 j) < 100) (hq : Q (some (0, (h 116 46))) K0 (hset (clrH (hset h 116 0 0) 140 141 133 (h 116 46)) 116 46 0)) : Sp l G mX12_clear d 0 0 K0 [(2, 116)] h Q := by
  refine sp_of (L := [(2, 116), (9, 0), (9, 0)]) pl_X12 (Nat.le_of_ble_eq_true rfl) (tg_c (by decide) tg_0) rfl ?_
  refine v_aload_n dX12_clear_0 rfl ?_
  refine v_iconst dX12_clear_1 (c32 rfl) ?_
  refine v_puti (ci := 12) (j := 0) (ji := 0) dX12_clear_2 k_1416 (by decide) kk_116 (by decide) rfl rfl rfl ?_
  refine v_aload_n dX12_clear_5 rfl ?_
  refine v_getv (ci := 12) (j := 46) (ji := 46) (tg := 0) dX12_clear_6 k_1462 (by decide) kk_116 (by decide) rfl rfl (by decide) (hset_j (by decide)) ?_
  refine v_istore_n_1 dX12_clear_9 (by decide) rfl ?_
  refine v_iconst dX12_clear_10 (c32 rfl) ?_
  refine v_istore_n_2 dX12_clear_11 (by decide) rfl ?_
  exact lp_X12_clear_12 (l := l) (G := G) (h := (hset h 116 0 0)) hd (hset_j (by decide)) c0 (by rw [hset_r (by decide)]; exact e0) hq 0 (by omega) z0

set_option maxHeartbeats 4000000 in
set_option maxRecDepth 100000 in
theorem lp_X12_offers_7 {l : Launch} {G : GG} {d : Nat} {h : AH} {Q : Option AV → List Kd → AH → Prop} (hd : 1 ≤ d)  (hq : Q none K0 (hfil h 167 4 0)) : ∀ k, 0 ≤ k → k ≤ 4 → V l G mX12_offers d 0 0 0 0 K0 7 [(2, 116), (0, k)] [] (hfil h 167 k 0) Q := by
  refine loop_m3 (fun k hk hkN ih => ?_)
  refine v_iload_n dX12_offers_7 rfl ?_
  refine v_iconst dX12_offers_8 (c32 rfl) ?_
  refine v_icmp_ge (tgt := 25) dX12_offers_9 (by decide) (fun c9_1 => ?_) (fun c9_1 => ?_)
  · obtain rfl : k = 4 := by omega
    refine v_vret dX12_offers_25 rfl (Nat.le_refl _) (Nat.le_refl _) ?_
    exact hq
  · refine v_aload_n dX12_offers_12 rfl ?_
    refine v_getr (ci := 12) (j := 72) (ji := 72) (z := 167) dX12_offers_13 k_1488 (by decide) kk_116 (by decide) rfl rfl (fun r => rt_116_72 (r rfl)) (by decide) ?_
    refine v_iload_n dX12_offers_16 rfl ?_
    refine v_iconst dX12_offers_17 (c32 rfl) ?_
    refine v_iastore dX12_offers_18 (by decide) kk_167 (by omega) (by omega) ?_
    refine v_iinc_1 dX12_offers_19 (by decide) rfl ?_
    rw [iadd_eq (x := k) (y := 1) (by unfold ok32; omega)]
    refine v_goto (tgt := 7) dX12_offers_22 (by decide) ?_
    have ih := ih (by omega)
    have eh : (hfil h 167 (k + 1) 0) = (hset (hfil h 167 k 0) 167 k 0) := by exact hfil_s hk
    rw [eh] at ih
    exact ih

set_option maxHeartbeats 4000000 in
set_option maxRecDepth 100000 in
theorem s_X12_offers {l : Launch} {G : GG} {d : Nat} {h : AH} {Q : Option AV → List Kd → AH → Prop} (hd : 1 ≤ d)  (hq : Q none K0 (hfil (hset h 116 0 0) 167 4 0)) : Sp l G mX12_offers d 0 0 K0 [(2, 116)] h Q := by
  refine sp_of (L := [(2, 116), (9, 0)]) pl_X12 (Nat.le_of_ble_eq_true rfl) (tg_c (by decide) tg_0) rfl ?_
  refine v_aload_n dX12_offers_0 rfl ?_
  refine v_iconst dX12_offers_1 (c32 rfl) ?_
  refine v_puti (ci := 12) (j := 0) (ji := 0) dX12_offers_2 k_1416 (by decide) kk_116 (by decide) rfl rfl rfl ?_
  refine v_iconst dX12_offers_5 (c32 rfl) ?_
  refine v_istore_n_1 dX12_offers_6 (by decide) rfl ?_
  have q := lp_X12_offers_7 (l := l) (G := G) (h := (hset h 116 0 0)) hd hq 0 (by omega) (by omega)
  rw [hfil_0] at q
  exact q

