/-! ===== sourcing: the class's rate (written by wip/whole/p63.py) ===== -/
theorem fin39 {F : AH} {a f k b s H pr p L : Int} {lt : Int → Int} (e0 : lt 0 = shr a p) (e1 : lt 1 = shr f p) (e2 : lt 2 = shr k p) (e3 : lt 3 = shr b p) (e4 : lt 4 = s) (e5 : lt 5 = H) (e6 : lt 6 = pr) (e7 : lt 7 = 0) : ∀ i, 0 ≤ i → i < 8 → lfs (hset (hset (hset (hset (hset (hset (hset (hset F 39 0 (shr a p)) 39 1 (shr f p)) 39 2 (shr k p)) 39 3 (shr b p)) 39 4 s) 39 5 H) 39 6 pr) 39 7 0) L H a f k b s 39 i = lt i := by
  intro i i0 i1
  rw [lfs_c (by decide)]
  rcases (show i = 0 ∨ i = 1 ∨ i = 2 ∨ i = 3 ∨ i = 4 ∨ i = 5 ∨ i = 6 ∨ i = 7 by omega) with rfl | rfl | rfl | rfl | rfl | rfl | rfl | rfl
  · rw [hset_j (by decide), hset_j (by decide), hset_j (by decide), hset_j (by decide), hset_j (by decide), hset_j (by decide), hset_j (by decide), hset_same, e0]
  · rw [hset_j (by decide), hset_j (by decide), hset_j (by decide), hset_j (by decide), hset_j (by decide), hset_j (by decide), hset_same, e1]
  · rw [hset_j (by decide), hset_j (by decide), hset_j (by decide), hset_j (by decide), hset_j (by decide), hset_same, e2]
  · rw [hset_j (by decide), hset_j (by decide), hset_j (by decide), hset_j (by decide), hset_same, e3]
  · rw [hset_j (by decide), hset_j (by decide), hset_j (by decide), hset_same, e4]
  · rw [hset_j (by decide), hset_j (by decide), hset_same, e5]
  · rw [hset_j (by decide), hset_same, e6]
  · rw [hset_same, e7]
theorem Fr_fin {F : AH} {a f k b s H pr p L : Int} : Fr 2 F (lfs (hset (hset (hset (hset (hset (hset (hset (hset F 39 0 (shr a p)) 39 1 (shr f p)) 39 2 (shr k p)) 39 3 (shr b p)) 39 4 s) 39 5 H) 39 6 pr) 39 7 0) L H a f k b s) := Fr_t (Fr_w (Fr_w (Fr_w (Fr_w (Fr_w (Fr_w (Fr_w (Fr_w (Fr_0) (by decide)) (by decide)) (by decide)) (by decide)) (by decide)) (by decide)) (by decide)) (by decide)) Fr_lfs
section OLT
variable {h : AH} {cs : Int → List (Int × List Int)} {g : GD} {w : Int} {t : Int → Int}
theorem oLt_0 : oLt h g w t 0 = shr (sm (cV h t) (npF (h 167))) g.2.2.2.1 := rfl
theorem oLt_1 : oLt h g w t 1 = shr (sm (cO h w t) (npF (h 167))) g.2.2.2.1 := rfl
theorem oLt_2 : oLt h g w t 2 = shr (sm (cK h g w t) (npF (h 167))) g.2.2.2.1 := rfl
theorem oLt_3 : oLt h g w t 3 = shr (sm (cB h g w t) (npF (h 167))) g.2.2.2.1 := rfl
theorem oLt_4 : oLt h g w t 4 = sm (cC h w t) (npF (h 167)) := rfl
theorem oLt_5 : oLt h g w t 5 = g.2.1 := rfl
theorem oLt_6 : oLt h g w t 6 = g.2.2.1 := rfl
theorem oLt_7 : oLt h g w t 7 = 0 := rfl
theorem cO_r {v B : Int} (p : Int) (h0 : 0 ≤ cV h t p ∧ cV h t p ≤ B) : (0 ≤ cO h w t p ∧ cO h w t p ≤ B) ∧ (0 ≤ cK h g w t p ∧ cK h g w t p ≤ B) ∧ (0 ≤ cB h g w t p ∧ cB h g w t p ≤ B) ∧ (0 ≤ cC h w t p ∧ cC h w t p ≤ 1) := by
  refine ⟨?_, ?_, ?_, ?_⟩
  · unfold cO; split <;> omega
  · unfold cK; split
    · split <;> omega
    · omega
  · unfold cB; split
    · omega
    · split <;> omega
  · unfold cC; split <;> omega
end OLT

set_option maxHeartbeats 4000000 in
set_option maxRecDepth 100000 in
theorem lp_sown {l : Launch} {G : GG} {d : Nat} {h F : AH} {Q : Option AV → List Kd → AH → Prop} {cs : Int → List (Int × List Int)} {g : GD} {w : Int} (hd : 5 ≤ d) (I : CI h cs) (hg : GB g) (ha : AR h cs g 4 F) (hr : PRk h F) (hw : 0 ≤ w ∧ w < 4) (tw : twoW h g w) (q0 : ∀ F', Fr 2 F F' → wth cs (oLt h g w (F 95)) (pOn h w (h 116 1) (h 116 1)) 114 = 0 → Q (some (0, 0)) K0 (cst h F')) (q1 : ∀ F', Fr 2 F F' → wth cs (oLt h g w (F 95)) (pOn h w (h 116 1) (h 116 1)) 114 ≠ 0 → Q (some (0, 1)) K0 (cst h F')) : ∀ k, 0 ≤ k → k ≤ npF (h 167) → V l G mX5_isOwn d 0 0 0 0 K0 20 [(2, 87), (2, 6), (0, w), (2, 38), (0, k), (9, 0)] [] (cst h (lfs F g.1 g.2.1 (sm (cV h (F 95)) k) (sm (cO h w (F 95)) k) (sm (cK h g w (F 95)) k) (sm (cB h g w (F 95)) k) (sm (cC h w (F 95)) k))) Q := by
  have np9 := (@npF_r (h 167)).1
  have np8 := (@npF_r (h 167)).2.1
  have hR : ∀ k, 0 ≤ k → k < npF (h 167) → (0 ≤ sm (cV h (F 95)) k ∧ sm (cV h (F 95)) k ≤ 4000000) ∧ (0 ≤ sm (cO h w (F 95)) k ∧ sm (cO h w (F 95)) k ≤ 4000000) ∧ (0 ≤ sm (cK h g w (F 95)) k ∧ sm (cK h g w (F 95)) k ≤ 4000000) ∧ (0 ≤ sm (cB h g w (F 95)) k ∧ sm (cB h g w (F 95)) k ≤ 4000000) ∧ (0 ≤ sm (cC h w (F 95)) k ∧ sm (cC h w (F 95)) k ≤ 4) := fun k k0 k1 => by
    have hv : ∀ i, 0 ≤ i → i < npF (h 167) → 0 ≤ cV h (F 95) i ∧ cV h (F 95) i ≤ 1000000 := fun i i0 i1 => by have t9 := hr i i0 i1; have k9 := I.ofn i i0 (by omega); exact (I.ofk (4 * i + F 95 i) (by omega) (by omega)).1
    have s1 := sm_rng (f := cV h (F 95)) (N := npF (h 167)) (B := 1000000) hv k k0 (by omega)
    have s2 := sm_rng (f := cO h w (F 95)) (N := npF (h 167)) (B := 1000000) (fun i i0 i1 => (cO_r (g := g) (v := 0) i (hv i i0 i1)).1) k k0 (by omega)
    have s3 := sm_rng (f := cK h g w (F 95)) (N := npF (h 167)) (B := 1000000) (fun i i0 i1 => (cO_r (g := g) (v := 0) i (hv i i0 i1)).2.1) k k0 (by omega)
    have s4 := sm_rng (f := cB h g w (F 95)) (N := npF (h 167)) (B := 1000000) (fun i i0 i1 => (cO_r (g := g) (v := 0) i (hv i i0 i1)).2.2.1) k k0 (by omega)
    have s5 := sm_rng (f := cC h w (F 95)) (N := npF (h 167)) (B := 1) (fun i i0 i1 => (cO_r (g := g) (v := 0) i (hv i i0 i1)).2.2.2) k k0 (by omega)
    omega
  obtain ⟨g1, g2, g3, g4, g5⟩ := hg
  refine loop_m3 (fun k hk hkN ih => ?_)
  refine v_iload dX5_isOwn_20 rfl ?_
  refine v_aload_n dX5_isOwn_22 rfl ?_
  refine v_getv (ci := 5) (j := 5) (ji := 5) (tg := 0) dX5_isOwn_23 k_475 (by decide) kk_87 (by decide) rfl rfl (by decide) ((cst_s (by decide)).trans ((lfs_c (by decide)).trans (ha.1.1))) ?_
  refine v_icmp_ge (tgt := 94) dX5_isOwn_26 (by decide) (fun c26_1 => ?_) (fun c26_1 => ?_)
  · refine v_aload_n dX5_isOwn_94 rfl ?_
    refine v_aload_n dX5_isOwn_95 rfl ?_
    refine v_getv (ci := 5) (j := 8) (ji := 8) (tg := 0) dX5_isOwn_96 k_478 (by decide) kk_87 (by decide) rfl rfl (by decide) ((cst_s (by decide)).trans ((lfs_c (by decide)).trans (ha.1.2.2.2.1))) ?_
    refine v_aload_n dX5_isOwn_99 rfl ?_
    refine v_getv (ci := 5) (j := 9) (ji := 9) (tg := 0) dX5_isOwn_100 k_479 (by decide) kk_87 (by decide) rfl rfl (by decide) ((cst_s (by decide)).trans ((lfs_c (by decide)).trans (ha.1.2.2.2.2))) ?_
    refine v_i2l dX5_isOwn_103 ?_
    refine v_callv (M' := mX2_finish) (d' := d - 1) (mc' := 0) (ms' := 0) (ci := 2) (c := 38) (As := [_, _]) dX5_isOwn_104 k_1244 cm_X2_finish rfl (by omega) (by decide) kk_38 (Nat.le_of_ble_eq_true rfl) rfl ⟨Nat.le_refl _, Nat.le_refl _⟩ ?_
    refine s_cfinish (by omega) (by omega) ?_
    dsimp only [Option.toList, List.cons_append, List.nil_append, Nat.add_zero]
    refine v_aload_n dX5_isOwn_107 rfl ?_
    refine v_aload_n dX5_isOwn_108 rfl ?_
    refine v_getr (ci := 5) (j := 11) (ji := 11) (z := 93) dX5_isOwn_109 k_481 (by decide) kk_87 (by decide) rfl rfl (fun r => rt_87_11 (r rfl)) (by decide) ?_
    refine v_iload_n dX5_isOwn_112 rfl ?_
    refine v_ialoadv dX5_isOwn_113 (by decide) kk_93 (by omega) (by omega) ((cst_m (by decide)).trans ((lfs_c (by decide)).trans ((hset_c (by decide)).trans ((hset_c (by decide)).trans ((hset_c (by decide)).trans ((hset_c (by decide)).trans ((hset_c (by decide)).trans ((hset_c (by decide)).trans ((hset_c (by decide)).trans ((hset_c (by decide)).trans (((ha.2.2.2 w hw.1 hw.2).1 tw).1))))))))))) ?_
    refine v_bipush dX5_isOwn_114 (c32 rfl) (by decide) ?_
    refine v_callv (M' := mX8_worth) (d' := d - 1) (mc' := 0) (ms' := 0) (ci := 8) (c := 6) (As := [_, _]) dX5_isOwn_116 k_1209 cm_X8_worth rfl (by omega) (by decide) kk_6 (Nat.le_of_ble_eq_true rfl) rfl ⟨Nat.le_refl _, Nat.le_refl _⟩ ?_
    refine s_cworth (by omega) I.X (by have := @pOn_rng h I.W w (h 116 1) (h 116 1); have := I.f12_4; omega) (fun xf_2 c116_2 => ?_)
    dsimp only [Option.toList, List.cons_append, List.nil_append, Nat.add_zero]
    refine v_if_eq (tgt := 126) dX5_isOwn_119 (by decide) (fun c119_3 => ?_) (fun c119_3 => ?_)
    · refine v_iconst dX5_isOwn_126 (c32 rfl) ?_
      refine v_iretz dX5_isOwn_127 rfl (by decide) (Nat.le_refl _) (Nat.le_refl _) ?_
      obtain rfl : k = npF (h 167) := by omega
      rw [wth_congr (l2 := oLt h g w (F 95)) (fin39 oLt_0 oLt_1 oLt_2 oLt_3 oLt_4 oLt_5 oLt_6 oLt_7)] at c119_3
      exact q0 _ (Fr_t Fr_fin (Fr_m (by decide) c116_2)) c119_3
    · refine v_iconst dX5_isOwn_122 (c32 rfl) ?_
      refine v_goto (tgt := 127) dX5_isOwn_123 (by decide) ?_
      refine v_iretz dX5_isOwn_127 rfl (by decide) (Nat.le_refl _) (Nat.le_refl _) ?_
      obtain rfl : k = npF (h 167) := by omega
      rw [wth_congr (l2 := oLt h g w (F 95)) (fin39 oLt_0 oLt_1 oLt_2 oLt_3 oLt_4 oLt_5 oLt_6 oLt_7)] at c119_3
      exact q1 _ (Fr_t Fr_fin (Fr_m (by decide) c116_2)) c119_3
  · have t9 := hr k hk (by omega)
    have k9 := I.ofn k hk (by omega)
    have o9 := I.ofk (4 * k + F 95 k) (by omega) (by omega)
    have hk4 : 4 * k + F 95 k = k * 4 + F 95 k := by omega
    rw [hk4] at o9
    have ub := (bit_1 (m := h 170 (k * 4 + F 95 k)) (l := w) ⟨by omega, by omega⟩ ⟨by omega, by omega⟩).1
    have o8 : cV h (F 95) k = h 168 (k * 4 + F 95 k) := by unfold cV; rw [hk4]
    have o7 : cW h w (F 95) k = iand (iushr (h 170 (k * 4 + F 95 k)) w) 1 := by unfold cW; rw [hk4]; exact ub.symm
    have R9 := hR k hk (by omega)
    refine v_iload dX5_isOwn_29 rfl ?_
    refine v_iconst dX5_isOwn_31 (c32 rfl) ?_
    refine v_imulE dX5_isOwn_32 (by omega) ?_
    refine v_aload_n dX5_isOwn_33 rfl ?_
    refine v_getr (ci := 5) (j := 14) (ji := 14) (z := 95) dX5_isOwn_34 k_484 (by decide) kk_87 (by decide) rfl rfl (fun r => rt_87_14 (r rfl)) (by decide) ?_
    refine v_iload dX5_isOwn_37 rfl ?_
    refine v_ialoadv dX5_isOwn_39 (by decide) kk_95 (by omega) (by omega) ((cst_m (by decide)).trans (lfs_c (by decide))) ?_
    refine v_iaddE dX5_isOwn_40 (by omega) ?_
    refine v_istore_5 dX5_isOwn_41 (by decide) rfl ?_
    refine v_aload_n dX5_isOwn_43 rfl ?_
    refine v_aload_n dX5_isOwn_44 rfl ?_
    refine v_getr (ci := 5) (j := 0) (ji := 0) (z := 88) dX5_isOwn_45 k_470 (by decide) kk_87 (by decide) rfl rfl (fun r => rt_87_0 (r rfl)) (by decide) ?_
    refine v_iload dX5_isOwn_48 rfl ?_
    refine v_ialoadv dX5_isOwn_50 (by decide) kk_88 (by omega) (by omega) ((cst_n (by decide)).trans ((congrFun I.e88 ((k * 4) + (F 95 k))))) ?_
    refine v_i2l dX5_isOwn_51 ?_
    refine v_aload_n dX5_isOwn_52 rfl ?_
    refine v_getr (ci := 5) (j := 3) (ji := 3) (z := 91) dX5_isOwn_53 k_473 (by decide) kk_87 (by decide) rfl rfl (fun r => rt_87_3 (r rfl)) (by decide) ?_
    refine v_iload dX5_isOwn_56 rfl ?_
    refine v_ialoadv dX5_isOwn_58 (by decide) kk_91 (by omega) (by omega) ((cst_n (by decide)).trans ((congrFun I.e91 ((k * 4) + (F 95 k))))) ?_
    refine v_aload_n dX5_isOwn_59 rfl ?_
    refine v_getr (ci := 5) (j := 1) (ji := 1) (z := 89) dX5_isOwn_60 k_471 (by decide) kk_87 (by decide) rfl rfl (fun r => rt_87_1 (r rfl)) (by decide) ?_
    refine v_iload dX5_isOwn_63 rfl ?_
    refine v_ialoadv dX5_isOwn_65 (by decide) kk_89 (by omega) (by omega) ((cst_n (by decide)).trans ((congrFun I.e89 ((k * 4) + (F 95 k))))) ?_
    refine v_aload_n dX5_isOwn_66 rfl ?_
    refine v_getr (ci := 5) (j := 2) (ji := 2) (z := 90) dX5_isOwn_67 k_472 (by decide) kk_87 (by decide) rfl rfl (fun r => rt_87_2 (r rfl)) (by decide) ?_
    refine v_iload dX5_isOwn_70 rfl ?_
    refine v_ialoadv dX5_isOwn_72 (by decide) kk_90 (by omega) (by omega) ((cst_n (by decide)).trans ((congrFun I.e90 ((k * 4) + (F 95 k))))) ?_
    refine v_iload_n dX5_isOwn_73 rfl ?_
    refine v_iushr dX5_isOwn_74 ?_
    refine v_iconst dX5_isOwn_75 (c32 rfl) ?_
    refine v_iand dX5_isOwn_76 ?_
    refine v_if_eq (tgt := 84) dX5_isOwn_77 (by decide) (fun c77_4 => ?_) (fun c77_4 => ?_)
    · refine v_iconst dX5_isOwn_84 (c32 rfl) ?_
      refine v_callv (M' := mX2_add) (d' := d - 1) (mc' := 0) (ms' := 0) (ci := 2) (c := 38) (As := [_, _, _, _]) dX5_isOwn_85 k_1243 cm_X2_add rfl (by omega) (by decide) kk_38 (Nat.le_of_ble_eq_true rfl) rfl ⟨Nat.le_refl _, Nat.le_refl _⟩ ?_
      refine s_cadd (by omega) ⟨by omega, by omega⟩ ⟨by omega, by omega⟩ ⟨by omega, by omega⟩ ⟨by omega, by omega⟩ ⟨by omega, by omega⟩ ⟨by omega, by omega⟩ ?_
      dsimp only [Option.toList, List.cons_append, List.nil_append, Nat.add_zero]
      refine v_iinc_4 dX5_isOwn_88 (by decide) rfl ?_
      rw [iadd_eq (x := k) (y := 1) (by unfold ok32; omega)]
      refine v_goto (tgt := 20) dX5_isOwn_91 (by decide) ?_
      have c9 : cW h w (F 95) k = 0 := by rw [o7]; exact c77_4
      have e2 : cO h w (F 95) k = (if (0 : Int) = 0 then h 168 (k * 4 + F 95 k) else 0) := by unfold cO; rw [if_pos c9, if_pos (rfl)]; rw [o8]
      have e3 : cK h g w (F 95) k = (if (0 : Int) = 0 then (if h 169 (k * 4 + F 95 k) = g.2.1 then h 168 (k * 4 + F 95 k) else 0) else 0) := by unfold cK; rw [if_pos c9, if_pos (rfl)]; rw [o8, hk4]
      have e4 : cB h g w (F 95) k = (if (0 : Int) = 0 then 0 else if h 171 (k * 4 + F 95 k) ≠ g.1 then h 168 (k * 4 + F 95 k) else 0) := by unfold cB; rw [if_pos c9, if_pos (rfl)]
      have e5 : cC h w (F 95) k = (if (0 : Int) = 0 then 1 else 0) := by unfold cC; rw [if_pos c9, if_pos (rfl)]
      have ih9 := ih (by omega)
      rw [sm_s hk, sm_s hk, sm_s hk, sm_s hk, sm_s hk, e2, e3, e4, e5, o8] at ih9
      refine v_loc (lo_k (lo_k (lo_k (lo_k (lo_k (lo_d lo_nil)))))) ?_
      exact ih9
    · refine v_iconst dX5_isOwn_80 (c32 rfl) ?_
      refine v_goto (tgt := 85) dX5_isOwn_81 (by decide) ?_
      refine v_callv (M' := mX2_add) (d' := d - 1) (mc' := 0) (ms' := 0) (ci := 2) (c := 38) (As := [_, _, _, _]) dX5_isOwn_85 k_1243 cm_X2_add rfl (by omega) (by decide) kk_38 (Nat.le_of_ble_eq_true rfl) rfl ⟨Nat.le_refl _, Nat.le_refl _⟩ ?_
      refine s_cadd (by omega) ⟨by omega, by omega⟩ ⟨by omega, by omega⟩ ⟨by omega, by omega⟩ ⟨by omega, by omega⟩ ⟨by omega, by omega⟩ ⟨by omega, by omega⟩ ?_
      dsimp only [Option.toList, List.cons_append, List.nil_append, Nat.add_zero]
      refine v_iinc_4 dX5_isOwn_88 (by decide) rfl ?_
      rw [iadd_eq (x := k) (y := 1) (by unfold ok32; omega)]
      refine v_goto (tgt := 20) dX5_isOwn_91 (by decide) ?_
      have c9 : ¬ cW h w (F 95) k = 0 := by rw [o7]; exact c77_4
      have e2 : cO h w (F 95) k = (if (1 : Int) = 0 then h 168 (k * 4 + F 95 k) else 0) := by unfold cO; rw [if_neg c9, if_neg (show ¬ ((1 : Int) = 0) by decide)]
      have e3 : cK h g w (F 95) k = (if (1 : Int) = 0 then (if h 169 (k * 4 + F 95 k) = g.2.1 then h 168 (k * 4 + F 95 k) else 0) else 0) := by unfold cK; rw [if_neg c9, if_neg (show ¬ ((1 : Int) = 0) by decide)]
      have e4 : cB h g w (F 95) k = (if (1 : Int) = 0 then 0 else if h 171 (k * 4 + F 95 k) ≠ g.1 then h 168 (k * 4 + F 95 k) else 0) := by unfold cB; rw [if_neg c9, if_neg (show ¬ ((1 : Int) = 0) by decide)]; rw [o8, hk4]
      have e5 : cC h w (F 95) k = (if (1 : Int) = 0 then 1 else 0) := by unfold cC; rw [if_neg c9, if_neg (show ¬ ((1 : Int) = 0) by decide)]
      have ih9 := ih (by omega)
      rw [sm_s hk, sm_s hk, sm_s hk, sm_s hk, sm_s hk, e2, e3, e4, e5, o8] at ih9
      refine v_loc (lo_k (lo_k (lo_k (lo_k (lo_k (lo_d lo_nil)))))) ?_
      exact ih9

set_option maxHeartbeats 4000000 in
set_option maxRecDepth 100000 in
theorem s_sown {l : Launch} {G : GG} {d : Nat} {h F : AH} {Q : Option AV → List Kd → AH → Prop} {cs : Int → List (Int × List Int)} {g : GD} {w : Int} (hd : 5 ≤ d) (I : CI h cs) (hg : GB g) (ha : AR h cs g 4 F) (hr : PRk h F) (hw : 0 ≤ w ∧ w < 4) (tw : twoW h g w) (q0 : ∀ F', Fr 2 F F' → wth cs (oLt h g w (F 95)) (pOn h w (h 116 1) (h 116 1)) 114 = 0 → Q (some (0, 0)) K0 (cst h F')) (q1 : ∀ F', Fr 2 F F' → wth cs (oLt h g w (F 95)) (pOn h w (h 116 1) (h 116 1)) 114 ≠ 0 → Q (some (0, 1)) K0 (cst h F')) : Sp l G mX5_isOwn d 0 0 K0 [(2, 87), (2, 6), (0, w)] (cst h F) Q := by
  refine sp_of (L := [(2, 87), (2, 6), (0, w), (9, 0), (9, 0), (9, 0)]) pl_X5 (Nat.le_of_ble_eq_true rfl) (tg_c (by decide) (tg_c (by decide) (tg_c (by decide) tg_0))) rfl ?_
  refine v_aload_n dX5_isOwn_0 rfl ?_
  refine v_getrN (ci := 8) (j := 5) (ji := 5) (z := 38) dX5_isOwn_1 k_241 (by decide) kk_6 (by decide) rfl rfl (fun r => rt_6_5 (r rfl)) (by decide) ?_
  refine v_astore_n_3 dX5_isOwn_4 (by decide) rfl ?_
  refine v_aload_n dX5_isOwn_5 rfl ?_
  refine v_aload_n dX5_isOwn_6 rfl ?_
  refine v_getv (ci := 5) (j := 6) (ji := 6) (tg := 0) dX5_isOwn_7 k_476 (by decide) kk_87 (by decide) rfl rfl (by decide) ((cst_s (by decide)).trans (ha.1.2.1)) ?_
  refine v_aload_n dX5_isOwn_10 rfl ?_
  refine v_getv (ci := 5) (j := 7) (ji := 7) (tg := 0) dX5_isOwn_11 k_477 (by decide) kk_87 (by decide) rfl rfl (by decide) ((cst_s (by decide)).trans (ha.1.2.2.1)) ?_
  refine v_callv (M' := mX2_begin) (d' := d - 1) (mc' := 0) (ms' := 0) (ci := 2) (c := 38) (As := [_, _]) dX5_isOwn_14 k_1242 cm_X2_begin rfl (by omega) (by decide) kk_38 (Nat.le_of_ble_eq_true rfl) rfl ⟨Nat.le_refl _, Nat.le_refl _⟩ ?_
  refine s_cbegin (by omega) ?_
  dsimp only [Option.toList, List.cons_append, List.nil_append, Nat.add_zero]
  refine v_iconst dX5_isOwn_17 (c32 rfl) ?_
  refine v_istore_4 dX5_isOwn_18 (by decide) rfl ?_
  exact lp_sown hd I hg ha hr hw tw q0 q1 0 (Int.le_refl _) (@npF_r (h 167)).1.1

