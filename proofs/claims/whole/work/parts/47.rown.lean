/-! ===== the reference: what is own, shipments (written by wip/whole/p27.py) ===== -/
set_option maxHeartbeats 4000000 in
set_option maxRecDepth 100000 in
theorem s_letShip {l : Launch} {G : GG} {d : Nat} {h : AH} {Q : Option AV → List Kd → AH → Prop} {F : AH} {z O Lr : Int → Int} {s : Int} (hd : 2 ≤ d) (W : RW h) (S : RS h) (hs : 0 ≤ s ∧ s < h 116 65) (hq : Q none K0 (jst (kst h F) z O (fShp h s Lr))) : Sp l G mX12_letShip d 0 0 K0 [(2, 116), (0, s)] (jst (kst h F) z O Lr) Q := by
  have a1 := S.1
  have a2 := S.2.2.1 s hs.1 hs.2
  have a3 := W.nb
  have a4 := W.he (h 150 s) a2.1.1 a2.1.2
  have a5 := idiv_nn (x := h 155 s) (y := 360) (by omega) (by omega) (by decide) (by decide)
  refine sp_of (L := [(2, 116), (0, s)]) pl_X12 (Nat.le_of_ble_eq_true rfl) (tg_c (by decide) (tg_c (by decide) tg_0)) rfl ?_
  refine v_aload_n dX12_letShip_0 rfl ?_
  refine v_callv (M' := mX12_clear0) (d' := d - 1) (mc' := 0) (ms' := 0) (ci := 12) (c := 116) (As := []) dX12_letShip_1 k_1933 cm_X12_clear0 rfl (by omega) (by decide) kk_116 (Nat.le_of_ble_eq_true rfl) rfl ⟨Nat.le_refl _, Nat.le_refl _⟩ ?_
  refine s_clrJ (by omega) ?_
  dsimp only [Option.toList, List.cons_append, List.nil_append, Nat.add_zero]
  refine v_aload_n dX12_letShip_4 rfl ?_
  refine v_getr (ci := 12) (j := 11) (ji := 11) (z := 126) dX12_letShip_5 k_1427 (by decide) kk_116 (by decide) rfl rfl (fun r => rt_116_11 (r rfl)) (by decide) ?_
  refine v_bipush dX12_letShip_8 (c32 rfl) (by decide) ?_
  refine v_aload_n dX12_letShip_10 rfl ?_
  refine v_getr (ci := 12) (j := 27) (ji := 27) (z := 130) dX12_letShip_11 k_1443 (by decide) kk_116 (by decide) rfl rfl (fun r => rt_116_27 (r rfl)) (by decide) ?_
  refine v_aload_n dX12_letShip_14 rfl ?_
  refine v_getr (ci := 12) (j := 51) (ji := 51) (z := 150) dX12_letShip_15 k_1467 (by decide) kk_116 (by decide) rfl rfl (fun r => rt_116_51 (r rfl)) (by decide) ?_
  refine v_iload_n dX12_letShip_18 rfl ?_
  refine v_ialoadv dX12_letShip_19 (by decide) kk_150 (by omega) (by omega) ((jst_c (by decide)).trans (kst_n (by decide))) ?_
  refine v_ialoadv dX12_letShip_20 (by decide) kk_130 (by omega) (by omega) ((jst_c (by decide)).trans (kst_n (by decide))) ?_
  refine v_iastore dX12_letShip_21 (by decide) kk_126 (by omega) (by omega) ?_
  rw [jst_wl]
  refine v_aload_n dX12_letShip_22 rfl ?_
  refine v_getr (ci := 12) (j := 11) (ji := 11) (z := 126) dX12_letShip_23 k_1427 (by decide) kk_116 (by decide) rfl rfl (fun r => rt_116_11 (r rfl)) (by decide) ?_
  refine v_bipush dX12_letShip_26 (c32 rfl) (by decide) ?_
  refine v_aload_n dX12_letShip_28 rfl ?_
  refine v_getr (ci := 12) (j := 56) (ji := 56) (z := 155) dX12_letShip_29 k_1472 (by decide) kk_116 (by decide) rfl rfl (fun r => rt_116_56 (r rfl)) (by decide) ?_
  refine v_iload_n dX12_letShip_32 rfl ?_
  refine v_ialoadv dX12_letShip_33 (by decide) kk_155 (by omega) (by omega) ((jst_c (by decide)).trans (kst_n (by decide))) ?_
  refine v_sipush dX12_letShip_34 (c32 rfl) (by decide) ?_
  refine v_idiv dX12_letShip_37 (by decide) ?_
  refine v_iastore dX12_letShip_38 (by decide) kk_126 (by omega) (by omega) ?_
  rw [jst_wl]
  refine v_vret dX12_letShip_39 rfl (Nat.le_refl _) (Nat.le_refl _) ?_
  exact hq

set_option maxHeartbeats 4000000 in
set_option maxRecDepth 100000 in
theorem s_worthFor {l : Launch} {G : GG} {d : Nat} {h : AH} {Q : Option AV → List Kd → AH → Prop} {F : AH} {z O Lr : Int → Int} {cs : Int → List (Int × List Int)} {s q lb : Int} (hd : 39 ≤ d) (W : RW h) (S : RS h) (hX : TX h cs) (hs : 0 ≤ s ∧ s < h 116 65) (hq : ∀ z Lr, Q (some (0, wS h cs s q lb)) K0 (jst (kst h F) z O Lr)) : Sp l G mX12_worthFor d 0 0 K0 [(2, 116), (0, s), (0, q), (0, lb)] (jst (kst h F) z O Lr) Q := by
  have a1 := S.1
  have a2 := S.2.2.1 s hs.1 hs.2
  refine sp_of (L := [(2, 116), (0, s), (0, q), (0, lb)]) pl_X12 (Nat.le_of_ble_eq_true rfl) (tg_c (by decide) (tg_c (by decide) (tg_c (by decide) (tg_c (by decide) tg_0)))) rfl ?_
  refine v_aload_n dX12_worthFor_0 rfl ?_
  refine v_iload_n dX12_worthFor_1 rfl ?_
  refine v_callv (M' := mX12_letShip) (d' := d - 1) (mc' := 0) (ms' := 0) (ci := 12) (c := 116) (As := [_]) dX12_worthFor_2 k_1987 cm_X12_letShip rfl (by omega) (by decide) kk_116 (Nat.le_of_ble_eq_true rfl) rfl ⟨Nat.le_refl _, Nat.le_refl _⟩ ?_
  refine s_letShip (by omega) W S hs ?_
  dsimp only [Option.toList, List.cons_append, List.nil_append, Nat.add_zero]
  refine v_aload_n dX12_worthFor_5 rfl ?_
  refine v_aload_n dX12_worthFor_6 rfl ?_
  refine v_aload_n dX12_worthFor_7 rfl ?_
  refine v_getr (ci := 12) (j := 54) (ji := 54) (z := 153) dX12_worthFor_8 k_1470 (by decide) kk_116 (by decide) rfl rfl (fun r => rt_116_54 (r rfl)) (by decide) ?_
  refine v_iload_n dX12_worthFor_11 rfl ?_
  refine v_ialoadv dX12_worthFor_12 (by decide) kk_153 (by omega) (by omega) ((jst_c (by decide)).trans (kst_n (by decide))) ?_
  refine v_aload_n dX12_worthFor_13 rfl ?_
  refine v_getr (ci := 12) (j := 56) (ji := 56) (z := 155) dX12_worthFor_14 k_1472 (by decide) kk_116 (by decide) rfl rfl (fun r => rt_116_56 (r rfl)) (by decide) ?_
  refine v_iload_n dX12_worthFor_17 rfl ?_
  refine v_ialoadv dX12_worthFor_18 (by decide) kk_155 (by omega) (by omega) ((jst_c (by decide)).trans (kst_n (by decide))) ?_
  refine v_iload_n dX12_worthFor_19 rfl ?_
  refine v_callv (M' := mX12_protocolOn) (d' := d - 1) (mc' := 0) (ms' := 0) (ci := 12) (c := 116) (As := [_, _, _]) dX12_worthFor_20 k_1824 cm_X12_protocolOn rfl (by omega) (by decide) kk_116 (Nat.le_of_ble_eq_true rfl) rfl ⟨Nat.le_refl _, Nat.le_refl _⟩ ?_
  refine s_pOnK (by omega) W ?_
  dsimp only [Option.toList, List.cons_append, List.nil_append, Nat.add_zero]
  refine v_iload_n dX12_worthFor_23 rfl ?_
  refine v_callv (M' := mX12_worth) (d' := d - 1) (mc' := 0) (ms' := 0) (ci := 12) (c := 116) (As := [_, _]) dX12_worthFor_24 k_1940 cm_X12_worth rfl (by omega) (by decide) kk_116 (Nat.le_of_ble_eq_true rfl) rfl ⟨Nat.le_refl _, Nat.le_refl _⟩ ?_
  refine s_worthK (cs := cs) (by omega) W hX (by have := @pOn_rng h W (h 153 s) (h 155 s) q; omega) (RS.lb W S hs.1 hs.2) (fun xz_0 => ?_)
  dsimp only [Option.toList, List.cons_append, List.nil_append, Nat.add_zero]
  refine v_ireti dX12_worthFor_27 rfl (Nat.le_refl _) (Nat.le_refl _) ?_
  rw [show (wth cs (ltF (fShp h s Lr)) (pOn h (h 153 s) (h 155 s) q) lb) = wS h cs s q lb from wth_congr (fun i h0 h1 => sLt_let h0 h1)]
  exact hq _ _

theorem s_isBatchK {l : Launch} {G : GG} {d : Nat} {h : AH} {Q : Option AV → List Kd → AH → Prop} {F : AH} {z O Lr : Int → Int} {p : Int} (hd : 1 ≤ d) (q1 : ¬ (0 ≤ p ∧ p < h 116 45) → Q (some (0, 0)) K0 (jst (kst h F) z O Lr)) (q2 : 0 ≤ p ∧ p < h 116 45 → Q (some (0, 1)) K0 (jst (kst h F) z O Lr)) : Sp l G mX12_isBatch d 0 0 K0 [(2, 116), (0, p)] (jst (kst h F) z O Lr) Q := by
  have e : jst (kst h F) z O Lr 116 45 = h 116 45 := by rw [jst_j (by decide), kst_c (by decide)]
  refine s_X12_isBatch hd (fun a => ?_) (fun a b => ?_) (fun a b => ?_)
  all_goals (try rw [e] at b)
  all_goals first | exact q1 (by omega) | exact q2 (by omega)
theorem s_isKnownK {l : Launch} {G : GG} {d : Nat} {h : AH} {Q : Option AV → List Kd → AH → Prop} {F : AH} {z O Lr : Int → Int} {p : Int} (hd : 2 ≤ d) (q1 : ¬ (0 ≤ p ∧ p ≤ h 116 1) → Q (some (0, 0)) K0 (jst (kst h F) z O Lr)) (q2 : 0 ≤ p ∧ p ≤ h 116 1 → Q (some (0, 1)) K0 (jst (kst h F) z O Lr)) : Sp l G mX12_isKnown d 0 0 K0 [(2, 116), (0, p)] (jst (kst h F) z O Lr) Q := by
  have e : jst (kst h F) z O Lr 116 1 = h 116 1 := by rw [jst_j (by decide), kst_c (by decide)]
  refine s_X12_isKnown hd (fun a => ?_) (fun a b => ?_) (fun a b => ?_)
  all_goals (try rw [e] at b)
  all_goals first | exact q1 (by omega) | exact q2 (by omega)

set_option maxHeartbeats 4000000 in
set_option maxRecDepth 100000 in
theorem s_asks {l : Launch} {G : GG} {d : Nat} {h : AH} {Q : Option AV → List Kd → AH → Prop} {F : AH} {z O Lr : Int → Int} {cs : Int → List (Int × List Int)} {b w q : Int} (hd : 40 ≤ d) (W : RW h) (hX : TX h cs) (q0 : ¬ ((0 ≤ b ∧ b < h 116 45) ∧ (0 ≤ w ∧ w ≤ 3) ∧ (0 ≤ q ∧ q ≤ h 116 1) ∧ h 134 b ≤ q) → Q (some (0, 0)) K0 (jst (kst h (hset F 116 0 0)) z O Lr)) (q1 : ∀ z Lr, (0 ≤ b ∧ b < h 116 45) ∧ (0 ≤ w ∧ w ≤ 3) ∧ (0 ≤ q ∧ q ≤ h 116 1) ∧ h 134 b ≤ q → Q (some (0, 1)) K0 (jst (kst h (hset F 116 0 0)) z (jO h cs w q (-1) O (b + 1)) Lr)) : Sp l G mX12_asks d 0 0 K0 [(2, 116), (0, b), (0, w), (0, q)] (jst (kst h F) z O Lr) Q := by
  have nb := W.nb
  have nt := W.nt
  refine sp_of (L := [(2, 116), (0, b), (0, w), (0, q)]) pl_X12 (Nat.le_of_ble_eq_true rfl) (tg_c (by decide) (tg_c (by decide) (tg_c (by decide) (tg_c (by decide) tg_0)))) rfl ?_
  refine v_aload_n dX12_asks_0 rfl ?_
  refine v_iconst dX12_asks_1 (c32 rfl) ?_
  refine v_puti (ci := 12) (j := 0) (ji := 0) dX12_asks_2 k_1416 (by decide) kk_116 (by decide) rfl rfl rfl ?_
  rw [jst_wj (by decide), kst_w (by decide)]
  refine v_aload_n dX12_asks_5 rfl ?_
  refine v_iload_n dX12_asks_6 rfl ?_
  refine v_callv (M' := mX12_isBatch) (d' := d - 1) (mc' := 0) (ms' := 0) (ci := 12) (c := 116) (As := [_]) dX12_asks_7 k_1861 cm_X12_isBatch rfl (by omega) (by decide) kk_116 (Nat.le_of_ble_eq_true rfl) rfl ⟨Nat.le_refl _, Nat.le_refl _⟩ ?_
  refine s_isBatchK (by omega) (fun c7_1 => ?_) (fun c7_2 => ?_)
  · dsimp only [Option.toList, List.cons_append, List.nil_append, Nat.add_zero]
    refine v_if_eq_t (tgt := 38) dX12_asks_10 (by decide) (by decide) ?_
    refine v_iconst dX12_asks_38 (c32 rfl) ?_
    refine v_iretz dX12_asks_39 rfl (by decide) (Nat.le_refl _) (Nat.le_refl _) ?_
    exact q0 (by omega)
  · dsimp only [Option.toList, List.cons_append, List.nil_append, Nat.add_zero]
    refine v_if_eq_f (tgt := 38) dX12_asks_10 (by decide) (by decide) ?_
    refine v_iload_n dX12_asks_13 rfl ?_
    refine v_calls (M' := mX12_isWeb) (d' := d - 1) (mc' := 0) (ms' := 0) (As := [_]) dX12_asks_14 k_1707 cm_X12_isWeb (by omega) (Nat.le_of_ble_eq_true rfl) rfl ⟨Nat.le_refl _, Nat.le_refl _⟩ ?_
    refine s_X12_isWeb (by omega) (fun c14_3 => ?_) (fun c14_4 c14_5 => ?_) (fun c14_6 c14_7 => ?_)
    · dsimp only [Option.toList, List.cons_append, List.nil_append, Nat.add_zero]
      refine v_if_eq_t (tgt := 38) dX12_asks_17 (by decide) (by decide) ?_
      refine v_iconst dX12_asks_38 (c32 rfl) ?_
      refine v_iretz dX12_asks_39 rfl (by decide) (Nat.le_refl _) (Nat.le_refl _) ?_
      exact q0 (by omega)
    · dsimp only [Option.toList, List.cons_append, List.nil_append, Nat.add_zero]
      refine v_if_eq_t (tgt := 38) dX12_asks_17 (by decide) (by decide) ?_
      refine v_iconst dX12_asks_38 (c32 rfl) ?_
      refine v_iretz dX12_asks_39 rfl (by decide) (Nat.le_refl _) (Nat.le_refl _) ?_
      exact q0 (by omega)
    · dsimp only [Option.toList, List.cons_append, List.nil_append, Nat.add_zero]
      refine v_if_eq_f (tgt := 38) dX12_asks_17 (by decide) (by decide) ?_
      refine v_aload_n dX12_asks_20 rfl ?_
      refine v_iload_n dX12_asks_21 rfl ?_
      refine v_callv (M' := mX12_isKnown) (d' := d - 1) (mc' := 0) (ms' := 0) (ci := 12) (c := 116) (As := [_]) dX12_asks_22 k_1720 cm_X12_isKnown rfl (by omega) (by decide) kk_116 (Nat.le_of_ble_eq_true rfl) rfl ⟨Nat.le_refl _, Nat.le_refl _⟩ ?_
      refine s_isKnownK (by omega) (fun c22_8 => ?_) (fun c22_9 => ?_)
      · dsimp only [Option.toList, List.cons_append, List.nil_append, Nat.add_zero]
        refine v_if_eq_t (tgt := 38) dX12_asks_25 (by decide) (by decide) ?_
        refine v_iconst dX12_asks_38 (c32 rfl) ?_
        refine v_iretz dX12_asks_39 rfl (by decide) (Nat.le_refl _) (Nat.le_refl _) ?_
        exact q0 (by omega)
      · dsimp only [Option.toList, List.cons_append, List.nil_append, Nat.add_zero]
        refine v_if_eq_f (tgt := 38) dX12_asks_25 (by decide) (by decide) ?_
        refine v_aload_n dX12_asks_28 rfl ?_
        refine v_getr (ci := 12) (j := 31) (ji := 31) (z := 134) dX12_asks_29 k_1447 (by decide) kk_116 (by decide) rfl rfl (fun r => rt_116_31 (r rfl)) (by decide) ?_
        refine v_iload_n dX12_asks_32 rfl ?_
        refine v_ialoadv dX12_asks_33 (by decide) kk_134 (by omega) (by omega) ((jst_c (by decide)).trans (kst_n (by decide))) ?_
        refine v_iload_n dX12_asks_34 rfl ?_
        refine v_icmp_le (tgt := 40) dX12_asks_35 (by decide) (fun c35_10 => ?_) (fun c35_10 => ?_)
        · refine v_aload_n dX12_asks_40 rfl ?_
          refine v_iload_n dX12_asks_41 rfl ?_
          refine v_iload_n dX12_asks_42 rfl ?_
          refine v_iload_n dX12_asks_43 rfl ?_
          refine v_iconst dX12_asks_44 (c32 rfl) ?_
          refine v_callv (M' := mX12_judge) (d' := d - 1) (mc' := 0) (ms' := 0) (ci := 12) (c := 116) (As := [_, _, _, _]) dX12_asks_45 k_1921 cm_X12_judge rfl (by omega) (by decide) kk_116 (Nat.le_of_ble_eq_true rfl) rfl ⟨Nat.le_refl _, Nat.le_refl _⟩ ?_
          refine s_judgeK (cs := cs) (by omega) W hX (by omega) (by omega) (fun xz_10 xl_10 => ?_)
          dsimp only [Option.toList, List.cons_append, List.nil_append, Nat.add_zero]
          refine v_iconst dX12_asks_48 (c32 rfl) ?_
          refine v_iretz dX12_asks_49 rfl (by decide) (Nat.le_refl _) (Nat.le_refl _) ?_
          exact q1 _ _ (by omega)
        · refine v_iconst dX12_asks_38 (c32 rfl) ?_
          refine v_iretz dX12_asks_39 rfl (by decide) (Nat.le_refl _) (Nat.le_refl _) ?_
          exact q0 (by omega)

set_option maxHeartbeats 4000000 in
set_option maxRecDepth 100000 in
theorem s_own {l : Launch} {G : GG} {d : Nat} {h : AH} {Q : Option AV → List Kd → AH → Prop} {F : AH} {z O Lr : Int → Int} {cs : Int → List (Int × List Int)} {b w q : Int} (hd : 41 ≤ d) (W : RW h) (hX : TX h cs)
    (q_1 : ¬ ((0 ≤ b ∧ b < h 116 45) ∧ (0 ≤ w ∧ w ≤ 3) ∧ (0 ≤ q ∧ q ≤ h 116 1) ∧ h 134 b ≤ q) → Q (some (0, (-1))) K0 (jst (kst h (hset F 116 0 0)) z O Lr))
    (q_2 : ∀ xl_2 xz_2, (0 ≤ b ∧ b < h 116 45) ∧ (0 ≤ w ∧ w ≤ 3) ∧ (0 ≤ q ∧ q ≤ h 116 1) ∧ h 134 b ≤ q → ((jO h cs w q (-1) O (b + 1)) b) = 0 → Q (some (0, 0)) K0 (jst (kst h (hset F 116 0 0)) xz_2 (jO h cs w q (-1) O (b + 1)) xl_2))
    (q_3 : ∀ xl_2 xz_2, (0 ≤ b ∧ b < h 116 45) ∧ (0 ≤ w ∧ w ≤ 3) ∧ (0 ≤ q ∧ q ≤ h 116 1) ∧ h 134 b ≤ q → ((jO h cs w q (-1) O (b + 1)) b) ≠ 0 → Q (some (0, 1)) K0 (jst (kst h (hset F 116 0 0)) xz_2 (jO h cs w q (-1) O (b + 1)) xl_2)) : Sp l G mX12_own d 0 0 K0 [(2, 116), (0, b), (0, w), (0, q)] (jst (kst h F) z O Lr) Q := by
  have nb := W.nb
  have nt := W.nt
  refine sp_of (L := [(2, 116), (0, b), (0, w), (0, q)]) pl_X12 (Nat.le_of_ble_eq_true rfl) (tg_c (by decide) (tg_c (by decide) (tg_c (by decide) (tg_c (by decide) tg_0)))) rfl ?_
  refine v_aload_n dX12_own_0 rfl ?_
  refine v_iload_n dX12_own_1 rfl ?_
  refine v_iload_n dX12_own_2 rfl ?_
  refine v_iload_n dX12_own_3 rfl ?_
  refine v_callv (M' := mX12_asks) (d' := d - 1) (mc' := 0) (ms' := 0) (ci := 12) (c := 116) (As := [_, _, _]) dX12_own_4 k_1917 cm_X12_asks rfl (by omega) (by decide) kk_116 (Nat.le_of_ble_eq_true rfl) rfl ⟨Nat.le_refl _, Nat.le_refl _⟩ ?_
  refine s_asks (cs := cs) (by omega) W hX (fun c4_1 => ?_) (fun xz_2 xl_2 c4_2 => ?_)
  · dsimp only [Option.toList, List.cons_append, List.nil_append, Nat.add_zero]
    refine v_if_ne_f (tgt := 14) dX12_own_7 (by decide) (by decide) ?_
    refine v_iconst dX12_own_10 (c32 rfl) ?_
    refine v_goto (tgt := 28) dX12_own_11 (by decide) ?_
    refine v_ireti dX12_own_28 rfl (Nat.le_refl _) (Nat.le_refl _) ?_
    exact q_1 c4_1
  · dsimp only [Option.toList, List.cons_append, List.nil_append, Nat.add_zero]
    refine v_if_ne_t (tgt := 14) dX12_own_7 (by decide) (by decide) ?_
    refine v_aload_n dX12_own_14 rfl ?_
    refine v_getr (ci := 12) (j := 49) (ji := 49) (z := 148) dX12_own_15 k_1465 (by decide) kk_116 (by decide) rfl rfl (fun r => rt_116_49 (r rfl)) (by decide) ?_
    refine v_iload_n dX12_own_18 rfl ?_
    refine v_zaloadv dX12_own_19 (by decide) kk_148 (by omega) (by omega) (jst_o) ?_
    refine v_if_eq (tgt := 27) dX12_own_20 (by decide) (fun c20_3 => ?_) (fun c20_3 => ?_)
    · refine v_iconst dX12_own_27 (c32 rfl) ?_
      refine v_ireti dX12_own_28 rfl (Nat.le_refl _) (Nat.le_refl _) ?_
      exact q_2 xl_2 xz_2 c4_2 c20_3
    · refine v_iconst dX12_own_23 (c32 rfl) ?_
      refine v_goto (tgt := 28) dX12_own_24 (by decide) ?_
      refine v_ireti dX12_own_28 rfl (Nat.le_refl _) (Nat.le_refl _) ?_
      exact q_3 xl_2 xz_2 c4_2 c20_3

theorem ix3_cases {c : Int} : (ix3 c < 0 ∧ (plc c = -1 ∨ plc c = 7)) ∨ (0 ≤ ix3 c ∧ 97 ≤ c ∧ c ≤ 112 ∧ lch (plc c) = c ∧ 0 ≤ plc c ∧ plc c < 7) := by
  by_cases e0 : c = 97
  · subst e0; exact Or.inr (by decide)
  by_cases e1 : c = 110
  · subst e1; exact Or.inr (by decide)
  by_cases e2 : c = 98
  · subst e2; exact Or.inr (by decide)
  by_cases e3 : c = 111
  · subst e3; exact Or.inr (by decide)
  by_cases e4 : c = 99
  · subst e4; exact Or.inr (by decide)
  by_cases e5 : c = 104
  · subst e5; exact Or.inr (by decide)
  by_cases e6 : c = 112
  · subst e6; exact Or.inr (by decide)
  by_cases e7 : c = 121
  · subst e7; exact Or.inl (by decide)
  refine Or.inl ⟨?_, Or.inl ?_⟩
  · unfold ix3; rw [if_neg e0, if_neg e1, if_neg e2, if_neg e3, if_neg e4, if_neg e5, if_neg e6]; decide
  · unfold plc; rw [if_neg e0, if_neg e1, if_neg e2, if_neg e3, if_neg e4, if_neg e5, if_neg e6, if_neg e7]

set_option maxHeartbeats 4000000 in
set_option maxRecDepth 100000 in
theorem s_letter {l : Launch} {G : GG} {d : Nat} {h : AH} {Q : Option AV → List Kd → AH → Prop} {F : AH} {z O Lr : Int → Int} {cs : Int → List (Int × List Int)} {b w q c : Int} (hd : 41 ≤ d) (W : RW h) (hX : TX h cs)
    (q_1 : ¬ ((0 ≤ b ∧ b < h 116 45) ∧ (0 ≤ w ∧ w ≤ 3) ∧ (0 ≤ q ∧ q ≤ h 116 1) ∧ h 134 b ≤ q) → Q (some (0, (-1))) K0 (jst (kst h (hset F 116 0 0)) z O Lr))
    (q_2 : ∀ xl_2 xz_2, (0 ≤ b ∧ b < h 116 45) ∧ (0 ≤ w ∧ w ≤ 3) ∧ (0 ≤ q ∧ q ≤ h 116 1) ∧ h 134 b ≤ q → (h 135 b) = (-1) → Q (some (0, (-1))) K0 (jst (kst h (hset F 116 0 0)) xz_2 (jO h cs w q (-1) O (b + 1)) xl_2))
    (q_3 : ∀ xl_2 xz_2, (0 ≤ b ∧ b < h 116 45) ∧ (0 ≤ w ∧ w ≤ 3) ∧ (0 ≤ q ∧ q ≤ h 116 1) ∧ h 134 b ≤ q → (h 135 b) ≠ (-1) → c < 0 → Q (some (0, (-1))) K0 (jst (kst h (hset F 116 0 0)) xz_2 (jO h cs w q (-1) O (b + 1)) xl_2))
    (q_4 : ∀ xl_6 xz_2, (0 ≤ b ∧ b < h 116 45) ∧ (0 ≤ w ∧ w ≤ 3) ∧ (0 ≤ q ∧ q ≤ h 116 1) ∧ h 134 b ≤ q → (h 135 b) ≠ (-1) → 0 ≤ c → 0 ≤ (ix3 c) → (∀ i, 0 ≤ i → i < 8 → ltF xl_6 i = mLt h (jO h cs w q (-1) O (b + 1)) b q i) → Q (some (0, (xl_6 c))) K0 (jst (kst h (hset F 116 0 0)) xz_2 (jO h cs w q (-1) O (b + 1)) xl_6))
    (q_5 : ∀ xl_2 xz_2, (0 ≤ b ∧ b < h 116 45) ∧ (0 ≤ w ∧ w ≤ 3) ∧ (0 ≤ q ∧ q ≤ h 116 1) ∧ h 134 b ≤ q → (h 135 b) ≠ (-1) → 0 ≤ c → (ix3 c) < 0 → Q (some (0, (-1))) K0 (jst (kst h (hset F 116 0 0)) xz_2 (jO h cs w q (-1) O (b + 1)) xl_2)) : Sp l G mX12_letter d 0 0 K0 [(2, 116), (0, b), (0, w), (0, q), (0, c)] (jst (kst h F) z O Lr) Q := by
  have nb := W.nb
  have nt := W.nt
  have hx3 := @ix3_cases c
  refine sp_of (L := [(2, 116), (0, b), (0, w), (0, q), (0, c)]) pl_X12 (Nat.le_of_ble_eq_true rfl) (tg_c (by decide) (tg_c (by decide) (tg_c (by decide) (tg_c (by decide) (tg_c (by decide) tg_0))))) rfl ?_
  refine v_aload_n dX12_letter_0 rfl ?_
  refine v_iload_n dX12_letter_1 rfl ?_
  refine v_iload_n dX12_letter_2 rfl ?_
  refine v_iload_n dX12_letter_3 rfl ?_
  refine v_callv (M' := mX12_asks) (d' := d - 1) (mc' := 0) (ms' := 0) (ci := 12) (c := 116) (As := [_, _, _]) dX12_letter_4 k_1917 cm_X12_asks rfl (by omega) (by decide) kk_116 (Nat.le_of_ble_eq_true rfl) rfl ⟨Nat.le_refl _, Nat.le_refl _⟩ ?_
  refine s_asks (cs := cs) (by omega) W hX (fun c4_1 => ?_) (fun xz_2 xl_2 c4_2 => ?_)
  · dsimp only [Option.toList, List.cons_append, List.nil_append, Nat.add_zero]
    refine v_if_eq_t (tgt := 36) dX12_letter_7 (by decide) (by decide) ?_
    refine v_iconst dX12_letter_36 (c32 rfl) ?_
    refine v_ireti dX12_letter_37 rfl (Nat.le_refl _) (Nat.le_refl _) ?_
    exact q_1 c4_1
  · dsimp only [Option.toList, List.cons_append, List.nil_append, Nat.add_zero]
    refine v_if_eq_f (tgt := 36) dX12_letter_7 (by decide) (by decide) ?_
    refine v_aload_n dX12_letter_10 rfl ?_
    refine v_getr (ci := 12) (j := 32) (ji := 32) (z := 135) dX12_letter_11 k_1448 (by decide) kk_116 (by decide) rfl rfl (fun r => rt_116_32 (r rfl)) (by decide) ?_
    refine v_iload_n dX12_letter_14 rfl ?_
    refine v_ialoadv dX12_letter_15 (by decide) kk_135 (by omega) (by omega) ((jst_c (by decide)).trans (kst_n (by decide))) ?_
    refine v_iconst dX12_letter_16 (c32 rfl) ?_
    refine v_icmp_eq (tgt := 36) dX12_letter_17 (by decide) (fun c17_3 => ?_) (fun c17_3 => ?_)
    · refine v_iconst dX12_letter_36 (c32 rfl) ?_
      refine v_ireti dX12_letter_37 rfl (Nat.le_refl _) (Nat.le_refl _) ?_
      exact q_2 xl_2 xz_2 c4_2 c17_3
    · refine v_iload dX12_letter_20 rfl ?_
      refine v_if_lt (tgt := 36) dX12_letter_22 (by decide) (fun c22_4 => ?_) (fun c22_4 => ?_)
      · refine v_iconst dX12_letter_36 (c32 rfl) ?_
        refine v_ireti dX12_letter_37 rfl (Nat.le_refl _) (Nat.le_refl _) ?_
        exact q_3 xl_2 xz_2 c4_2 c17_3 c22_4
      · refine v_ldcwS (i := 3) dX12_letter_25 (fun _ q => q.2.2.2.2.2.2.1) ?_
        refine v_iload dX12_letter_28 rfl ?_
        refine v_callvS (M' := mJ0_indexOf_0f7a4) (d' := d - 1) (i := 3) (As := [_]) dX12_letter_30 k_1760 cm_J0_indexOf_0f7a4 rfl (by omega) (by decide) (Nat.le_of_ble_eq_true rfl) rfl ⟨Nat.le_refl _, Nat.le_refl _⟩ ?_
        refine s_indexOf_3 (by omega) ?_
        dsimp only [Option.toList, List.cons_append, List.nil_append, Nat.add_zero]
        refine v_if_ge (tgt := 38) dX12_letter_33 (by decide) (fun c33_5 => ?_) (fun c33_5 => ?_)
        · refine v_aload_n dX12_letter_38 rfl ?_
          refine v_iload_n dX12_letter_39 rfl ?_
          refine v_iload_n dX12_letter_40 rfl ?_
          refine v_callv (M' := mX12_findLetters) (d' := d - 1) (mc' := 0) (ms' := 0) (ci := 12) (c := 116) (As := [_, _]) dX12_letter_41 k_1929 cm_X12_findLetters rfl (by omega) (by decide) kk_116 (Nat.le_of_ble_eq_true rfl) rfl ⟨Nat.le_refl _, Nat.le_refl _⟩ ?_
          refine s_flK (by omega) W (by omega) (fun xl_6 c41_6 => ?_)
          dsimp only [Option.toList, List.cons_append, List.nil_append, Nat.add_zero]
          refine v_aload_n dX12_letter_44 rfl ?_
          refine v_getr (ci := 12) (j := 11) (ji := 11) (z := 126) dX12_letter_45 k_1427 (by decide) kk_116 (by decide) rfl rfl (fun r => rt_116_11 (r rfl)) (by decide) ?_
          refine v_iload dX12_letter_48 rfl ?_
          refine v_ialoadv dX12_letter_50 (by decide) kk_126 (by omega) (by omega) (jst_l) ?_
          refine v_ireti dX12_letter_51 rfl (Nat.le_refl _) (Nat.le_refl _) ?_
          exact q_4 xl_6 xz_2 c4_2 c17_3 c22_4 c33_5 c41_6
        · refine v_iconst dX12_letter_36 (c32 rfl) ?_
          refine v_ireti dX12_letter_37 rfl (Nat.le_refl _) (Nat.le_refl _) ?_
          exact q_5 xl_2 xz_2 c4_2 c17_3 c22_4 c33_5

