/-! ===== the reference: state, duty (written by wip/whole/p31.py) ===== -/
set_option maxHeartbeats 4000000 in
set_option maxRecDepth 100000 in
theorem s_asksShip {l : Launch} {G : GG} {d : Nat} {h : AH} {Q : Option AV → List Kd → AH → Prop} {F : AH} {z O Lr : Int → Int} {cs : Int → List (Int × List Int)} {s q : Int} (hd : 42 ≤ d) (W : RW h) (S : RS h) (hX : TX h cs) (q0 : ¬ ((0 ≤ s ∧ s < h 116 65) ∧ (0 ≤ q ∧ q ≤ h 116 1) ∧ h 155 s ≤ q) → Q (some (0, 0)) K0 (jst (kst h (hset F 116 0 0)) z O Lr)) (q1 : ∀ F z O Lr, I3 h cs q (h 116 65) F → ((0 ≤ s ∧ s < h 116 65) ∧ (0 ≤ q ∧ q ≤ h 116 1) ∧ h 155 s ≤ q) → Q (some (0, 1)) K0 (jst (kst h F) z O Lr)) : Sp l G mX12_asksShip d 0 0 K0 [(2, 116), (0, s), (0, q)] (jst (kst h F) z O Lr) Q := by
  have ns := S.1
  refine sp_of (L := [(2, 116), (0, s), (0, q)]) pl_X12 (Nat.le_of_ble_eq_true rfl) (tg_c (by decide) (tg_c (by decide) (tg_c (by decide) tg_0))) rfl ?_
  refine v_aload_n dX12_asksShip_0 rfl ?_
  refine v_iconst dX12_asksShip_1 (c32 rfl) ?_
  refine v_puti (ci := 12) (j := 0) (ji := 0) dX12_asksShip_2 k_1416 (by decide) kk_116 (by decide) rfl rfl rfl ?_
  rw [jst_wj (by decide), kst_w (by decide)]
  refine v_aload_n dX12_asksShip_5 rfl ?_
  refine v_iload_n dX12_asksShip_6 rfl ?_
  refine v_callv (M' := mX12_isShipment) (d' := d - 1) (mc' := 0) (ms' := 0) (ci := 12) (c := 116) (As := [_]) dX12_asksShip_7 k_1963 cm_X12_isShipment rfl (by omega) (by decide) kk_116 (Nat.le_of_ble_eq_true rfl) rfl ⟨Nat.le_refl _, Nat.le_refl _⟩ ?_
  refine s_X12_isShipment (by omega) (fun c7_1 => ?_) (fun c7_2 c7_3 => ?_) (fun c7_4 c7_5 => ?_)
  · dsimp only [Option.toList, List.cons_append, List.nil_append, Nat.add_zero]
    refine v_if_eq_t (tgt := 31) dX12_asksShip_10 (by decide) (by decide) ?_
    refine v_iconst dX12_asksShip_31 (c32 rfl) ?_
    refine v_iretz dX12_asksShip_32 rfl (by decide) (Nat.le_refl _) (Nat.le_refl _) ?_
    exact q0 (by omega)
  · dsimp only [Option.toList, List.cons_append, List.nil_append, Nat.add_zero]
    rw [show (jst (kst h (hset F 116 0 0)) z O Lr) 116 65 = (h 116 65) from ((jst_j (by decide)).trans (kst_c (by decide)))] at c7_3
    refine v_if_eq_t (tgt := 31) dX12_asksShip_10 (by decide) (by decide) ?_
    refine v_iconst dX12_asksShip_31 (c32 rfl) ?_
    refine v_iretz dX12_asksShip_32 rfl (by decide) (Nat.le_refl _) (Nat.le_refl _) ?_
    exact q0 (by omega)
  · dsimp only [Option.toList, List.cons_append, List.nil_append, Nat.add_zero]
    rw [show (jst (kst h (hset F 116 0 0)) z O Lr) 116 65 = (h 116 65) from ((jst_j (by decide)).trans (kst_c (by decide)))] at c7_5
    refine v_if_eq_f (tgt := 31) dX12_asksShip_10 (by decide) (by decide) ?_
    refine v_aload_n dX12_asksShip_13 rfl ?_
    refine v_iload_n dX12_asksShip_14 rfl ?_
    refine v_callv (M' := mX12_isKnown) (d' := d - 1) (mc' := 0) (ms' := 0) (ci := 12) (c := 116) (As := [_]) dX12_asksShip_15 k_1720 cm_X12_isKnown rfl (by omega) (by decide) kk_116 (Nat.le_of_ble_eq_true rfl) rfl ⟨Nat.le_refl _, Nat.le_refl _⟩ ?_
    refine s_isKnownK (by omega) (fun c15_6 => ?_) (fun c15_7 => ?_)
    · dsimp only [Option.toList, List.cons_append, List.nil_append, Nat.add_zero]
      refine v_if_eq_t (tgt := 31) dX12_asksShip_18 (by decide) (by decide) ?_
      refine v_iconst dX12_asksShip_31 (c32 rfl) ?_
      refine v_iretz dX12_asksShip_32 rfl (by decide) (Nat.le_refl _) (Nat.le_refl _) ?_
      exact q0 (by omega)
    · dsimp only [Option.toList, List.cons_append, List.nil_append, Nat.add_zero]
      refine v_if_eq_f (tgt := 31) dX12_asksShip_18 (by decide) (by decide) ?_
      refine v_aload_n dX12_asksShip_21 rfl ?_
      refine v_getr (ci := 12) (j := 56) (ji := 56) (z := 155) dX12_asksShip_22 k_1472 (by decide) kk_116 (by decide) rfl rfl (fun r => rt_116_56 (r rfl)) (by decide) ?_
      refine v_iload_n dX12_asksShip_25 rfl ?_
      refine v_ialoadv dX12_asksShip_26 (by decide) kk_155 (by omega) (by omega) ((jst_c (by decide)).trans (kst_n (by decide))) ?_
      refine v_iload_n dX12_asksShip_27 rfl ?_
      refine v_icmp_le (tgt := 33) dX12_asksShip_28 (by decide) (fun c28_8 => ?_) (fun c28_8 => ?_)
      · refine v_aload_n dX12_asksShip_33 rfl ?_
        refine v_iload_n dX12_asksShip_34 rfl ?_
        refine v_callv (M' := mX12_findFirst) (d' := d - 1) (mc' := 0) (ms' := 0) (ci := 12) (c := 116) (As := [_]) dX12_asksShip_35 k_1975 cm_X12_findFirst rfl (by omega) (by decide) kk_116 (Nat.le_of_ble_eq_true rfl) rfl ⟨Nat.le_refl _, Nat.le_refl _⟩ ?_
        refine s_findFirst (cs := cs) (by omega) W S hX (hset_same _ _ _ _) (fun xf_9 xz_9 xo_9 xl_9 c35_9 => ?_)
        dsimp only [Option.toList, List.cons_append, List.nil_append, Nat.add_zero]
        refine v_iconst dX12_asksShip_38 (c32 rfl) ?_
        refine v_iretz dX12_asksShip_39 rfl (by decide) (Nat.le_refl _) (Nat.le_refl _) ?_
        exact q1 _ _ _ _ c35_9 (by omega)
      · refine v_iconst dX12_asksShip_31 (c32 rfl) ?_
        refine v_iretz dX12_asksShip_32 rfl (by decide) (Nat.le_refl _) (Nat.le_refl _) ?_
        exact q0 (by omega)

set_option maxHeartbeats 4000000 in
set_option maxRecDepth 100000 in
theorem s_state {l : Launch} {G : GG} {d : Nat} {h : AH} {Q : Option AV → List Kd → AH → Prop} {F : AH} {z O Lr : Int → Int} {cs : Int → List (Int × List Int)} {s q : Int} (hd : 43 ≤ d) (W : RW h) (S : RS h) (hX : TX h cs) (q0 : ¬ ((0 ≤ s ∧ s < h 116 65) ∧ (0 ≤ q ∧ q ≤ h 116 1) ∧ h 155 s ≤ q) → Q (some (0, -1)) K0 (jst (kst h (hset F 116 0 0)) z O Lr)) (q1 : ∀ F z O Lr, I3 h cs q (h 116 65) F → ((0 ≤ s ∧ s < h 116 65) ∧ (0 ≤ q ∧ q ≤ h 116 1) ∧ h 155 s ≤ q) → Q (some (0, stF h cs s q)) K0 (jst (kst h F) z O Lr)) : Sp l G mX12_state d 0 0 K0 [(2, 116), (0, s), (0, q)] (jst (kst h F) z O Lr) Q := by
  have ns := S.1
  refine sp_of (L := [(2, 116), (0, s), (0, q)]) pl_X12 (Nat.le_of_ble_eq_true rfl) (tg_c (by decide) (tg_c (by decide) (tg_c (by decide) tg_0))) rfl ?_
  refine v_aload_n dX12_state_0 rfl ?_
  refine v_iload_n dX12_state_1 rfl ?_
  refine v_iload_n dX12_state_2 rfl ?_
  refine v_callv (M' := mX12_asksShip) (d' := d - 1) (mc' := 0) (ms' := 0) (ci := 12) (c := 116) (As := [_, _]) dX12_state_3 k_1971 cm_X12_asksShip rfl (by omega) (by decide) kk_116 (Nat.le_of_ble_eq_true rfl) rfl ⟨Nat.le_refl _, Nat.le_refl _⟩ ?_
  refine s_asksShip (cs := cs) (by omega) W S hX (fun c3_1 => ?_) (fun xf_3 xz_3 xo_3 xl_3 c3_2 c3_3 => ?_)
  · dsimp only [Option.toList, List.cons_append, List.nil_append, Nat.add_zero]
    refine v_if_eq_t (tgt := 18) dX12_state_6 (by decide) (by decide) ?_
    refine v_iconst dX12_state_18 (c32 rfl) ?_
    refine v_ireti dX12_state_19 rfl (Nat.le_refl _) (Nat.le_refl _) ?_
    exact q0 c3_1
  · dsimp only [Option.toList, List.cons_append, List.nil_append, Nat.add_zero]
    refine v_if_eq_f (tgt := 18) dX12_state_6 (by decide) (by decide) ?_
    refine v_aload_n dX12_state_9 rfl ?_
    refine v_iload_n dX12_state_10 rfl ?_
    refine v_iload_n dX12_state_11 rfl ?_
    refine v_callv (M' := mX12_stateOf) (d' := d - 1) (mc' := 0) (ms' := 0) (ci := 12) (c := 116) (As := [_, _]) dX12_state_12 k_1991 cm_X12_stateOf rfl (by omega) (by decide) kk_116 (Nat.le_of_ble_eq_true rfl) rfl ⟨Nat.le_refl _, Nat.le_refl _⟩ ?_
    refine s_stateOf (cs := cs) (by omega) W S hX (by omega) c3_2 (fun xz_3 xl_3 => ?_)
    dsimp only [Option.toList, List.cons_append, List.nil_append, Nat.add_zero]
    refine v_goto (tgt := 19) dX12_state_15 (by decide) ?_
    refine v_ireti dX12_state_19 rfl (Nat.le_refl _) (Nat.le_refl _) ?_
    exact q1 _ _ _ _ c3_2 c3_3

/-- the tariffs are in their bounds -/
def RT (h : AH) : Prop := ∀ j, 0 ≤ j → j < 800 → 0 ≤ h 125 j ∧ h 125 j ≤ 1000
/-- a shipment's rate and duty -/
def rtF (h : AH) (cs : Int → List (Int × List Int)) (s q : Int) : Int := if stF h cs s q = 1 then max 0 (min 1000 (wS h cs s q 100)) else h 125 (100 * h 152 s + h 130 (h 150 s))
def duF (h : AH) (cs : Int → List (Int × List Int)) (s q : Int) : Int := ldiv (prc h q (h 150 s) * h 151 s * rtF h cs s q) 1000
theorem duF_b {x y : Int} (h1 : 1 ≤ x ∧ x ≤ 100000000) (h2 : 0 ≤ y ∧ y ≤ 1000) : 0 ≤ x * y ∧ x * y ≤ 100000000000 := by
  have a1 : x * y ≤ 100000000 * 1000 := Int.mul_le_mul h1.2 h2.2 h2.1 (by omega)
  have a2 : 0 * 0 ≤ x * y := Int.mul_le_mul (by omega) h2.1 (by omega) (by omega)
  omega

set_option maxHeartbeats 4000000 in
set_option maxRecDepth 100000 in
theorem s_dutyOf {l : Launch} {G : GG} {d : Nat} {h : AH} {Q : Option AV → List Kd → AH → Prop} {F : AH} {z O Lr : Int → Int} {cs : Int → List (Int × List Int)} {s q : Int} (hd : 41 ≤ d) (W : RW h) (S : RS h) (hX : TX h cs) (T : RT h) (hs : 0 ≤ s ∧ s < h 116 65) (hI : I3 h cs q (h 116 65) F) (hq : ∀ z Lr, Q (some (1, duF h cs s q)) K0 (jst (kst h F) z O Lr)) : Sp l G mX12_dutyOf d 0 0 K0 [(2, 116), (0, s), (0, q)] (jst (kst h F) z O Lr) Q := by
  have ns := S.1
  have nb := W.nb
  have a2 := S.2.2.1 s hs.1 hs.2
  have a3 := W.he (h 150 s) a2.1.1 a2.1.2
  have a4 := T (100 * h 152 s + h 130 (h 150 s)) (by omega) (by omega)
  refine sp_of (L := [(2, 116), (0, s), (0, q), (9, 0)]) pl_X12 (Nat.le_of_ble_eq_true rfl) (tg_c (by decide) (tg_c (by decide) (tg_c (by decide) tg_0))) rfl ?_
  refine v_aload_n dX12_dutyOf_0 rfl ?_
  refine v_getr (ci := 12) (j := 10) (ji := 10) (z := 125) dX12_dutyOf_1 k_1426 (by decide) kk_116 (by decide) rfl rfl (fun r => rt_116_10 (r rfl)) (by decide) ?_
  refine v_bipush dX12_dutyOf_4 (c32 rfl) (by decide) ?_
  refine v_aload_n dX12_dutyOf_6 rfl ?_
  refine v_getr (ci := 12) (j := 53) (ji := 53) (z := 152) dX12_dutyOf_7 k_1469 (by decide) kk_116 (by decide) rfl rfl (fun r => rt_116_53 (r rfl)) (by decide) ?_
  refine v_iload_n dX12_dutyOf_10 rfl ?_
  refine v_ialoadv dX12_dutyOf_11 (by decide) kk_152 (by omega) (by omega) ((jst_c (by decide)).trans (kst_n (by decide))) ?_
  refine v_imulE dX12_dutyOf_12 (by omega) ?_
  refine v_aload_n dX12_dutyOf_13 rfl ?_
  refine v_getr (ci := 12) (j := 27) (ji := 27) (z := 130) dX12_dutyOf_14 k_1443 (by decide) kk_116 (by decide) rfl rfl (fun r => rt_116_27 (r rfl)) (by decide) ?_
  refine v_aload_n dX12_dutyOf_17 rfl ?_
  refine v_getr (ci := 12) (j := 51) (ji := 51) (z := 150) dX12_dutyOf_18 k_1467 (by decide) kk_116 (by decide) rfl rfl (fun r => rt_116_51 (r rfl)) (by decide) ?_
  refine v_iload_n dX12_dutyOf_21 rfl ?_
  refine v_ialoadv dX12_dutyOf_22 (by decide) kk_150 (by omega) (by omega) ((jst_c (by decide)).trans (kst_n (by decide))) ?_
  refine v_ialoadv dX12_dutyOf_23 (by decide) kk_130 (by omega) (by omega) ((jst_c (by decide)).trans (kst_n (by decide))) ?_
  refine v_iaddE dX12_dutyOf_24 (by omega) ?_
  refine v_ialoadv dX12_dutyOf_25 (by decide) kk_125 (by omega) (by omega) ((jst_c (by decide)).trans (kst_n (by decide))) ?_
  refine v_istore_n_3 dX12_dutyOf_26 (by decide) rfl ?_
  refine v_aload_n dX12_dutyOf_27 rfl ?_
  refine v_iload_n dX12_dutyOf_28 rfl ?_
  refine v_iload_n dX12_dutyOf_29 rfl ?_
  refine v_callv (M' := mX12_stateOf) (d' := d - 1) (mc' := 0) (ms' := 0) (ci := 12) (c := 116) (As := [_, _]) dX12_dutyOf_30 k_1991 cm_X12_stateOf rfl (by omega) (by decide) kk_116 (Nat.le_of_ble_eq_true rfl) rfl ⟨Nat.le_refl _, Nat.le_refl _⟩ ?_
  refine s_stateOf (cs := cs) (by omega) W S hX (by omega) hI (fun xz_0 xl_0 => ?_)
  dsimp only [Option.toList, List.cons_append, List.nil_append, Nat.add_zero]
  refine v_iconst dX12_dutyOf_33 (c32 rfl) ?_
  refine v_icmp_ne (tgt := 56) dX12_dutyOf_34 (by decide) (fun c34_1 => ?_) (fun c34_1 => ?_)
  · refine v_aload_n dX12_dutyOf_56 rfl ?_
    refine v_aload_n dX12_dutyOf_57 rfl ?_
    refine v_getr (ci := 12) (j := 51) (ji := 51) (z := 150) dX12_dutyOf_58 k_1467 (by decide) kk_116 (by decide) rfl rfl (fun r => rt_116_51 (r rfl)) (by decide) ?_
    refine v_iload_n dX12_dutyOf_61 rfl ?_
    refine v_ialoadv dX12_dutyOf_62 (by decide) kk_150 (by omega) (by omega) ((jst_c (by decide)).trans (kst_n (by decide))) ?_
    refine v_iload_n dX12_dutyOf_63 rfl ?_
    refine v_callv (M' := mX12_priceOf) (d' := d - 1) (mc' := 0) (ms' := 0) (ci := 12) (c := 116) (As := [_, _]) dX12_dutyOf_64 k_1905 cm_X12_priceOf rfl (by omega) (by decide) kk_116 (Nat.le_of_ble_eq_true rfl) rfl ⟨Nat.le_refl _, Nat.le_refl _⟩ ?_
    refine s_prcK (by omega) W (by omega) ?_
    dsimp only [Option.toList, List.cons_append, List.nil_append, Nat.add_zero]
    refine v_i2l dX12_dutyOf_67 ?_
    refine v_aload_n dX12_dutyOf_68 rfl ?_
    refine v_getr (ci := 12) (j := 52) (ji := 52) (z := 151) dX12_dutyOf_69 k_1468 (by decide) kk_116 (by decide) rfl rfl (fun r => rt_116_52 (r rfl)) (by decide) ?_
    refine v_iload_n dX12_dutyOf_72 rfl ?_
    refine v_ialoadv dX12_dutyOf_73 (by decide) kk_151 (by omega) (by omega) ((jst_c (by decide)).trans (kst_n (by decide))) ?_
    refine v_i2l dX12_dutyOf_74 ?_
    have p9 := W.pc (q := q) (b := h 150 s) a2.1.1 a2.1.2
    have p8 := mul_r8 p9.1 p9.2 a2.2.1.1 a2.2.1.2
    refine v_lmulE dX12_dutyOf_75 (by omega) ?_
    refine v_iload_n dX12_dutyOf_76 rfl ?_
    refine v_i2l dX12_dutyOf_77 ?_
    have p9 := W.pc (q := q) (b := h 150 s) a2.1.1 a2.1.2
    have p8 := mul_r8 p9.1 p9.2 a2.2.1.1 a2.2.1.2
    have p7 := duF_b p8 (y := (h 125 ((100 * (h 152 s)) + (h 130 (h 150 s))))) (by omega)
    refine v_lmulE dX12_dutyOf_78 (by omega) ?_
    refine v_ldc2 (n := 1000) dX12_dutyOf_79 k_1699 (c64 rfl) (by decide) ?_
    refine v_ldiv dX12_dutyOf_82 (by decide) ?_
    refine v_lret dX12_dutyOf_83 rfl (Nat.le_refl _) (Nat.le_refl _) ?_
    have e9 : rtF h cs s q = (h 125 ((100 * (h 152 s)) + (h 130 (h 150 s)))) := by unfold rtF; rw [if_neg c34_1]
    have e8 : duF h cs s q = (ldiv (((prc h q (h 150 s)) * (h 151 s)) * (h 125 ((100 * (h 152 s)) + (h 130 (h 150 s))))) 1000) := by unfold duF; rw [e9]
    rw [← e8]
    exact hq _ _
  · refine v_iconst dX12_dutyOf_37 (c32 rfl) ?_
    refine v_sipush dX12_dutyOf_38 (c32 rfl) (by decide) ?_
    refine v_aload_n dX12_dutyOf_41 rfl ?_
    refine v_iload_n dX12_dutyOf_42 rfl ?_
    refine v_iload_n dX12_dutyOf_43 rfl ?_
    refine v_bipush dX12_dutyOf_44 (c32 rfl) (by decide) ?_
    refine v_callv (M' := mX12_worthFor) (d' := d - 1) (mc' := 0) (ms' := 0) (ci := 12) (c := 116) (As := [_, _, _]) dX12_dutyOf_46 k_1983 cm_X12_worthFor rfl (by omega) (by decide) kk_116 (Nat.le_of_ble_eq_true rfl) rfl ⟨Nat.le_refl _, Nat.le_refl _⟩ ?_
    refine s_worthFor (cs := cs) (by omega) W S hX (by omega) (fun xz_1 xl_1 => ?_)
    dsimp only [Option.toList, List.cons_append, List.nil_append, Nat.add_zero]
    refine v_mmin dX12_dutyOf_49 k_1882 (by omega) (Nat.le_of_ble_eq_true rfl) ⟨Nat.le_refl _, Nat.le_refl _⟩ ?_
    refine v_mmax dX12_dutyOf_52 k_2007 (by omega) (Nat.le_of_ble_eq_true rfl) ⟨Nat.le_refl _, Nat.le_refl _⟩ ?_
    refine v_istore_n_3 dX12_dutyOf_55 (by decide) rfl ?_
    refine v_aload_n dX12_dutyOf_56 rfl ?_
    refine v_aload_n dX12_dutyOf_57 rfl ?_
    refine v_getr (ci := 12) (j := 51) (ji := 51) (z := 150) dX12_dutyOf_58 k_1467 (by decide) kk_116 (by decide) rfl rfl (fun r => rt_116_51 (r rfl)) (by decide) ?_
    refine v_iload_n dX12_dutyOf_61 rfl ?_
    refine v_ialoadv dX12_dutyOf_62 (by decide) kk_150 (by omega) (by omega) ((jst_c (by decide)).trans (kst_n (by decide))) ?_
    refine v_iload_n dX12_dutyOf_63 rfl ?_
    refine v_callv (M' := mX12_priceOf) (d' := d - 1) (mc' := 0) (ms' := 0) (ci := 12) (c := 116) (As := [_, _]) dX12_dutyOf_64 k_1905 cm_X12_priceOf rfl (by omega) (by decide) kk_116 (Nat.le_of_ble_eq_true rfl) rfl ⟨Nat.le_refl _, Nat.le_refl _⟩ ?_
    refine s_prcK (by omega) W (by omega) ?_
    dsimp only [Option.toList, List.cons_append, List.nil_append, Nat.add_zero]
    refine v_i2l dX12_dutyOf_67 ?_
    refine v_aload_n dX12_dutyOf_68 rfl ?_
    refine v_getr (ci := 12) (j := 52) (ji := 52) (z := 151) dX12_dutyOf_69 k_1468 (by decide) kk_116 (by decide) rfl rfl (fun r => rt_116_52 (r rfl)) (by decide) ?_
    refine v_iload_n dX12_dutyOf_72 rfl ?_
    refine v_ialoadv dX12_dutyOf_73 (by decide) kk_151 (by omega) (by omega) ((jst_c (by decide)).trans (kst_n (by decide))) ?_
    refine v_i2l dX12_dutyOf_74 ?_
    have p9 := W.pc (q := q) (b := h 150 s) a2.1.1 a2.1.2
    have p8 := mul_r8 p9.1 p9.2 a2.2.1.1 a2.2.1.2
    refine v_lmulE dX12_dutyOf_75 (by omega) ?_
    refine v_iload_n dX12_dutyOf_76 rfl ?_
    refine v_i2l dX12_dutyOf_77 ?_
    have p9 := W.pc (q := q) (b := h 150 s) a2.1.1 a2.1.2
    have p8 := mul_r8 p9.1 p9.2 a2.2.1.1 a2.2.1.2
    have p7 := duF_b p8 (y := (max 0 (min 1000 (wS h cs s q 100)))) (by omega)
    refine v_lmulE dX12_dutyOf_78 (by omega) ?_
    refine v_ldc2 (n := 1000) dX12_dutyOf_79 k_1699 (c64 rfl) (by decide) ?_
    refine v_ldiv dX12_dutyOf_82 (by decide) ?_
    refine v_lret dX12_dutyOf_83 rfl (Nat.le_refl _) (Nat.le_refl _) ?_
    have e9 : rtF h cs s q = (max 0 (min 1000 (wS h cs s q 100))) := by unfold rtF; rw [if_pos c34_1]
    have e8 : duF h cs s q = (ldiv (((prc h q (h 150 s)) * (h 151 s)) * (max 0 (min 1000 (wS h cs s q 100)))) 1000) := by unfold duF; rw [e9]
    rw [← e8]
    exact hq _ _

set_option maxHeartbeats 4000000 in
set_option maxRecDepth 100000 in
theorem s_duty {l : Launch} {G : GG} {d : Nat} {h : AH} {Q : Option AV → List Kd → AH → Prop} {F : AH} {z O Lr : Int → Int} {cs : Int → List (Int × List Int)} {s q : Int} (hd : 43 ≤ d) (W : RW h) (S : RS h) (hX : TX h cs) (T : RT h) (q0 : ¬ ((0 ≤ s ∧ s < h 116 65) ∧ (0 ≤ q ∧ q ≤ h 116 1) ∧ h 155 s ≤ q) → Q (some (1, -1)) K0 (jst (kst h (hset F 116 0 0)) z O Lr)) (q1 : ∀ F z O Lr, I3 h cs q (h 116 65) F → ((0 ≤ s ∧ s < h 116 65) ∧ (0 ≤ q ∧ q ≤ h 116 1) ∧ h 155 s ≤ q) → Q (some (1, duF h cs s q)) K0 (jst (kst h F) z O Lr)) : Sp l G mX12_duty d 0 0 K0 [(2, 116), (0, s), (0, q)] (jst (kst h F) z O Lr) Q := by
  have ns := S.1
  refine sp_of (L := [(2, 116), (0, s), (0, q)]) pl_X12 (Nat.le_of_ble_eq_true rfl) (tg_c (by decide) (tg_c (by decide) (tg_c (by decide) tg_0))) rfl ?_
  refine v_aload_n dX12_duty_0 rfl ?_
  refine v_iload_n dX12_duty_1 rfl ?_
  refine v_iload_n dX12_duty_2 rfl ?_
  refine v_callv (M' := mX12_asksShip) (d' := d - 1) (mc' := 0) (ms' := 0) (ci := 12) (c := 116) (As := [_, _]) dX12_duty_3 k_1971 cm_X12_asksShip rfl (by omega) (by decide) kk_116 (Nat.le_of_ble_eq_true rfl) rfl ⟨Nat.le_refl _, Nat.le_refl _⟩ ?_
  refine s_asksShip (cs := cs) (by omega) W S hX (fun c3_1 => ?_) (fun xf_3 xz_3 xo_3 xl_3 c3_2 c3_3 => ?_)
  · dsimp only [Option.toList, List.cons_append, List.nil_append, Nat.add_zero]
    refine v_if_eq_t (tgt := 18) dX12_duty_6 (by decide) (by decide) ?_
    refine v_ldc2 (n := -1) dX12_duty_18 k_1957 (c64 rfl) (by decide) ?_
    refine v_lret dX12_duty_21 rfl (Nat.le_refl _) (Nat.le_refl _) ?_
    exact q0 c3_1
  · dsimp only [Option.toList, List.cons_append, List.nil_append, Nat.add_zero]
    refine v_if_eq_f (tgt := 18) dX12_duty_6 (by decide) (by decide) ?_
    refine v_aload_n dX12_duty_9 rfl ?_
    refine v_iload_n dX12_duty_10 rfl ?_
    refine v_iload_n dX12_duty_11 rfl ?_
    refine v_callv (M' := mX12_dutyOf) (d' := d - 1) (mc' := 0) (ms' := 0) (ci := 12) (c := 116) (As := [_, _]) dX12_duty_12 k_2003 cm_X12_dutyOf rfl (by omega) (by decide) kk_116 (Nat.le_of_ble_eq_true rfl) rfl ⟨Nat.le_refl _, Nat.le_refl _⟩ ?_
    refine s_dutyOf (cs := cs) (by omega) W S hX T (by omega) c3_2 (fun xz_3 xl_3 => ?_)
    dsimp only [Option.toList, List.cons_append, List.nil_append, Nat.add_zero]
    refine v_goto (tgt := 21) dX12_duty_15 (by decide) ?_
    refine v_lret dX12_duty_21 rfl (Nat.le_refl _) (Nat.le_refl _) ?_
    exact q1 _ _ _ _ c3_2 c3_3

