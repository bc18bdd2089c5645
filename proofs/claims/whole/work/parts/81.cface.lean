/-! ===== the class: its face, what asks (written by wip/whole/p55.py) ===== -/
set_option maxHeartbeats 4000000 in
set_option maxRecDepth 100000 in
theorem s_chas {l : Launch} {G : GG} {d : Nat} {h F : AH} {Q : Option AV → List Kd → AH → Prop} {cs : Int → List (Int × List Int)} {b : Int} (hd : 2 ≤ d) (I : CI h cs) (q1 : (0 ≤ b ∧ b < h 116 45) → Q (some (0, 1)) K0 (cst h F)) (q0 : ¬ ((0 ≤ b ∧ b < h 116 45)) → Q (some (0, 0)) K0 (cst h F)) : Sp l G mX6_has d 0 0 K0 [(2, 41), (0, b)] (cst h F) Q := by
  have nb := I.W.nb
  refine sp_of (L := [(2, 41), (0, b)]) pl_X6 (Nat.le_of_ble_eq_true rfl) (tg_c (by decide) (tg_c (by decide) tg_0)) rfl ?_
  refine v_iload_n dX6_has_0 rfl ?_
  refine v_iconst dX6_has_1 (c32 rfl) ?_
  refine v_aload_n dX6_has_2 rfl ?_
  refine v_getv (ci := 6) (j := 12) (ji := 12) (tg := 0) dX6_has_3 k_318 (by decide) kk_41 (by decide) rfl rfl (by decide) ((cst_n (by decide)).trans (I.f41_12)) ?_
  refine v_iconst dX6_has_6 (c32 rfl) ?_
  refine v_isubE dX6_has_7 (by omega) ?_
  refine v_callsN (M' := mX11_within) (d' := d - 1) (mc' := 0) (ms' := 0) (As := [_, _, _]) dX6_has_8 k_859 cm_X11_within (by omega) (Nat.le_of_ble_eq_true rfl) rfl ⟨Nat.le_refl _, Nat.le_refl _⟩ ?_
  refine s_X11_within (by omega) (fun c8_1 => ?_) (fun c8_2 c8_3 => ?_) (fun c8_4 c8_5 => ?_)
  · dsimp only [Option.toList, List.cons_append, List.nil_append, Nat.add_zero]
    refine v_iretz dX6_has_11 rfl (by decide) (Nat.le_refl _) (Nat.le_refl _) ?_
    exact q0 (by omega)
  · dsimp only [Option.toList, List.cons_append, List.nil_append, Nat.add_zero]
    refine v_iretz dX6_has_11 rfl (by decide) (Nat.le_refl _) (Nat.le_refl _) ?_
    exact q0 (by omega)
  · dsimp only [Option.toList, List.cons_append, List.nil_append, Nat.add_zero]
    refine v_iretz dX6_has_11 rfl (by decide) (Nat.le_refl _) (Nat.le_refl _) ?_
    exact q1 (by omega)

set_option maxHeartbeats 4000000 in
set_option maxRecDepth 100000 in
theorem s_chasP {l : Launch} {G : GG} {d : Nat} {h F : AH} {Q : Option AV → List Kd → AH → Prop} {cs : Int → List (Int × List Int)} {b : Int} (hd : 2 ≤ d) (I : CI h cs) (q1 : (0 ≤ b ∧ b < h 116 15) → Q (some (0, 1)) K0 (cst h F)) (q0 : ¬ ((0 ≤ b ∧ b < h 116 15)) → Q (some (0, 0)) K0 (cst h F)) : Sp l G mX1_has d 0 0 K0 [(2, 12), (0, b)] (cst h F) Q := by
  have nt := I.W.nt
  refine sp_of (L := [(2, 12), (0, b)]) pl_X1 (Nat.le_of_ble_eq_true rfl) (tg_c (by decide) (tg_c (by decide) tg_0)) rfl ?_
  refine v_iload_n dX1_has_0 rfl ?_
  refine v_iconst dX1_has_1 (c32 rfl) ?_
  refine v_aload_n dX1_has_2 rfl ?_
  refine v_getv (ci := 1) (j := 4) (ji := 4) (tg := 0) dX1_has_3 k_182 (by decide) kk_12 (by decide) rfl rfl (by decide) ((cst_n (by decide)).trans (I.f12_4)) ?_
  refine v_iconst dX1_has_6 (c32 rfl) ?_
  refine v_isubE dX1_has_7 (by omega) ?_
  refine v_callsN (M' := mX11_within) (d' := d - 1) (mc' := 0) (ms' := 0) (As := [_, _, _]) dX1_has_8 k_601 cm_X11_within (by omega) (Nat.le_of_ble_eq_true rfl) rfl ⟨Nat.le_refl _, Nat.le_refl _⟩ ?_
  refine s_X11_within (by omega) (fun c8_1 => ?_) (fun c8_2 c8_3 => ?_) (fun c8_4 c8_5 => ?_)
  · dsimp only [Option.toList, List.cons_append, List.nil_append, Nat.add_zero]
    refine v_iretz dX1_has_11 rfl (by decide) (Nat.le_refl _) (Nat.le_refl _) ?_
    exact q0 (by omega)
  · dsimp only [Option.toList, List.cons_append, List.nil_append, Nat.add_zero]
    refine v_iretz dX1_has_11 rfl (by decide) (Nat.le_refl _) (Nat.le_refl _) ?_
    exact q0 (by omega)
  · dsimp only [Option.toList, List.cons_append, List.nil_append, Nat.add_zero]
    refine v_iretz dX1_has_11 rfl (by decide) (Nat.le_refl _) (Nat.le_refl _) ?_
    exact q1 (by omega)

set_option maxHeartbeats 4000000 in
set_option maxRecDepth 100000 in
theorem s_chasS {l : Launch} {G : GG} {d : Nat} {h F : AH} {Q : Option AV → List Kd → AH → Prop} {cs : Int → List (Int × List Int)} {b : Int} (hd : 2 ≤ d) (I : CI h cs) (q1 : (0 ≤ b ∧ b < h 116 65) → Q (some (0, 1)) K0 (cst h F)) (q0 : ¬ ((0 ≤ b ∧ b < h 116 65)) → Q (some (0, 0)) K0 (cst h F)) : Sp l G mX0_has d 0 0 K0 [(2, 4), (0, b)] (cst h F) Q := by
  have ns := I.S.1
  refine sp_of (L := [(2, 4), (0, b)]) pl_X0 (Nat.le_of_ble_eq_true rfl) (tg_c (by decide) (tg_c (by decide) tg_0)) rfl ?_
  refine v_iload_n dX0_has_0 rfl ?_
  refine v_iconst dX0_has_1 (c32 rfl) ?_
  refine v_aload_n dX0_has_2 rfl ?_
  refine v_getv (ci := 0) (j := 7) (ji := 7) (tg := 0) dX0_has_3 k_381 (by decide) kk_4 (by decide) rfl rfl (by decide) ((cst_n (by decide)).trans (I.f4_7)) ?_
  refine v_iconst dX0_has_6 (c32 rfl) ?_
  refine v_isubE dX0_has_7 (by omega) ?_
  refine v_callsN (M' := mX11_within) (d' := d - 1) (mc' := 0) (ms' := 0) (As := [_, _, _]) dX0_has_8 k_1074 cm_X11_within (by omega) (Nat.le_of_ble_eq_true rfl) rfl ⟨Nat.le_refl _, Nat.le_refl _⟩ ?_
  refine s_X11_within (by omega) (fun c8_1 => ?_) (fun c8_2 c8_3 => ?_) (fun c8_4 c8_5 => ?_)
  · dsimp only [Option.toList, List.cons_append, List.nil_append, Nat.add_zero]
    refine v_iretz dX0_has_11 rfl (by decide) (Nat.le_refl _) (Nat.le_refl _) ?_
    exact q0 (by omega)
  · dsimp only [Option.toList, List.cons_append, List.nil_append, Nat.add_zero]
    refine v_iretz dX0_has_11 rfl (by decide) (Nat.le_refl _) (Nat.le_refl _) ?_
    exact q0 (by omega)
  · dsimp only [Option.toList, List.cons_append, List.nil_append, Nat.add_zero]
    refine v_iretz dX0_has_11 rfl (by decide) (Nat.le_refl _) (Nat.le_refl _) ?_
    exact q1 (by omega)

set_option maxHeartbeats 4000000 in
set_option maxRecDepth 100000 in
theorem s_cknown {l : Launch} {G : GG} {d : Nat} {h F : AH} {Q : Option AV → List Kd → AH → Prop} {cs : Int → List (Int × List Int)} {b w q : Int} (hd : 3 ≤ d) (I : CI h cs) (q1 : ((0 ≤ b ∧ b < h 116 45) ∧ (0 ≤ w ∧ w ≤ 3) ∧ (h 134 b ≤ q ∧ q ≤ h 116 1)) → Q (some (0, 1)) K0 (cst h F)) (q0 : ¬ (((0 ≤ b ∧ b < h 116 45) ∧ (0 ≤ w ∧ w ≤ 3) ∧ (h 134 b ≤ q ∧ q ≤ h 116 1))) → Q (some (0, 0)) K0 (cst h F)) : Sp l G mX11_isKnown d 0 0 K0 [(2, 0), (0, b), (0, w), (0, q)] (cst h F) Q := by
  have nb := I.W.nb
  refine sp_of (L := [(2, 0), (0, b), (0, w), (0, q)]) pl_X11 (Nat.le_of_ble_eq_true rfl) (tg_c (by decide) (tg_c (by decide) (tg_c (by decide) (tg_c (by decide) tg_0)))) rfl ?_
  refine v_aload_n dX11_isKnown_0 rfl ?_
  refine v_getr (ci := 11) (j := 3) (ji := 3) (z := 41) dX11_isKnown_1 k_557 (by decide) kk_0 (by decide) rfl rfl (fun r => rt_0_3 (r rfl)) (by decide) ?_
  refine v_iload_n dX11_isKnown_4 rfl ?_
  refine v_callv (M' := mX6_has) (d' := d - 1) (mc' := 0) (ms' := 0) (ci := 6) (c := 41) (As := [_]) dX11_isKnown_5 k_914 cm_X6_has rfl (by omega) (by decide) kk_41 (Nat.le_of_ble_eq_true rfl) rfl ⟨Nat.le_refl _, Nat.le_refl _⟩ ?_
  refine s_chas (by omega) I (fun c5_1 => ?_) (fun c5_2 => ?_)
  · dsimp only [Option.toList, List.cons_append, List.nil_append, Nat.add_zero]
    refine v_if_eq_f (tgt := 44) dX11_isKnown_8 (by decide) (by decide) ?_
    refine v_iload_n dX11_isKnown_11 rfl ?_
    refine v_iconst dX11_isKnown_12 (c32 rfl) ?_
    refine v_iconst dX11_isKnown_13 (c32 rfl) ?_
    refine v_calls (M' := mX11_within) (d' := d - 1) (mc' := 0) (ms' := 0) (As := [_, _, _]) dX11_isKnown_14 k_586 cm_X11_within (by omega) (Nat.le_of_ble_eq_true rfl) rfl ⟨Nat.le_refl _, Nat.le_refl _⟩ ?_
    refine s_X11_within (by omega) (fun c14_3 => ?_) (fun c14_4 c14_5 => ?_) (fun c14_6 c14_7 => ?_)
    · dsimp only [Option.toList, List.cons_append, List.nil_append, Nat.add_zero]
      refine v_if_eq_t (tgt := 44) dX11_isKnown_17 (by decide) (by decide) ?_
      refine v_iconst dX11_isKnown_44 (c32 rfl) ?_
      refine v_iretz dX11_isKnown_45 rfl (by decide) (Nat.le_refl _) (Nat.le_refl _) ?_
      exact q0 (by omega)
    · dsimp only [Option.toList, List.cons_append, List.nil_append, Nat.add_zero]
      refine v_if_eq_t (tgt := 44) dX11_isKnown_17 (by decide) (by decide) ?_
      refine v_iconst dX11_isKnown_44 (c32 rfl) ?_
      refine v_iretz dX11_isKnown_45 rfl (by decide) (Nat.le_refl _) (Nat.le_refl _) ?_
      exact q0 (by omega)
    · dsimp only [Option.toList, List.cons_append, List.nil_append, Nat.add_zero]
      refine v_if_eq_f (tgt := 44) dX11_isKnown_17 (by decide) (by decide) ?_
      refine v_iload_n dX11_isKnown_20 rfl ?_
      refine v_aload_n dX11_isKnown_21 rfl ?_
      refine v_getr (ci := 11) (j := 3) (ji := 3) (z := 41) dX11_isKnown_22 k_557 (by decide) kk_0 (by decide) rfl rfl (fun r => rt_0_3 (r rfl)) (by decide) ?_
      refine v_getrN (ci := 6) (j := 5) (ji := 5) (z := 47) dX11_isKnown_25 k_306 (by decide) kk_41 (by decide) rfl rfl (fun r => rt_41_5 (r rfl)) (by decide) ?_
      refine v_iload_n dX11_isKnown_28 rfl ?_
      refine v_ialoadv dX11_isKnown_29 (by decide) kk_47 (by omega) (by omega) ((cst_n (by decide)).trans ((congrFun I.e47 b))) ?_
      refine v_aload_n dX11_isKnown_30 rfl ?_
      refine v_getv (ci := 11) (j := 0) (ji := 0) (tg := 0) dX11_isKnown_31 k_554 (by decide) kk_0 (by decide) rfl rfl (by decide) ((cst_n (by decide)).trans (I.f0_0)) ?_
      refine v_calls (M' := mX11_within) (d' := d - 1) (mc' := 0) (ms' := 0) (As := [_, _, _]) dX11_isKnown_34 k_586 cm_X11_within (by omega) (Nat.le_of_ble_eq_true rfl) rfl ⟨Nat.le_refl _, Nat.le_refl _⟩ ?_
      refine s_X11_within (by omega) (fun c34_8 => ?_) (fun c34_9 c34_10 => ?_) (fun c34_11 c34_12 => ?_)
      · dsimp only [Option.toList, List.cons_append, List.nil_append, Nat.add_zero]
        refine v_if_eq_t (tgt := 44) dX11_isKnown_37 (by decide) (by decide) ?_
        refine v_iconst dX11_isKnown_44 (c32 rfl) ?_
        refine v_iretz dX11_isKnown_45 rfl (by decide) (Nat.le_refl _) (Nat.le_refl _) ?_
        exact q0 (by omega)
      · dsimp only [Option.toList, List.cons_append, List.nil_append, Nat.add_zero]
        refine v_if_eq_t (tgt := 44) dX11_isKnown_37 (by decide) (by decide) ?_
        refine v_iconst dX11_isKnown_44 (c32 rfl) ?_
        refine v_iretz dX11_isKnown_45 rfl (by decide) (Nat.le_refl _) (Nat.le_refl _) ?_
        exact q0 (by omega)
      · dsimp only [Option.toList, List.cons_append, List.nil_append, Nat.add_zero]
        refine v_if_eq_f (tgt := 44) dX11_isKnown_37 (by decide) (by decide) ?_
        refine v_iconst dX11_isKnown_40 (c32 rfl) ?_
        refine v_goto (tgt := 45) dX11_isKnown_41 (by decide) ?_
        refine v_iretz dX11_isKnown_45 rfl (by decide) (Nat.le_refl _) (Nat.le_refl _) ?_
        exact q1 (by omega)
  · dsimp only [Option.toList, List.cons_append, List.nil_append, Nat.add_zero]
    refine v_if_eq_t (tgt := 44) dX11_isKnown_8 (by decide) (by decide) ?_
    refine v_iconst dX11_isKnown_44 (c32 rfl) ?_
    refine v_iretz dX11_isKnown_45 rfl (by decide) (Nat.le_refl _) (Nat.le_refl _) ?_
    exact q0 (by omega)

set_option maxHeartbeats 4000000 in
set_option maxRecDepth 100000 in
theorem s_cmknown {l : Launch} {G : GG} {d : Nat} {h F : AH} {Q : Option AV → List Kd → AH → Prop} {cs : Int → List (Int × List Int)} {b w q : Int} (hd : 4 ≤ d) (I : CI h cs) (q1 : (((0 ≤ b ∧ b < h 116 45) ∧ (0 ≤ w ∧ w ≤ 3) ∧ (h 134 b ≤ q ∧ q ≤ h 116 1)) ∧ h 135 b ≠ -1) → Q (some (0, 1)) K0 (cst h F)) (q0 : ¬ ((((0 ≤ b ∧ b < h 116 45) ∧ (0 ≤ w ∧ w ≤ 3) ∧ (h 134 b ≤ q ∧ q ≤ h 116 1)) ∧ h 135 b ≠ -1)) → Q (some (0, 0)) K0 (cst h F)) : Sp l G mX11_isMadeKnown d 0 0 K0 [(2, 0), (0, b), (0, w), (0, q)] (cst h F) Q := by
  have nb := I.W.nb
  refine sp_of (L := [(2, 0), (0, b), (0, w), (0, q)]) pl_X11 (Nat.le_of_ble_eq_true rfl) (tg_c (by decide) (tg_c (by decide) (tg_c (by decide) (tg_c (by decide) tg_0)))) rfl ?_
  refine v_aload_n dX11_isMadeKnown_0 rfl ?_
  refine v_iload_n dX11_isMadeKnown_1 rfl ?_
  refine v_iload_n dX11_isMadeKnown_2 rfl ?_
  refine v_iload_n dX11_isMadeKnown_3 rfl ?_
  refine v_callv (M' := mX11_isKnown) (d' := d - 1) (mc' := 0) (ms' := 0) (ci := 11) (c := 0) (As := [_, _, _]) dX11_isMadeKnown_4 k_947 cm_X11_isKnown rfl (by omega) (by decide) kk_0 (Nat.le_of_ble_eq_true rfl) rfl ⟨Nat.le_refl _, Nat.le_refl _⟩ ?_
  refine s_cknown (by omega) I (fun c4_1 => ?_) (fun c4_2 => ?_)
  · dsimp only [Option.toList, List.cons_append, List.nil_append, Nat.add_zero]
    refine v_if_eq_f (tgt := 25) dX11_isMadeKnown_7 (by decide) (by decide) ?_
    refine v_aload_n dX11_isMadeKnown_10 rfl ?_
    refine v_getr (ci := 11) (j := 3) (ji := 3) (z := 41) dX11_isMadeKnown_11 k_557 (by decide) kk_0 (by decide) rfl rfl (fun r => rt_0_3 (r rfl)) (by decide) ?_
    refine v_iload_n dX11_isMadeKnown_14 rfl ?_
    refine v_callv (M' := mX6_isGrown) (d' := d - 1) (mc' := 0) (ms' := 0) (ci := 6) (c := 41) (As := [_]) dX11_isMadeKnown_15 k_1043 cm_X6_isGrown rfl (by omega) (by decide) kk_41 (Nat.le_of_ble_eq_true rfl) rfl ⟨Nat.le_refl _, Nat.le_refl _⟩ ?_
    refine s_cgrown (by omega) I ⟨by omega, by omega⟩ (fun c15_3 => ?_) (fun c15_4 => ?_)
    · dsimp only [Option.toList, List.cons_append, List.nil_append, Nat.add_zero]
      refine v_if_ne_t (tgt := 25) dX11_isMadeKnown_18 (by decide) (by decide) ?_
      refine v_iconst dX11_isMadeKnown_25 (c32 rfl) ?_
      refine v_iretz dX11_isMadeKnown_26 rfl (by decide) (Nat.le_refl _) (Nat.le_refl _) ?_
      exact q0 (by omega)
    · dsimp only [Option.toList, List.cons_append, List.nil_append, Nat.add_zero]
      refine v_if_ne_f (tgt := 25) dX11_isMadeKnown_18 (by decide) (by decide) ?_
      refine v_iconst dX11_isMadeKnown_21 (c32 rfl) ?_
      refine v_goto (tgt := 26) dX11_isMadeKnown_22 (by decide) ?_
      refine v_iretz dX11_isMadeKnown_26 rfl (by decide) (Nat.le_refl _) (Nat.le_refl _) ?_
      exact q1 (by omega)
  · dsimp only [Option.toList, List.cons_append, List.nil_append, Nat.add_zero]
    refine v_if_eq_t (tgt := 25) dX11_isMadeKnown_7 (by decide) (by decide) ?_
    refine v_iconst dX11_isMadeKnown_25 (c32 rfl) ?_
    refine v_iretz dX11_isMadeKnown_26 rfl (by decide) (Nat.le_refl _) (Nat.le_refl _) ?_
    exact q0 (by omega)

set_option maxHeartbeats 4000000 in
set_option maxRecDepth 100000 in
theorem s_csent {l : Launch} {G : GG} {d : Nat} {h F : AH} {Q : Option AV → List Kd → AH → Prop} {cs : Int → List (Int × List Int)} {s q : Int} (hd : 3 ≤ d) (I : CI h cs) (q1 : ((0 ≤ s ∧ s < h 116 65) ∧ (h 155 s ≤ q ∧ q ≤ h 116 1)) → Q (some (0, 1)) K0 (cst h F)) (q0 : ¬ (((0 ≤ s ∧ s < h 116 65) ∧ (h 155 s ≤ q ∧ q ≤ h 116 1))) → Q (some (0, 0)) K0 (cst h F)) : Sp l G mX11_isSent d 0 0 K0 [(2, 0), (0, s), (0, q)] (cst h F) Q := by
  have ns := I.S.1
  refine sp_of (L := [(2, 0), (0, s), (0, q)]) pl_X11 (Nat.le_of_ble_eq_true rfl) (tg_c (by decide) (tg_c (by decide) (tg_c (by decide) tg_0))) rfl ?_
  refine v_aload_n dX11_isSent_0 rfl ?_
  refine v_getr (ci := 11) (j := 6) (ji := 6) (z := 4) dX11_isSent_1 k_560 (by decide) kk_0 (by decide) rfl rfl (fun r => rt_0_6 (r rfl)) (by decide) ?_
  refine v_iload_n dX11_isSent_4 rfl ?_
  refine v_callv (M' := mX0_has) (d' := d - 1) (mc' := 0) (ms' := 0) (ci := 0) (c := 4) (As := [_]) dX11_isSent_5 k_1070 cm_X0_has rfl (by omega) (by decide) kk_4 (Nat.le_of_ble_eq_true rfl) rfl ⟨Nat.le_refl _, Nat.le_refl _⟩ ?_
  refine s_chasS (by omega) I (fun c5_1 => ?_) (fun c5_2 => ?_)
  · dsimp only [Option.toList, List.cons_append, List.nil_append, Nat.add_zero]
    refine v_if_eq_f (tgt := 35) dX11_isSent_8 (by decide) (by decide) ?_
    refine v_iload_n dX11_isSent_11 rfl ?_
    refine v_aload_n dX11_isSent_12 rfl ?_
    refine v_getr (ci := 11) (j := 6) (ji := 6) (z := 4) dX11_isSent_13 k_560 (by decide) kk_0 (by decide) rfl rfl (fun r => rt_0_6 (r rfl)) (by decide) ?_
    refine v_getrN (ci := 0) (j := 6) (ji := 6) (z := 69) dX11_isSent_16 k_380 (by decide) kk_4 (by decide) rfl rfl (fun r => rt_4_6 (r rfl)) (by decide) ?_
    refine v_iload_n dX11_isSent_19 rfl ?_
    refine v_ialoadv dX11_isSent_20 (by decide) kk_69 (by omega) (by omega) ((cst_n (by decide)).trans ((congrFun I.e69 s))) ?_
    refine v_aload_n dX11_isSent_21 rfl ?_
    refine v_getv (ci := 11) (j := 0) (ji := 0) (tg := 0) dX11_isSent_22 k_554 (by decide) kk_0 (by decide) rfl rfl (by decide) ((cst_n (by decide)).trans (I.f0_0)) ?_
    refine v_calls (M' := mX11_within) (d' := d - 1) (mc' := 0) (ms' := 0) (As := [_, _, _]) dX11_isSent_25 k_586 cm_X11_within (by omega) (Nat.le_of_ble_eq_true rfl) rfl ⟨Nat.le_refl _, Nat.le_refl _⟩ ?_
    refine s_X11_within (by omega) (fun c25_3 => ?_) (fun c25_4 c25_5 => ?_) (fun c25_6 c25_7 => ?_)
    · dsimp only [Option.toList, List.cons_append, List.nil_append, Nat.add_zero]
      refine v_if_eq_t (tgt := 35) dX11_isSent_28 (by decide) (by decide) ?_
      refine v_iconst dX11_isSent_35 (c32 rfl) ?_
      refine v_iretz dX11_isSent_36 rfl (by decide) (Nat.le_refl _) (Nat.le_refl _) ?_
      exact q0 (by omega)
    · dsimp only [Option.toList, List.cons_append, List.nil_append, Nat.add_zero]
      refine v_if_eq_t (tgt := 35) dX11_isSent_28 (by decide) (by decide) ?_
      refine v_iconst dX11_isSent_35 (c32 rfl) ?_
      refine v_iretz dX11_isSent_36 rfl (by decide) (Nat.le_refl _) (Nat.le_refl _) ?_
      exact q0 (by omega)
    · dsimp only [Option.toList, List.cons_append, List.nil_append, Nat.add_zero]
      refine v_if_eq_f (tgt := 35) dX11_isSent_28 (by decide) (by decide) ?_
      refine v_iconst dX11_isSent_31 (c32 rfl) ?_
      refine v_goto (tgt := 36) dX11_isSent_32 (by decide) ?_
      refine v_iretz dX11_isSent_36 rfl (by decide) (Nat.le_refl _) (Nat.le_refl _) ?_
      exact q1 (by omega)
  · dsimp only [Option.toList, List.cons_append, List.nil_append, Nat.add_zero]
    refine v_if_eq_t (tgt := 35) dX11_isSent_8 (by decide) (by decide) ?_
    refine v_iconst dX11_isSent_35 (c32 rfl) ?_
    refine v_iretz dX11_isSent_36 rfl (by decide) (Nat.le_refl _) (Nat.le_refl _) ?_
    exact q0 (by omega)

set_option maxHeartbeats 4000000 in
set_option maxRecDepth 100000 in
theorem s_Fown {l : Launch} {G : GG} {d : Nat} {h F : AH} {Q : Option AV → List Kd → AH → Prop} {cs : Int → List (Int × List Int)} {b w q : Int} (hd : 7 ≤ d) (I : CI h cs) (q0 : ¬ (((0 ≤ b ∧ b < h 116 45) ∧ (0 ≤ w ∧ w ≤ 3) ∧ (h 134 b ≤ q ∧ q ≤ h 116 1))) → ∀ F', Q (some (0, -1)) K0 (cst h F')) (q1 : ((0 ≤ b ∧ b < h 116 45) ∧ (0 ≤ w ∧ w ≤ 3) ∧ (h 134 b ≤ q ∧ q ≤ h 116 1)) → ∀ F', Q (some (0, own h cs w q (-1) b)) K0 (cst h F')) : Sp l G mX11_own d 0 0 K0 [(2, 0), (0, b), (0, w), (0, q)] (cst h F) Q := by
  have nb := I.W.nb
  refine sp_of (L := [(2, 0), (0, b), (0, w), (0, q)]) pl_X11 (Nat.le_of_ble_eq_true rfl) (tg_c (by decide) (tg_c (by decide) (tg_c (by decide) (tg_c (by decide) tg_0)))) rfl ?_
  refine v_aload_n dX11_own_0 rfl ?_
  refine v_iload_n dX11_own_1 rfl ?_
  refine v_iload_n dX11_own_2 rfl ?_
  refine v_iload_n dX11_own_3 rfl ?_
  refine v_callv (M' := mX11_isKnown) (d' := d - 1) (mc' := 0) (ms' := 0) (ci := 11) (c := 0) (As := [_, _, _]) dX11_own_4 k_947 cm_X11_isKnown rfl (by omega) (by decide) kk_0 (Nat.le_of_ble_eq_true rfl) rfl ⟨Nat.le_refl _, Nat.le_refl _⟩ ?_
  refine s_cknown (by omega) I (fun c4_1 => ?_) (fun c4_2 => ?_)
  · dsimp only [Option.toList, List.cons_append, List.nil_append, Nat.add_zero]
    refine v_if_ne_t (tgt := 12) dX11_own_7 (by decide) (by decide) ?_
    refine v_aload_n dX11_own_12 rfl ?_
    refine v_getr (ci := 11) (j := 5) (ji := 5) (z := 5) dX11_own_13 k_559 (by decide) kk_0 (by decide) rfl rfl (fun r => rt_0_5 (r rfl)) (by decide) ?_
    refine v_iload_n dX11_own_16 rfl ?_
    refine v_iload_n dX11_own_17 rfl ?_
    refine v_iconst dX11_own_18 (c32 rfl) ?_
    refine v_callv (M' := mX4_judge) (d' := d - 1) (mc' := 0) (ms' := 0) (ci := 4) (c := 5) (As := [_, _, _]) dX11_own_19 k_951 cm_X4_judge rfl (by omega) (by decide) kk_5 (Nat.le_of_ble_eq_true rfl) rfl ⟨Nat.le_refl _, Nat.le_refl _⟩ ?_
    refine s_cjudge (by omega) I ⟨by omega, by omega⟩ (by omega) (fun xf_3 c19_3 => ?_)
    dsimp only [Option.toList, List.cons_append, List.nil_append, Nat.add_zero]
    refine v_aload_n dX11_own_22 rfl ?_
    refine v_getr (ci := 11) (j := 5) (ji := 5) (z := 5) dX11_own_23 k_559 (by decide) kk_0 (by decide) rfl rfl (fun r => rt_0_5 (r rfl)) (by decide) ?_
    refine v_iload_n dX11_own_26 rfl ?_
    refine v_iload_n dX11_own_27 rfl ?_
    refine v_callv (M' := mX4_isOwn) (d' := d - 1) (mc' := 0) (ms' := 0) (ci := 4) (c := 5) (As := [_, _]) dX11_own_28 k_1030 cm_X4_isOwn rfl (by omega) (by decide) kk_5 (Nat.le_of_ble_eq_true rfl) rfl ⟨Nat.le_refl _, Nat.le_refl _⟩ ?_
    refine s_cisOwn (by omega) ⟨by omega, by omega⟩ ⟨by omega, by omega⟩ (fun c28_4 => ?_) (fun c28_5 => ?_)
    · dsimp only [Option.toList, List.cons_append, List.nil_append, Nat.add_zero]
      refine v_if_eq_f (tgt := 38) dX11_own_31 (by decide) (by decide) ?_
      refine v_iconst dX11_own_34 (c32 rfl) ?_
      refine v_goto (tgt := 39) dX11_own_35 (by decide) ?_
      refine v_ireti dX11_own_39 rfl (Nat.le_refl _) (Nat.le_refl _) ?_
      have e9 := c19_3.2.2.2 b (by omega) (by omega) (by omega)
      have o9 := @own_rng h cs w q (-1) b (by omega)
      rw [e9] at c28_4
      have q9 := q1 (by omega) xf_3
      rw [show own h cs w q (-1) b = 1 by omega] at q9
      exact q9
    · dsimp only [Option.toList, List.cons_append, List.nil_append, Nat.add_zero]
      refine v_if_eq_t (tgt := 38) dX11_own_31 (by decide) (by decide) ?_
      refine v_iconst dX11_own_38 (c32 rfl) ?_
      refine v_ireti dX11_own_39 rfl (Nat.le_refl _) (Nat.le_refl _) ?_
      have e9 := c19_3.2.2.2 b (by omega) (by omega) (by omega)
      have o9 := @own_rng h cs w q (-1) b (by omega)
      rw [e9] at c28_5
      have q9 := q1 (by omega) xf_3
      rw [show own h cs w q (-1) b = 0 by omega] at q9
      exact q9
  · dsimp only [Option.toList, List.cons_append, List.nil_append, Nat.add_zero]
    refine v_if_ne_f (tgt := 12) dX11_own_7 (by decide) (by decide) ?_
    refine v_iconst dX11_own_10 (c32 rfl) ?_
    refine v_ireti dX11_own_11 rfl (Nat.le_refl _) (Nat.le_refl _) ?_
    exact q0 (by omega) _

set_option maxHeartbeats 4000000 in
set_option maxRecDepth 100000 in
theorem s_Fletter {l : Launch} {G : GG} {d : Nat} {h F : AH} {Q : Option AV → List Kd → AH → Prop} {cs : Int → List (Int × List Int)} {b w q c : Int} (hd : 7 ≤ d) (I : CI h cs) (q0 : ¬ ((plc c ≠ -1 ∧ plc c ≠ 7) ∧ (((0 ≤ b ∧ b < h 116 45) ∧ (0 ≤ w ∧ w ≤ 3) ∧ (h 134 b ≤ q ∧ q ≤ h 116 1)) ∧ h 135 b ≠ -1)) → ∀ F', Q (some (0, -1)) K0 (cst h F')) (q1 : ((plc c ≠ -1 ∧ plc c ≠ 7) ∧ (((0 ≤ b ∧ b < h 116 45) ∧ (0 ≤ w ∧ w ≤ 3) ∧ (h 134 b ≤ q ∧ q ≤ h 116 1)) ∧ h 135 b ≠ -1)) → ∀ F', Q (some (0, mLt h (own h cs w q (-1)) b q (plc c))) K0 (cst h F')) : Sp l G mX11_letter d 0 0 K0 [(2, 0), (0, b), (0, w), (0, q), (0, c)] (cst h F) Q := by
  have nb := I.W.nb
  have hpr := @plc_rng c
  refine sp_of (L := [(2, 0), (0, b), (0, w), (0, q), (0, c), (9, 0)]) pl_X11 (Nat.le_of_ble_eq_true rfl) (tg_c (by decide) (tg_c (by decide) (tg_c (by decide) (tg_c (by decide) (tg_c (by decide) tg_0))))) rfl ?_
  refine v_iload dX11_letter_0 rfl ?_
  refine v_calls (M' := mX11_placeOf) (d' := d - 1) (mc' := 0) (ms' := 0) (As := [_]) dX11_letter_2 k_1038 cm_X11_placeOf (by omega) (Nat.le_of_ble_eq_true rfl) rfl ⟨Nat.le_refl _, Nat.le_refl _⟩ ?_
  refine s_placeOf (by omega) ?_
  dsimp only [Option.toList, List.cons_append, List.nil_append, Nat.add_zero]
  refine v_istore_5 dX11_letter_5 (by decide) rfl ?_
  refine v_iload dX11_letter_7 rfl ?_
  refine v_iconst dX11_letter_9 (c32 rfl) ?_
  refine v_icmp_eq (tgt := 30) dX11_letter_10 (by decide) (fun c10_1 => ?_) (fun c10_1 => ?_)
  · refine v_iconst dX11_letter_30 (c32 rfl) ?_
    refine v_ireti dX11_letter_31 rfl (Nat.le_refl _) (Nat.le_refl _) ?_
    exact q0 (by omega) _
  · refine v_iload dX11_letter_13 rfl ?_
    refine v_bipush dX11_letter_15 (c32 rfl) (by decide) ?_
    refine v_icmp_eq (tgt := 30) dX11_letter_17 (by decide) (fun c17_2 => ?_) (fun c17_2 => ?_)
    · refine v_iconst dX11_letter_30 (c32 rfl) ?_
      refine v_ireti dX11_letter_31 rfl (Nat.le_refl _) (Nat.le_refl _) ?_
      exact q0 (by omega) _
    · refine v_aload_n dX11_letter_20 rfl ?_
      refine v_iload_n dX11_letter_21 rfl ?_
      refine v_iload_n dX11_letter_22 rfl ?_
      refine v_iload_n dX11_letter_23 rfl ?_
      refine v_callv (M' := mX11_isMadeKnown) (d' := d - 1) (mc' := 0) (ms' := 0) (ci := 11) (c := 0) (As := [_, _, _]) dX11_letter_24 k_1039 cm_X11_isMadeKnown rfl (by omega) (by decide) kk_0 (Nat.le_of_ble_eq_true rfl) rfl ⟨Nat.le_refl _, Nat.le_refl _⟩ ?_
      refine s_cmknown (by omega) I (fun c24_3 => ?_) (fun c24_4 => ?_)
      · dsimp only [Option.toList, List.cons_append, List.nil_append, Nat.add_zero]
        refine v_if_ne_t (tgt := 32) dX11_letter_27 (by decide) (by decide) ?_
        refine v_aload_n dX11_letter_32 rfl ?_
        refine v_getr (ci := 11) (j := 5) (ji := 5) (z := 5) dX11_letter_33 k_559 (by decide) kk_0 (by decide) rfl rfl (fun r => rt_0_5 (r rfl)) (by decide) ?_
        refine v_iload_n dX11_letter_36 rfl ?_
        refine v_iload_n dX11_letter_37 rfl ?_
        refine v_iconst dX11_letter_38 (c32 rfl) ?_
        refine v_callv (M' := mX4_judge) (d' := d - 1) (mc' := 0) (ms' := 0) (ci := 4) (c := 5) (As := [_, _, _]) dX11_letter_39 k_951 cm_X4_judge rfl (by omega) (by decide) kk_5 (Nat.le_of_ble_eq_true rfl) rfl ⟨Nat.le_refl _, Nat.le_refl _⟩ ?_
        refine s_cjudge (by omega) I ⟨by omega, by omega⟩ (by omega) (fun xf_5 c39_5 => ?_)
        dsimp only [Option.toList, List.cons_append, List.nil_append, Nat.add_zero]
        refine v_aload_n dX11_letter_42 rfl ?_
        refine v_getr (ci := 11) (j := 5) (ji := 5) (z := 5) dX11_letter_43 k_559 (by decide) kk_0 (by decide) rfl rfl (fun r => rt_0_5 (r rfl)) (by decide) ?_
        refine v_iload_n dX11_letter_46 rfl ?_
        refine v_iload_n dX11_letter_47 rfl ?_
        refine v_iload dX11_letter_48 rfl ?_
        refine v_callv (M' := mX4_letterOf) (d' := d - 1) (mc' := 0) (ms' := 0) (ci := 4) (c := 5) (As := [_, _, _]) dX11_letter_50 k_1044 cm_X4_letterOf rfl (by omega) (by decide) kk_5 (Nat.le_of_ble_eq_true rfl) rfl ⟨Nat.le_refl _, Nat.le_refl _⟩ ?_
        refine s_cletterOf (q := q) (by omega) I ⟨by omega, by omega⟩ ⟨by omega, by omega⟩ c39_5.2.2.1 ⟨by omega, by omega⟩ (fun xf_6 c50_6 => ?_)
        dsimp only [Option.toList, List.cons_append, List.nil_append, Nat.add_zero]
        refine v_ireti dX11_letter_53 rfl (Nat.le_refl _) (Nat.le_refl _) ?_
        have e9 : mLt h (xf_5 (58 + w)) b q = mLt h (own h cs w q (-1)) b q := mLt_O I.W (by omega) (by omega) (fun e e0 e1 => c39_5.2.2.2 e e0 (by omega) (by have := I.m134.1 e b e0 (by omega) (by omega); omega))
        rw [e9]
        exact q1 (by omega) _
      · dsimp only [Option.toList, List.cons_append, List.nil_append, Nat.add_zero]
        refine v_if_ne_f (tgt := 32) dX11_letter_27 (by decide) (by decide) ?_
        refine v_iconst dX11_letter_30 (c32 rfl) ?_
        refine v_ireti dX11_letter_31 rfl (Nat.le_refl _) (Nat.le_refl _) ?_
        exact q0 (by omega) _

/-- the first entry that isn't own -/
def FFR (h : AH) (O : Int → Int) (b x : Int) : Prop := (x = -1 ∧ ∀ j, 0 ≤ j → j < h 137 b → O (eB h b j) ≠ 0) ∨ ((0 ≤ x ∧ x < h 137 b) ∧ O (eB h b x) = 0 ∧ ∀ j, 0 ≤ j → j < x → O (eB h b j) ≠ 0)
theorem FFR_u {h : AH} {O : Int → Int} {b x y : Int} (a : FFR h O b x) (c : FFR h O b y) : x = y := by
  rcases a with ⟨a1, a2⟩ | ⟨a1, a2, a3⟩ <;> rcases c with ⟨c1, c2⟩ | ⟨c1, c2, c3⟩
  · omega
  · exact absurd c2 (a2 y c1.1 c1.2)
  · exact absurd a2 (c2 x a1.1 a1.2)
  · rcases Int.lt_trichotomy x y with e | e | e
    · exact absurd a2 (c3 x a1.1 e)
    · exact e
    · exact absurd c2 (a3 y c1.1 e)

set_option maxHeartbeats 4000000 in
set_option maxRecDepth 100000 in
theorem lp_cff {l : Launch} {G : GG} {d : Nat} {h F : AH} {Q : Option AV → List Kd → AH → Prop} {cs : Int → List (Int × List Int)} {w b : Int} (hd : 3 ≤ d) (I : CI h cs) (hw : 0 ≤ w ∧ w < 5) (hb : 0 ≤ b ∧ b < h 116 45) (hq : ∀ x, FFR h (F (58 + w)) b x → Q (some (0, x)) K0 (cst h F)) : ∀ k, 0 ≤ k → k ≤ h 137 b → (∀ j, 0 ≤ j → j < k → F (58 + w) (eB h b j) ≠ 0) → V l G mX4_firstForeign d 0 0 0 0 K0 2 [(2, 5), (0, w), (0, b), (0, k)] [] (cst h F) Q := by
  have nb := I.W.nb
  have en := I.W.en b hb.1 hb.2
  refine loop_m3 (fun k hk hkN ih hn => ?_)
  refine v_iload_n dX4_firstForeign_2 rfl ?_
  refine v_aload_n dX4_firstForeign_3 rfl ?_
  refine v_getr (ci := 4) (j := 1) (ji := 1) (z := 41) dX4_firstForeign_4 k_356 (by decide) kk_5 (by decide) rfl rfl (fun r => rt_5_1 (r rfl)) (by decide) ?_
  refine v_getrN (ci := 6) (j := 8) (ji := 8) (z := 50) dX4_firstForeign_7 k_312 (by decide) kk_41 (by decide) rfl rfl (fun r => rt_41_8 (r rfl)) (by decide) ?_
  refine v_iload_n dX4_firstForeign_10 rfl ?_
  refine v_ialoadv dX4_firstForeign_11 (by decide) kk_50 (by omega) (by omega) ((cst_n (by decide)).trans ((congrFun I.e50 b))) ?_
  refine v_icmp_ge (tgt := 40) dX4_firstForeign_12 (by decide) (fun c12_1 => ?_) (fun c12_1 => ?_)
  · refine v_iconst dX4_firstForeign_40 (c32 rfl) ?_
    refine v_ireti dX4_firstForeign_41 rfl (Nat.le_refl _) (Nat.le_refl _) ?_
    exact hq _ (Or.inl ⟨rfl, fun j j0 j1 => hn j j0 (by omega)⟩)
  · refine v_aload_n dX4_firstForeign_15 rfl ?_
    refine v_iload_n dX4_firstForeign_16 rfl ?_
    refine v_aload_n dX4_firstForeign_17 rfl ?_
    refine v_getr (ci := 4) (j := 1) (ji := 1) (z := 41) dX4_firstForeign_18 k_356 (by decide) kk_5 (by decide) rfl rfl (fun r => rt_5_1 (r rfl)) (by decide) ?_
    refine v_iload_n dX4_firstForeign_21 rfl ?_
    refine v_iload_n dX4_firstForeign_22 rfl ?_
    refine v_callv (M' := mX6_partOf) (d' := d - 1) (mc' := 0) (ms' := 0) (ci := 6) (c := 41) (As := [_, _]) dX4_firstForeign_23 k_982 cm_X6_partOf rfl (by omega) (by decide) kk_41 (Nat.le_of_ble_eq_true rfl) rfl ⟨Nat.le_refl _, Nat.le_refl _⟩ ?_
    refine s_cpart (by omega) I ⟨by omega, by omega⟩ ⟨by omega, by omega⟩ ?_
    dsimp only [Option.toList, List.cons_append, List.nil_append, Nat.add_zero]
    refine v_callv (M' := mX4_isOwn) (d' := d - 1) (mc' := 0) (ms' := 0) (ci := 4) (c := 5) (As := [_, _]) dX4_firstForeign_26 k_1056 cm_X4_isOwn rfl (by omega) (by decide) kk_5 (Nat.le_of_ble_eq_true rfl) rfl ⟨Nat.le_refl _, Nat.le_refl _⟩ ?_
    refine s_cisOwn (by omega) hw (by have := I.W.eo b hb.1 hb.2 k hk (by omega); unfold eB; omega) (fun c26_2 => ?_) (fun c26_3 => ?_)
    · dsimp only [Option.toList, List.cons_append, List.nil_append, Nat.add_zero]
      refine v_if_ne_t (tgt := 34) dX4_firstForeign_29 (by decide) (by decide) ?_
      refine v_iinc_3 dX4_firstForeign_34 (by decide) rfl ?_
      rw [iadd_eq (x := k) (y := 1) (by unfold ok32; omega)]
      refine v_goto (tgt := 2) dX4_firstForeign_37 (by decide) ?_
      exact ih (by omega) (fun j j0 j1 => by
        by_cases e : j = k
        · subst e; assumption
        · exact hn j j0 (by omega))
    · dsimp only [Option.toList, List.cons_append, List.nil_append, Nat.add_zero]
      refine v_if_ne_f (tgt := 34) dX4_firstForeign_29 (by decide) (by decide) ?_
      refine v_iload_n dX4_firstForeign_32 rfl ?_
      refine v_ireti dX4_firstForeign_33 rfl (Nat.le_refl _) (Nat.le_refl _) ?_
      exact hq _ (Or.inr ⟨⟨hk, by omega⟩, c26_3, hn⟩)

set_option maxHeartbeats 4000000 in
set_option maxRecDepth 100000 in
theorem s_cff {l : Launch} {G : GG} {d : Nat} {h F : AH} {Q : Option AV → List Kd → AH → Prop} {cs : Int → List (Int × List Int)} {w b : Int} (hd : 3 ≤ d) (I : CI h cs) (hw : 0 ≤ w ∧ w < 5) (hb : 0 ≤ b ∧ b < h 116 45) (hq : ∀ x, FFR h (F (58 + w)) b x → Q (some (0, x)) K0 (cst h F)) : Sp l G mX4_firstForeign d 0 0 K0 [(2, 5), (0, w), (0, b)] (cst h F) Q := by
  refine sp_of (L := [(2, 5), (0, w), (0, b), (9, 0)]) pl_X4 (Nat.le_of_ble_eq_true rfl) (tg_c (by decide) (tg_c (by decide) (tg_c (by decide) tg_0))) rfl ?_
  refine v_iconst dX4_firstForeign_0 (c32 rfl) ?_
  refine v_istore_n_3 dX4_firstForeign_1 (by decide) rfl ?_
  exact lp_cff hd I hw hb hq 0 (Int.le_refl _) (I.W.en b hb.1 hb.2).1 (fun j j0 j1 => by omega)

set_option maxHeartbeats 4000000 in
set_option maxRecDepth 100000 in
theorem s_Ffailing {l : Launch} {G : GG} {d : Nat} {h F : AH} {Q : Option AV → List Kd → AH → Prop} {cs : Int → List (Int × List Int)} {b w q : Int} (hd : 7 ≤ d) (I : CI h cs) (q0 : ¬ (((0 ≤ b ∧ b < h 116 45) ∧ (0 ≤ w ∧ w ≤ 3) ∧ (h 134 b ≤ q ∧ q ≤ h 116 1)) ∧ h 135 b ≠ -1) → ∀ F', Q (some (0, -1)) K0 (cst h F')) (q1 : (((0 ≤ b ∧ b < h 116 45) ∧ (0 ≤ w ∧ w ≤ 3) ∧ (h 134 b ≤ q ∧ q ≤ h 116 1)) ∧ h 135 b ≠ -1) → ∀ F' x, FFR h (own h cs w q (-1)) b x → Q (some (0, x)) K0 (cst h F')) : Sp l G mX11_failing d 0 0 K0 [(2, 0), (0, b), (0, w), (0, q)] (cst h F) Q := by
  have nb := I.W.nb
  refine sp_of (L := [(2, 0), (0, b), (0, w), (0, q)]) pl_X11 (Nat.le_of_ble_eq_true rfl) (tg_c (by decide) (tg_c (by decide) (tg_c (by decide) (tg_c (by decide) tg_0)))) rfl ?_
  refine v_aload_n dX11_failing_0 rfl ?_
  refine v_iload_n dX11_failing_1 rfl ?_
  refine v_iload_n dX11_failing_2 rfl ?_
  refine v_iload_n dX11_failing_3 rfl ?_
  refine v_callv (M' := mX11_isMadeKnown) (d' := d - 1) (mc' := 0) (ms' := 0) (ci := 11) (c := 0) (As := [_, _, _]) dX11_failing_4 k_1039 cm_X11_isMadeKnown rfl (by omega) (by decide) kk_0 (Nat.le_of_ble_eq_true rfl) rfl ⟨Nat.le_refl _, Nat.le_refl _⟩ ?_
  refine s_cmknown (by omega) I (fun c4_1 => ?_) (fun c4_2 => ?_)
  · dsimp only [Option.toList, List.cons_append, List.nil_append, Nat.add_zero]
    refine v_if_ne_t (tgt := 12) dX11_failing_7 (by decide) (by decide) ?_
    refine v_aload_n dX11_failing_12 rfl ?_
    refine v_getr (ci := 11) (j := 5) (ji := 5) (z := 5) dX11_failing_13 k_559 (by decide) kk_0 (by decide) rfl rfl (fun r => rt_0_5 (r rfl)) (by decide) ?_
    refine v_iload_n dX11_failing_16 rfl ?_
    refine v_iload_n dX11_failing_17 rfl ?_
    refine v_iconst dX11_failing_18 (c32 rfl) ?_
    refine v_callv (M' := mX4_judge) (d' := d - 1) (mc' := 0) (ms' := 0) (ci := 4) (c := 5) (As := [_, _, _]) dX11_failing_19 k_951 cm_X4_judge rfl (by omega) (by decide) kk_5 (Nat.le_of_ble_eq_true rfl) rfl ⟨Nat.le_refl _, Nat.le_refl _⟩ ?_
    refine s_cjudge (by omega) I ⟨by omega, by omega⟩ (by omega) (fun xf_3 c19_3 => ?_)
    dsimp only [Option.toList, List.cons_append, List.nil_append, Nat.add_zero]
    refine v_aload_n dX11_failing_22 rfl ?_
    refine v_getr (ci := 11) (j := 5) (ji := 5) (z := 5) dX11_failing_23 k_559 (by decide) kk_0 (by decide) rfl rfl (fun r => rt_0_5 (r rfl)) (by decide) ?_
    refine v_iload_n dX11_failing_26 rfl ?_
    refine v_iload_n dX11_failing_27 rfl ?_
    refine v_callv (M' := mX4_firstForeign) (d' := d - 1) (mc' := 0) (ms' := 0) (ci := 4) (c := 5) (As := [_, _]) dX11_failing_28 k_1052 cm_X4_firstForeign rfl (by omega) (by decide) kk_5 (Nat.le_of_ble_eq_true rfl) rfl ⟨Nat.le_refl _, Nat.le_refl _⟩ ?_
    refine s_cff (by omega) I ⟨by omega, by omega⟩ ⟨by omega, by omega⟩ (fun xx_4 c28_4 => ?_)
    dsimp only [Option.toList, List.cons_append, List.nil_append, Nat.add_zero]
    refine v_ireti dX11_failing_31 rfl (Nat.le_refl _) (Nat.le_refl _) ?_
    have he9 : ∀ k, 0 ≤ k → k < h 137 b → xf_3 (58 + w) (eB h b k) = own h cs w q (-1) (eB h b k) := fun k k0 k1 => by
      have e9 := I.W.eo b (by omega) (by omega) k k0 k1
      have e8 : eB h b k = h 138 (6 * b + k) := rfl
      exact c19_3.2.2.2 _ (by omega) (by omega) (by have := I.m134.1 (eB h b k) b (by omega) (by omega) (by omega); omega)
    refine q1 (by omega) _ _ ?_
    rcases c28_4 with ⟨a1, a2⟩ | ⟨a1, a2, a3⟩
    · exact Or.inl ⟨a1, fun j j0 j1 => by rw [← he9 j j0 j1]; exact a2 j j0 j1⟩
    · exact Or.inr ⟨a1, by rw [← he9 _ a1.1 a1.2]; exact a2, fun j j0 j1 => by rw [← he9 j j0 (by omega)]; exact a3 j j0 j1⟩
  · dsimp only [Option.toList, List.cons_append, List.nil_append, Nat.add_zero]
    refine v_if_ne_f (tgt := 12) dX11_failing_7 (by decide) (by decide) ?_
    refine v_iconst dX11_failing_10 (c32 rfl) ?_
    refine v_ireti dX11_failing_11 rfl (Nat.le_refl _) (Nat.le_refl _) ?_
    exact q0 (by omega) _

set_option maxHeartbeats 4000000 in
set_option maxRecDepth 100000 in
theorem s_Fstate {l : Launch} {G : GG} {d : Nat} {h F : AH} {Q : Option AV → List Kd → AH → Prop} {cs : Int → List (Int × List Int)} {s q : Int} (hd : 8 ≤ d) (I : CI h cs) (q0 : ¬ ((0 ≤ s ∧ s < h 116 65) ∧ (h 155 s ≤ q ∧ q ≤ h 116 1)) → ∀ F', Q (some (0, -1)) K0 (cst h F')) (q1 : ((0 ≤ s ∧ s < h 116 65) ∧ (h 155 s ≤ q ∧ q ≤ h 116 1)) → ∀ F', Q (some (0, stF h cs s q)) K0 (cst h F')) : Sp l G mX11_state d 0 0 K0 [(2, 0), (0, s), (0, q)] (cst h F) Q := by
  have ns := I.S.1
  refine sp_of (L := [(2, 0), (0, s), (0, q)]) pl_X11 (Nat.le_of_ble_eq_true rfl) (tg_c (by decide) (tg_c (by decide) (tg_c (by decide) tg_0))) rfl ?_
  refine v_aload_n dX11_state_0 rfl ?_
  refine v_iload_n dX11_state_1 rfl ?_
  refine v_iload_n dX11_state_2 rfl ?_
  refine v_callv (M' := mX11_isSent) (d' := d - 1) (mc' := 0) (ms' := 0) (ci := 11) (c := 0) (As := [_, _]) dX11_state_3 k_1079 cm_X11_isSent rfl (by omega) (by decide) kk_0 (Nat.le_of_ble_eq_true rfl) rfl ⟨Nat.le_refl _, Nat.le_refl _⟩ ?_
  refine s_csent (by omega) I (fun c3_1 => ?_) (fun c3_2 => ?_)
  · dsimp only [Option.toList, List.cons_append, List.nil_append, Nat.add_zero]
    refine v_if_ne_t (tgt := 11) dX11_state_6 (by decide) (by decide) ?_
    refine v_aload_n dX11_state_11 rfl ?_
    refine v_getr (ci := 11) (j := 6) (ji := 6) (z := 4) dX11_state_12 k_560 (by decide) kk_0 (by decide) rfl rfl (fun r => rt_0_6 (r rfl)) (by decide) ?_
    refine v_iload_n dX11_state_15 rfl ?_
    refine v_callv (M' := mX0_judge) (d' := d - 1) (mc' := 0) (ms' := 0) (ci := 0) (c := 4) (As := [_]) dX11_state_16 k_1083 cm_X0_judge rfl (by omega) (by decide) kk_4 (Nat.le_of_ble_eq_true rfl) rfl ⟨Nat.le_refl _, Nat.le_refl _⟩ ?_
    refine s_cbjudge (by omega) I (by omega) (fun xf_4 c16_3 c16_4 => ?_)
    dsimp only [Option.toList, List.cons_append, List.nil_append, Nat.add_zero]
    refine v_aload_n dX11_state_19 rfl ?_
    refine v_getr (ci := 11) (j := 6) (ji := 6) (z := 4) dX11_state_20 k_560 (by decide) kk_0 (by decide) rfl rfl (fun r => rt_0_6 (r rfl)) (by decide) ?_
    refine v_getrN (ci := 0) (j := 10) (ji := 10) (z := 75) dX11_state_23 k_387 (by decide) kk_4 (by decide) rfl rfl (fun r => rt_4_10 (r rfl)) (by decide) ?_
    refine v_iload_n dX11_state_26 rfl ?_
    refine v_ialoadv dX11_state_27 (by decide) kk_75 (by omega) (by omega) (cst_m (by decide)) ?_
    refine v_ireti dX11_state_28 rfl (Nat.le_refl _) (Nat.le_refl _) ?_
    rw [c16_4.2 s (by omega) (by omega) (by omega)]
    exact q1 (by omega) _
  · dsimp only [Option.toList, List.cons_append, List.nil_append, Nat.add_zero]
    refine v_if_ne_f (tgt := 11) dX11_state_6 (by decide) (by decide) ?_
    refine v_iconst dX11_state_9 (c32 rfl) ?_
    refine v_ireti dX11_state_10 rfl (Nat.le_refl _) (Nat.le_refl _) ?_
    exact q0 (by omega) _

set_option maxHeartbeats 4000000 in
set_option maxRecDepth 100000 in
theorem s_Fduty {l : Launch} {G : GG} {d : Nat} {h F : AH} {Q : Option AV → List Kd → AH → Prop} {cs : Int → List (Int × List Int)} {s q : Int} (hd : 8 ≤ d) (I : CI h cs) (q0 : ¬ ((0 ≤ s ∧ s < h 116 65) ∧ (h 155 s ≤ q ∧ q ≤ h 116 1)) → ∀ F', Q (some (1, -1)) K0 (cst h F')) (q1 : ((0 ≤ s ∧ s < h 116 65) ∧ (h 155 s ≤ q ∧ q ≤ h 116 1)) → ∀ F', Q (some (1, duF h cs s q)) K0 (cst h F')) : Sp l G mX11_duty d 0 0 K0 [(2, 0), (0, s), (0, q)] (cst h F) Q := by
  have ns := I.S.1
  refine sp_of (L := [(2, 0), (0, s), (0, q)]) pl_X11 (Nat.le_of_ble_eq_true rfl) (tg_c (by decide) (tg_c (by decide) (tg_c (by decide) tg_0))) rfl ?_
  refine v_aload_n dX11_duty_0 rfl ?_
  refine v_iload_n dX11_duty_1 rfl ?_
  refine v_iload_n dX11_duty_2 rfl ?_
  refine v_callv (M' := mX11_isSent) (d' := d - 1) (mc' := 0) (ms' := 0) (ci := 11) (c := 0) (As := [_, _]) dX11_duty_3 k_1079 cm_X11_isSent rfl (by omega) (by decide) kk_0 (Nat.le_of_ble_eq_true rfl) rfl ⟨Nat.le_refl _, Nat.le_refl _⟩ ?_
  refine s_csent (by omega) I (fun c3_1 => ?_) (fun c3_2 => ?_)
  · dsimp only [Option.toList, List.cons_append, List.nil_append, Nat.add_zero]
    refine v_if_ne_t (tgt := 13) dX11_duty_6 (by decide) (by decide) ?_
    refine v_aload_n dX11_duty_13 rfl ?_
    refine v_getr (ci := 11) (j := 6) (ji := 6) (z := 4) dX11_duty_14 k_560 (by decide) kk_0 (by decide) rfl rfl (fun r => rt_0_6 (r rfl)) (by decide) ?_
    refine v_iload_n dX11_duty_17 rfl ?_
    refine v_callv (M' := mX0_judge) (d' := d - 1) (mc' := 0) (ms' := 0) (ci := 0) (c := 4) (As := [_]) dX11_duty_18 k_1083 cm_X0_judge rfl (by omega) (by decide) kk_4 (Nat.le_of_ble_eq_true rfl) rfl ⟨Nat.le_refl _, Nat.le_refl _⟩ ?_
    refine s_cbjudge (by omega) I (by omega) (fun xf_4 c18_3 c18_4 => ?_)
    dsimp only [Option.toList, List.cons_append, List.nil_append, Nat.add_zero]
    refine v_aload_n dX11_duty_21 rfl ?_
    refine v_getr (ci := 11) (j := 6) (ji := 6) (z := 4) dX11_duty_22 k_560 (by decide) kk_0 (by decide) rfl rfl (fun r => rt_0_6 (r rfl)) (by decide) ?_
    refine v_iload_n dX11_duty_25 rfl ?_
    refine v_iload_n dX11_duty_26 rfl ?_
    refine v_callv (M' := mX0_dutyOf) (d' := d - 1) (mc' := 0) (ms' := 0) (ci := 0) (c := 4) (As := [_, _]) dX11_duty_27 k_1128 cm_X0_dutyOf rfl (by omega) (by decide) kk_4 (Nat.le_of_ble_eq_true rfl) rfl ⟨Nat.le_refl _, Nat.le_refl _⟩ ?_
    refine s_cduty (by omega) I ⟨by omega, by omega⟩ (c18_4.2 s (by omega) (by omega) (by omega)) (fun xf_5 c27_5 => ?_)
    dsimp only [Option.toList, List.cons_append, List.nil_append, Nat.add_zero]
    refine v_lret dX11_duty_30 rfl (Nat.le_refl _) (Nat.le_refl _) ?_
    exact q1 (by omega) _
  · dsimp only [Option.toList, List.cons_append, List.nil_append, Nat.add_zero]
    refine v_if_ne_f (tgt := 13) dX11_duty_6 (by decide) (by decide) ?_
    refine v_ldc2 (n := -1) dX11_duty_9 k_1127 (c64 rfl) (by decide) ?_
    refine v_lret dX11_duty_12 rfl (Nat.le_refl _) (Nat.le_refl _) ?_
    exact q0 (by omega) _

set_option maxHeartbeats 4000000 in
set_option maxRecDepth 100000 in
theorem s_cwebOf {l : Launch} {G : GG} {d : Nat} {h F : AH} {Q : Option AV → List Kd → AH → Prop} {cs : Int → List (Int × List Int)} {p : Int} (hd : 3 ≤ d) (I : CI h cs) (hp : 0 ≤ p ∧ p < h 116 15) (hq : Q (some (0, h 121 p)) K0 (cst h F)) : Sp l G mX1_webOf d 0 0 K0 [(2, 12), (0, p)] (cst h F) Q := by
  have nt := I.W.nt
  refine sp_of (L := [(2, 12), (0, p)]) pl_X1 (Nat.le_of_ble_eq_true rfl) (tg_c (by decide) (tg_c (by decide) tg_0)) rfl ?_
  refine v_aload_n dX1_webOf_0 rfl ?_
  refine v_iload_n dX1_webOf_1 rfl ?_
  refine v_callv (M' := mX1_has) (d' := d - 1) (mc' := 0) (ms' := 0) (ci := 1) (c := 12) (As := [_]) dX1_webOf_2 k_1259 cm_X1_has rfl (by omega) (by decide) kk_12 (Nat.le_of_ble_eq_true rfl) rfl ⟨Nat.le_refl _, Nat.le_refl _⟩ ?_
  refine s_chasP (by omega) I (fun c2_1 => ?_) (fun c2_2 => ?_)
  · dsimp only [Option.toList, List.cons_append, List.nil_append, Nat.add_zero]
    refine v_if_eq_f (tgt := 17) dX1_webOf_5 (by decide) (by decide) ?_
    refine v_aload_n dX1_webOf_8 rfl ?_
    refine v_getr (ci := 1) (j := 1) (ji := 1) (z := 13) dX1_webOf_9 k_179 (by decide) kk_12 (by decide) rfl rfl (fun r => rt_12_1 (r rfl)) (by decide) ?_
    refine v_iload_n dX1_webOf_12 rfl ?_
    refine v_ialoadv dX1_webOf_13 (by decide) kk_13 (by omega) (by omega) ((cst_n (by decide)).trans ((congrFun I.e13 p))) ?_
    refine v_goto (tgt := 18) dX1_webOf_14 (by decide) ?_
    refine v_ireti dX1_webOf_18 rfl (Nat.le_refl _) (Nat.le_refl _) ?_
    exact hq
  · dsimp only [Option.toList, List.cons_append, List.nil_append, Nat.add_zero]
    refine v_if_eq_t (tgt := 17) dX1_webOf_5 (by decide) (by decide) ?_
    refine v_iconst dX1_webOf_17 (c32 rfl) ?_
    refine v_ireti dX1_webOf_18 rfl (Nat.le_refl _) (Nat.le_refl _) ?_
    exfalso; omega

set_option maxHeartbeats 4000000 in
set_option maxRecDepth 100000 in
theorem lp_cmv {l : Launch} {G : GG} {d : Nat} {h F : AH} {Q : Option AV → List Kd → AH → Prop} {cs : Int → List (Int × List Int)} {p wh : Int} (hd : 2 ≤ d) (I : CI h cs) (hw : 0 ≤ h 121 p ∧ h 121 p < 4) (hwh : 0 ≤ wh ∧ wh ≤ 1) (hO1 : ∀ b, 0 ≤ b → b < h 116 45 → F (58 + h 121 p) b = own h cs (h 121 p) (h 116 1) (-1) b) (hO2 : ∀ b, 0 ≤ b → b < h 116 45 → F 62 b = own h cs (h 121 p) (h 116 1) p b) (hq : Q (some (0, sm (mvF h cs (h 121 p) (h 116 1) p wh) (h 116 45))) K0 (cst h F)) : ∀ k, 0 ≤ k → k ≤ h 116 45 → V l G mX4_countMoved d 0 0 0 0 K0 5 [(2, 5), (0, h 121 p), (0, wh), (0, sm (mvF h cs (h 121 p) (h 116 1) p wh) k), (0, k)] [] (cst h F) Q := by
  have nb := I.W.nb
  refine loop_m3 (fun k hk hkN ih => ?_)
  refine v_iload dX4_countMoved_5 rfl ?_
  refine v_aload_n dX4_countMoved_7 rfl ?_
  refine v_getr (ci := 4) (j := 1) (ji := 1) (z := 41) dX4_countMoved_8 k_356 (by decide) kk_5 (by decide) rfl rfl (fun r => rt_5_1 (r rfl)) (by decide) ?_
  refine v_getvN (ci := 6) (j := 12) (ji := 12) (tg := 0) dX4_countMoved_11 k_319 (by decide) kk_41 (by decide) rfl rfl (by decide) ((cst_n (by decide)).trans (I.f41_12)) ?_
  refine v_icmp_ge (tgt := 64) dX4_countMoved_14 (by decide) (fun c14_1 => ?_) (fun c14_1 => ?_)
  · refine v_iload_n dX4_countMoved_64 rfl ?_
    refine v_ireti dX4_countMoved_65 rfl (Nat.le_refl _) (Nat.le_refl _) ?_
    obtain rfl : k = h 116 45 := by omega
    exact hq
  · have o1 := @own_rng h cs (h 121 p) (h 116 1) (-1) k hk
    have o2 := @own_rng h cs (h 121 p) (h 116 1) p k hk
    have r9 := sm_rng (mvF_r (h := h) (cs := cs) (w := h 121 p) (q := h 116 1) (p := p) (wh := wh) (n := h 116 45)) k hk (by omega)
    refine v_aload_n dX4_countMoved_17 rfl ?_
    refine v_getr (ci := 4) (j := 1) (ji := 1) (z := 41) dX4_countMoved_18 k_356 (by decide) kk_5 (by decide) rfl rfl (fun r => rt_5_1 (r rfl)) (by decide) ?_
    refine v_iload dX4_countMoved_21 rfl ?_
    refine v_callv (M' := mX6_isGrown) (d' := d - 1) (mc' := 0) (ms' := 0) (ci := 6) (c := 41) (As := [_]) dX4_countMoved_23 k_969 cm_X6_isGrown rfl (by omega) (by decide) kk_41 (Nat.le_of_ble_eq_true rfl) rfl ⟨Nat.le_refl _, Nat.le_refl _⟩ ?_
    refine s_cgrown (by omega) I ⟨by omega, by omega⟩ (fun c23_2 => ?_) (fun c23_3 => ?_)
    · dsimp only [Option.toList, List.cons_append, List.nil_append, Nat.add_zero]
      refine v_if_ne_t (tgt := 58) dX4_countMoved_26 (by decide) (by decide) ?_
      refine v_iinc_4 dX4_countMoved_58 (by decide) rfl ?_
      rw [iadd_eq (x := k) (y := 1) (by unfold ok32; omega)]
      refine v_goto (tgt := 5) dX4_countMoved_61 (by decide) ?_
      have e8 : mvF h cs (h 121 p) (h 116 1) p wh k = 0 := by unfold mvF; split <;> (try split) <;> (try split) <;> (try split) <;> omega
      have e9 : sm (mvF h cs (h 121 p) (h 116 1) p wh) (k + 1) = (sm (mvF h cs (h 121 p) (h 116 1) p wh) k) := by rw [sm_s hk, e8]; omega
      have ih9 := ih (by omega)
      rw [e9] at ih9
      exact ih9
    · dsimp only [Option.toList, List.cons_append, List.nil_append, Nat.add_zero]
      refine v_if_ne_f (tgt := 58) dX4_countMoved_26 (by decide) (by decide) ?_
      refine v_aload_n dX4_countMoved_29 rfl ?_
      refine v_getr (ci := 4) (j := 2) (ji := 2) (z := 57) dX4_countMoved_30 k_359 (by decide) kk_5 (by decide) rfl rfl (fun r => rt_5_2 (r rfl)) (by decide) ?_
      refine v_iload_n dX4_countMoved_33 rfl ?_
      refine v_aaload dX4_countMoved_34 (by decide) kk_57 (by omega) (by omega) (fun r => rb_57 (r rfl) (by omega) (by omega)) (by omega) ?_
      refine v_iload dX4_countMoved_35 rfl ?_
      refine v_ialoadv dX4_countMoved_37 (by omega) (krow_57 (by omega) (by omega)) (by omega) (by omega) ((cst_m (by unfold cR; omega)).trans ((hO1 k hk (by omega)))) ?_
      refine v_iload_n dX4_countMoved_38 rfl ?_
      refine v_icmp_eq (tgt := 58) dX4_countMoved_39 (by decide) (fun c39_4 => ?_) (fun c39_4 => ?_)
      · refine v_iinc_4 dX4_countMoved_58 (by decide) rfl ?_
        rw [iadd_eq (x := k) (y := 1) (by unfold ok32; omega)]
        refine v_goto (tgt := 5) dX4_countMoved_61 (by decide) ?_
        have e8 : mvF h cs (h 121 p) (h 116 1) p wh k = 0 := by unfold mvF; split <;> (try split) <;> (try split) <;> (try split) <;> omega
        have e9 : sm (mvF h cs (h 121 p) (h 116 1) p wh) (k + 1) = (sm (mvF h cs (h 121 p) (h 116 1) p wh) k) := by rw [sm_s hk, e8]; omega
        have ih9 := ih (by omega)
        rw [e9] at ih9
        exact ih9
      · refine v_aload_n dX4_countMoved_42 rfl ?_
        refine v_getr (ci := 4) (j := 2) (ji := 2) (z := 57) dX4_countMoved_43 k_359 (by decide) kk_5 (by decide) rfl rfl (fun r => rt_5_2 (r rfl)) (by decide) ?_
        refine v_iconst dX4_countMoved_46 (c32 rfl) ?_
        refine v_aaload dX4_countMoved_47 (by decide) kk_57 (by omega) (by omega) (fun r => rb_57 (r rfl) (by omega) (by omega)) (by omega) ?_
        refine v_iload dX4_countMoved_48 rfl ?_
        refine v_ialoadv dX4_countMoved_50 (by omega) (krow_57 (by omega) (by omega)) (by omega) (by omega) ((cst_m (by unfold cR; omega)).trans ((hO2 k hk (by omega)))) ?_
        refine v_iload_n dX4_countMoved_51 rfl ?_
        refine v_icmp_ne (tgt := 58) dX4_countMoved_52 (by decide) (fun c52_5 => ?_) (fun c52_5 => ?_)
        · refine v_iinc_4 dX4_countMoved_58 (by decide) rfl ?_
          rw [iadd_eq (x := k) (y := 1) (by unfold ok32; omega)]
          refine v_goto (tgt := 5) dX4_countMoved_61 (by decide) ?_
          have e8 : mvF h cs (h 121 p) (h 116 1) p wh k = 0 := by unfold mvF; split <;> (try split) <;> (try split) <;> (try split) <;> omega
          have e9 : sm (mvF h cs (h 121 p) (h 116 1) p wh) (k + 1) = (sm (mvF h cs (h 121 p) (h 116 1) p wh) k) := by rw [sm_s hk, e8]; omega
          have ih9 := ih (by omega)
          rw [e9] at ih9
          exact ih9
        · refine v_iinc_3 dX4_countMoved_55 (by decide) rfl ?_
          rw [iadd_eq (x := (sm (mvF h cs (h 121 p) (h 116 1) p wh) k)) (y := 1) (by unfold ok32; omega)]
          refine v_iinc_4 dX4_countMoved_58 (by decide) rfl ?_
          rw [iadd_eq (x := k) (y := 1) (by unfold ok32; omega)]
          refine v_goto (tgt := 5) dX4_countMoved_61 (by decide) ?_
          have e8 : mvF h cs (h 121 p) (h 116 1) p wh k = 1 := by unfold mvF; split <;> (try split) <;> (try split) <;> (try split) <;> omega
          have e9 : sm (mvF h cs (h 121 p) (h 116 1) p wh) (k + 1) = ((sm (mvF h cs (h 121 p) (h 116 1) p wh) k) + 1) := by rw [sm_s hk, e8]
          have ih9 := ih (by omega)
          rw [e9] at ih9
          exact ih9

set_option maxHeartbeats 4000000 in
set_option maxRecDepth 100000 in
theorem s_cmv {l : Launch} {G : GG} {d : Nat} {h F : AH} {Q : Option AV → List Kd → AH → Prop} {cs : Int → List (Int × List Int)} {p wh : Int} (hd : 2 ≤ d) (I : CI h cs) (hw : 0 ≤ h 121 p ∧ h 121 p < 4) (hwh : 0 ≤ wh ∧ wh ≤ 1) (hO1 : ∀ b, 0 ≤ b → b < h 116 45 → F (58 + h 121 p) b = own h cs (h 121 p) (h 116 1) (-1) b) (hO2 : ∀ b, 0 ≤ b → b < h 116 45 → F 62 b = own h cs (h 121 p) (h 116 1) p b) (hq : Q (some (0, sm (mvF h cs (h 121 p) (h 116 1) p wh) (h 116 45))) K0 (cst h F)) : Sp l G mX4_countMoved d 0 0 K0 [(2, 5), (0, (h 121 p)), (0, wh)] (cst h F) Q := by
  refine sp_of (L := [(2, 5), (0, (h 121 p)), (0, wh), (9, 0), (9, 0)]) pl_X4 (Nat.le_of_ble_eq_true rfl) (tg_c (by decide) (tg_c (by decide) (tg_c (by decide) tg_0))) rfl ?_
  refine v_iconst dX4_countMoved_0 (c32 rfl) ?_
  refine v_istore_n_3 dX4_countMoved_1 (by decide) rfl ?_
  refine v_iconst dX4_countMoved_2 (c32 rfl) ?_
  refine v_istore_4 dX4_countMoved_3 (by decide) rfl ?_
  have q9 := lp_cmv (l := l) (G := G) (p := p) hd I hw hwh hO1 hO2 hq 0 (Int.le_refl _) I.W.nb.1
  rw [sm_0] at q9
  exact q9

set_option maxHeartbeats 4000000 in
set_option maxRecDepth 100000 in
theorem s_Fmoved {l : Launch} {G : GG} {d : Nat} {h F : AH} {Q : Option AV → List Kd → AH → Prop} {cs : Int → List (Int × List Int)} {p wh : Int} (hd : 8 ≤ d) (I : CI h cs) (q0 : ¬ ((0 ≤ p ∧ p < h 116 15) ∧ (0 ≤ wh ∧ wh ≤ 1)) → ∀ F', Q (some (0, -1)) K0 (cst h F')) (q1 : ((0 ≤ p ∧ p < h 116 15) ∧ (0 ≤ wh ∧ wh ≤ 1)) → ∀ F', Q (some (0, sm (mvF h cs (h 121 p) (h 116 1) p wh) (h 116 45))) K0 (cst h F')) : Sp l G mX11_moved d 0 0 K0 [(2, 0), (0, p), (0, wh)] (cst h F) Q := by
  refine sp_of (L := [(2, 0), (0, p), (0, wh), (9, 0)]) pl_X11 (Nat.le_of_ble_eq_true rfl) (tg_c (by decide) (tg_c (by decide) (tg_c (by decide) tg_0))) rfl ?_
  refine v_aload_n dX11_moved_0 rfl ?_
  refine v_getr (ci := 11) (j := 2) (ji := 2) (z := 6) dX11_moved_1 k_556 (by decide) kk_0 (by decide) rfl rfl (fun r => rt_0_2 (r rfl)) (by decide) ?_
  refine v_getrN (ci := 8) (j := 2) (ji := 2) (z := 12) dX11_moved_4 k_235 (by decide) kk_6 (by decide) rfl rfl (fun r => rt_6_2 (r rfl)) (by decide) ?_
  refine v_iload_n dX11_moved_7 rfl ?_
  refine v_callv (M' := mX1_has) (d' := d - 1) (mc' := 0) (ms' := 0) (ci := 1) (c := 12) (As := [_]) dX11_moved_8 k_1254 cm_X1_has rfl (by omega) (by decide) kk_12 (Nat.le_of_ble_eq_true rfl) rfl ⟨Nat.le_refl _, Nat.le_refl _⟩ ?_
  refine s_chasP (by omega) I (fun c8_1 => ?_) (fun c8_2 => ?_)
  · dsimp only [Option.toList, List.cons_append, List.nil_append, Nat.add_zero]
    refine v_if_eq_f (tgt := 23) dX11_moved_11 (by decide) (by decide) ?_
    refine v_iload_n dX11_moved_14 rfl ?_
    refine v_iconst dX11_moved_15 (c32 rfl) ?_
    refine v_iconst dX11_moved_16 (c32 rfl) ?_
    refine v_calls (M' := mX11_within) (d' := d - 1) (mc' := 0) (ms' := 0) (As := [_, _, _]) dX11_moved_17 k_586 cm_X11_within (by omega) (Nat.le_of_ble_eq_true rfl) rfl ⟨Nat.le_refl _, Nat.le_refl _⟩ ?_
    refine s_X11_within (by omega) (fun c17_3 => ?_) (fun c17_4 c17_5 => ?_) (fun c17_6 c17_7 => ?_)
    · dsimp only [Option.toList, List.cons_append, List.nil_append, Nat.add_zero]
      refine v_if_ne_f (tgt := 25) dX11_moved_20 (by decide) (by decide) ?_
      refine v_iconst dX11_moved_23 (c32 rfl) ?_
      refine v_ireti dX11_moved_24 rfl (Nat.le_refl _) (Nat.le_refl _) ?_
      exact q0 (by omega) _
    · dsimp only [Option.toList, List.cons_append, List.nil_append, Nat.add_zero]
      refine v_if_ne_f (tgt := 25) dX11_moved_20 (by decide) (by decide) ?_
      refine v_iconst dX11_moved_23 (c32 rfl) ?_
      refine v_ireti dX11_moved_24 rfl (Nat.le_refl _) (Nat.le_refl _) ?_
      exact q0 (by omega) _
    · dsimp only [Option.toList, List.cons_append, List.nil_append, Nat.add_zero]
      refine v_if_ne_t (tgt := 25) dX11_moved_20 (by decide) (by decide) ?_
      refine v_aload_n dX11_moved_25 rfl ?_
      refine v_getr (ci := 11) (j := 2) (ji := 2) (z := 6) dX11_moved_26 k_556 (by decide) kk_0 (by decide) rfl rfl (fun r => rt_0_2 (r rfl)) (by decide) ?_
      refine v_getrN (ci := 8) (j := 2) (ji := 2) (z := 12) dX11_moved_29 k_235 (by decide) kk_6 (by decide) rfl rfl (fun r => rt_6_2 (r rfl)) (by decide) ?_
      refine v_iload_n dX11_moved_32 rfl ?_
      refine v_callv (M' := mX1_webOf) (d' := d - 1) (mc' := 0) (ms' := 0) (ci := 1) (c := 12) (As := [_]) dX11_moved_33 k_1255 cm_X1_webOf rfl (by omega) (by decide) kk_12 (Nat.le_of_ble_eq_true rfl) rfl ⟨Nat.le_refl _, Nat.le_refl _⟩ ?_
      refine s_cwebOf (by omega) I ⟨by omega, by omega⟩ ?_
      dsimp only [Option.toList, List.cons_append, List.nil_append, Nat.add_zero]
      refine v_istore_n_3 dX11_moved_36 (by decide) rfl ?_
      have tw9 := I.tw p (by omega) (by omega)
      refine v_aload_n dX11_moved_37 rfl ?_
      refine v_getr (ci := 11) (j := 5) (ji := 5) (z := 5) dX11_moved_38 k_559 (by decide) kk_0 (by decide) rfl rfl (fun r => rt_0_5 (r rfl)) (by decide) ?_
      refine v_iload_n dX11_moved_41 rfl ?_
      refine v_aload_n dX11_moved_42 rfl ?_
      refine v_getv (ci := 11) (j := 0) (ji := 0) (tg := 0) dX11_moved_43 k_554 (by decide) kk_0 (by decide) rfl rfl (by decide) ((cst_n (by decide)).trans (I.f0_0)) ?_
      refine v_iconst dX11_moved_46 (c32 rfl) ?_
      refine v_callv (M' := mX4_judge) (d' := d - 1) (mc' := 0) (ms' := 0) (ci := 4) (c := 5) (As := [_, _, _]) dX11_moved_47 k_951 cm_X4_judge rfl (by omega) (by decide) kk_5 (Nat.le_of_ble_eq_true rfl) rfl ⟨Nat.le_refl _, Nat.le_refl _⟩ ?_
      refine s_cjudge (by omega) I ⟨by omega, by omega⟩ (by omega) (fun xf_8 c47_8 => ?_)
      dsimp only [Option.toList, List.cons_append, List.nil_append, Nat.add_zero]
      refine v_aload_n dX11_moved_50 rfl ?_
      refine v_getr (ci := 11) (j := 5) (ji := 5) (z := 5) dX11_moved_51 k_559 (by decide) kk_0 (by decide) rfl rfl (fun r => rt_0_5 (r rfl)) (by decide) ?_
      refine v_iload_n dX11_moved_54 rfl ?_
      refine v_aload_n dX11_moved_55 rfl ?_
      refine v_getv (ci := 11) (j := 0) (ji := 0) (tg := 0) dX11_moved_56 k_554 (by decide) kk_0 (by decide) rfl rfl (by decide) ((cst_n (by decide)).trans (I.f0_0)) ?_
      refine v_iload_n dX11_moved_59 rfl ?_
      refine v_callv (M' := mX4_judge) (d' := d - 1) (mc' := 0) (ms' := 0) (ci := 4) (c := 5) (As := [_, _, _]) dX11_moved_60 k_951 cm_X4_judge rfl (by omega) (by decide) kk_5 (Nat.le_of_ble_eq_true rfl) rfl ⟨Nat.le_refl _, Nat.le_refl _⟩ ?_
      refine s_cjudgeS (by omega) I ⟨by omega, by omega⟩ (by omega) (fun xf_9 c60_9 => ?_)
      dsimp only [Option.toList, List.cons_append, List.nil_append, Nat.add_zero]
      refine v_aload_n dX11_moved_63 rfl ?_
      refine v_getr (ci := 11) (j := 5) (ji := 5) (z := 5) dX11_moved_64 k_559 (by decide) kk_0 (by decide) rfl rfl (fun r => rt_0_5 (r rfl)) (by decide) ?_
      refine v_iload_n dX11_moved_67 rfl ?_
      refine v_iload_n dX11_moved_68 rfl ?_
      refine v_callv (M' := mX4_countMoved) (d' := d - 1) (mc' := 0) (ms' := 0) (ci := 4) (c := 5) (As := [_, _]) dX11_moved_69 k_1260 cm_X4_countMoved rfl (by omega) (by decide) kk_5 (Nat.le_of_ble_eq_true rfl) rfl ⟨Nat.le_refl _, Nat.le_refl _⟩ ?_
      refine s_cmv (by omega) I tw9 ⟨by omega, by omega⟩ (fun b b0 b1 => by rw [c60_9.2.1 (58 + h 121 p) (by omega) (by omega) (by omega)]; exact c47_8.2.2.2 b b0 b1 (I.m134.2 b b0 b1).2) (fun b b0 b1 => by have := c60_9.2.2.2 b b0 b1 (I.m134.2 b b0 b1).2; exact this) ?_
      dsimp only [Option.toList, List.cons_append, List.nil_append, Nat.add_zero]
      refine v_ireti dX11_moved_72 rfl (Nat.le_refl _) (Nat.le_refl _) ?_
      exact q1 (by omega) _
  · dsimp only [Option.toList, List.cons_append, List.nil_append, Nat.add_zero]
    refine v_if_eq_t (tgt := 23) dX11_moved_11 (by decide) (by decide) ?_
    refine v_iconst dX11_moved_23 (c32 rfl) ?_
    refine v_ireti dX11_moved_24 rfl (Nat.le_refl _) (Nat.le_refl _) ?_
    exact q0 (by omega) _

set_option maxHeartbeats 4000000 in
set_option maxRecDepth 100000 in
theorem s_Fcount {l : Launch} {G : GG} {d : Nat} {h F : AH} {Q : Option AV → List Kd → AH → Prop} {cs : Int → List (Int × List Int)} {w : Int} (hd : 8 ≤ d) (I : CI h cs) (q0 : w = 0 → Q (some (0, h 116 1)) K0 (cst h F)) (q1 : w = 1 → Q (some (0, h 116 15)) K0 (cst h F)) (q2 : w = 2 → Q (some (0, h 116 45)) K0 (cst h F)) (q3 : w = 3 → Q (some (0, h 116 46)) K0 (cst h F)) (q4 : w = 4 → Q (some (0, h 116 65)) K0 (cst h F)) (q5 : w = 5 → Q (some (0, h 4 15)) K0 (cst h F)) (q6 : w = 6 → Q (some (0, l2i (ldiv (h 4 16) 1000))) K0 (cst h F)) (q7 : w = 7 → Q (some (0, h 116 88)) K0 (cst h F)) (q8 : w = 8 → Q (some (0, h 116 16)) K0 (cst h F)) (q9 : w = 9 → Q (some (0, h 41 13)) K0 (cst h F)) (q10 : w = 10 → ∀ F', Q (some (0, sm (cP h cs (h 116 1)) (h 116 65))) K0 (cst h F')) (q11 : (w < 0 ∨ 10 < w) → Q (some (0, -1)) K0 (cst h F)) : Sp l G mX11_count d 0 0 K0 [(2, 0), (0, w)] (cst h F) Q := by
  refine sp_of (L := [(2, 0), (0, w)]) pl_X11 (Nat.le_of_ble_eq_true rfl) (tg_c (by decide) (tg_c (by decide) tg_0)) rfl ?_
  refine v_iload_n dX11_count_0 rfl ?_
  rcases (show (w < 0 ∨ 10 < w) ∨ w = 0 ∨ w = 1 ∨ w = 2 ∨ w = 3 ∨ w = 4 ∨ w = 5 ∨ w = 6 ∨ w = 7 ∨ w = 8 ∨ w = 9 ∨ w = 10 by omega) with c1_1 | c1_1 | c1_1 | c1_1 | c1_1 | c1_1 | c1_1 | c1_1 | c1_1 | c1_1 | c1_1 | c1_1
  · refine v_tsw_out (tgt := 164) dX11_count_1 c1_1 (by decide) ?_
    refine v_iconst dX11_count_164 (c32 rfl) ?_
    refine v_ireti dX11_count_165 rfl (Nat.le_refl _) (Nat.le_refl _) ?_
    exact q11 c1_1
  · refine v_tsw_in (off := 59) (tgt := 60) dX11_count_1 (by omega) (by omega) (by rw [c1_1]; rfl) (by decide) ?_
    refine v_aload_n dX11_count_60 rfl ?_
    refine v_getv (ci := 11) (j := 0) (ji := 0) (tg := 0) dX11_count_61 k_554 (by decide) kk_0 (by decide) rfl rfl (by decide) ((cst_n (by decide)).trans (I.f0_0)) ?_
    refine v_ireti dX11_count_64 rfl (Nat.le_refl _) (Nat.le_refl _) ?_
    exact q0 c1_1
  · refine v_tsw_in (off := 64) (tgt := 65) dX11_count_1 (by omega) (by omega) (by rw [c1_1]; rfl) (by decide) ?_
    refine v_aload_n dX11_count_65 rfl ?_
    refine v_getr (ci := 11) (j := 2) (ji := 2) (z := 6) dX11_count_66 k_556 (by decide) kk_0 (by decide) rfl rfl (fun r => rt_0_2 (r rfl)) (by decide) ?_
    refine v_getrN (ci := 8) (j := 2) (ji := 2) (z := 12) dX11_count_69 k_235 (by decide) kk_6 (by decide) rfl rfl (fun r => rt_6_2 (r rfl)) (by decide) ?_
    refine v_getvN (ci := 1) (j := 4) (ji := 4) (tg := 0) dX11_count_72 k_183 (by decide) kk_12 (by decide) rfl rfl (by decide) ((cst_n (by decide)).trans (I.f12_4)) ?_
    refine v_ireti dX11_count_75 rfl (Nat.le_refl _) (Nat.le_refl _) ?_
    exact q1 c1_1
  · refine v_tsw_in (off := 75) (tgt := 76) dX11_count_1 (by omega) (by omega) (by rw [c1_1]; rfl) (by decide) ?_
    refine v_aload_n dX11_count_76 rfl ?_
    refine v_getr (ci := 11) (j := 3) (ji := 3) (z := 41) dX11_count_77 k_557 (by decide) kk_0 (by decide) rfl rfl (fun r => rt_0_3 (r rfl)) (by decide) ?_
    refine v_getvN (ci := 6) (j := 12) (ji := 12) (tg := 0) dX11_count_80 k_320 (by decide) kk_41 (by decide) rfl rfl (by decide) ((cst_n (by decide)).trans (I.f41_12)) ?_
    refine v_ireti dX11_count_83 rfl (Nat.le_refl _) (Nat.le_refl _) ?_
    exact q2 c1_1
  · refine v_tsw_in (off := 83) (tgt := 84) dX11_count_1 (by omega) (by omega) (by rw [c1_1]; rfl) (by decide) ?_
    refine v_aload_n dX11_count_84 rfl ?_
    refine v_getr (ci := 11) (j := 4) (ji := 4) (z := 81) dX11_count_85 k_558 (by decide) kk_0 (by decide) rfl rfl (fun r => rt_0_4 (r rfl)) (by decide) ?_
    refine v_getvN (ci := 10) (j := 2) (ji := 2) (tg := 0) dX11_count_88 k_444 (by decide) kk_81 (by decide) rfl rfl (by decide) ((cst_n (by decide)).trans (I.f81_2)) ?_
    refine v_ireti dX11_count_91 rfl (Nat.le_refl _) (Nat.le_refl _) ?_
    exact q3 c1_1
  · refine v_tsw_in (off := 91) (tgt := 92) dX11_count_1 (by omega) (by omega) (by rw [c1_1]; rfl) (by decide) ?_
    refine v_aload_n dX11_count_92 rfl ?_
    refine v_getr (ci := 11) (j := 6) (ji := 6) (z := 4) dX11_count_93 k_560 (by decide) kk_0 (by decide) rfl rfl (fun r => rt_0_6 (r rfl)) (by decide) ?_
    refine v_getvN (ci := 0) (j := 7) (ji := 7) (tg := 0) dX11_count_96 k_382 (by decide) kk_4 (by decide) rfl rfl (by decide) ((cst_n (by decide)).trans (I.f4_7)) ?_
    refine v_ireti dX11_count_99 rfl (Nat.le_refl _) (Nat.le_refl _) ?_
    exact q4 c1_1
  · refine v_tsw_in (off := 99) (tgt := 100) dX11_count_1 (by omega) (by omega) (by rw [c1_1]; rfl) (by decide) ?_
    refine v_aload_n dX11_count_100 rfl ?_
    refine v_getr (ci := 11) (j := 6) (ji := 6) (z := 4) dX11_count_101 k_560 (by decide) kk_0 (by decide) rfl rfl (fun r => rt_0_6 (r rfl)) (by decide) ?_
    refine v_getvN (ci := 0) (j := 15) (ji := 15) (tg := 0) dX11_count_104 k_393 (by decide) kk_4 (by decide) rfl rfl (by decide) (cst_n (by decide)) ?_
    refine v_ireti dX11_count_107 rfl (Nat.le_refl _) (Nat.le_refl _) ?_
    exact q5 c1_1
  · refine v_tsw_in (off := 107) (tgt := 108) dX11_count_1 (by omega) (by omega) (by rw [c1_1]; rfl) (by decide) ?_
    refine v_aload_n dX11_count_108 rfl ?_
    refine v_getr (ci := 11) (j := 6) (ji := 6) (z := 4) dX11_count_109 k_560 (by decide) kk_0 (by decide) rfl rfl (fun r => rt_0_6 (r rfl)) (by decide) ?_
    refine v_getvN (ci := 0) (j := 16) (ji := 16) (tg := 1) dX11_count_112 k_395 (by decide) kk_4 (by decide) rfl rfl (by decide) (cst_n (by decide)) ?_
    refine v_ldc2 (n := 1000) dX11_count_115 k_1334 (c64 rfl) (by decide) ?_
    refine v_ldiv dX11_count_118 (by decide) ?_
    refine v_l2i dX11_count_119 ?_
    refine v_ireti dX11_count_120 rfl (Nat.le_refl _) (Nat.le_refl _) ?_
    exact q6 c1_1
  · refine v_tsw_in (off := 120) (tgt := 121) dX11_count_1 (by omega) (by omega) (by rw [c1_1]; rfl) (by decide) ?_
    refine v_aload_n dX11_count_121 rfl ?_
    refine v_getr (ci := 11) (j := 8) (ji := 8) (z := 97) dX11_count_122 k_562 (by decide) kk_0 (by decide) rfl rfl (fun r => rt_0_8 (r rfl)) (by decide) ?_
    refine v_getvN (ci := 9) (j := 2) (ji := 2) (tg := 0) dX11_count_125 k_530 (by decide) kk_97 (by decide) rfl rfl (by decide) ((cst_c (by decide)).trans (I.f97_2)) ?_
    refine v_ireti dX11_count_128 rfl (Nat.le_refl _) (Nat.le_refl _) ?_
    exact q7 c1_1
  · refine v_tsw_in (off := 128) (tgt := 129) dX11_count_1 (by omega) (by omega) (by rw [c1_1]; rfl) (by decide) ?_
    refine v_aload_n dX11_count_129 rfl ?_
    refine v_getr (ci := 11) (j := 1) (ji := 1) (z := 1) dX11_count_130 k_555 (by decide) kk_0 (by decide) rfl rfl (fun r => rt_0_1 (r rfl)) (by decide) ?_
    refine v_getvN (ci := 7) (j := 1) (ji := 1) (tg := 0) dX11_count_133 k_133 (by decide) kk_1 (by decide) rfl rfl (by decide) ((cst_c (by decide)).trans (I.f1_1)) ?_
    refine v_ireti dX11_count_136 rfl (Nat.le_refl _) (Nat.le_refl _) ?_
    exact q8 c1_1
  · refine v_tsw_in (off := 136) (tgt := 137) dX11_count_1 (by omega) (by omega) (by rw [c1_1]; rfl) (by decide) ?_
    refine v_aload_n dX11_count_137 rfl ?_
    refine v_getr (ci := 11) (j := 3) (ji := 3) (z := 41) dX11_count_138 k_557 (by decide) kk_0 (by decide) rfl rfl (fun r => rt_0_3 (r rfl)) (by decide) ?_
    refine v_getvN (ci := 6) (j := 13) (ji := 13) (tg := 0) dX11_count_141 k_322 (by decide) kk_41 (by decide) rfl rfl (by decide) (cst_n (by decide)) ?_
    refine v_ireti dX11_count_144 rfl (Nat.le_refl _) (Nat.le_refl _) ?_
    exact q9 c1_1
  · refine v_tsw_in (off := 144) (tgt := 145) dX11_count_1 (by omega) (by omega) (by rw [c1_1]; rfl) (by decide) ?_
    refine v_aload_n dX11_count_145 rfl ?_
    refine v_getr (ci := 11) (j := 6) (ji := 6) (z := 4) dX11_count_146 k_560 (by decide) kk_0 (by decide) rfl rfl (fun r => rt_0_6 (r rfl)) (by decide) ?_
    refine v_aload_n dX11_count_149 rfl ?_
    refine v_getv (ci := 11) (j := 0) (ji := 0) (tg := 0) dX11_count_150 k_554 (by decide) kk_0 (by decide) rfl rfl (by decide) ((cst_n (by decide)).trans (I.f0_0)) ?_
    refine v_callv (M' := mX0_judge) (d' := d - 1) (mc' := 0) (ms' := 0) (ci := 0) (c := 4) (As := [_]) dX11_count_153 k_1083 cm_X0_judge rfl (by omega) (by decide) kk_4 (Nat.le_of_ble_eq_true rfl) rfl ⟨Nat.le_refl _, Nat.le_refl _⟩ ?_
    refine s_cbjudge (by omega) I (by omega) (fun xf_3 c153_2 c153_3 => ?_)
    dsimp only [Option.toList, List.cons_append, List.nil_append, Nat.add_zero]
    refine v_aload_n dX11_count_156 rfl ?_
    refine v_getr (ci := 11) (j := 6) (ji := 6) (z := 4) dX11_count_157 k_560 (by decide) kk_0 (by decide) rfl rfl (fun r => rt_0_6 (r rfl)) (by decide) ?_
    refine v_callv (M' := mX0_countPreferred) (d' := d - 1) (mc' := 0) (ms' := 0) (ci := 0) (c := 4) (As := []) dX11_count_160 k_1311 cm_X0_countPreferred rfl (by omega) (by decide) kk_4 (Nat.le_of_ble_eq_true rfl) rfl ⟨Nat.le_refl _, Nat.le_refl _⟩ ?_
    refine s_ccp (by omega) I c153_3 ?_
    dsimp only [Option.toList, List.cons_append, List.nil_append, Nat.add_zero]
    refine v_ireti dX11_count_163 rfl (Nat.le_refl _) (Nat.le_refl _) ?_
    exact q10 c1_1 _

