/-! ===== told: both sides, where nothing is thrown; the reference anyway (written by wip/whole/p83.py) ===== -/
/-- what is told of a batch -/
def tolF (h : AH) (b w : Int) : Int := if w = 0 then h 129 b else if w = 1 then h 130 b else if w = 2 then prc h (h 116 1) b else if w = 3 then h 132 b else if w = 4 then h 133 b else if w = 5 then h 134 b else if w = 6 then h 135 b else if w = 7 then h 137 b else if h 136 b = 9999 then 0 else 1
theorem tolF_0 {h : AH} {b : Int} : tolF h b 0 = h 129 b := rfl
theorem tolF_1 {h : AH} {b : Int} : tolF h b 1 = h 130 b := rfl
theorem tolF_2 {h : AH} {b : Int} : tolF h b 2 = prc h (h 116 1) b := rfl
theorem tolF_3 {h : AH} {b : Int} : tolF h b 3 = h 132 b := rfl
theorem tolF_4 {h : AH} {b : Int} : tolF h b 4 = h 133 b := rfl
theorem tolF_5 {h : AH} {b : Int} : tolF h b 5 = h 134 b := rfl
theorem tolF_6 {h : AH} {b : Int} : tolF h b 6 = h 135 b := rfl
theorem tolF_7 {h : AH} {b : Int} : tolF h b 7 = h 137 b := rfl
theorem tolF_8 {h : AH} {b : Int} : tolF h b 8 = if h 136 b = 9999 then 0 else 1 := rfl
set_option maxHeartbeats 4000000 in
set_option maxRecDepth 100000 in
theorem s_cfact {l : Launch} {G : GG} {d : Nat} {h F : AH} {Q : Option AV → List Kd → AH → Prop} {cs : Int → List (Int × List Int)} {b w : Int} (hd : 3 ≤ d) (I : CI h cs) (hb : 0 ≤ b ∧ b < h 116 45) (hw : 0 ≤ w ∧ w ≤ 8) (hq : Q (some (0, tolF h b w)) K0 (cst h F)) : Sp l G mX6_fact d 0 0 K0 [(2, 41), (0, b), (0, w), (0, h 116 1)] (cst h F) Q := by
  refine sp_of (L := [(2, 41), (0, b), (0, w), (0, h 116 1)]) pl_X6 (Nat.le_of_ble_eq_true rfl) (tg_c (by decide) (tg_c (by decide) (tg_c (by decide) (tg_c (by decide) tg_0)))) rfl ?_
  have nb := I.W.nb
  refine v_iload_n dX6_fact_0 rfl ?_
  rcases (show (w < 0 ∨ 7 < w) ∨ w = 0 ∨ w = 1 ∨ w = 2 ∨ w = 3 ∨ w = 4 ∨ w = 5 ∨ w = 6 ∨ w = 7 by omega) with c1_1 | c1_1 | c1_1 | c1_1 | c1_1 | c1_1 | c1_1 | c1_1 | c1_1
  · refine v_tsw_out (tgt := 104) dX6_fact_1 c1_1 (by decide) ?_
    refine v_aload_n dX6_fact_104 rfl ?_
    refine v_iload_n dX6_fact_105 rfl ?_
    refine v_iload_n dX6_fact_106 rfl ?_
    refine v_callv (M' := mX6_isUndone) (d' := d - 1) (mc' := 0) (ms' := 0) (ci := 6) (c := 41) (As := [_, _]) dX6_fact_107 k_1409 cm_X6_isUndone rfl (by omega) (by decide) kk_41 (Nat.le_of_ble_eq_true rfl) rfl ⟨Nat.le_refl _, Nat.le_refl _⟩ ?_
    refine s_cundone (by omega) I ⟨by omega, by omega⟩ (by omega) (fun c107_2 => ?_) (fun c107_3 => ?_)
    · dsimp only [Option.toList, List.cons_append, List.nil_append, Nat.add_zero]
      refine v_if_eq_t (tgt := 117) dX6_fact_110 (by decide) (by decide) ?_
      refine v_iconst dX6_fact_117 (c32 rfl) ?_
      refine v_ireti dX6_fact_118 rfl (Nat.le_refl _) (Nat.le_refl _) ?_
      obtain rfl : w = 8 := by omega
      rw [tolF_8] at hq
      have iu := I.iu b hb.1 hb.2
      have nw := I.now
      first
      | (rw [if_pos (by omega)] at hq; exact hq)
      | (rw [if_neg (by omega)] at hq; exact hq)
    · dsimp only [Option.toList, List.cons_append, List.nil_append, Nat.add_zero]
      refine v_if_eq_f (tgt := 117) dX6_fact_110 (by decide) (by decide) ?_
      refine v_iconst dX6_fact_113 (c32 rfl) ?_
      refine v_goto (tgt := 118) dX6_fact_114 (by decide) ?_
      refine v_ireti dX6_fact_118 rfl (Nat.le_refl _) (Nat.le_refl _) ?_
      obtain rfl : w = 8 := by omega
      rw [tolF_8] at hq
      have iu := I.iu b hb.1 hb.2
      have nw := I.now
      first
      | (rw [if_pos (by omega)] at hq; exact hq)
      | (rw [if_neg (by omega)] at hq; exact hq)
  · refine v_tsw_in (off := 47) (tgt := 48) dX6_fact_1 (by omega) (by omega) (by rw [c1_1]; rfl) (by decide) ?_
    refine v_aload_n dX6_fact_48 rfl ?_
    refine v_getr (ci := 6) (j := 0) (ji := 0) (z := 42) dX6_fact_49 k_291 (by decide) kk_41 (by decide) rfl rfl (fun r => rt_41_0 (r rfl)) (by decide) ?_
    refine v_iload_n dX6_fact_52 rfl ?_
    refine v_ialoadv dX6_fact_53 (by decide) kk_42 (by omega) (by omega) ((cst_n (by decide)).trans ((congrFun I.e42 b))) ?_
    refine v_ireti dX6_fact_54 rfl (Nat.le_refl _) (Nat.le_refl _) ?_
    rw [c1_1, tolF_0] at hq
    exact hq
  · refine v_tsw_in (off := 54) (tgt := 55) dX6_fact_1 (by omega) (by omega) (by rw [c1_1]; rfl) (by decide) ?_
    refine v_aload_n dX6_fact_55 rfl ?_
    refine v_getr (ci := 6) (j := 1) (ji := 1) (z := 43) dX6_fact_56 k_294 (by decide) kk_41 (by decide) rfl rfl (fun r => rt_41_1 (r rfl)) (by decide) ?_
    refine v_iload_n dX6_fact_59 rfl ?_
    refine v_ialoadv dX6_fact_60 (by decide) kk_43 (by omega) (by omega) ((cst_n (by decide)).trans ((congrFun I.e43 b))) ?_
    refine v_ireti dX6_fact_61 rfl (Nat.le_refl _) (Nat.le_refl _) ?_
    rw [c1_1, tolF_1] at hq
    exact hq
  · refine v_tsw_in (off := 61) (tgt := 62) dX6_fact_1 (by omega) (by omega) (by rw [c1_1]; rfl) (by decide) ?_
    refine v_aload_n dX6_fact_62 rfl ?_
    refine v_iload_n dX6_fact_63 rfl ?_
    refine v_iload_n dX6_fact_64 rfl ?_
    refine v_callv (M' := mX6_priceOf) (d' := d - 1) (mc' := 0) (ms' := 0) (ci := 6) (c := 41) (As := [_, _]) dX6_fact_65 k_1408 cm_X6_priceOf rfl (by omega) (by decide) kk_41 (Nat.le_of_ble_eq_true rfl) rfl ⟨Nat.le_refl _, Nat.le_refl _⟩ ?_
    refine s_cprice (by omega) I ⟨by omega, by omega⟩ ?_
    dsimp only [Option.toList, List.cons_append, List.nil_append, Nat.add_zero]
    refine v_ireti dX6_fact_68 rfl (Nat.le_refl _) (Nat.le_refl _) ?_
    rw [c1_1, tolF_2] at hq
    exact hq
  · refine v_tsw_in (off := 68) (tgt := 69) dX6_fact_1 (by omega) (by omega) (by rw [c1_1]; rfl) (by decide) ?_
    refine v_aload_n dX6_fact_69 rfl ?_
    refine v_getr (ci := 6) (j := 3) (ji := 3) (z := 45) dX6_fact_70 k_298 (by decide) kk_41 (by decide) rfl rfl (fun r => rt_41_3 (r rfl)) (by decide) ?_
    refine v_iload_n dX6_fact_73 rfl ?_
    refine v_ialoadv dX6_fact_74 (by decide) kk_45 (by omega) (by omega) ((cst_n (by decide)).trans ((congrFun I.e45 b))) ?_
    refine v_ireti dX6_fact_75 rfl (Nat.le_refl _) (Nat.le_refl _) ?_
    rw [c1_1, tolF_3] at hq
    exact hq
  · refine v_tsw_in (off := 75) (tgt := 76) dX6_fact_1 (by omega) (by omega) (by rw [c1_1]; rfl) (by decide) ?_
    refine v_aload_n dX6_fact_76 rfl ?_
    refine v_getr (ci := 6) (j := 4) (ji := 4) (z := 46) dX6_fact_77 k_301 (by decide) kk_41 (by decide) rfl rfl (fun r => rt_41_4 (r rfl)) (by decide) ?_
    refine v_iload_n dX6_fact_80 rfl ?_
    refine v_ialoadv dX6_fact_81 (by decide) kk_46 (by omega) (by omega) ((cst_n (by decide)).trans ((congrFun I.e46 b))) ?_
    refine v_ireti dX6_fact_82 rfl (Nat.le_refl _) (Nat.le_refl _) ?_
    rw [c1_1, tolF_4] at hq
    exact hq
  · refine v_tsw_in (off := 82) (tgt := 83) dX6_fact_1 (by omega) (by omega) (by rw [c1_1]; rfl) (by decide) ?_
    refine v_aload_n dX6_fact_83 rfl ?_
    refine v_getr (ci := 6) (j := 5) (ji := 5) (z := 47) dX6_fact_84 k_304 (by decide) kk_41 (by decide) rfl rfl (fun r => rt_41_5 (r rfl)) (by decide) ?_
    refine v_iload_n dX6_fact_87 rfl ?_
    refine v_ialoadv dX6_fact_88 (by decide) kk_47 (by omega) (by omega) ((cst_n (by decide)).trans ((congrFun I.e47 b))) ?_
    refine v_ireti dX6_fact_89 rfl (Nat.le_refl _) (Nat.le_refl _) ?_
    rw [c1_1, tolF_5] at hq
    exact hq
  · refine v_tsw_in (off := 89) (tgt := 90) dX6_fact_1 (by omega) (by omega) (by rw [c1_1]; rfl) (by decide) ?_
    refine v_aload_n dX6_fact_90 rfl ?_
    refine v_getr (ci := 6) (j := 6) (ji := 6) (z := 48) dX6_fact_91 k_307 (by decide) kk_41 (by decide) rfl rfl (fun r => rt_41_6 (r rfl)) (by decide) ?_
    refine v_iload_n dX6_fact_94 rfl ?_
    refine v_ialoadv dX6_fact_95 (by decide) kk_48 (by omega) (by omega) ((cst_n (by decide)).trans ((congrFun I.e48 b))) ?_
    refine v_ireti dX6_fact_96 rfl (Nat.le_refl _) (Nat.le_refl _) ?_
    rw [c1_1, tolF_6] at hq
    exact hq
  · refine v_tsw_in (off := 96) (tgt := 97) dX6_fact_1 (by omega) (by omega) (by rw [c1_1]; rfl) (by decide) ?_
    refine v_aload_n dX6_fact_97 rfl ?_
    refine v_getr (ci := 6) (j := 8) (ji := 8) (z := 50) dX6_fact_98 k_311 (by decide) kk_41 (by decide) rfl rfl (fun r => rt_41_8 (r rfl)) (by decide) ?_
    refine v_iload_n dX6_fact_101 rfl ?_
    refine v_ialoadv dX6_fact_102 (by decide) kk_50 (by omega) (by omega) ((cst_n (by decide)).trans ((congrFun I.e50 b))) ?_
    refine v_ireti dX6_fact_103 rfl (Nat.le_refl _) (Nat.le_refl _) ?_
    rw [c1_1, tolF_7] at hq
    exact hq

set_option maxHeartbeats 4000000 in
set_option maxRecDepth 100000 in
theorem s_Ftold {l : Launch} {G : GG} {d : Nat} {h F : AH} {Q : Option AV → List Kd → AH → Prop} {cs : Int → List (Int × List Int)} {b w : Int} (hd : 4 ≤ d) (I : CI h cs) (hb : 0 ≤ b ∧ b < h 116 45) (hw : 0 ≤ w ∧ w ≤ 8) (hq : Q (some (0, tolF h b w)) K0 (cst h F)) : Sp l G mX11_told d 0 0 K0 [(2, 0), (0, b), (0, w)] (cst h F) Q := by
  refine sp_of (L := [(2, 0), (0, b), (0, w)]) pl_X11 (Nat.le_of_ble_eq_true rfl) (tg_c (by decide) (tg_c (by decide) (tg_c (by decide) tg_0))) rfl ?_
  have nb := I.W.nb
  refine v_aload_n dX11_told_0 rfl ?_
  refine v_getr (ci := 11) (j := 3) (ji := 3) (z := 41) dX11_told_1 k_557 (by decide) kk_0 (by decide) rfl rfl (fun r => rt_0_3 (r rfl)) (by decide) ?_
  refine v_iload_n dX11_told_4 rfl ?_
  refine v_callv (M' := mX6_has) (d' := d - 1) (mc' := 0) (ms' := 0) (ci := 6) (c := 41) (As := [_]) dX11_told_5 k_914 cm_X6_has rfl (by omega) (by decide) kk_41 (Nat.le_of_ble_eq_true rfl) rfl ⟨Nat.le_refl _, Nat.le_refl _⟩ ?_
  refine s_chas (by omega) I (fun c5_1 => ?_) (fun c5_2 => ?_)
  · dsimp only [Option.toList, List.cons_append, List.nil_append, Nat.add_zero]
    refine v_if_eq_f (tgt := 21) dX11_told_8 (by decide) (by decide) ?_
    refine v_iload_n dX11_told_11 rfl ?_
    refine v_iconst dX11_told_12 (c32 rfl) ?_
    refine v_bipush dX11_told_13 (c32 rfl) (by decide) ?_
    refine v_calls (M' := mX11_within) (d' := d - 1) (mc' := 0) (ms' := 0) (As := [_, _, _]) dX11_told_15 k_586 cm_X11_within (by omega) (Nat.le_of_ble_eq_true rfl) rfl ⟨Nat.le_refl _, Nat.le_refl _⟩ ?_
    refine s_X11_within (by omega) (fun c15_3 => ?_) (fun c15_4 c15_5 => ?_) (fun c15_6 c15_7 => ?_)
    · dsimp only [Option.toList, List.cons_append, List.nil_append, Nat.add_zero]
      refine v_if_ne_f (tgt := 29) dX11_told_18 (by decide) (by decide) ?_
      exfalso
      omega
    · dsimp only [Option.toList, List.cons_append, List.nil_append, Nat.add_zero]
      refine v_if_ne_f (tgt := 29) dX11_told_18 (by decide) (by decide) ?_
      exfalso
      omega
    · dsimp only [Option.toList, List.cons_append, List.nil_append, Nat.add_zero]
      refine v_if_ne_t (tgt := 29) dX11_told_18 (by decide) (by decide) ?_
      refine v_aload_n dX11_told_29 rfl ?_
      refine v_getr (ci := 11) (j := 3) (ji := 3) (z := 41) dX11_told_30 k_557 (by decide) kk_0 (by decide) rfl rfl (fun r => rt_0_3 (r rfl)) (by decide) ?_
      refine v_iload_n dX11_told_33 rfl ?_
      refine v_iload_n dX11_told_34 rfl ?_
      refine v_aload_n dX11_told_35 rfl ?_
      refine v_getv (ci := 11) (j := 0) (ji := 0) (tg := 0) dX11_told_36 k_554 (by decide) kk_0 (by decide) rfl rfl (by decide) ((cst_n (by decide)).trans (I.f0_0)) ?_
      refine v_callv (M' := mX6_fact) (d' := d - 1) (mc' := 0) (ms' := 0) (ci := 6) (c := 41) (As := [_, _, _]) dX11_told_39 k_1404 cm_X6_fact rfl (by omega) (by decide) kk_41 (Nat.le_of_ble_eq_true rfl) rfl ⟨Nat.le_refl _, Nat.le_refl _⟩ ?_
      refine s_cfact (b := b) (w := w) (by omega) I hb hw ?_
      dsimp only [Option.toList, List.cons_append, List.nil_append, Nat.add_zero]
      refine v_ireti dX11_told_42 rfl (Nat.le_refl _) (Nat.le_refl _) ?_
      exact hq
  · dsimp only [Option.toList, List.cons_append, List.nil_append, Nat.add_zero]
    refine v_if_eq_t (tgt := 21) dX11_told_8 (by decide) (by decide) ?_
    exfalso
    omega

