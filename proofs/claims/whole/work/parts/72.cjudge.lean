/-! ===== the class: judging (written by wip/whole/p48.py) ===== -/
set_option maxHeartbeats 4000000 in
set_option maxRecDepth 100000 in
theorem s_cgrown {l : Launch} {G : GG} {d : Nat} {h F : AH} {Q : Option AV → List Kd → AH → Prop} {cs : Int → List (Int × List Int)} {b : Int} (hd : 1 ≤ d) (I : CI h cs) (hb : 0 ≤ b ∧ b < 100) (q1 : h 135 b = -1 → Q (some (0, 1)) K0 (cst h F)) (q0 : h 135 b ≠ -1 → Q (some (0, 0)) K0 (cst h F)) : Sp l G mX6_isGrown d 0 0 K0 [(2, 41), (0, b)] (cst h F) Q := by
  refine sp_of (L := [(2, 41), (0, b)]) pl_X6 (Nat.le_of_ble_eq_true rfl) (tg_c (by decide) (tg_c (by decide) tg_0)) rfl ?_
  refine v_aload_n dX6_isGrown_0 rfl ?_
  refine v_getr (ci := 6) (j := 6) (ji := 6) (z := 48) dX6_isGrown_1 k_307 (by decide) kk_41 (by decide) rfl rfl (fun r => rt_41_6 (r rfl)) (by decide) ?_
  refine v_iload_n dX6_isGrown_4 rfl ?_
  refine v_ialoadv dX6_isGrown_5 (by decide) kk_48 (by omega) (by omega) ((cst_n (by decide)).trans ((congrFun I.e48 b))) ?_
  refine v_iconst dX6_isGrown_6 (c32 rfl) ?_
  refine v_icmp_ne (tgt := 14) dX6_isGrown_7 (by decide) (fun c7_1 => ?_) (fun c7_1 => ?_)
  · refine v_iconst dX6_isGrown_14 (c32 rfl) ?_
    refine v_iretz dX6_isGrown_15 rfl (by decide) (Nat.le_refl _) (Nat.le_refl _) ?_
    exact q0 c7_1
  · refine v_iconst dX6_isGrown_10 (c32 rfl) ?_
    refine v_goto (tgt := 15) dX6_isGrown_11 (by decide) ?_
    refine v_iretz dX6_isGrown_15 rfl (by decide) (Nat.le_refl _) (Nat.le_refl _) ?_
    exact q1 c7_1

set_option maxHeartbeats 4000000 in
set_option maxRecDepth 100000 in
theorem s_cundone {l : Launch} {G : GG} {d : Nat} {h F : AH} {Q : Option AV → List Kd → AH → Prop} {cs : Int → List (Int × List Int)} {b q : Int} (hd : 1 ≤ d) (I : CI h cs) (hb : 0 ≤ b ∧ b < h 116 45) (hq1 : q ≤ h 116 1) (q0 : q < h 136 b → Q (some (0, 0)) K0 (cst h F)) (q1 : h 136 b ≤ q → Q (some (0, 1)) K0 (cst h F)) : Sp l G mX6_isUndone d 0 0 K0 [(2, 41), (0, b), (0, q)] (cst h F) Q := by
  have nb := I.W.nb
  have iu := I.iu b hb.1 hb.2
  have nw := I.now
  refine sp_of (L := [(2, 41), (0, b), (0, q)]) pl_X6 (Nat.le_of_ble_eq_true rfl) (tg_c (by decide) (tg_c (by decide) (tg_c (by decide) tg_0))) rfl ?_
  refine v_aload_n dX6_isUndone_0 rfl ?_
  refine v_getr (ci := 6) (j := 7) (ji := 7) (z := 49) dX6_isUndone_1 k_310 (by decide) kk_41 (by decide) rfl rfl (fun r => rt_41_7 (r rfl)) (by decide) ?_
  refine v_iload_n dX6_isUndone_4 rfl ?_
  refine v_ialoadv dX6_isUndone_5 (by decide) kk_49 (by omega) (by omega) (cst_n (by decide)) ?_
  refine v_iconst dX6_isUndone_6 (c32 rfl) ?_
  refine v_icmp_eq (tgt := 24) dX6_isUndone_7 (by decide) (fun c7_1 => ?_) (fun c7_1 => ?_)
  · refine v_iconst dX6_isUndone_24 (c32 rfl) ?_
    refine v_iretz dX6_isUndone_25 rfl (by decide) (Nat.le_refl _) (Nat.le_refl _) ?_
    exact q0 (by omega)
  · refine v_aload_n dX6_isUndone_10 rfl ?_
    refine v_getr (ci := 6) (j := 7) (ji := 7) (z := 49) dX6_isUndone_11 k_310 (by decide) kk_41 (by decide) rfl rfl (fun r => rt_41_7 (r rfl)) (by decide) ?_
    refine v_iload_n dX6_isUndone_14 rfl ?_
    refine v_ialoadv dX6_isUndone_15 (by decide) kk_49 (by omega) (by omega) (cst_n (by decide)) ?_
    refine v_iload_n dX6_isUndone_16 rfl ?_
    refine v_icmp_gt (tgt := 24) dX6_isUndone_17 (by decide) (fun c17_2 => ?_) (fun c17_2 => ?_)
    · refine v_iconst dX6_isUndone_24 (c32 rfl) ?_
      refine v_iretz dX6_isUndone_25 rfl (by decide) (Nat.le_refl _) (Nat.le_refl _) ?_
      exact q0 (by omega)
    · refine v_iconst dX6_isUndone_20 (c32 rfl) ?_
      refine v_goto (tgt := 25) dX6_isUndone_21 (by decide) ?_
      refine v_iretz dX6_isUndone_25 rfl (by decide) (Nat.le_refl _) (Nat.le_refl _) ?_
      exact q1 (by omega)

set_option maxHeartbeats 4000000 in
set_option maxRecDepth 100000 in
theorem s_cfound {l : Launch} {G : GG} {d : Nat} {h F : AH} {Q : Option AV → List Kd → AH → Prop} {cs : Int → List (Int × List Int)} {r b w q al : Int} (hd : 5 ≤ d) (I : CI h cs) (hr : 0 ≤ r ∧ r < 5) (hb : 0 ≤ b ∧ b < h 116 45) (hq1 : q ≤ h 116 1) (hal : -1 ≤ al ∧ (al < h 116 15 ∨ al = -1)) (hP : ∀ e, 0 ≤ e → e < h 116 45 → F 63 e = prc h q e) (hq : ∀ F', Fr 2 F F' → Q (some (0, (jv h cs w q al (F (58 + r)) b))) K0 (cst h F')) : Sp l G mX4_isFound d 0 0 K0 [(2, 5), (0, r), (0, b), (0, w), (0, q), (0, al)] (cst h F) Q := by
  have nb := I.W.nb
  have la := I.W.la b hb.1 hb.2
  refine sp_of (L := [(2, 5), (0, r), (0, b), (0, w), (0, q), (0, al), (9, 0), (9, 0)]) pl_X4 (Nat.le_of_ble_eq_true rfl) (tg_c (by decide) (tg_c (by decide) (tg_c (by decide) (tg_c (by decide) (tg_c (by decide) (tg_c (by decide) tg_0)))))) rfl ?_
  refine v_aload_n dX4_isFound_0 rfl ?_
  refine v_getr (ci := 4) (j := 1) (ji := 1) (z := 41) dX4_isFound_1 k_356 (by decide) kk_5 (by decide) rfl rfl (fun r => rt_5_1 (r rfl)) (by decide) ?_
  refine v_getrN (ci := 6) (j := 5) (ji := 5) (z := 47) dX4_isFound_4 k_305 (by decide) kk_41 (by decide) rfl rfl (fun r => rt_41_5 (r rfl)) (by decide) ?_
  refine v_iload_n dX4_isFound_7 rfl ?_
  refine v_ialoadv dX4_isFound_8 (by decide) kk_47 (by omega) (by omega) ((cst_n (by decide)).trans ((congrFun I.e47 b))) ?_
  refine v_istore_6 dX4_isFound_9 (by decide) rfl ?_
  have hdb := I.m134.2 b hb.1 hb.2
  refine v_aload_n dX4_isFound_11 rfl ?_
  refine v_getr (ci := 4) (j := 0) (ji := 0) (z := 6) dX4_isFound_12 k_353 (by decide) kk_5 (by decide) rfl rfl (fun r => rt_5_0 (r rfl)) (by decide) ?_
  refine v_iload_n dX4_isFound_15 rfl ?_
  refine v_aload_n dX4_isFound_16 rfl ?_
  refine v_getr (ci := 4) (j := 1) (ji := 1) (z := 41) dX4_isFound_17 k_356 (by decide) kk_5 (by decide) rfl rfl (fun r => rt_5_1 (r rfl)) (by decide) ?_
  refine v_getrN (ci := 6) (j := 0) (ji := 0) (z := 42) dX4_isFound_20 k_292 (by decide) kk_41 (by decide) rfl rfl (fun r => rt_41_0 (r rfl)) (by decide) ?_
  refine v_iload_n dX4_isFound_23 rfl ?_
  refine v_ialoadv dX4_isFound_24 (by decide) kk_42 (by omega) (by omega) ((cst_n (by decide)).trans ((congrFun I.e42 b))) ?_
  refine v_iload dX4_isFound_25 rfl ?_
  refine v_iload dX4_isFound_27 rfl ?_
  refine v_callv (M' := mX8_isMember) (d' := d - 1) (mc' := 0) (ms' := 0) (ci := 8) (c := 6) (As := [_, _, _, _]) dX4_isFound_29 k_964 cm_X8_isMember rfl (by omega) (by decide) kk_6 (Nat.le_of_ble_eq_true rfl) rfl ⟨Nat.le_refl _, Nat.le_refl _⟩ ?_
  refine s_cisMem (by omega) I ⟨by omega, by omega⟩ (fun c29_1 => ?_) (fun c29_2 => ?_)
  · dsimp only [Option.toList, List.cons_append, List.nil_append, Nat.add_zero]
    refine v_if_ne_f (tgt := 37) dX4_isFound_32 (by decide) (by decide) ?_
    refine v_iconst dX4_isFound_35 (c32 rfl) ?_
    refine v_iretz dX4_isFound_36 rfl (by decide) (Nat.le_refl _) (Nat.le_refl _) ?_
    have ej : jv h cs w q al (F (58 + r)) b = 0 := by
      unfold jv
      rw [if_pos c29_1]
    have hq9 := hq _ Fr_0
    rw [ej] at hq9
    exact hq9
  · dsimp only [Option.toList, List.cons_append, List.nil_append, Nat.add_zero]
    refine v_if_ne_t (tgt := 37) dX4_isFound_32 (by decide) (by decide) ?_
    refine v_aload_n dX4_isFound_37 rfl ?_
    refine v_getr (ci := 4) (j := 1) (ji := 1) (z := 41) dX4_isFound_38 k_356 (by decide) kk_5 (by decide) rfl rfl (fun r => rt_5_1 (r rfl)) (by decide) ?_
    refine v_iload_n dX4_isFound_41 rfl ?_
    refine v_callv (M' := mX6_isGrown) (d' := d - 1) (mc' := 0) (ms' := 0) (ci := 6) (c := 41) (As := [_]) dX4_isFound_42 k_969 cm_X6_isGrown rfl (by omega) (by decide) kk_41 (Nat.le_of_ble_eq_true rfl) rfl ⟨Nat.le_refl _, Nat.le_refl _⟩ ?_
    refine s_cgrown (by omega) I ⟨by omega, by omega⟩ (fun c42_3 => ?_) (fun c42_4 => ?_)
    · dsimp only [Option.toList, List.cons_append, List.nil_append, Nat.add_zero]
      refine v_if_eq_f (tgt := 67) dX4_isFound_45 (by decide) (by decide) ?_
      refine v_aload_n dX4_isFound_48 rfl ?_
      refine v_getr (ci := 4) (j := 1) (ji := 1) (z := 41) dX4_isFound_49 k_356 (by decide) kk_5 (by decide) rfl rfl (fun r => rt_5_1 (r rfl)) (by decide) ?_
      refine v_iload_n dX4_isFound_52 rfl ?_
      refine v_iload dX4_isFound_53 rfl ?_
      refine v_callv (M' := mX6_isUndone) (d' := d - 1) (mc' := 0) (ms' := 0) (ci := 6) (c := 41) (As := [_, _]) dX4_isFound_55 k_970 cm_X6_isUndone rfl (by omega) (by decide) kk_41 (Nat.le_of_ble_eq_true rfl) rfl ⟨Nat.le_refl _, Nat.le_refl _⟩ ?_
      refine s_cundone (by omega) I ⟨by omega, by omega⟩ (by omega) (fun c55_5 => ?_) (fun c55_6 => ?_)
      · dsimp only [Option.toList, List.cons_append, List.nil_append, Nat.add_zero]
        refine v_if_ne_f (tgt := 65) dX4_isFound_58 (by decide) (by decide) ?_
        refine v_iconst dX4_isFound_61 (c32 rfl) ?_
        refine v_goto (tgt := 66) dX4_isFound_62 (by decide) ?_
        refine v_iretz dX4_isFound_66 rfl (by decide) (Nat.le_refl _) (Nat.le_refl _) ?_
        have ej : jv h cs w q al (F (58 + r)) b = 1 := by
          unfold jv
          rw [if_neg (fun z => z c29_2), if_pos c42_3, if_pos (by omega)]
        have hq9 := hq _ Fr_0
        rw [ej] at hq9
        exact hq9
      · dsimp only [Option.toList, List.cons_append, List.nil_append, Nat.add_zero]
        refine v_if_ne_t (tgt := 65) dX4_isFound_58 (by decide) (by decide) ?_
        refine v_iconst dX4_isFound_65 (c32 rfl) ?_
        refine v_iretz dX4_isFound_66 rfl (by decide) (Nat.le_refl _) (Nat.le_refl _) ?_
        have ej : jv h cs w q al (F (58 + r)) b = 0 := by
          unfold jv
          rw [if_neg (fun z => z c29_2), if_pos c42_3, if_neg (by omega)]
        have hq9 := hq _ Fr_0
        rw [ej] at hq9
        exact hq9
    · dsimp only [Option.toList, List.cons_append, List.nil_append, Nat.add_zero]
      refine v_if_eq_t (tgt := 67) dX4_isFound_45 (by decide) (by decide) ?_
      refine v_aload_n dX4_isFound_67 rfl ?_
      refine v_iload_n dX4_isFound_68 rfl ?_
      refine v_iload_n dX4_isFound_69 rfl ?_
      refine v_callv (M' := mX4_weigh) (d' := d - 1) (mc' := 0) (ms' := 0) (ci := 4) (c := 5) (As := [_, _]) dX4_isFound_70 k_974 cm_X4_weigh rfl (by omega) (by decide) kk_5 (Nat.le_of_ble_eq_true rfl) rfl ⟨Nat.le_refl _, Nat.le_refl _⟩ ?_
      refine s_cweigh (q := q) (by omega) I hr hb hP (fun xf_8 c70_7 c70_8 => ?_)
      dsimp only [Option.toList, List.cons_append, List.nil_append, Nat.add_zero]
      refine v_iload dX4_isFound_73 rfl ?_
      refine v_iconst dX4_isFound_75 (c32 rfl) ?_
      refine v_icmp_ne (tgt := 97) dX4_isFound_76 (by decide) (fun c76_9 => ?_) (fun c76_9 => ?_)
      · refine v_iload dX4_isFound_97 rfl ?_
        refine v_istore_7 dX4_isFound_99 (by decide) rfl ?_
        refine v_aload_n dX4_isFound_101 rfl ?_
        refine v_getr (ci := 4) (j := 0) (ji := 0) (z := 6) dX4_isFound_102 k_353 (by decide) kk_5 (by decide) rfl rfl (fun r => rt_5_0 (r rfl)) (by decide) ?_
        refine v_iload dX4_isFound_105 rfl ?_
        refine v_bipush dX4_isFound_107 (c32 rfl) (by decide) ?_
        refine v_callv (M' := mX8_worth) (d' := d - 1) (mc' := 0) (ms' := 0) (ci := 8) (c := 6) (As := [_, _]) dX4_isFound_109 k_1001 cm_X8_worth rfl (by omega) (by decide) kk_6 (Nat.le_of_ble_eq_true rfl) rfl ⟨Nat.le_refl _, Nat.le_refl _⟩ ?_
        refine s_cworth (by omega) I.X (by have := I.f12_4; omega) (fun xf_10 c109_10 => ?_)
        dsimp only [Option.toList, List.cons_append, List.nil_append, Nat.add_zero]
        refine v_if_eq (tgt := 119) dX4_isFound_112 (by decide) (fun c112_11 => ?_) (fun c112_11 => ?_)
        · refine v_iconst dX4_isFound_119 (c32 rfl) ?_
          refine v_iretz dX4_isFound_120 rfl (by decide) (Nat.le_refl _) (Nat.le_refl _) ?_
          have ej : jv h cs w q al (F (58 + r)) b = 0 := by
            unfold jv
            rw [if_neg (fun z => z c29_2), if_neg c42_4, if_neg c76_9, ← wth_congr c70_8, if_pos c112_11]
          have hq9 := hq _ (Fr_t c70_7 (Fr_m (by decide) c109_10))
          rw [ej] at hq9
          exact hq9
        · refine v_iconst dX4_isFound_115 (c32 rfl) ?_
          refine v_goto (tgt := 120) dX4_isFound_116 (by decide) ?_
          refine v_iretz dX4_isFound_120 rfl (by decide) (Nat.le_refl _) (Nat.le_refl _) ?_
          have ej : jv h cs w q al (F (58 + r)) b = 1 := by
            unfold jv
            rw [if_neg (fun z => z c29_2), if_neg c42_4, if_neg c76_9, ← wth_congr c70_8, if_neg c112_11]
          have hq9 := hq _ (Fr_t c70_7 (Fr_m (by decide) c109_10))
          rw [ej] at hq9
          exact hq9
      · refine v_aload_n dX4_isFound_79 rfl ?_
        refine v_getr (ci := 4) (j := 0) (ji := 0) (z := 6) dX4_isFound_80 k_353 (by decide) kk_5 (by decide) rfl rfl (fun r => rt_5_0 (r rfl)) (by decide) ?_
        refine v_getrN (ci := 8) (j := 2) (ji := 2) (z := 12) dX4_isFound_83 k_233 (by decide) kk_6 (by decide) rfl rfl (fun r => rt_6_2 (r rfl)) (by decide) ?_
        refine v_iload_n dX4_isFound_86 rfl ?_
        refine v_iload dX4_isFound_87 rfl ?_
        refine v_iload dX4_isFound_89 rfl ?_
        refine v_callv (M' := mX1_inForce) (d' := d - 1) (mc' := 0) (ms' := 0) (ci := 1) (c := 12) (As := [_, _, _]) dX4_isFound_91 k_1000 cm_X1_inForce rfl (by omega) (by decide) kk_12 (Nat.le_of_ble_eq_true rfl) rfl ⟨Nat.le_refl _, Nat.le_refl _⟩ ?_
        refine s_cforce (by omega) I ?_
        dsimp only [Option.toList, List.cons_append, List.nil_append, Nat.add_zero]
        refine v_goto (tgt := 99) dX4_isFound_94 (by decide) ?_
        refine v_istore_7 dX4_isFound_99 (by decide) rfl ?_
        refine v_aload_n dX4_isFound_101 rfl ?_
        refine v_getr (ci := 4) (j := 0) (ji := 0) (z := 6) dX4_isFound_102 k_353 (by decide) kk_5 (by decide) rfl rfl (fun r => rt_5_0 (r rfl)) (by decide) ?_
        refine v_iload dX4_isFound_105 rfl ?_
        refine v_bipush dX4_isFound_107 (c32 rfl) (by decide) ?_
        refine v_callv (M' := mX8_worth) (d' := d - 1) (mc' := 0) (ms' := 0) (ci := 8) (c := 6) (As := [_, _]) dX4_isFound_109 k_1001 cm_X8_worth rfl (by omega) (by decide) kk_6 (Nat.le_of_ble_eq_true rfl) rfl ⟨Nat.le_refl _, Nat.le_refl _⟩ ?_
        refine s_cworth (by omega) I.X (by have := @pOn_rng h I.W w (h 134 b) q; have := I.f12_4; omega) (fun xf_12 c109_12 => ?_)
        dsimp only [Option.toList, List.cons_append, List.nil_append, Nat.add_zero]
        refine v_if_eq (tgt := 119) dX4_isFound_112 (by decide) (fun c112_13 => ?_) (fun c112_13 => ?_)
        · refine v_iconst dX4_isFound_119 (c32 rfl) ?_
          refine v_iretz dX4_isFound_120 rfl (by decide) (Nat.le_refl _) (Nat.le_refl _) ?_
          have ej : jv h cs w q al (F (58 + r)) b = 0 := by
            unfold jv
            rw [if_neg (fun z => z c29_2), if_neg c42_4, if_pos c76_9, ← wth_congr c70_8, if_pos c112_13]
          have hq9 := hq _ (Fr_t c70_7 (Fr_m (by decide) c109_12))
          rw [ej] at hq9
          exact hq9
        · refine v_iconst dX4_isFound_115 (c32 rfl) ?_
          refine v_goto (tgt := 120) dX4_isFound_116 (by decide) ?_
          refine v_iretz dX4_isFound_120 rfl (by decide) (Nat.le_refl _) (Nat.le_refl _) ?_
          have ej : jv h cs w q al (F (58 + r)) b = 1 := by
            unfold jv
            rw [if_neg (fun z => z c29_2), if_neg c42_4, if_pos c76_9, ← wth_congr c70_8, if_neg c112_13]
          have hq9 := hq _ (Fr_t c70_7 (Fr_m (by decide) c109_12))
          rw [ej] at hq9
          exact hq9

/-- what a judging leaves: own by row r -/
def JD (h : AH) (cs : Int → List (Int × List Int)) (w q al r : Int) (F F' : AH) : Prop :=
  Fr 4 F F' ∧ (∀ c, 58 ≤ c → c ≤ 62 → c ≠ 58 + r → F' c = F c) ∧ (∀ e, 0 ≤ e → e < h 116 45 → F' 63 e = prc h q e) ∧ ∀ b, 0 ≤ b → b < h 116 45 → h 134 b ≤ q → F' (58 + r) b = own h cs w q al b
def JF (h : AH) (cs : Int → List (Int × List Int)) (w q al r k : Int) (F F' : AH) : Prop :=
  Fr 4 F F' ∧ (∀ c, 58 ≤ c → c ≤ 62 → c ≠ 58 + r → F' c = F c) ∧ (∀ e, 0 ≤ e → e < h 116 45 → F' 63 e = prc h q e) ∧ ∀ b, 0 ≤ b → b < k → F' (58 + r) b = own h cs w q al b
theorem Fr.own {n : Nat} {F F' : AH} {c : Int} (a : Fr n F F') (h : 58 ≤ c ∧ c ≤ 62) (hn : n < 4) : F' c = F c := Fr_r a (fun j => by rw [lev_own h]; exact hn)
theorem JF_s {h F F1 F2 : AH} {cs : Int → List (Int × List Int)} {w q al r k v : Int} (J : JF h cs w q al r k F F1) (hr : 0 ≤ r ∧ r < 5) (a : Fr 2 F1 F2) (hv : v = own h cs w q al k) : JF h cs w q al r (k + 1) F (hset F2 (58 + r) k v) := by
  refine ⟨Fr_t (Fr_t J.1 (Fr_m (by decide) a)) (Fr_s (by rw [lev_own ⟨by omega, by omega⟩]; decide)), fun c c0 c1 c2 => ?_, fun e e0 e1 => ?_, fun b b0 b1 => ?_⟩
  · rw [hset_r c2, a.own ⟨c0, c1⟩ (by decide)]
    exact J.2.1 c c0 c1 c2
  · rw [hset_c (by omega), a 63 e (Nat.le_of_ble_eq_true rfl)]
    exact J.2.2.1 e e0 e1
  · by_cases e : b = k
    · subst e; rw [hset_same]; exact hv
    · rw [hset_j e, a.own ⟨by omega, by omega⟩ (by decide)]
      exact J.2.2.2 b b0 (by omega)
theorem JF_own {h F F1 : AH} {cs : Int → List (Int × List Int)} {w q al r k : Int} (W : RW h) (J : JF h cs w q al r k F F1) (h0 : 0 ≤ k) (h1 : k < h 116 45) : jv h cs w q al (F1 (58 + r)) k = own h cs w q al k := by
  rw [own_eq W h0 h1]
  exact jv_O W h0 h1 (fun e e0 e1 => J.2.2.2 e e0 e1)
theorem JF_0 {h F : AH} {cs : Int → List (Int × List Int)} {w q al r : Int} {P : Int → Int} (hP : ∀ e, 0 ≤ e → e < h 116 45 → P e = prc h q e) : JF h cs w q al r 0 F (ov1 F 63 P) :=
  ⟨Fr_o (fun j => Nat.le_of_ble_eq_true rfl), fun c c0 c1 c2 => ov1_r (by omega), fun e e0 e1 => by rw [ov1_s]; exact hP e e0 e1, fun b b0 b1 => by omega⟩

set_option maxHeartbeats 4000000 in
set_option maxRecDepth 100000 in
theorem lp_cjudge {l : Launch} {G : GG} {d : Nat} {h : AH} {Q : Option AV → List Kd → AH → Prop} {cs : Int → List (Int × List Int)} {F0 : AH} {w q al r : Int} (hd : 6 ≤ d) (I : CI h cs) (hr : 0 ≤ r ∧ r < 5) (hq1 : q ≤ h 116 1) (hal : -1 ≤ al ∧ (al < h 116 15 ∨ al = -1)) (hq : ∀ F', JD h cs w q al r F0 F' → Q none K0 (cst h F')) : ∀ k, 0 ≤ k → k ≤ h 116 45 → ∀ F : AH, JF h cs w q al r k F0 F → V l G mX4_judge d 0 0 0 0 K0 27 [(2, 5), (0, w), (0, q), (0, al), (0, r), (0, k)] [] (cst h F) Q := by
  have nb := I.W.nb
  refine loop_m3 (fun k hk hkN ih F J => ?_)
  refine v_iload dX4_judge_27 rfl ?_
  refine v_aload_n dX4_judge_29 rfl ?_
  refine v_getr (ci := 4) (j := 1) (ji := 1) (z := 41) dX4_judge_30 k_356 (by decide) kk_5 (by decide) rfl rfl (fun r => rt_5_1 (r rfl)) (by decide) ?_
  refine v_getvN (ci := 6) (j := 12) (ji := 12) (tg := 0) dX4_judge_33 k_319 (by decide) kk_41 (by decide) rfl rfl (by decide) ((cst_n (by decide)).trans (I.f41_12)) ?_
  refine v_icmp_ge (tgt := 88) dX4_judge_36 (by decide) (fun c36_1 => ?_) (fun c36_1 => ?_)
  · refine v_vret dX4_judge_88 rfl (Nat.le_refl _) (Nat.le_refl _) ?_
    exact hq _ ⟨J.1, J.2.1, J.2.2.1, fun b b0 b1 _ => J.2.2.2 b b0 (by omega)⟩
  · refine v_aload_n dX4_judge_39 rfl ?_
    refine v_getr (ci := 4) (j := 1) (ji := 1) (z := 41) dX4_judge_40 k_356 (by decide) kk_5 (by decide) rfl rfl (fun r => rt_5_1 (r rfl)) (by decide) ?_
    refine v_getrN (ci := 6) (j := 5) (ji := 5) (z := 47) dX4_judge_43 k_305 (by decide) kk_41 (by decide) rfl rfl (fun r => rt_41_5 (r rfl)) (by decide) ?_
    refine v_iload dX4_judge_46 rfl ?_
    refine v_ialoadv dX4_judge_48 (by decide) kk_47 (by omega) (by omega) ((cst_n (by decide)).trans ((congrFun I.e47 k))) ?_
    refine v_iload_n dX4_judge_49 rfl ?_
    refine v_icmp_gt (tgt := 88) dX4_judge_50 (by decide) (fun c50_2 => ?_) (fun c50_2 => ?_)
    · refine v_vret dX4_judge_88 rfl (Nat.le_refl _) (Nat.le_refl _) ?_
      exact hq _ ⟨J.1, J.2.1, J.2.2.1, fun b b0 b1 b2 => J.2.2.2 b b0 (by
        by_cases z : b < k
        · exact z
        · have := I.m134.1 k b hk (by omega) b1; omega)⟩
    · have ho9 := @own_rng h cs w q al k hk
      refine v_aload_n dX4_judge_53 rfl ?_
      refine v_getr (ci := 4) (j := 2) (ji := 2) (z := 57) dX4_judge_54 k_359 (by decide) kk_5 (by decide) rfl rfl (fun r => rt_5_2 (r rfl)) (by decide) ?_
      refine v_iload dX4_judge_57 rfl ?_
      refine v_aaload dX4_judge_59 (by decide) kk_57 (by omega) (by omega) (fun r => rb_57 (r rfl) (by omega) (by omega)) (by omega) ?_
      refine v_iload dX4_judge_60 rfl ?_
      refine v_aload_n dX4_judge_62 rfl ?_
      refine v_iload dX4_judge_63 rfl ?_
      refine v_iload dX4_judge_65 rfl ?_
      refine v_iload_n dX4_judge_67 rfl ?_
      refine v_iload_n dX4_judge_68 rfl ?_
      refine v_iload_n dX4_judge_69 rfl ?_
      refine v_callv (M' := mX4_isFound) (d' := d - 1) (mc' := 0) (ms' := 0) (ci := 4) (c := 5) (As := [_, _, _, _, _]) dX4_judge_70 k_960 cm_X4_isFound rfl (by omega) (by decide) kk_5 (Nat.le_of_ble_eq_true rfl) rfl ⟨Nat.le_refl _, Nat.le_refl _⟩ ?_
      refine s_cfound (by omega) I hr ⟨by omega, by omega⟩ hq1 hal J.2.2.1 (fun xf_3 c70_3 => ?_)
      dsimp only [Option.toList, List.cons_append, List.nil_append, Nat.add_zero]
      refine v_if_eq (tgt := 80) dX4_judge_73 (by decide) (fun c73_4 => ?_) (fun c73_4 => ?_)
      · refine v_iconst dX4_judge_80 (c32 rfl) ?_
        refine v_iastore dX4_judge_81 (by omega) (krow_57 (by omega) (by omega)) (by omega) (by omega) ?_
        rw [cst_w1 (by unfold cR; omega)]
        refine v_iinc_5 dX4_judge_82 (by decide) rfl ?_
        rw [iadd_eq (x := k) (y := 1) (by unfold ok32; omega)]
        refine v_goto (tgt := 27) dX4_judge_85 (by decide) ?_
        exact ih (by omega) _ (JF_s J hr c70_3 (by rw [JF_own I.W J hk (by omega)] at *; omega))
      · refine v_iconst dX4_judge_76 (c32 rfl) ?_
        refine v_goto (tgt := 81) dX4_judge_77 (by decide) ?_
        refine v_iastore dX4_judge_81 (by omega) (krow_57 (by omega) (by omega)) (by omega) (by omega) ?_
        rw [cst_w1 (by unfold cR; omega)]
        refine v_iinc_5 dX4_judge_82 (by decide) rfl ?_
        rw [iadd_eq (x := k) (y := 1) (by unfold ok32; omega)]
        refine v_goto (tgt := 27) dX4_judge_85 (by decide) ?_
        exact ih (by omega) _ (JF_s J hr c70_3 (by rw [JF_own I.W J hk (by omega)] at *; omega))

set_option maxHeartbeats 4000000 in
set_option maxRecDepth 100000 in
theorem s_cjudge {l : Launch} {G : GG} {d : Nat} {h F : AH} {Q : Option AV → List Kd → AH → Prop} {cs : Int → List (Int × List Int)} {w q : Int} (hd : 6 ≤ d) (I : CI h cs) (hw : 0 ≤ w ∧ w < 4) (hq1 : q ≤ h 116 1) (hq : ∀ F', JD h cs w q (-1) w F F' → Q none K0 (cst h F')) : Sp l G mX4_judge d 0 0 K0 [(2, 5), (0, w), (0, q), (0, (-1))] (cst h F) Q := by
  have nb := I.W.nb
  have hr : 0 ≤ (w : Int) ∧ (w : Int) < 5 := ⟨by omega, by omega⟩
  have hal : -1 ≤ (-1 : Int) ∧ ((-1 : Int) < h 116 15 ∨ (-1 : Int) = -1) := by omega
  refine sp_of (L := [(2, 5), (0, w), (0, q), (0, (-1)), (9, 0), (9, 0)]) pl_X4 (Nat.le_of_ble_eq_true rfl) (tg_c (by decide) (tg_c (by decide) (tg_c (by decide) (tg_c (by decide) tg_0)))) rfl ?_
  refine v_iload_n dX4_judge_0 rfl ?_
  refine v_iconst dX4_judge_1 (c32 rfl) ?_
  refine v_icmp_ne_f (tgt := 9) dX4_judge_2 (by decide) (by decide) ?_
  refine v_iload_n dX4_judge_5 rfl ?_
  refine v_goto (tgt := 10) dX4_judge_6 (by decide) ?_
  refine v_istore_4 dX4_judge_10 (by decide) rfl ?_
  refine v_aload_n dX4_judge_12 rfl ?_
  refine v_getr (ci := 4) (j := 1) (ji := 1) (z := 41) dX4_judge_13 k_356 (by decide) kk_5 (by decide) rfl rfl (fun r => rt_5_1 (r rfl)) (by decide) ?_
  refine v_iload_n dX4_judge_16 rfl ?_
  refine v_aload_n dX4_judge_17 rfl ?_
  refine v_getr (ci := 4) (j := 3) (ji := 3) (z := 63) dX4_judge_18 k_360 (by decide) kk_5 (by decide) rfl rfl (fun r => rt_5_3 (r rfl)) (by decide) ?_
  refine v_callv (M' := mX6_tellPrices) (d' := d - 1) (mc' := 0) (ms' := 0) (ci := 6) (c := 41) (As := [_, _]) dX4_judge_21 k_955 cm_X6_tellPrices rfl (by omega) (by decide) kk_41 (Nat.le_of_ble_eq_true rfl) rfl ⟨Nat.le_refl _, Nat.le_refl _⟩ ?_
  refine s_ctp (by omega) I (fun xp_1 c21_1 => ?_)
  dsimp only [Option.toList, List.cons_append, List.nil_append, Nat.add_zero]
  refine v_iconst dX4_judge_24 (c32 rfl) ?_
  refine v_istore_5 dX4_judge_25 (by decide) rfl ?_
  exact lp_cjudge hd I hr hq1 hal hq 0 (Int.le_refl _) nb.1 _ (JF_0 c21_1)

set_option maxHeartbeats 4000000 in
set_option maxRecDepth 100000 in
theorem s_cjudgeS {l : Launch} {G : GG} {d : Nat} {h F : AH} {Q : Option AV → List Kd → AH → Prop} {cs : Int → List (Int × List Int)} {w q al : Int} (hd : 6 ≤ d) (I : CI h cs) (hal0 : 0 ≤ al ∧ al < h 116 15) (hq1 : q ≤ h 116 1) (hq : ∀ F', JD h cs w q al 4 F F' → Q none K0 (cst h F')) : Sp l G mX4_judge d 0 0 K0 [(2, 5), (0, w), (0, q), (0, al)] (cst h F) Q := by
  have nb := I.W.nb
  have hr : 0 ≤ (4 : Int) ∧ (4 : Int) < 5 := ⟨by omega, by omega⟩
  have hal : -1 ≤ (al : Int) ∧ ((al : Int) < h 116 15 ∨ (al : Int) = -1) := by omega
  refine sp_of (L := [(2, 5), (0, w), (0, q), (0, al), (9, 0), (9, 0)]) pl_X4 (Nat.le_of_ble_eq_true rfl) (tg_c (by decide) (tg_c (by decide) (tg_c (by decide) (tg_c (by decide) tg_0)))) rfl ?_
  refine v_iload_n dX4_judge_0 rfl ?_
  refine v_iconst dX4_judge_1 (c32 rfl) ?_
  refine v_icmp_ne_t (tgt := 9) dX4_judge_2 (by decide) (by omega) ?_
  refine v_iconst dX4_judge_9 (c32 rfl) ?_
  refine v_istore_4 dX4_judge_10 (by decide) rfl ?_
  refine v_aload_n dX4_judge_12 rfl ?_
  refine v_getr (ci := 4) (j := 1) (ji := 1) (z := 41) dX4_judge_13 k_356 (by decide) kk_5 (by decide) rfl rfl (fun r => rt_5_1 (r rfl)) (by decide) ?_
  refine v_iload_n dX4_judge_16 rfl ?_
  refine v_aload_n dX4_judge_17 rfl ?_
  refine v_getr (ci := 4) (j := 3) (ji := 3) (z := 63) dX4_judge_18 k_360 (by decide) kk_5 (by decide) rfl rfl (fun r => rt_5_3 (r rfl)) (by decide) ?_
  refine v_callv (M' := mX6_tellPrices) (d' := d - 1) (mc' := 0) (ms' := 0) (ci := 6) (c := 41) (As := [_, _]) dX4_judge_21 k_955 cm_X6_tellPrices rfl (by omega) (by decide) kk_41 (Nat.le_of_ble_eq_true rfl) rfl ⟨Nat.le_refl _, Nat.le_refl _⟩ ?_
  refine s_ctp (by omega) I (fun xp_1 c21_1 => ?_)
  dsimp only [Option.toList, List.cons_append, List.nil_append, Nat.add_zero]
  refine v_iconst dX4_judge_24 (c32 rfl) ?_
  refine v_istore_5 dX4_judge_25 (by decide) rfl ?_
  exact lp_cjudge hd I hr hq1 hal hq 0 (Int.le_refl _) nb.1 _ (JF_0 c21_1)

