/-! ===== offers: both sides (written by wip/whole/p60.py) ===== -/
/-- an offer told, as the class keeps it -/
def coH (h : AH) (a b c e f : Int) : AH := (hset (hset (hset (hset (hset h 88 (4 * a + h 92 a) b) 89 (4 * a + h 92 a) c) 90 (4 * a + h 92 a) e) 91 (4 * a + h 92 a) f) 92 a (h 92 a + 1))
set_option maxHeartbeats 4000000 in
set_option maxRecDepth 100000 in
theorem s_cadd5 {l : Launch} {G : GG} {d : Nat} {h : AH} {Q : Option AV → List Kd → AH → Prop} {a b c e f : Int} (hd : 2 ≤ d) (ho : ∀ p, 0 ≤ p → p < 4 → 0 ≤ h 92 p ∧ h 92 p ≤ 4) (q0 : ¬ ((0 ≤ a ∧ a ≤ 3) ∧ h 92 a < 4 ∧ (0 < a → 0 < h 92 (a - 1))) → Q (some (0, -1)) K0 h) (q1 : ((0 ≤ a ∧ a ≤ 3) ∧ h 92 a < 4 ∧ (0 < a → 0 < h 92 (a - 1))) → Q (some (0, h 92 a)) K0 (coH h a b c e f)) : Sp l G mX5_add d 0 0 K0 [(2, 87), (0, a), (0, b), (0, c), (0, e), (0, f)] h Q := by
  refine sp_of (L := [(2, 87), (0, a), (0, b), (0, c), (0, e), (0, f), (9, 0)]) pl_X5 (Nat.le_of_ble_eq_true rfl) (tg_c (by decide) (tg_c (by decide) (tg_c (by decide) (tg_c (by decide) (tg_c (by decide) (tg_c (by decide) tg_0)))))) rfl ?_
  refine v_iload_n dX5_add_0 rfl ?_
  refine v_iconst dX5_add_1 (c32 rfl) ?_
  refine v_iconst dX5_add_2 (c32 rfl) ?_
  refine v_callsN (M' := mX11_within) (d' := d - 1) (mc' := 0) (ms' := 0) (As := [_, _, _]) dX5_add_3 k_1175 cm_X11_within (by omega) (Nat.le_of_ble_eq_true rfl) rfl ⟨Nat.le_refl _, Nat.le_refl _⟩ ?_
  refine s_X11_within (by omega) (fun c3_1 => ?_) (fun c3_2 c3_3 => ?_) (fun c3_4 c3_5 => ?_)
  · dsimp only [Option.toList, List.cons_append, List.nil_append, Nat.add_zero]
    refine v_if_eq_t (tgt := 34) dX5_add_6 (by decide) (by decide) ?_
    refine v_iconst dX5_add_34 (c32 rfl) ?_
    refine v_ireti dX5_add_35 rfl (Nat.le_refl _) (Nat.le_refl _) ?_
    exact q0 (by omega)
  · dsimp only [Option.toList, List.cons_append, List.nil_append, Nat.add_zero]
    refine v_if_eq_t (tgt := 34) dX5_add_6 (by decide) (by decide) ?_
    refine v_iconst dX5_add_34 (c32 rfl) ?_
    refine v_ireti dX5_add_35 rfl (Nat.le_refl _) (Nat.le_refl _) ?_
    exact q0 (by omega)
  · dsimp only [Option.toList, List.cons_append, List.nil_append, Nat.add_zero]
    refine v_if_eq_f (tgt := 34) dX5_add_6 (by decide) (by decide) ?_
    refine v_aload_n dX5_add_9 rfl ?_
    have ho9 := ho a (by omega) (by omega)
    refine v_getr (ci := 5) (j := 4) (ji := 4) (z := 92) dX5_add_10 k_474 (by decide) kk_87 (by decide) rfl rfl (fun r => rt_87_4 (r rfl)) (by decide) ?_
    refine v_iload_n dX5_add_13 rfl ?_
    refine v_iaload dX5_add_14 (by decide) kk_92 (by omega) (by omega) ?_
    refine v_iconst dX5_add_15 (c32 rfl) ?_
    refine v_icmp_ge (tgt := 34) dX5_add_16 (by decide) (fun c16_6 => ?_) (fun c16_6 => ?_)
    · refine v_iconst dX5_add_34 (c32 rfl) ?_
      refine v_ireti dX5_add_35 rfl (Nat.le_refl _) (Nat.le_refl _) ?_
      exact q0 (by omega)
    · refine v_iload_n dX5_add_19 rfl ?_
      refine v_if_le (tgt := 36) dX5_add_20 (by decide) (fun c20_7 => ?_) (fun c20_7 => ?_)
      · refine v_iload_n dX5_add_36 rfl ?_
        refine v_iconst dX5_add_37 (c32 rfl) ?_
        refine v_imulE dX5_add_38 (by omega) ?_
        refine v_aload_n dX5_add_39 rfl ?_
        refine v_getr (ci := 5) (j := 4) (ji := 4) (z := 92) dX5_add_40 k_474 (by decide) kk_87 (by decide) rfl rfl (fun r => rt_87_4 (r rfl)) (by decide) ?_
        refine v_iload_n dX5_add_43 rfl ?_
        refine v_iaload dX5_add_44 (by decide) kk_92 (by omega) (by omega) ?_
        refine v_iaddE dX5_add_45 (by omega) ?_
        refine v_istore_6 dX5_add_46 (by decide) rfl ?_
        refine v_aload_n dX5_add_48 rfl ?_
        refine v_getr (ci := 5) (j := 0) (ji := 0) (z := 88) dX5_add_49 k_470 (by decide) kk_87 (by decide) rfl rfl (fun r => rt_87_0 (r rfl)) (by decide) ?_
        refine v_iload dX5_add_52 rfl ?_
        refine v_iload_n dX5_add_54 rfl ?_
        refine v_iastore dX5_add_55 (by decide) kk_88 (by omega) (by omega) ?_
        refine v_aload_n dX5_add_56 rfl ?_
        refine v_getr (ci := 5) (j := 1) (ji := 1) (z := 89) dX5_add_57 k_471 (by decide) kk_87 (by decide) rfl rfl (fun r => rt_87_1 (r rfl)) (by decide) ?_
        refine v_iload dX5_add_60 rfl ?_
        refine v_iload_n dX5_add_62 rfl ?_
        refine v_iastore dX5_add_63 (by decide) kk_89 (by omega) (by omega) ?_
        refine v_aload_n dX5_add_64 rfl ?_
        refine v_getr (ci := 5) (j := 2) (ji := 2) (z := 90) dX5_add_65 k_472 (by decide) kk_87 (by decide) rfl rfl (fun r => rt_87_2 (r rfl)) (by decide) ?_
        refine v_iload dX5_add_68 rfl ?_
        refine v_iload dX5_add_70 rfl ?_
        refine v_iastore dX5_add_72 (by decide) kk_90 (by omega) (by omega) ?_
        refine v_aload_n dX5_add_73 rfl ?_
        refine v_getr (ci := 5) (j := 3) (ji := 3) (z := 91) dX5_add_74 k_473 (by decide) kk_87 (by decide) rfl rfl (fun r => rt_87_3 (r rfl)) (by decide) ?_
        refine v_iload dX5_add_77 rfl ?_
        refine v_iload dX5_add_79 rfl ?_
        refine v_iastore dX5_add_81 (by decide) kk_91 (by omega) (by omega) ?_
        refine v_aload_n dX5_add_82 rfl ?_
        refine v_getr (ci := 5) (j := 4) (ji := 4) (z := 92) dX5_add_83 k_474 (by decide) kk_87 (by decide) rfl rfl (fun r => rt_87_4 (r rfl)) (by decide) ?_
        refine v_iload_n dX5_add_86 rfl ?_
        refine v_dup2 dX5_add_87 rfl rfl ?_
        refine v_ialoadv dX5_add_88 (by decide) kk_92 (by omega) (by omega) ((hset_c (by decide)).trans ((hset_c (by decide)).trans ((hset_c (by decide)).trans (hset_c (by decide))))) ?_
        refine v_iconst dX5_add_89 (c32 rfl) ?_
        refine v_iaddE dX5_add_90 (by omega) ?_
        refine v_iastore dX5_add_91 (by decide) kk_92 (by omega) (by omega) ?_
        refine v_aload_n dX5_add_92 rfl ?_
        refine v_getr (ci := 5) (j := 4) (ji := 4) (z := 92) dX5_add_93 k_474 (by decide) kk_87 (by decide) rfl rfl (fun r => rt_87_4 (r rfl)) (by decide) ?_
        refine v_iload_n dX5_add_96 rfl ?_
        refine v_ialoadv dX5_add_97 (by decide) kk_92 (by omega) (by omega) (hset_same _ _ _ _) ?_
        refine v_iconst dX5_add_98 (c32 rfl) ?_
        refine v_isubE dX5_add_99 (by omega) ?_
        refine v_ireti dX5_add_100 rfl (Nat.le_refl _) (Nat.le_refl _) ?_
        rw [show a * 4 + h 92 a = 4 * a + h 92 a by omega, show h 92 a + 1 - 1 = h 92 a by omega]
        exact q1 (by omega)
      · have ho8 := ho (a - 1) (by omega) (by omega)
        refine v_aload_n dX5_add_23 rfl ?_
        refine v_getr (ci := 5) (j := 4) (ji := 4) (z := 92) dX5_add_24 k_474 (by decide) kk_87 (by decide) rfl rfl (fun r => rt_87_4 (r rfl)) (by decide) ?_
        refine v_iload_n dX5_add_27 rfl ?_
        refine v_iconst dX5_add_28 (c32 rfl) ?_
        refine v_isubE dX5_add_29 (by omega) ?_
        refine v_iaload dX5_add_30 (by decide) kk_92 (by omega) (by omega) ?_
        refine v_if_ne (tgt := 36) dX5_add_31 (by decide) (fun c31_8 => ?_) (fun c31_8 => ?_)
        · refine v_iload_n dX5_add_36 rfl ?_
          refine v_iconst dX5_add_37 (c32 rfl) ?_
          refine v_imulE dX5_add_38 (by omega) ?_
          refine v_aload_n dX5_add_39 rfl ?_
          refine v_getr (ci := 5) (j := 4) (ji := 4) (z := 92) dX5_add_40 k_474 (by decide) kk_87 (by decide) rfl rfl (fun r => rt_87_4 (r rfl)) (by decide) ?_
          refine v_iload_n dX5_add_43 rfl ?_
          refine v_iaload dX5_add_44 (by decide) kk_92 (by omega) (by omega) ?_
          refine v_iaddE dX5_add_45 (by omega) ?_
          refine v_istore_6 dX5_add_46 (by decide) rfl ?_
          refine v_aload_n dX5_add_48 rfl ?_
          refine v_getr (ci := 5) (j := 0) (ji := 0) (z := 88) dX5_add_49 k_470 (by decide) kk_87 (by decide) rfl rfl (fun r => rt_87_0 (r rfl)) (by decide) ?_
          refine v_iload dX5_add_52 rfl ?_
          refine v_iload_n dX5_add_54 rfl ?_
          refine v_iastore dX5_add_55 (by decide) kk_88 (by omega) (by omega) ?_
          refine v_aload_n dX5_add_56 rfl ?_
          refine v_getr (ci := 5) (j := 1) (ji := 1) (z := 89) dX5_add_57 k_471 (by decide) kk_87 (by decide) rfl rfl (fun r => rt_87_1 (r rfl)) (by decide) ?_
          refine v_iload dX5_add_60 rfl ?_
          refine v_iload_n dX5_add_62 rfl ?_
          refine v_iastore dX5_add_63 (by decide) kk_89 (by omega) (by omega) ?_
          refine v_aload_n dX5_add_64 rfl ?_
          refine v_getr (ci := 5) (j := 2) (ji := 2) (z := 90) dX5_add_65 k_472 (by decide) kk_87 (by decide) rfl rfl (fun r => rt_87_2 (r rfl)) (by decide) ?_
          refine v_iload dX5_add_68 rfl ?_
          refine v_iload dX5_add_70 rfl ?_
          refine v_iastore dX5_add_72 (by decide) kk_90 (by omega) (by omega) ?_
          refine v_aload_n dX5_add_73 rfl ?_
          refine v_getr (ci := 5) (j := 3) (ji := 3) (z := 91) dX5_add_74 k_473 (by decide) kk_87 (by decide) rfl rfl (fun r => rt_87_3 (r rfl)) (by decide) ?_
          refine v_iload dX5_add_77 rfl ?_
          refine v_iload dX5_add_79 rfl ?_
          refine v_iastore dX5_add_81 (by decide) kk_91 (by omega) (by omega) ?_
          refine v_aload_n dX5_add_82 rfl ?_
          refine v_getr (ci := 5) (j := 4) (ji := 4) (z := 92) dX5_add_83 k_474 (by decide) kk_87 (by decide) rfl rfl (fun r => rt_87_4 (r rfl)) (by decide) ?_
          refine v_iload_n dX5_add_86 rfl ?_
          refine v_dup2 dX5_add_87 rfl rfl ?_
          refine v_ialoadv dX5_add_88 (by decide) kk_92 (by omega) (by omega) ((hset_c (by decide)).trans ((hset_c (by decide)).trans ((hset_c (by decide)).trans (hset_c (by decide))))) ?_
          refine v_iconst dX5_add_89 (c32 rfl) ?_
          refine v_iaddE dX5_add_90 (by omega) ?_
          refine v_iastore dX5_add_91 (by decide) kk_92 (by omega) (by omega) ?_
          refine v_aload_n dX5_add_92 rfl ?_
          refine v_getr (ci := 5) (j := 4) (ji := 4) (z := 92) dX5_add_93 k_474 (by decide) kk_87 (by decide) rfl rfl (fun r => rt_87_4 (r rfl)) (by decide) ?_
          refine v_iload_n dX5_add_96 rfl ?_
          refine v_ialoadv dX5_add_97 (by decide) kk_92 (by omega) (by omega) (hset_same _ _ _ _) ?_
          refine v_iconst dX5_add_98 (c32 rfl) ?_
          refine v_isubE dX5_add_99 (by omega) ?_
          refine v_ireti dX5_add_100 rfl (Nat.le_refl _) (Nat.le_refl _) ?_
          rw [show a * 4 + h 92 a = 4 * a + h 92 a by omega, show h 92 a + 1 - 1 = h 92 a by omega]
          exact q1 (by omega)
        · refine v_iconst dX5_add_34 (c32 rfl) ?_
          refine v_ireti dX5_add_35 rfl (Nat.le_refl _) (Nat.le_refl _) ?_
          exact q0 (by omega)

set_option maxHeartbeats 4000000 in
set_option maxRecDepth 100000 in
theorem s_Foffer {l : Launch} {G : GG} {d : Nat} {h : AH} {Q : Option AV → List Kd → AH → Prop} {a b c e f : Int} (hd : 3 ≤ d) (ho : ∀ p, 0 ≤ p → p < 4 → 0 ≤ h 92 p ∧ h 92 p ≤ 4) (q0 : ¬ ((0 ≤ a ∧ a ≤ 3) ∧ (0 ≤ b ∧ b ≤ 1000000) ∧ (0 ≤ c ∧ c ≤ 99) ∧ (0 ≤ e ∧ e ≤ 15) ∧ (0 ≤ f ∧ f ≤ 7) ∧ h 92 a < 4 ∧ (0 < a → 0 < h 92 (a - 1))) → Q (some (0, -1)) K0 h) (q1 : ((0 ≤ a ∧ a ≤ 3) ∧ (0 ≤ b ∧ b ≤ 1000000) ∧ (0 ≤ c ∧ c ≤ 99) ∧ (0 ≤ e ∧ e ≤ 15) ∧ (0 ≤ f ∧ f ≤ 7) ∧ h 92 a < 4 ∧ (0 < a → 0 < h 92 (a - 1))) → Q (some (0, h 92 a)) K0 (coH h a b c e f)) : Sp l G mX11_offer d 0 0 K0 [(2, 0), (0, a), (0, b), (0, c), (0, e), (0, f)] h Q := by
  refine sp_of (L := [(2, 0), (0, a), (0, b), (0, c), (0, e), (0, f)]) pl_X11 (Nat.le_of_ble_eq_true rfl) (tg_c (by decide) (tg_c (by decide) (tg_c (by decide) (tg_c (by decide) (tg_c (by decide) (tg_c (by decide) tg_0)))))) rfl ?_
  refine v_iload_n dX11_offer_0 rfl ?_
  refine v_iconst dX11_offer_1 (c32 rfl) ?_
  refine v_ldc (n := 1000000) dX11_offer_2 k_1170 (c32 rfl) (by decide) ?_
  refine v_calls (M' := mX11_within) (d' := d - 1) (mc' := 0) (ms' := 0) (As := [_, _, _]) dX11_offer_4 k_586 cm_X11_within (by omega) (Nat.le_of_ble_eq_true rfl) rfl ⟨Nat.le_refl _, Nat.le_refl _⟩ ?_
  refine s_X11_within (by omega) (fun c4_1 => ?_) (fun c4_2 c4_3 => ?_) (fun c4_4 c4_5 => ?_)
  · dsimp only [Option.toList, List.cons_append, List.nil_append, Nat.add_zero]
    refine v_if_eq_t (tgt := 30) dX11_offer_7 (by decide) (by decide) ?_
    refine v_iconst dX11_offer_30 (c32 rfl) ?_
    refine v_ireti dX11_offer_31 rfl (Nat.le_refl _) (Nat.le_refl _) ?_
    exact q0 (by omega)
  · dsimp only [Option.toList, List.cons_append, List.nil_append, Nat.add_zero]
    refine v_if_eq_t (tgt := 30) dX11_offer_7 (by decide) (by decide) ?_
    refine v_iconst dX11_offer_30 (c32 rfl) ?_
    refine v_ireti dX11_offer_31 rfl (Nat.le_refl _) (Nat.le_refl _) ?_
    exact q0 (by omega)
  · dsimp only [Option.toList, List.cons_append, List.nil_append, Nat.add_zero]
    refine v_if_eq_f (tgt := 30) dX11_offer_7 (by decide) (by decide) ?_
    refine v_iload dX11_offer_10 rfl ?_
    refine v_iconst dX11_offer_12 (c32 rfl) ?_
    refine v_bipush dX11_offer_13 (c32 rfl) (by decide) ?_
    refine v_calls (M' := mX11_within) (d' := d - 1) (mc' := 0) (ms' := 0) (As := [_, _, _]) dX11_offer_15 k_586 cm_X11_within (by omega) (Nat.le_of_ble_eq_true rfl) rfl ⟨Nat.le_refl _, Nat.le_refl _⟩ ?_
    refine s_X11_within (by omega) (fun c15_6 => ?_) (fun c15_7 c15_8 => ?_) (fun c15_9 c15_10 => ?_)
    · dsimp only [Option.toList, List.cons_append, List.nil_append, Nat.add_zero]
      refine v_if_eq_t (tgt := 30) dX11_offer_18 (by decide) (by decide) ?_
      refine v_iconst dX11_offer_30 (c32 rfl) ?_
      refine v_ireti dX11_offer_31 rfl (Nat.le_refl _) (Nat.le_refl _) ?_
      exact q0 (by omega)
    · dsimp only [Option.toList, List.cons_append, List.nil_append, Nat.add_zero]
      refine v_if_eq_t (tgt := 30) dX11_offer_18 (by decide) (by decide) ?_
      refine v_iconst dX11_offer_30 (c32 rfl) ?_
      refine v_ireti dX11_offer_31 rfl (Nat.le_refl _) (Nat.le_refl _) ?_
      exact q0 (by omega)
    · dsimp only [Option.toList, List.cons_append, List.nil_append, Nat.add_zero]
      refine v_if_eq_f (tgt := 30) dX11_offer_18 (by decide) (by decide) ?_
      refine v_iload dX11_offer_21 rfl ?_
      refine v_iload_n dX11_offer_23 rfl ?_
      refine v_calls (M' := mX11_isPlace) (d' := d - 1) (mc' := 0) (ms' := 0) (As := [_, _]) dX11_offer_24 k_825 cm_X11_isPlace (by omega) (Nat.le_of_ble_eq_true rfl) rfl ⟨Nat.le_refl _, Nat.le_refl _⟩ ?_
      refine s_X11_isPlace (by omega) (fun c24_11 => ?_) (fun c24_12 c24_13 => ?_) (fun c24_14 c24_15 c24_16 => ?_) (fun c24_17 c24_18 c24_19 c24_20 => ?_) (fun c24_21 c24_22 c24_23 c24_24 => ?_)
      · dsimp only [Option.toList, List.cons_append, List.nil_append, Nat.add_zero]
        refine v_if_ne_f (tgt := 32) dX11_offer_27 (by decide) (by decide) ?_
        refine v_iconst dX11_offer_30 (c32 rfl) ?_
        refine v_ireti dX11_offer_31 rfl (Nat.le_refl _) (Nat.le_refl _) ?_
        exact q0 (by omega)
      · dsimp only [Option.toList, List.cons_append, List.nil_append, Nat.add_zero]
        refine v_if_ne_f (tgt := 32) dX11_offer_27 (by decide) (by decide) ?_
        refine v_iconst dX11_offer_30 (c32 rfl) ?_
        refine v_ireti dX11_offer_31 rfl (Nat.le_refl _) (Nat.le_refl _) ?_
        exact q0 (by omega)
      · dsimp only [Option.toList, List.cons_append, List.nil_append, Nat.add_zero]
        refine v_if_ne_f (tgt := 32) dX11_offer_27 (by decide) (by decide) ?_
        refine v_iconst dX11_offer_30 (c32 rfl) ?_
        refine v_ireti dX11_offer_31 rfl (Nat.le_refl _) (Nat.le_refl _) ?_
        exact q0 (by omega)
      · dsimp only [Option.toList, List.cons_append, List.nil_append, Nat.add_zero]
        refine v_if_ne_f (tgt := 32) dX11_offer_27 (by decide) (by decide) ?_
        refine v_iconst dX11_offer_30 (c32 rfl) ?_
        refine v_ireti dX11_offer_31 rfl (Nat.le_refl _) (Nat.le_refl _) ?_
        exact q0 (by omega)
      · dsimp only [Option.toList, List.cons_append, List.nil_append, Nat.add_zero]
        refine v_if_ne_t (tgt := 32) dX11_offer_27 (by decide) (by decide) ?_
        refine v_aload_n dX11_offer_32 rfl ?_
        refine v_getr (ci := 11) (j := 7) (ji := 7) (z := 87) dX11_offer_33 k_561 (by decide) kk_0 (by decide) rfl rfl (fun r => rt_0_7 (r rfl)) (by decide) ?_
        refine v_iload_n dX11_offer_36 rfl ?_
        refine v_iload_n dX11_offer_37 rfl ?_
        refine v_iload_n dX11_offer_38 rfl ?_
        refine v_iload dX11_offer_39 rfl ?_
        refine v_iload dX11_offer_41 rfl ?_
        refine v_callv (M' := mX5_add) (d' := d - 1) (mc' := 0) (ms' := 0) (ci := 5) (c := 87) (As := [_, _, _, _, _]) dX11_offer_43 k_1171 cm_X5_add rfl (by omega) (by decide) kk_87 (Nat.le_of_ble_eq_true rfl) rfl ⟨Nat.le_refl _, Nat.le_refl _⟩ ?_
        refine s_cadd5 (by omega) ho (fun c43_25 => ?_) (fun c43_26 => ?_)
        · dsimp only [Option.toList, List.cons_append, List.nil_append, Nat.add_zero]
          refine v_ireti dX11_offer_46 rfl (Nat.le_refl _) (Nat.le_refl _) ?_
          exact q0 (by omega)
        · dsimp only [Option.toList, List.cons_append, List.nil_append, Nat.add_zero]
          refine v_ireti dX11_offer_46 rfl (Nat.le_refl _) (Nat.le_refl _) ?_
          exact q1 (by omega)

/-- an offer told, as the reference keeps it -/
def roH (h : AH) (a b c e f : Int) : AH := (hset (hset (hset (hset (hset (hset h 116 0 0) 168 ((4 * a) + (h 167 a)) b) 169 ((4 * a) + (h 167 a)) c) 170 ((4 * a) + (h 167 a)) e) 171 ((4 * a) + (h 167 a)) f) 167 a ((h 167 a) + 1))
set_option maxHeartbeats 4000000 in
set_option maxRecDepth 100000 in
theorem s_roffer {l : Launch} {G : GG} {d : Nat} {h : AH} {Q : Option AV → List Kd → AH → Prop} {a b c e f : Int} (hd : 3 ≤ d) (ho : ∀ p, 0 ≤ p → p < 4 → 0 ≤ h 167 p ∧ h 167 p ≤ 4) (q0 : ¬ ((0 ≤ a ∧ a ≤ 3) ∧ (0 ≤ b ∧ b ≤ 1000000) ∧ (0 ≤ c ∧ c ≤ 99) ∧ (0 ≤ e ∧ e ≤ 15) ∧ (0 ≤ f ∧ f ≤ 7) ∧ h 167 a < 4 ∧ (0 < a → 0 < h 167 (a - 1))) → Q (some (0, -1)) K0 (hset h 116 0 0)) (q1 : ((0 ≤ a ∧ a ≤ 3) ∧ (0 ≤ b ∧ b ≤ 1000000) ∧ (0 ≤ c ∧ c ≤ 99) ∧ (0 ≤ e ∧ e ≤ 15) ∧ (0 ≤ f ∧ f ≤ 7) ∧ h 167 a < 4 ∧ (0 < a → 0 < h 167 (a - 1))) → Q (some (0, h 167 a)) K0 (roH h a b c e f)) : Sp l G mX12_offer d 0 0 K0 [(2, 116), (0, a), (0, b), (0, c), (0, e), (0, f)] h Q := by
  refine sp_of (L := [(2, 116), (0, a), (0, b), (0, c), (0, e), (0, f), (9, 0)]) pl_X12 (Nat.le_of_ble_eq_true rfl) (tg_c (by decide) (tg_c (by decide) (tg_c (by decide) (tg_c (by decide) (tg_c (by decide) (tg_c (by decide) tg_0)))))) rfl ?_
  refine v_aload_n dX12_offer_0 rfl ?_
  refine v_iconst dX12_offer_1 (c32 rfl) ?_
  refine v_puti (ci := 12) (j := 0) (ji := 0) dX12_offer_2 k_1416 (by decide) kk_116 (by decide) rfl rfl rfl ?_
  refine v_iload_n dX12_offer_5 rfl ?_
  refine v_i2l dX12_offer_6 ?_
  refine v_lconst (z := 0) dX12_offer_7 (c64 rfl) (by decide) ?_
  refine v_ldc2 (n := 3) dX12_offer_8 k_1710 (c64 rfl) (by decide) ?_
  refine v_calls (M' := mX12_isIn) (d' := d - 1) (mc' := 0) (ms' := 0) (As := [_, _, _]) dX12_offer_11 k_1700 cm_X12_isIn (by omega) (Nat.le_of_ble_eq_true rfl) rfl ⟨Nat.le_refl _, Nat.le_refl _⟩ ?_
  refine s_X12_isIn (by omega) (fun c11_1 => ?_) (fun c11_2 c11_3 => ?_) (fun c11_4 c11_5 => ?_)
  · dsimp only [Option.toList, List.cons_append, List.nil_append, Nat.add_zero]
    refine v_if_eq_t (tgt := 82) dX12_offer_14 (by decide) (by decide) ?_
    refine v_iconst dX12_offer_82 (c32 rfl) ?_
    refine v_ireti dX12_offer_83 rfl (Nat.le_refl _) (Nat.le_refl _) ?_
    exact q0 (by omega)
  · dsimp only [Option.toList, List.cons_append, List.nil_append, Nat.add_zero]
    refine v_if_eq_t (tgt := 82) dX12_offer_14 (by decide) (by decide) ?_
    refine v_iconst dX12_offer_82 (c32 rfl) ?_
    refine v_ireti dX12_offer_83 rfl (Nat.le_refl _) (Nat.le_refl _) ?_
    exact q0 (by omega)
  · dsimp only [Option.toList, List.cons_append, List.nil_append, Nat.add_zero]
    refine v_if_eq_f (tgt := 82) dX12_offer_14 (by decide) (by decide) ?_
    refine v_iload_n dX12_offer_17 rfl ?_
    refine v_i2l dX12_offer_18 ?_
    refine v_lconst (z := 0) dX12_offer_19 (c64 rfl) (by decide) ?_
    refine v_ldc2 (n := 1000000) dX12_offer_20 k_2021 (c64 rfl) (by decide) ?_
    refine v_calls (M' := mX12_isIn) (d' := d - 1) (mc' := 0) (ms' := 0) (As := [_, _, _]) dX12_offer_23 k_1700 cm_X12_isIn (by omega) (Nat.le_of_ble_eq_true rfl) rfl ⟨Nat.le_refl _, Nat.le_refl _⟩ ?_
    refine s_X12_isIn (by omega) (fun c23_6 => ?_) (fun c23_7 c23_8 => ?_) (fun c23_9 c23_10 => ?_)
    · dsimp only [Option.toList, List.cons_append, List.nil_append, Nat.add_zero]
      refine v_if_eq_t (tgt := 82) dX12_offer_26 (by decide) (by decide) ?_
      refine v_iconst dX12_offer_82 (c32 rfl) ?_
      refine v_ireti dX12_offer_83 rfl (Nat.le_refl _) (Nat.le_refl _) ?_
      exact q0 (by omega)
    · dsimp only [Option.toList, List.cons_append, List.nil_append, Nat.add_zero]
      refine v_if_eq_t (tgt := 82) dX12_offer_26 (by decide) (by decide) ?_
      refine v_iconst dX12_offer_82 (c32 rfl) ?_
      refine v_ireti dX12_offer_83 rfl (Nat.le_refl _) (Nat.le_refl _) ?_
      exact q0 (by omega)
    · dsimp only [Option.toList, List.cons_append, List.nil_append, Nat.add_zero]
      refine v_if_eq_f (tgt := 82) dX12_offer_26 (by decide) (by decide) ?_
      refine v_iload_n dX12_offer_29 rfl ?_
      refine v_calls (M' := mX12_isHeading) (d' := d - 1) (mc' := 0) (ms' := 0) (As := [_]) dX12_offer_30 k_1836 cm_X12_isHeading (by omega) (Nat.le_of_ble_eq_true rfl) rfl ⟨Nat.le_refl _, Nat.le_refl _⟩ ?_
      refine s_X12_isHeading (by omega) (fun c30_11 => ?_) (fun c30_12 c30_13 => ?_) (fun c30_14 c30_15 => ?_)
      · dsimp only [Option.toList, List.cons_append, List.nil_append, Nat.add_zero]
        refine v_if_eq_t (tgt := 82) dX12_offer_33 (by decide) (by decide) ?_
        refine v_iconst dX12_offer_82 (c32 rfl) ?_
        refine v_ireti dX12_offer_83 rfl (Nat.le_refl _) (Nat.le_refl _) ?_
        exact q0 (by omega)
      · dsimp only [Option.toList, List.cons_append, List.nil_append, Nat.add_zero]
        refine v_if_eq_t (tgt := 82) dX12_offer_33 (by decide) (by decide) ?_
        refine v_iconst dX12_offer_82 (c32 rfl) ?_
        refine v_ireti dX12_offer_83 rfl (Nat.le_refl _) (Nat.le_refl _) ?_
        exact q0 (by omega)
      · dsimp only [Option.toList, List.cons_append, List.nil_append, Nat.add_zero]
        refine v_if_eq_f (tgt := 82) dX12_offer_33 (by decide) (by decide) ?_
        refine v_iload dX12_offer_36 rfl ?_
        refine v_i2l dX12_offer_38 ?_
        refine v_lconst (z := 0) dX12_offer_39 (c64 rfl) (by decide) ?_
        refine v_ldc2 (n := 15) dX12_offer_40 k_2022 (c64 rfl) (by decide) ?_
        refine v_calls (M' := mX12_isIn) (d' := d - 1) (mc' := 0) (ms' := 0) (As := [_, _, _]) dX12_offer_43 k_1700 cm_X12_isIn (by omega) (Nat.le_of_ble_eq_true rfl) rfl ⟨Nat.le_refl _, Nat.le_refl _⟩ ?_
        refine s_X12_isIn (by omega) (fun c43_16 => ?_) (fun c43_17 c43_18 => ?_) (fun c43_19 c43_20 => ?_)
        · dsimp only [Option.toList, List.cons_append, List.nil_append, Nat.add_zero]
          refine v_if_eq_t (tgt := 82) dX12_offer_46 (by decide) (by decide) ?_
          refine v_iconst dX12_offer_82 (c32 rfl) ?_
          refine v_ireti dX12_offer_83 rfl (Nat.le_refl _) (Nat.le_refl _) ?_
          exact q0 (by omega)
        · dsimp only [Option.toList, List.cons_append, List.nil_append, Nat.add_zero]
          refine v_if_eq_t (tgt := 82) dX12_offer_46 (by decide) (by decide) ?_
          refine v_iconst dX12_offer_82 (c32 rfl) ?_
          refine v_ireti dX12_offer_83 rfl (Nat.le_refl _) (Nat.le_refl _) ?_
          exact q0 (by omega)
        · dsimp only [Option.toList, List.cons_append, List.nil_append, Nat.add_zero]
          refine v_if_eq_f (tgt := 82) dX12_offer_46 (by decide) (by decide) ?_
          refine v_iload dX12_offer_49 rfl ?_
          refine v_calls (M' := mX12_isLand) (d' := d - 1) (mc' := 0) (ms' := 0) (As := [_]) dX12_offer_51 k_1832 cm_X12_isLand (by omega) (Nat.le_of_ble_eq_true rfl) rfl ⟨Nat.le_refl _, Nat.le_refl _⟩ ?_
          refine s_X12_isLand (by omega) (fun c51_21 => ?_) (fun c51_22 c51_23 => ?_) (fun c51_24 c51_25 => ?_)
          · dsimp only [Option.toList, List.cons_append, List.nil_append, Nat.add_zero]
            refine v_if_eq_t (tgt := 82) dX12_offer_54 (by decide) (by decide) ?_
            refine v_iconst dX12_offer_82 (c32 rfl) ?_
            refine v_ireti dX12_offer_83 rfl (Nat.le_refl _) (Nat.le_refl _) ?_
            exact q0 (by omega)
          · dsimp only [Option.toList, List.cons_append, List.nil_append, Nat.add_zero]
            refine v_if_eq_t (tgt := 82) dX12_offer_54 (by decide) (by decide) ?_
            refine v_iconst dX12_offer_82 (c32 rfl) ?_
            refine v_ireti dX12_offer_83 rfl (Nat.le_refl _) (Nat.le_refl _) ?_
            exact q0 (by omega)
          · dsimp only [Option.toList, List.cons_append, List.nil_append, Nat.add_zero]
            refine v_if_eq_f (tgt := 82) dX12_offer_54 (by decide) (by decide) ?_
            refine v_aload_n dX12_offer_57 rfl ?_
            have ho9 := ho a (by omega) (by omega)
            refine v_getr (ci := 12) (j := 72) (ji := 72) (z := 167) dX12_offer_58 k_1488 (by decide) kk_116 (by decide) rfl rfl (fun r => rt_116_72 (r rfl)) (by decide) ?_
            refine v_iload_n dX12_offer_61 rfl ?_
            refine v_ialoadv dX12_offer_62 (by decide) kk_167 (by omega) (by omega) (hset_c (by decide)) ?_
            refine v_iconst dX12_offer_63 (c32 rfl) ?_
            refine v_icmp_eq (tgt := 82) dX12_offer_64 (by decide) (fun c64_26 => ?_) (fun c64_26 => ?_)
            · refine v_iconst dX12_offer_82 (c32 rfl) ?_
              refine v_ireti dX12_offer_83 rfl (Nat.le_refl _) (Nat.le_refl _) ?_
              exact q0 (by omega)
            · refine v_iload_n dX12_offer_67 rfl ?_
              refine v_if_le (tgt := 84) dX12_offer_68 (by decide) (fun c68_27 => ?_) (fun c68_27 => ?_)
              · refine v_iconst dX12_offer_84 (c32 rfl) ?_
                refine v_iload_n dX12_offer_85 rfl ?_
                refine v_imulE dX12_offer_86 (by omega) ?_
                refine v_aload_n dX12_offer_87 rfl ?_
                refine v_getr (ci := 12) (j := 72) (ji := 72) (z := 167) dX12_offer_88 k_1488 (by decide) kk_116 (by decide) rfl rfl (fun r => rt_116_72 (r rfl)) (by decide) ?_
                refine v_iload_n dX12_offer_91 rfl ?_
                refine v_ialoadv dX12_offer_92 (by decide) kk_167 (by omega) (by omega) (hset_c (by decide)) ?_
                refine v_iaddE dX12_offer_93 (by omega) ?_
                refine v_istore_6 dX12_offer_94 (by decide) rfl ?_
                refine v_aload_n dX12_offer_96 rfl ?_
                refine v_getr (ci := 12) (j := 73) (ji := 73) (z := 168) dX12_offer_97 k_1489 (by decide) kk_116 (by decide) rfl rfl (fun r => rt_116_73 (r rfl)) (by decide) ?_
                refine v_iload dX12_offer_100 rfl ?_
                refine v_iload_n dX12_offer_102 rfl ?_
                refine v_iastore dX12_offer_103 (by decide) kk_168 (by omega) (by omega) ?_
                refine v_aload_n dX12_offer_104 rfl ?_
                refine v_getr (ci := 12) (j := 74) (ji := 74) (z := 169) dX12_offer_105 k_1490 (by decide) kk_116 (by decide) rfl rfl (fun r => rt_116_74 (r rfl)) (by decide) ?_
                refine v_iload dX12_offer_108 rfl ?_
                refine v_iload_n dX12_offer_110 rfl ?_
                refine v_iastore dX12_offer_111 (by decide) kk_169 (by omega) (by omega) ?_
                refine v_aload_n dX12_offer_112 rfl ?_
                refine v_getr (ci := 12) (j := 75) (ji := 75) (z := 170) dX12_offer_113 k_1491 (by decide) kk_116 (by decide) rfl rfl (fun r => rt_116_75 (r rfl)) (by decide) ?_
                refine v_iload dX12_offer_116 rfl ?_
                refine v_iload dX12_offer_118 rfl ?_
                refine v_iastore dX12_offer_120 (by decide) kk_170 (by omega) (by omega) ?_
                refine v_aload_n dX12_offer_121 rfl ?_
                refine v_getr (ci := 12) (j := 76) (ji := 76) (z := 171) dX12_offer_122 k_1492 (by decide) kk_116 (by decide) rfl rfl (fun r => rt_116_76 (r rfl)) (by decide) ?_
                refine v_iload dX12_offer_125 rfl ?_
                refine v_iload dX12_offer_127 rfl ?_
                refine v_iastore dX12_offer_129 (by decide) kk_171 (by omega) (by omega) ?_
                refine v_aload_n dX12_offer_130 rfl ?_
                refine v_getr (ci := 12) (j := 72) (ji := 72) (z := 167) dX12_offer_131 k_1488 (by decide) kk_116 (by decide) rfl rfl (fun r => rt_116_72 (r rfl)) (by decide) ?_
                refine v_iload_n dX12_offer_134 rfl ?_
                refine v_dup2 dX12_offer_135 rfl rfl ?_
                refine v_ialoadv dX12_offer_136 (by decide) kk_167 (by omega) (by omega) ((hset_c (by decide)).trans ((hset_c (by decide)).trans ((hset_c (by decide)).trans ((hset_c (by decide)).trans (hset_c (by decide)))))) ?_
                refine v_iconst dX12_offer_137 (c32 rfl) ?_
                refine v_iaddE dX12_offer_138 (by omega) ?_
                refine v_iastore dX12_offer_139 (by decide) kk_167 (by omega) (by omega) ?_
                refine v_aload_n dX12_offer_140 rfl ?_
                refine v_getr (ci := 12) (j := 72) (ji := 72) (z := 167) dX12_offer_141 k_1488 (by decide) kk_116 (by decide) rfl rfl (fun r => rt_116_72 (r rfl)) (by decide) ?_
                refine v_iload_n dX12_offer_144 rfl ?_
                refine v_ialoadv dX12_offer_145 (by decide) kk_167 (by omega) (by omega) (hset_same _ _ _ _) ?_
                refine v_iconst dX12_offer_146 (c32 rfl) ?_
                refine v_isubE dX12_offer_147 (by omega) ?_
                refine v_ireti dX12_offer_148 rfl (Nat.le_refl _) (Nat.le_refl _) ?_
                rw [show h 167 a + 1 - 1 = h 167 a by omega]
                exact q1 (by omega)
              · refine v_aload_n dX12_offer_71 rfl ?_
                have ho8 := ho (a - 1) (by omega) (by omega)
                refine v_getr (ci := 12) (j := 72) (ji := 72) (z := 167) dX12_offer_72 k_1488 (by decide) kk_116 (by decide) rfl rfl (fun r => rt_116_72 (r rfl)) (by decide) ?_
                refine v_iload_n dX12_offer_75 rfl ?_
                refine v_iconst dX12_offer_76 (c32 rfl) ?_
                refine v_isubE dX12_offer_77 (by omega) ?_
                refine v_ialoadv dX12_offer_78 (by decide) kk_167 (by omega) (by omega) (hset_c (by decide)) ?_
                refine v_if_ne (tgt := 84) dX12_offer_79 (by decide) (fun c79_28 => ?_) (fun c79_28 => ?_)
                · refine v_iconst dX12_offer_84 (c32 rfl) ?_
                  refine v_iload_n dX12_offer_85 rfl ?_
                  refine v_imulE dX12_offer_86 (by omega) ?_
                  refine v_aload_n dX12_offer_87 rfl ?_
                  refine v_getr (ci := 12) (j := 72) (ji := 72) (z := 167) dX12_offer_88 k_1488 (by decide) kk_116 (by decide) rfl rfl (fun r => rt_116_72 (r rfl)) (by decide) ?_
                  refine v_iload_n dX12_offer_91 rfl ?_
                  refine v_ialoadv dX12_offer_92 (by decide) kk_167 (by omega) (by omega) (hset_c (by decide)) ?_
                  refine v_iaddE dX12_offer_93 (by omega) ?_
                  refine v_istore_6 dX12_offer_94 (by decide) rfl ?_
                  refine v_aload_n dX12_offer_96 rfl ?_
                  refine v_getr (ci := 12) (j := 73) (ji := 73) (z := 168) dX12_offer_97 k_1489 (by decide) kk_116 (by decide) rfl rfl (fun r => rt_116_73 (r rfl)) (by decide) ?_
                  refine v_iload dX12_offer_100 rfl ?_
                  refine v_iload_n dX12_offer_102 rfl ?_
                  refine v_iastore dX12_offer_103 (by decide) kk_168 (by omega) (by omega) ?_
                  refine v_aload_n dX12_offer_104 rfl ?_
                  refine v_getr (ci := 12) (j := 74) (ji := 74) (z := 169) dX12_offer_105 k_1490 (by decide) kk_116 (by decide) rfl rfl (fun r => rt_116_74 (r rfl)) (by decide) ?_
                  refine v_iload dX12_offer_108 rfl ?_
                  refine v_iload_n dX12_offer_110 rfl ?_
                  refine v_iastore dX12_offer_111 (by decide) kk_169 (by omega) (by omega) ?_
                  refine v_aload_n dX12_offer_112 rfl ?_
                  refine v_getr (ci := 12) (j := 75) (ji := 75) (z := 170) dX12_offer_113 k_1491 (by decide) kk_116 (by decide) rfl rfl (fun r => rt_116_75 (r rfl)) (by decide) ?_
                  refine v_iload dX12_offer_116 rfl ?_
                  refine v_iload dX12_offer_118 rfl ?_
                  refine v_iastore dX12_offer_120 (by decide) kk_170 (by omega) (by omega) ?_
                  refine v_aload_n dX12_offer_121 rfl ?_
                  refine v_getr (ci := 12) (j := 76) (ji := 76) (z := 171) dX12_offer_122 k_1492 (by decide) kk_116 (by decide) rfl rfl (fun r => rt_116_76 (r rfl)) (by decide) ?_
                  refine v_iload dX12_offer_125 rfl ?_
                  refine v_iload dX12_offer_127 rfl ?_
                  refine v_iastore dX12_offer_129 (by decide) kk_171 (by omega) (by omega) ?_
                  refine v_aload_n dX12_offer_130 rfl ?_
                  refine v_getr (ci := 12) (j := 72) (ji := 72) (z := 167) dX12_offer_131 k_1488 (by decide) kk_116 (by decide) rfl rfl (fun r => rt_116_72 (r rfl)) (by decide) ?_
                  refine v_iload_n dX12_offer_134 rfl ?_
                  refine v_dup2 dX12_offer_135 rfl rfl ?_
                  refine v_ialoadv dX12_offer_136 (by decide) kk_167 (by omega) (by omega) ((hset_c (by decide)).trans ((hset_c (by decide)).trans ((hset_c (by decide)).trans ((hset_c (by decide)).trans (hset_c (by decide)))))) ?_
                  refine v_iconst dX12_offer_137 (c32 rfl) ?_
                  refine v_iaddE dX12_offer_138 (by omega) ?_
                  refine v_iastore dX12_offer_139 (by decide) kk_167 (by omega) (by omega) ?_
                  refine v_aload_n dX12_offer_140 rfl ?_
                  refine v_getr (ci := 12) (j := 72) (ji := 72) (z := 167) dX12_offer_141 k_1488 (by decide) kk_116 (by decide) rfl rfl (fun r => rt_116_72 (r rfl)) (by decide) ?_
                  refine v_iload_n dX12_offer_144 rfl ?_
                  refine v_ialoadv dX12_offer_145 (by decide) kk_167 (by omega) (by omega) (hset_same _ _ _ _) ?_
                  refine v_iconst dX12_offer_146 (c32 rfl) ?_
                  refine v_isubE dX12_offer_147 (by omega) ?_
                  refine v_ireti dX12_offer_148 rfl (Nat.le_refl _) (Nat.le_refl _) ?_
                  rw [show h 167 a + 1 - 1 = h 167 a by omega]
                  exact q1 (by omega)
                · refine v_iconst dX12_offer_82 (c32 rfl) ?_
                  refine v_ireti dX12_offer_83 rfl (Nat.le_refl _) (Nat.le_refl _) ?_
                  exact q0 (by omega)

set_option maxHeartbeats 4000000 in
set_option maxRecDepth 100000 in
theorem lp_cdrop {l : Launch} {G : GG} {d : Nat} {h : AH} {Q : Option AV → List Kd → AH → Prop} (hd : 1 ≤ d) (hq : Q none K0 (hfil h 92 4 0)) : ∀ k, 0 ≤ k → k ≤ 4 → V l G mX5_drop d 0 0 0 0 K0 2 [(2, 87), (0, k)] [] (hfil h 92 k 0) Q := by
  refine loop_m3 (fun k hk hkN ih => ?_)
  refine v_iload_n dX5_drop_2 rfl ?_
  refine v_iconst dX5_drop_3 (c32 rfl) ?_
  refine v_icmp_ge (tgt := 20) dX5_drop_4 (by decide) (fun c4_1 => ?_) (fun c4_1 => ?_)
  · refine v_vret dX5_drop_20 rfl (Nat.le_refl _) (Nat.le_refl _) ?_
    obtain rfl : k = 4 := by omega
    exact hq
  · refine v_aload_n dX5_drop_7 rfl ?_
    refine v_getr (ci := 5) (j := 4) (ji := 4) (z := 92) dX5_drop_8 k_474 (by decide) kk_87 (by decide) rfl rfl (fun r => rt_87_4 (r rfl)) (by decide) ?_
    refine v_iload_n dX5_drop_11 rfl ?_
    refine v_iconst dX5_drop_12 (c32 rfl) ?_
    refine v_iastore dX5_drop_13 (by decide) kk_92 (by omega) (by omega) ?_
    refine v_iinc_1 dX5_drop_14 (by decide) rfl ?_
    rw [iadd_eq (x := k) (y := 1) (by unfold ok32; omega)]
    refine v_goto (tgt := 2) dX5_drop_17 (by decide) ?_
    have ih9 := ih (by omega)
    rw [hfil_s hk] at ih9
    exact ih9

set_option maxHeartbeats 4000000 in
set_option maxRecDepth 100000 in
theorem s_cdrop {l : Launch} {G : GG} {d : Nat} {h : AH} {Q : Option AV → List Kd → AH → Prop} (hd : 1 ≤ d) (hq : Q none K0 (hfil h 92 4 0)) : Sp l G mX5_drop d 0 0 K0 [(2, 87)] h Q := by
  refine sp_of (L := [(2, 87), (9, 0)]) pl_X5 (Nat.le_of_ble_eq_true rfl) (tg_c (by decide) tg_0) rfl ?_
  refine v_iconst dX5_drop_0 (c32 rfl) ?_
  refine v_istore_n_1 dX5_drop_1 (by decide) rfl ?_
  have q9 := lp_cdrop (l := l) (G := G) hd hq 0 (by omega) (by omega)
  rw [hfil_0] at q9
  exact q9

set_option maxHeartbeats 4000000 in
set_option maxRecDepth 100000 in
theorem s_Foffers {l : Launch} {G : GG} {d : Nat} {h : AH} {Q : Option AV → List Kd → AH → Prop} (hd : 2 ≤ d) (hq : Q none K0 (hfil h 92 4 0)) : Sp l G mX11_offers d 0 0 K0 [(2, 0)] h Q := by
  refine sp_of (L := [(2, 0)]) pl_X11 (Nat.le_of_ble_eq_true rfl) (tg_c (by decide) tg_0) rfl ?_
  refine v_aload_n dX11_offers_0 rfl ?_
  refine v_getr (ci := 11) (j := 7) (ji := 7) (z := 87) dX11_offers_1 k_561 (by decide) kk_0 (by decide) rfl rfl (fun r => rt_0_7 (r rfl)) (by decide) ?_
  refine v_callv (M' := mX5_drop) (d' := d - 1) (mc' := 0) (ms' := 0) (ci := 5) (c := 87) (As := []) dX11_offers_4 k_1180 cm_X5_drop rfl (by omega) (by decide) kk_87 (Nat.le_of_ble_eq_true rfl) rfl ⟨Nat.le_refl _, Nat.le_refl _⟩ ?_
  refine s_cdrop (by omega) ?_
  dsimp only [Option.toList, List.cons_append, List.nil_append, Nat.add_zero]
  refine v_vret dX11_offers_7 rfl (Nat.le_refl _) (Nat.le_refl _) ?_
  exact hq

