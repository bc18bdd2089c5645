/-! ===== sourcing: the class's best and chosen (written by wip/whole/p65.py) ===== -/
theorem ask_a {h F : AH} {g : GD} : (hset (hset (hset (hset (hset F 87 5 (npF (h 167))) 87 6 g.1) 87 7 g.2.1) 87 8 g.2.2.1) 87 9 g.2.2.2.1) 87 5 = npF (h 167) ∧ (hset (hset (hset (hset (hset F 87 5 (npF (h 167))) 87 6 g.1) 87 7 g.2.1) 87 8 g.2.2.1) 87 9 g.2.2.2.1) 87 6 = g.1 ∧ (hset (hset (hset (hset (hset F 87 5 (npF (h 167))) 87 6 g.1) 87 7 g.2.1) 87 8 g.2.2.1) 87 9 g.2.2.2.1) 87 7 = g.2.1 ∧ (hset (hset (hset (hset (hset F 87 5 (npF (h 167))) 87 6 g.1) 87 7 g.2.1) 87 8 g.2.2.1) 87 9 g.2.2.2.1) 87 8 = g.2.2.1 ∧ (hset (hset (hset (hset (hset F 87 5 (npF (h 167))) 87 6 g.1) 87 7 g.2.1) 87 8 g.2.2.1) 87 9 g.2.2.2.1) 87 9 = g.2.2.2.1 := by
  refine ⟨?_, ?_, ?_, ?_, ?_⟩
  · rw [hset_j (by decide), hset_j (by decide), hset_j (by decide), hset_j (by decide), hset_same]
  · rw [hset_j (by decide), hset_j (by decide), hset_j (by decide), hset_same]
  · rw [hset_j (by decide), hset_j (by decide), hset_same]
  · rw [hset_j (by decide), hset_same]
  · rw [hset_same]
set_option maxHeartbeats 4000000 in
set_option maxRecDepth 100000 in
theorem s_casks {l : Launch} {G : GG} {d : Nat} {h F : AH} {Q : Option AV → List Kd → AH → Prop} {cs : Int → List (Int × List Int)} {g : GD} (hd : 8 ≤ d) (I : CI h cs) (q0 : ¬ ((0 ≤ g.1 ∧ g.1 ≤ 7) ∧ (0 ≤ g.2.1 ∧ g.2.1 ≤ 99) ∧ (0 ≤ g.2.2.1 ∧ g.2.2.1 ≤ 9) ∧ (1 ≤ g.2.2.2.1 ∧ g.2.2.2.1 ≤ 1000000) ∧ (0 ≤ g.2.2.2.2 ∧ g.2.2.2.2 ≤ 7) ∧ npF (h 167) ≠ 0) → Q (some (0, 0)) K0 (cst h F)) (q1 : ((0 ≤ g.1 ∧ g.1 ≤ 7) ∧ (0 ≤ g.2.1 ∧ g.2.1 ≤ 99) ∧ (0 ≤ g.2.2.1 ∧ g.2.2.1 ≤ 9) ∧ (1 ≤ g.2.2.2.1 ∧ g.2.2.2.1 ≤ 1000000) ∧ (0 ≤ g.2.2.2.2 ∧ g.2.2.2.2 ≤ 7) ∧ npF (h 167) ≠ 0) → ∀ F', AR h cs g 4 F' → Q (some (0, 1)) K0 (cst h F')) : Sp l G mX11_asks d 0 0 K0 [(2, 0), (0, g.1), (0, g.2.1), (0, g.2.2.1), (0, g.2.2.2.1), (0, g.2.2.2.2)] (cst h F) Q := by
  refine sp_of (L := [(2, 0), (0, g.1), (0, g.2.1), (0, g.2.2.1), (0, g.2.2.2.1), (0, g.2.2.2.2), (9, 0)]) pl_X11 (Nat.le_of_ble_eq_true rfl) (tg_c (by decide) (tg_c (by decide) (tg_c (by decide) (tg_c (by decide) (tg_c (by decide) (tg_c (by decide) tg_0)))))) rfl ?_
  refine v_iload_n dX11_asks_0 rfl ?_
  refine v_iload_n dX11_asks_1 rfl ?_
  refine v_calls (M' := mX11_isPlace) (d' := d - 1) (mc' := 0) (ms' := 0) (As := [_, _]) dX11_asks_2 k_825 cm_X11_isPlace (by omega) (Nat.le_of_ble_eq_true rfl) rfl ⟨Nat.le_refl _, Nat.le_refl _⟩ ?_
  refine s_X11_isPlace (by omega) (fun c2_1 => ?_) (fun c2_2 c2_3 => ?_) (fun c2_4 c2_5 c2_6 => ?_) (fun c2_7 c2_8 c2_9 c2_10 => ?_) (fun c2_11 c2_12 c2_13 c2_14 => ?_)
  · dsimp only [Option.toList, List.cons_append, List.nil_append, Nat.add_zero]
    refine v_if_eq_t (tgt := 44) dX11_asks_5 (by decide) (by decide) ?_
    refine v_iconst dX11_asks_44 (c32 rfl) ?_
    refine v_istore_6 dX11_asks_45 (by decide) rfl ?_
    refine v_iload dX11_asks_47 rfl ?_
    refine v_if_eq_t (tgt := 62) dX11_asks_49 (by decide) (by decide) ?_
    refine v_iconst dX11_asks_62 (c32 rfl) ?_
    refine v_iretz dX11_asks_63 rfl (by decide) (Nat.le_refl _) (Nat.le_refl _) ?_
    exact q0 (by omega)
  · dsimp only [Option.toList, List.cons_append, List.nil_append, Nat.add_zero]
    refine v_if_eq_t (tgt := 44) dX11_asks_5 (by decide) (by decide) ?_
    refine v_iconst dX11_asks_44 (c32 rfl) ?_
    refine v_istore_6 dX11_asks_45 (by decide) rfl ?_
    refine v_iload dX11_asks_47 rfl ?_
    refine v_if_eq_t (tgt := 62) dX11_asks_49 (by decide) (by decide) ?_
    refine v_iconst dX11_asks_62 (c32 rfl) ?_
    refine v_iretz dX11_asks_63 rfl (by decide) (Nat.le_refl _) (Nat.le_refl _) ?_
    exact q0 (by omega)
  · dsimp only [Option.toList, List.cons_append, List.nil_append, Nat.add_zero]
    refine v_if_eq_t (tgt := 44) dX11_asks_5 (by decide) (by decide) ?_
    refine v_iconst dX11_asks_44 (c32 rfl) ?_
    refine v_istore_6 dX11_asks_45 (by decide) rfl ?_
    refine v_iload dX11_asks_47 rfl ?_
    refine v_if_eq_t (tgt := 62) dX11_asks_49 (by decide) (by decide) ?_
    refine v_iconst dX11_asks_62 (c32 rfl) ?_
    refine v_iretz dX11_asks_63 rfl (by decide) (Nat.le_refl _) (Nat.le_refl _) ?_
    exact q0 (by omega)
  · dsimp only [Option.toList, List.cons_append, List.nil_append, Nat.add_zero]
    refine v_if_eq_t (tgt := 44) dX11_asks_5 (by decide) (by decide) ?_
    refine v_iconst dX11_asks_44 (c32 rfl) ?_
    refine v_istore_6 dX11_asks_45 (by decide) rfl ?_
    refine v_iload dX11_asks_47 rfl ?_
    refine v_if_eq_t (tgt := 62) dX11_asks_49 (by decide) (by decide) ?_
    refine v_iconst dX11_asks_62 (c32 rfl) ?_
    refine v_iretz dX11_asks_63 rfl (by decide) (Nat.le_refl _) (Nat.le_refl _) ?_
    exact q0 (by omega)
  · dsimp only [Option.toList, List.cons_append, List.nil_append, Nat.add_zero]
    refine v_if_eq_f (tgt := 44) dX11_asks_5 (by decide) (by decide) ?_
    refine v_iload_n dX11_asks_8 rfl ?_
    refine v_iconst dX11_asks_9 (c32 rfl) ?_
    refine v_bipush dX11_asks_10 (c32 rfl) (by decide) ?_
    refine v_calls (M' := mX11_within) (d' := d - 1) (mc' := 0) (ms' := 0) (As := [_, _, _]) dX11_asks_12 k_586 cm_X11_within (by omega) (Nat.le_of_ble_eq_true rfl) rfl ⟨Nat.le_refl _, Nat.le_refl _⟩ ?_
    refine s_X11_within (by omega) (fun c12_15 => ?_) (fun c12_16 c12_17 => ?_) (fun c12_18 c12_19 => ?_)
    · dsimp only [Option.toList, List.cons_append, List.nil_append, Nat.add_zero]
      refine v_if_eq_t (tgt := 44) dX11_asks_15 (by decide) (by decide) ?_
      refine v_iconst dX11_asks_44 (c32 rfl) ?_
      refine v_istore_6 dX11_asks_45 (by decide) rfl ?_
      refine v_iload dX11_asks_47 rfl ?_
      refine v_if_eq_t (tgt := 62) dX11_asks_49 (by decide) (by decide) ?_
      refine v_iconst dX11_asks_62 (c32 rfl) ?_
      refine v_iretz dX11_asks_63 rfl (by decide) (Nat.le_refl _) (Nat.le_refl _) ?_
      exact q0 (by omega)
    · dsimp only [Option.toList, List.cons_append, List.nil_append, Nat.add_zero]
      refine v_if_eq_t (tgt := 44) dX11_asks_15 (by decide) (by decide) ?_
      refine v_iconst dX11_asks_44 (c32 rfl) ?_
      refine v_istore_6 dX11_asks_45 (by decide) rfl ?_
      refine v_iload dX11_asks_47 rfl ?_
      refine v_if_eq_t (tgt := 62) dX11_asks_49 (by decide) (by decide) ?_
      refine v_iconst dX11_asks_62 (c32 rfl) ?_
      refine v_iretz dX11_asks_63 rfl (by decide) (Nat.le_refl _) (Nat.le_refl _) ?_
      exact q0 (by omega)
    · dsimp only [Option.toList, List.cons_append, List.nil_append, Nat.add_zero]
      refine v_if_eq_f (tgt := 44) dX11_asks_15 (by decide) (by decide) ?_
      refine v_iload dX11_asks_18 rfl ?_
      refine v_iconst dX11_asks_20 (c32 rfl) ?_
      refine v_ldc (n := 1000000) dX11_asks_21 k_1170 (c32 rfl) (by decide) ?_
      refine v_calls (M' := mX11_within) (d' := d - 1) (mc' := 0) (ms' := 0) (As := [_, _, _]) dX11_asks_23 k_586 cm_X11_within (by omega) (Nat.le_of_ble_eq_true rfl) rfl ⟨Nat.le_refl _, Nat.le_refl _⟩ ?_
      refine s_X11_within (by omega) (fun c23_20 => ?_) (fun c23_21 c23_22 => ?_) (fun c23_23 c23_24 => ?_)
      · dsimp only [Option.toList, List.cons_append, List.nil_append, Nat.add_zero]
        refine v_if_eq_t (tgt := 44) dX11_asks_26 (by decide) (by decide) ?_
        refine v_iconst dX11_asks_44 (c32 rfl) ?_
        refine v_istore_6 dX11_asks_45 (by decide) rfl ?_
        refine v_iload dX11_asks_47 rfl ?_
        refine v_if_eq_t (tgt := 62) dX11_asks_49 (by decide) (by decide) ?_
        refine v_iconst dX11_asks_62 (c32 rfl) ?_
        refine v_iretz dX11_asks_63 rfl (by decide) (Nat.le_refl _) (Nat.le_refl _) ?_
        exact q0 (by omega)
      · dsimp only [Option.toList, List.cons_append, List.nil_append, Nat.add_zero]
        refine v_if_eq_t (tgt := 44) dX11_asks_26 (by decide) (by decide) ?_
        refine v_iconst dX11_asks_44 (c32 rfl) ?_
        refine v_istore_6 dX11_asks_45 (by decide) rfl ?_
        refine v_iload dX11_asks_47 rfl ?_
        refine v_if_eq_t (tgt := 62) dX11_asks_49 (by decide) (by decide) ?_
        refine v_iconst dX11_asks_62 (c32 rfl) ?_
        refine v_iretz dX11_asks_63 rfl (by decide) (Nat.le_refl _) (Nat.le_refl _) ?_
        exact q0 (by omega)
      · dsimp only [Option.toList, List.cons_append, List.nil_append, Nat.add_zero]
        refine v_if_eq_f (tgt := 44) dX11_asks_26 (by decide) (by decide) ?_
        refine v_iload dX11_asks_29 rfl ?_
        refine v_iconst dX11_asks_31 (c32 rfl) ?_
        refine v_bipush dX11_asks_32 (c32 rfl) (by decide) ?_
        refine v_calls (M' := mX11_within) (d' := d - 1) (mc' := 0) (ms' := 0) (As := [_, _, _]) dX11_asks_34 k_586 cm_X11_within (by omega) (Nat.le_of_ble_eq_true rfl) rfl ⟨Nat.le_refl _, Nat.le_refl _⟩ ?_
        refine s_X11_within (by omega) (fun c34_25 => ?_) (fun c34_26 c34_27 => ?_) (fun c34_28 c34_29 => ?_)
        · dsimp only [Option.toList, List.cons_append, List.nil_append, Nat.add_zero]
          refine v_if_eq_t (tgt := 44) dX11_asks_37 (by decide) (by decide) ?_
          refine v_iconst dX11_asks_44 (c32 rfl) ?_
          refine v_istore_6 dX11_asks_45 (by decide) rfl ?_
          refine v_iload dX11_asks_47 rfl ?_
          refine v_if_eq_t (tgt := 62) dX11_asks_49 (by decide) (by decide) ?_
          refine v_iconst dX11_asks_62 (c32 rfl) ?_
          refine v_iretz dX11_asks_63 rfl (by decide) (Nat.le_refl _) (Nat.le_refl _) ?_
          exact q0 (by omega)
        · dsimp only [Option.toList, List.cons_append, List.nil_append, Nat.add_zero]
          refine v_if_eq_t (tgt := 44) dX11_asks_37 (by decide) (by decide) ?_
          refine v_iconst dX11_asks_44 (c32 rfl) ?_
          refine v_istore_6 dX11_asks_45 (by decide) rfl ?_
          refine v_iload dX11_asks_47 rfl ?_
          refine v_if_eq_t (tgt := 62) dX11_asks_49 (by decide) (by decide) ?_
          refine v_iconst dX11_asks_62 (c32 rfl) ?_
          refine v_iretz dX11_asks_63 rfl (by decide) (Nat.le_refl _) (Nat.le_refl _) ?_
          exact q0 (by omega)
        · dsimp only [Option.toList, List.cons_append, List.nil_append, Nat.add_zero]
          refine v_if_eq_f (tgt := 44) dX11_asks_37 (by decide) (by decide) ?_
          refine v_iconst dX11_asks_40 (c32 rfl) ?_
          refine v_goto (tgt := 45) dX11_asks_41 (by decide) ?_
          refine v_istore_6 dX11_asks_45 (by decide) rfl ?_
          refine v_iload dX11_asks_47 rfl ?_
          refine v_if_eq_f (tgt := 62) dX11_asks_49 (by decide) (by decide) ?_
          refine v_aload_n dX11_asks_52 rfl ?_
          refine v_getr (ci := 11) (j := 7) (ji := 7) (z := 87) dX11_asks_53 k_561 (by decide) kk_0 (by decide) rfl rfl (fun r => rt_0_7 (r rfl)) (by decide) ?_
          refine v_callv (M' := mX5_parts) (d' := d - 1) (mc' := 0) (ms' := 0) (ci := 5) (c := 87) (As := []) dX11_asks_56 k_1192 cm_X5_parts rfl (by omega) (by decide) kk_87 (Nat.le_of_ble_eq_true rfl) rfl ⟨Nat.le_refl _, Nat.le_refl _⟩ ?_
          refine s_sparts (by omega) I ?_
          dsimp only [Option.toList, List.cons_append, List.nil_append, Nat.add_zero]
          refine v_if_ne (tgt := 64) dX11_asks_59 (by decide) (fun c59_30 => ?_) (fun c59_30 => ?_)
          · refine v_aload_n dX11_asks_64 rfl ?_
            refine v_getr (ci := 11) (j := 7) (ji := 7) (z := 87) dX11_asks_65 k_561 (by decide) kk_0 (by decide) rfl rfl (fun r => rt_0_7 (r rfl)) (by decide) ?_
            refine v_iload_n dX11_asks_68 rfl ?_
            refine v_iload_n dX11_asks_69 rfl ?_
            refine v_iload_n dX11_asks_70 rfl ?_
            refine v_iload dX11_asks_71 rfl ?_
            refine v_callv (M' := mX5_ask) (d' := d - 1) (mc' := 0) (ms' := 0) (ci := 5) (c := 87) (As := [_, _, _, _]) dX11_asks_73 k_1196 cm_X5_ask rfl (by omega) (by decide) kk_87 (Nat.le_of_ble_eq_true rfl) rfl ⟨Nat.le_refl _, Nat.le_refl _⟩ ?_
            refine s_sask (g := g) (by omega) I ?_
            dsimp only [Option.toList, List.cons_append, List.nil_append, Nat.add_zero]
            refine v_aload_n dX11_asks_76 rfl ?_
            refine v_getr (ci := 11) (j := 7) (ji := 7) (z := 87) dX11_asks_77 k_561 (by decide) kk_0 (by decide) rfl rfl (fun r => rt_0_7 (r rfl)) (by decide) ?_
            refine v_aload_n dX11_asks_80 rfl ?_
            refine v_getr (ci := 11) (j := 2) (ji := 2) (z := 6) dX11_asks_81 k_556 (by decide) kk_0 (by decide) rfl rfl (fun r => rt_0_2 (r rfl)) (by decide) ?_
            refine v_iload dX11_asks_84 rfl ?_
            refine v_aload_n dX11_asks_86 rfl ?_
            refine v_getv (ci := 11) (j := 0) (ji := 0) (tg := 0) dX11_asks_87 k_554 (by decide) kk_0 (by decide) rfl rfl (by decide) ((cst_n (by decide)).trans (I.f0_0)) ?_
            refine v_aload_n dX11_asks_90 rfl ?_
            refine v_getr (ci := 11) (j := 6) (ji := 6) (z := 4) dX11_asks_91 k_560 (by decide) kk_0 (by decide) rfl rfl (fun r => rt_0_6 (r rfl)) (by decide) ?_
            refine v_iload dX11_asks_94 rfl ?_
            refine v_iload_n dX11_asks_96 rfl ?_
            refine v_callv (M' := mX0_tariffOf) (d' := d - 1) (mc' := 0) (ms' := 0) (ci := 0) (c := 4) (As := [_, _]) dX11_asks_97 k_1201 cm_X0_tariffOf rfl (by omega) (by decide) kk_4 (Nat.le_of_ble_eq_true rfl) rfl ⟨Nat.le_refl _, Nat.le_refl _⟩ ?_
            refine s_ctariff (by omega) I ⟨by omega, by omega⟩ ⟨by omega, by omega⟩ ?_
            dsimp only [Option.toList, List.cons_append, List.nil_append, Nat.add_zero]
            refine v_callv (M' := mX5_rateWebs) (d' := d - 1) (mc' := 0) (ms' := 0) (ci := 5) (c := 87) (As := [_, _, _, _]) dX11_asks_100 k_1202 cm_X5_rateWebs rfl (by omega) (by decide) kk_87 (Nat.le_of_ble_eq_true rfl) rfl ⟨Nat.le_refl _, Nat.le_refl _⟩ ?_
            refine s_srate (g := g) (by omega) I ⟨⟨by omega, by omega⟩, ⟨by omega, by omega⟩, ⟨by omega, by omega⟩, ⟨by omega, by omega⟩, ⟨by omega, by omega⟩⟩ ask_a (fun xf_31 c100_31 => ?_)
            dsimp only [Option.toList, List.cons_append, List.nil_append, Nat.add_zero]
            refine v_iconst dX11_asks_103 (c32 rfl) ?_
            refine v_iretz dX11_asks_104 rfl (by decide) (Nat.le_refl _) (Nat.le_refl _) ?_
            exact q1 (by omega) _ c100_31
          · refine v_iconst dX11_asks_62 (c32 rfl) ?_
            refine v_iretz dX11_asks_63 rfl (by decide) (Nat.le_refl _) (Nat.le_refl _) ?_
            exact q0 (by omega)

set_option maxHeartbeats 4000000 in
set_option maxRecDepth 100000 in
theorem s_Fbest {l : Launch} {G : GG} {d : Nat} {h F : AH} {Q : Option AV → List Kd → AH → Prop} {cs : Int → List (Int × List Int)} {g : GD} (hd : 10 ≤ d) (I : CI h cs) (q0 : ¬ ((0 ≤ g.1 ∧ g.1 ≤ 7) ∧ (0 ≤ g.2.1 ∧ g.2.1 ≤ 99) ∧ (0 ≤ g.2.2.1 ∧ g.2.2.1 ≤ 9) ∧ (1 ≤ g.2.2.2.1 ∧ g.2.2.2.1 ≤ 1000000) ∧ (0 ≤ g.2.2.2.2 ∧ g.2.2.2.2 ≤ 7) ∧ npF (h 167) ≠ 0) → ∀ F', Q (some (1, -1)) K0 (cst h F')) (q1 : ((0 ≤ g.1 ∧ g.1 ≤ 7) ∧ (0 ≤ g.2.1 ∧ g.2.1 ≤ 99) ∧ (0 ≤ g.2.2.1 ∧ g.2.2.1 ≤ 9) ∧ (1 ≤ g.2.2.2.1 ∧ g.2.2.2.1 ≤ 1000000) ∧ (0 ≤ g.2.2.2.2 ∧ g.2.2.2.2 ≤ 7) ∧ npF (h 167) ≠ 0) → ∀ F', Q (some (1, (SNk h cs g (nPk (h 167))).1)) K0 (cst h F')) : Sp l G mX11_best d 0 0 K0 [(2, 0), (0, g.1), (0, g.2.1), (0, g.2.2.1), (0, g.2.2.2.1), (0, g.2.2.2.2)] (cst h F) Q := by
  refine sp_of (L := [(2, 0), (0, g.1), (0, g.2.1), (0, g.2.2.1), (0, g.2.2.2.1), (0, g.2.2.2.2)]) pl_X11 (Nat.le_of_ble_eq_true rfl) (tg_c (by decide) (tg_c (by decide) (tg_c (by decide) (tg_c (by decide) (tg_c (by decide) (tg_c (by decide) tg_0)))))) rfl ?_
  refine v_aload_n dX11_best_0 rfl ?_
  refine v_iload_n dX11_best_1 rfl ?_
  refine v_iload_n dX11_best_2 rfl ?_
  refine v_iload_n dX11_best_3 rfl ?_
  refine v_iload dX11_best_4 rfl ?_
  refine v_iload dX11_best_6 rfl ?_
  refine v_callv (M' := mX11_asks) (d' := d - 1) (mc' := 0) (ms' := 0) (ci := 11) (c := 0) (As := [_, _, _, _, _]) dX11_best_8 k_1188 cm_X11_asks rfl (by omega) (by decide) kk_0 (Nat.le_of_ble_eq_true rfl) rfl ⟨Nat.le_refl _, Nat.le_refl _⟩ ?_
  refine s_casks (g := g) (by omega) I (fun c8_1 => ?_) (fun xf_3 c8_2 c8_3 => ?_)
  · dsimp only [Option.toList, List.cons_append, List.nil_append, Nat.add_zero]
    refine v_if_eq_t (tgt := 28) dX11_best_11 (by decide) (by decide) ?_
    refine v_ldc2 (n := -1) dX11_best_28 k_1127 (c64 rfl) (by decide) ?_
    refine v_lret dX11_best_31 rfl (Nat.le_refl _) (Nat.le_refl _) ?_
    exact q0 (by omega) _
  · dsimp only [Option.toList, List.cons_append, List.nil_append, Nat.add_zero]
    refine v_if_eq_f (tgt := 28) dX11_best_11 (by decide) (by decide) ?_
    refine v_aload_n dX11_best_14 rfl ?_
    refine v_getr (ci := 11) (j := 7) (ji := 7) (z := 87) dX11_best_15 k_561 (by decide) kk_0 (by decide) rfl rfl (fun r => rt_0_7 (r rfl)) (by decide) ?_
    refine v_aload_n dX11_best_18 rfl ?_
    refine v_getr (ci := 11) (j := 2) (ji := 2) (z := 6) dX11_best_19 k_556 (by decide) kk_0 (by decide) rfl rfl (fun r => rt_0_2 (r rfl)) (by decide) ?_
    refine v_callv (M' := mX5_seekBest) (d' := d - 1) (mc' := 0) (ms' := 0) (ci := 5) (c := 87) (As := [_]) dX11_best_22 k_1212 cm_X5_seekBest rfl (by omega) (by decide) kk_87 (Nat.le_of_ble_eq_true rfl) rfl ⟨Nat.le_refl _, Nat.le_refl _⟩ ?_
    refine s_sseek (g := g) (by omega) I ⟨⟨by omega, by omega⟩, ⟨by omega, by omega⟩, ⟨by omega, by omega⟩, ⟨by omega, by omega⟩, ⟨by omega, by omega⟩⟩ c8_3 (fun xe_5 c22_4 c22_5 => ?_)
    dsimp only [Option.toList, List.cons_append, List.nil_append, Nat.add_zero]
    refine v_goto (tgt := 31) dX11_best_25 (by decide) ?_
    refine v_lret dX11_best_31 rfl (Nat.le_refl _) (Nat.le_refl _) ?_
    exact q1 (by omega) _

set_option maxHeartbeats 4000000 in
set_option maxRecDepth 100000 in
theorem s_Fchosen {l : Launch} {G : GG} {d : Nat} {h F : AH} {Q : Option AV → List Kd → AH → Prop} {cs : Int → List (Int × List Int)} {g : GD} {p : Int} (hd : 10 ≤ d) (I : CI h cs) (q0 : ¬ (((0 ≤ g.1 ∧ g.1 ≤ 7) ∧ (0 ≤ g.2.1 ∧ g.2.1 ≤ 99) ∧ (0 ≤ g.2.2.1 ∧ g.2.2.1 ≤ 9) ∧ (1 ≤ g.2.2.2.1 ∧ g.2.2.2.1 ≤ 1000000) ∧ (0 ≤ g.2.2.2.2 ∧ g.2.2.2.2 ≤ 7) ∧ npF (h 167) ≠ 0) ∧ (0 ≤ p ∧ p < npF (h 167))) → ∀ F', Q (some (0, -1)) K0 (cst h F')) (q1 : (((0 ≤ g.1 ∧ g.1 ≤ 7) ∧ (0 ≤ g.2.1 ∧ g.2.1 ≤ 99) ∧ (0 ≤ g.2.2.1 ∧ g.2.2.1 ≤ 9) ∧ (1 ≤ g.2.2.2.1 ∧ g.2.2.2.1 ≤ 1000000) ∧ (0 ≤ g.2.2.2.2 ∧ g.2.2.2.2 ≤ 7) ∧ npF (h 167) ≠ 0) ∧ (0 ≤ p ∧ p < npF (h 167))) → ∀ F', Q (some (0, (SNk h cs g (nPk (h 167))).2 p)) K0 (cst h F')) : Sp l G mX11_chosen d 0 0 K0 [(2, 0), (0, g.1), (0, g.2.1), (0, g.2.2.1), (0, g.2.2.2.1), (0, g.2.2.2.2), (0, p)] (cst h F) Q := by
  refine sp_of (L := [(2, 0), (0, g.1), (0, g.2.1), (0, g.2.2.1), (0, g.2.2.2.1), (0, g.2.2.2.2), (0, p)]) pl_X11 (Nat.le_of_ble_eq_true rfl) (tg_c (by decide) (tg_c (by decide) (tg_c (by decide) (tg_c (by decide) (tg_c (by decide) (tg_c (by decide) (tg_c (by decide) tg_0))))))) rfl ?_
  refine v_iload dX11_chosen_0 rfl ?_
  refine v_iconst dX11_chosen_2 (c32 rfl) ?_
  refine v_aload_n dX11_chosen_3 rfl ?_
  refine v_getr (ci := 11) (j := 7) (ji := 7) (z := 87) dX11_chosen_4 k_561 (by decide) kk_0 (by decide) rfl rfl (fun r => rt_0_7 (r rfl)) (by decide) ?_
  refine v_callv (M' := mX5_parts) (d' := d - 1) (mc' := 0) (ms' := 0) (ci := 5) (c := 87) (As := []) dX11_chosen_7 k_1192 cm_X5_parts rfl (by omega) (by decide) kk_87 (Nat.le_of_ble_eq_true rfl) rfl ⟨Nat.le_refl _, Nat.le_refl _⟩ ?_
  refine s_sparts (by omega) I ?_
  dsimp only [Option.toList, List.cons_append, List.nil_append, Nat.add_zero]
  have np9 := (@npF_r (h 167)).1
  refine v_iconst dX11_chosen_10 (c32 rfl) ?_
  refine v_isubE dX11_chosen_11 (by omega) ?_
  refine v_calls (M' := mX11_within) (d' := d - 1) (mc' := 0) (ms' := 0) (As := [_, _, _]) dX11_chosen_12 k_586 cm_X11_within (by omega) (Nat.le_of_ble_eq_true rfl) rfl ⟨Nat.le_refl _, Nat.le_refl _⟩ ?_
  refine s_X11_within (by omega) (fun c12_1 => ?_) (fun c12_2 c12_3 => ?_) (fun c12_4 c12_5 => ?_)
  · dsimp only [Option.toList, List.cons_append, List.nil_append, Nat.add_zero]
    refine v_if_eq_t (tgt := 32) dX11_chosen_15 (by decide) (by decide) ?_
    refine v_iconst dX11_chosen_32 (c32 rfl) ?_
    refine v_ireti dX11_chosen_33 rfl (Nat.le_refl _) (Nat.le_refl _) ?_
    exact q0 (by omega) _
  · dsimp only [Option.toList, List.cons_append, List.nil_append, Nat.add_zero]
    refine v_if_eq_t (tgt := 32) dX11_chosen_15 (by decide) (by decide) ?_
    refine v_iconst dX11_chosen_32 (c32 rfl) ?_
    refine v_ireti dX11_chosen_33 rfl (Nat.le_refl _) (Nat.le_refl _) ?_
    exact q0 (by omega) _
  · dsimp only [Option.toList, List.cons_append, List.nil_append, Nat.add_zero]
    refine v_if_eq_f (tgt := 32) dX11_chosen_15 (by decide) (by decide) ?_
    refine v_aload_n dX11_chosen_18 rfl ?_
    refine v_iload_n dX11_chosen_19 rfl ?_
    refine v_iload_n dX11_chosen_20 rfl ?_
    refine v_iload_n dX11_chosen_21 rfl ?_
    refine v_iload dX11_chosen_22 rfl ?_
    refine v_iload dX11_chosen_24 rfl ?_
    refine v_callv (M' := mX11_asks) (d' := d - 1) (mc' := 0) (ms' := 0) (ci := 11) (c := 0) (As := [_, _, _, _, _]) dX11_chosen_26 k_1188 cm_X11_asks rfl (by omega) (by decide) kk_0 (Nat.le_of_ble_eq_true rfl) rfl ⟨Nat.le_refl _, Nat.le_refl _⟩ ?_
    refine s_casks (g := g) (by omega) I (fun c26_6 => ?_) (fun xf_8 c26_7 c26_8 => ?_)
    · dsimp only [Option.toList, List.cons_append, List.nil_append, Nat.add_zero]
      refine v_if_ne_f (tgt := 34) dX11_chosen_29 (by decide) (by decide) ?_
      refine v_iconst dX11_chosen_32 (c32 rfl) ?_
      refine v_ireti dX11_chosen_33 rfl (Nat.le_refl _) (Nat.le_refl _) ?_
      exact q0 (by omega) _
    · dsimp only [Option.toList, List.cons_append, List.nil_append, Nat.add_zero]
      refine v_if_ne_t (tgt := 34) dX11_chosen_29 (by decide) (by decide) ?_
      refine v_aload_n dX11_chosen_34 rfl ?_
      refine v_getr (ci := 11) (j := 7) (ji := 7) (z := 87) dX11_chosen_35 k_561 (by decide) kk_0 (by decide) rfl rfl (fun r => rt_0_7 (r rfl)) (by decide) ?_
      refine v_aload_n dX11_chosen_38 rfl ?_
      refine v_getr (ci := 11) (j := 2) (ji := 2) (z := 6) dX11_chosen_39 k_556 (by decide) kk_0 (by decide) rfl rfl (fun r => rt_0_2 (r rfl)) (by decide) ?_
      refine v_callv (M' := mX5_seekBest) (d' := d - 1) (mc' := 0) (ms' := 0) (ci := 5) (c := 87) (As := [_]) dX11_chosen_42 k_1212 cm_X5_seekBest rfl (by omega) (by decide) kk_87 (Nat.le_of_ble_eq_true rfl) rfl ⟨Nat.le_refl _, Nat.le_refl _⟩ ?_
      refine s_sseek (g := g) (by omega) I ⟨⟨by omega, by omega⟩, ⟨by omega, by omega⟩, ⟨by omega, by omega⟩, ⟨by omega, by omega⟩, ⟨by omega, by omega⟩⟩ c26_8 (fun xe_10 c42_9 c42_10 => ?_)
      dsimp only [Option.toList, List.cons_append, List.nil_append, Nat.add_zero]
      have BJ := c42_10
      refine v_pop2 dX11_chosen_45 ?_
      refine v_aload_n dX11_chosen_46 rfl ?_
      refine v_getr (ci := 11) (j := 7) (ji := 7) (z := 87) dX11_chosen_47 k_561 (by decide) kk_0 (by decide) rfl rfl (fun r => rt_0_7 (r rfl)) (by decide) ?_
      refine v_getrN (ci := 5) (j := 15) (ji := 15) (z := 96) dX11_chosen_50 k_486 (by decide) kk_87 (by decide) rfl rfl (fun r => rt_87_15 (r rfl)) (by decide) ?_
      refine v_iload dX11_chosen_53 rfl ?_
      refine v_ialoadv dX11_chosen_55 (by decide) kk_96 (by omega) (by omega) ((cst_m (by decide)).trans ((BJ p (by omega) (by omega)))) ?_
      refine v_ireti dX11_chosen_56 rfl (Nat.le_refl _) (Nat.le_refl _) ?_
      exact q1 (by omega) _

