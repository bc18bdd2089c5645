/-! ===== the class's reader: conditions (written by wip/whole/p42.py) ===== -/
set_option maxHeartbeats 4000000 in
set_option maxRecDepth 100000 in
theorem c_unit {l : Launch} {G : GG} {h : AH} {n : Int} {u : Int → Int} {dp : Int} {D : Nat} (hD : dp + D = 8) (hdp : 0 ≤ dp ∧ dp ≤ 8) (hT : CT h u n) (hS : RdC l G h u n (8 + 3 * D) mX7_readSum [(0, dp)] [] (sumL u n D)) (hu1 : ∀ D', D = D' + 1 → RdC l G h u n (9 + 3 * D') mX7_readUnit [(0, dp + 1), (0, 0)] [] (unitL u n D')) (hc1 : ∀ D', D = D' + 1 → RdC l G h u n (11 + 3 * D') mX7_readCondition [(0, dp + 1), (0, 0)] [] (pCond u n (unitL u n D'))) : RdC l G h u n (9 + 3 * D) mX7_readUnit [(0, dp), (0, 0)] [] (unitL u n D) := by
  intro d a s R K1 K Q hd h0 h1 hsa hSL hK hf hsu
  rw [List.append_nil] at hK
  subst hK
  have hT0 := hT
  obtain ⟨⟨hn0, hn1⟩, hen, hu, hur⟩ := hT
  have hpk := @pk_rng u n a hur h0
  have hsg := @sk_ge u n a
  have hsl := @sk_le u n a h1
  have hs0 := SL_nn hSL
  refine sp_of (L := [(2, 1), (0, dp), (0, 0), (9, 0), (9, 0)]) pl_X7 (Nat.le_of_ble_eq_true rfl) (tg_c (by decide) (tg_c (by decide) (tg_c (by decide) tg_0))) rfl ?_
  refine v_iload_n dX7_readUnit_0 rfl ?_
  refine v_if_eq_t (tgt := 8) dX7_readUnit_1 (by decide) (by decide) ?_
  refine v_aload_n dX7_readUnit_8 rfl ?_
  refine v_callv (M' := mX7_peek) (d' := d - 1) (mc' := 0) (ms' := 0) (ci := 7) (c := 1) (As := []) dX7_readUnit_9 k_654 cm_X7_peek rfl (by omega) (by decide) kk_1 (Nat.le_of_ble_eq_true rfl) rfl ⟨Nat.le_refl _, Nat.le_refl _⟩ ?_
  refine s_cpeek0 (by omega) hT0 (by omega) (by omega) ?_
  dsimp only [Option.toList, List.cons_append, List.nil_append, Nat.add_zero]
  refine v_istore_n_3 dX7_readUnit_12 (by decide) rfl ?_
  refine v_iload_n dX7_readUnit_13 rfl ?_
  refine v_bipush dX7_readUnit_14 (c32 rfl) (by decide) ?_
  refine v_icmp_ne (tgt := 44) dX7_readUnit_16 (by decide) (fun c16_1 => ?_) (fun c16_1 => ?_)
  · refine v_iload_n dX7_readUnit_44 rfl ?_
    refine v_bipush dX7_readUnit_45 (c32 rfl) (by decide) ?_
    refine v_icmp_ne (tgt := 75) dX7_readUnit_47 (by decide) (fun c47_2 => ?_) (fun c47_2 => ?_)
    · refine v_iload_n dX7_readUnit_75 rfl ?_
      refine v_if_ne_f (tgt := 84) dX7_readUnit_76 (by decide) (by decide) ?_
      refine v_aload_n dX7_readUnit_79 rfl ?_
      refine v_iload_n dX7_readUnit_80 rfl ?_
      refine v_callv (M' := mX7_readSum) (d' := d - 1) (mc' := 0) (ms' := 0) (ci := 7) (c := 1) (As := [_]) dX7_readUnit_81 k_761 cm_X7_readSum rfl (by omega) (by decide) kk_1 (Nat.le_of_ble_eq_true rfl) rfl ⟨Nat.le_refl _, Nat.le_refl _⟩ ?_
      refine hS (by omega) (by omega) (by omega) (by omega) hSL (List.append_nil _).symm (fun xe_8 xr_8 xa_8 xs_8 c81_3 c81_4 c81_5 c81_6 c81_7 c81_8 => ?_) (fun xa_14 xk_14 xr_14 xs_14 c81_9 c81_10 c81_11 c81_12 c81_13 c81_14 => ?_)
      · dsimp only [Option.toList, List.cons_append, List.nil_append, Nat.add_zero]
        refine v_aload_n dX7_readUnit_84 rfl ?_
        have hpg := @sk_ge u n xa_8
        have hpl := @sk_le u n xa_8 (by omega)
        refine v_callv (M' := mX7_peek) (d' := d - 1) (mc' := 0) (ms' := 0) (ci := 7) (c := 1) (As := []) dX7_readUnit_85 k_654 cm_X7_peek rfl (by omega) (by decide) kk_1 (Nat.le_of_ble_eq_true rfl) rfl ⟨Nat.le_refl _, Nat.le_refl _⟩ ?_
        refine s_cpeek1 (by omega) hT0 (by omega) (by omega) (by omega) ?_
        dsimp only [Option.toList, List.cons_append, List.nil_append, Nat.add_zero]
        refine v_istore_4 dX7_readUnit_88 (by decide) rfl ?_
        refine v_iload dX7_readUnit_90 rfl ?_
        refine v_calls (M' := mX7_isComparison) (d' := d - 1) (mc' := 0) (ms' := 0) (As := [_]) dX7_readUnit_92 k_789 cm_X7_isComparison (by omega) (Nat.le_of_ble_eq_true rfl) rfl ⟨Nat.le_refl _, Nat.le_refl _⟩ ?_
        refine s_cmpN (by omega) ?_
        dsimp only [Option.toList, List.cons_append, List.nil_append, Nat.add_zero]
        refine v_if_ne_f (tgt := 103) dX7_readUnit_95 (by decide) (by decide) ?_
        refine v_aload_n dX7_readUnit_98 rfl ?_
        refine v_callv (M' := mX7_fail) (d' := d - 1) (mc' := 0) (ms' := 0) (ci := 7) (c := 1) (As := []) dX7_readUnit_99 k_745 cm_X7_fail rfl (by omega) (by decide) kk_1 (Nat.le_of_ble_eq_true rfl) rfl ⟨Nat.le_refl _, Nat.le_refl _⟩ ?_
        refine s_cfail1 (by omega) (by omega) ?_
        dsimp only [Option.toList, List.cons_append, List.nil_append, Nat.add_zero]
        refine v_vret dX7_readUnit_102 rfl (Nat.le_refl _) (Nat.le_refl _) ?_
        exact hf _ _ _ _ ((unit_c c16_1 c47_2).trans (pThen_l c81_3)) (by omega) (by omega) (by omega) (by omega) (by omega)
      · dsimp only [Option.toList, List.cons_append, List.nil_append, Nat.add_zero]
        refine v_aload_n dX7_readUnit_84 rfl ?_
        have hpq := @pk_rng u n xa_14 hur (by omega)
        have hpg := @sk_ge u n xa_14
        have hpl := @sk_le u n xa_14 (by omega)
        refine v_callv (M' := mX7_peek) (d' := d - 1) (mc' := 0) (ms' := 0) (ci := 7) (c := 1) (As := []) dX7_readUnit_85 k_654 cm_X7_peek rfl (by omega) (by decide) kk_1 (Nat.le_of_ble_eq_true rfl) rfl ⟨Nat.le_refl _, Nat.le_refl _⟩ ?_
        refine s_cpeek0 (by omega) hT0 (by omega) (by omega) ?_
        dsimp only [Option.toList, List.cons_append, List.nil_append, Nat.add_zero]
        refine v_istore_4 dX7_readUnit_88 (by decide) rfl ?_
        refine v_iload dX7_readUnit_90 rfl ?_
        refine v_calls (M' := mX7_isComparison) (d' := d - 1) (mc' := 0) (ms' := 0) (As := [_]) dX7_readUnit_92 k_789 cm_X7_isComparison (by omega) (Nat.le_of_ble_eq_true rfl) rfl ⟨Nat.le_refl _, Nat.le_refl _⟩ ?_
        refine s_X7_isComparison (by omega) (fun c92_15 => ?_) (fun c92_16 c92_17 => ?_) (fun c92_18 c92_19 c92_20 => ?_) (fun c92_21 c92_22 c92_23 => ?_)
        · dsimp only [Option.toList, List.cons_append, List.nil_append, Nat.add_zero]
          refine v_if_ne_t (tgt := 103) dX7_readUnit_95 (by decide) (by decide) ?_
          refine v_aload_n dX7_readUnit_103 rfl ?_
          refine v_dup dX7_readUnit_104 rfl ?_
          refine v_getv (ci := 7) (j := 2) (ji := 2) (tg := 0) dX7_readUnit_105 k_134 (by decide) kk_1 (by decide) rfl rfl (by decide) (cps_r2) ?_
          refine v_iconst dX7_readUnit_108 (c32 rfl) ?_
          refine v_iaddE dX7_readUnit_109 (by omega) ?_
          refine v_puti (ci := 7) (j := 2) (ji := 2) dX7_readUnit_110 k_134 (by decide) kk_1 (by decide) rfl rfl rfl ?_
          rw [cps_w2]
          refine v_aload_n dX7_readUnit_113 rfl ?_
          refine v_iload_n dX7_readUnit_114 rfl ?_
          refine v_callv (M' := mX7_readSum) (d' := d - 1) (mc' := 0) (ms' := 0) (ci := 7) (c := 1) (As := [_]) dX7_readUnit_115 k_761 cm_X7_readSum rfl (by omega) (by decide) kk_1 (Nat.le_of_ble_eq_true rfl) rfl ⟨Nat.le_refl _, Nat.le_refl _⟩ ?_
          refine hS (by omega) (by omega) (by omega) (by omega) c81_14 (List.append_nil _).symm (fun xe_29 xr_29 xa_29 xs_29 c115_24 c115_25 c115_26 c115_27 c115_28 c115_29 => ?_) (fun xa_35 xk_35 xr_35 xs_35 c115_30 c115_31 c115_32 c115_33 c115_34 c115_35 => ?_)
          · dsimp only [Option.toList, List.cons_append, List.nil_append, Nat.add_zero]
            refine v_aload_n dX7_readUnit_118 rfl ?_
            refine v_iload dX7_readUnit_119 rfl ?_
            refine v_ineg dX7_readUnit_121 ?_
            refine v_callv (M' := mX7_put) (d' := d - 1) (mc' := 0) (ms' := 0) (ci := 7) (c := 1) (As := [_]) dX7_readUnit_122 k_749 cm_X7_put rfl (by omega) (by decide) kk_1 (Nat.le_of_ble_eq_true rfl) rfl ⟨Nat.le_refl _, Nat.le_refl _⟩ ?_
            refine s_cputF (by omega) (by omega) (by omega) (fun xr_37 xs_37 c122_36 c122_37 => ?_)
            dsimp only [Option.toList, List.cons_append, List.nil_append, Nat.add_zero]
            refine v_vret dX7_readUnit_125 rfl (Nat.le_refl _) (Nat.le_refl _) ?_
            exact hf _ _ _ _ (((unit_c c16_1 c47_2).trans ((pThen_r c81_9).trans (pCmp_f (by rw [c92_15]; rfl) c115_24)))) (by omega) (by omega) (by omega) (by omega) (by omega)
          · dsimp only [Option.toList, List.cons_append, List.nil_append, Nat.add_zero]
            refine v_aload_n dX7_readUnit_118 rfl ?_
            refine v_iload dX7_readUnit_119 rfl ?_
            refine v_ineg dX7_readUnit_121 ?_
            refine v_callv (M' := mX7_put) (d' := d - 1) (mc' := 0) (ms' := 0) (ci := 7) (c := 1) (As := [_]) dX7_readUnit_122 k_749 cm_X7_put rfl (by omega) (by decide) kk_1 (Nat.le_of_ble_eq_true rfl) rfl ⟨Nat.le_refl _, Nat.le_refl _⟩ ?_
            refine s_cputN (by omega) (by omega) (by omega) ⟨by omega, by omega⟩ ?_
            dsimp only [Option.toList, List.cons_append, List.nil_append, Nat.add_zero]
            refine v_vret dX7_readUnit_125 rfl (Nat.le_refl _) (Nat.le_refl _) ?_
            exact hsu _ _ _ _ (((unit_c c16_1 c47_2).trans ((pThen_r c81_9).trans (pCmp_s (by rw [c92_15]; rfl) c115_30)))) (by omega) (by omega) (by omega) (by omega) (SL_as (SL_put c115_35) (by simp only [List.append_assoc]))
        · dsimp only [Option.toList, List.cons_append, List.nil_append, Nat.add_zero]
          refine v_if_ne_t (tgt := 103) dX7_readUnit_95 (by decide) (by decide) ?_
          refine v_aload_n dX7_readUnit_103 rfl ?_
          refine v_dup dX7_readUnit_104 rfl ?_
          refine v_getv (ci := 7) (j := 2) (ji := 2) (tg := 0) dX7_readUnit_105 k_134 (by decide) kk_1 (by decide) rfl rfl (by decide) (cps_r2) ?_
          refine v_iconst dX7_readUnit_108 (c32 rfl) ?_
          refine v_iaddE dX7_readUnit_109 (by omega) ?_
          refine v_puti (ci := 7) (j := 2) (ji := 2) dX7_readUnit_110 k_134 (by decide) kk_1 (by decide) rfl rfl rfl ?_
          rw [cps_w2]
          refine v_aload_n dX7_readUnit_113 rfl ?_
          refine v_iload_n dX7_readUnit_114 rfl ?_
          refine v_callv (M' := mX7_readSum) (d' := d - 1) (mc' := 0) (ms' := 0) (ci := 7) (c := 1) (As := [_]) dX7_readUnit_115 k_761 cm_X7_readSum rfl (by omega) (by decide) kk_1 (Nat.le_of_ble_eq_true rfl) rfl ⟨Nat.le_refl _, Nat.le_refl _⟩ ?_
          refine hS (by omega) (by omega) (by omega) (by omega) c81_14 (List.append_nil _).symm (fun xe_43 xr_43 xa_43 xs_43 c115_38 c115_39 c115_40 c115_41 c115_42 c115_43 => ?_) (fun xa_49 xk_49 xr_49 xs_49 c115_44 c115_45 c115_46 c115_47 c115_48 c115_49 => ?_)
          · dsimp only [Option.toList, List.cons_append, List.nil_append, Nat.add_zero]
            refine v_aload_n dX7_readUnit_118 rfl ?_
            refine v_iload dX7_readUnit_119 rfl ?_
            refine v_ineg dX7_readUnit_121 ?_
            refine v_callv (M' := mX7_put) (d' := d - 1) (mc' := 0) (ms' := 0) (ci := 7) (c := 1) (As := [_]) dX7_readUnit_122 k_749 cm_X7_put rfl (by omega) (by decide) kk_1 (Nat.le_of_ble_eq_true rfl) rfl ⟨Nat.le_refl _, Nat.le_refl _⟩ ?_
            refine s_cputF (by omega) (by omega) (by omega) (fun xr_51 xs_51 c122_50 c122_51 => ?_)
            dsimp only [Option.toList, List.cons_append, List.nil_append, Nat.add_zero]
            refine v_vret dX7_readUnit_125 rfl (Nat.le_refl _) (Nat.le_refl _) ?_
            exact hf _ _ _ _ (((unit_c c16_1 c47_2).trans ((pThen_r c81_9).trans (pCmp_f (by rw [c92_17]; rfl) c115_38)))) (by omega) (by omega) (by omega) (by omega) (by omega)
          · dsimp only [Option.toList, List.cons_append, List.nil_append, Nat.add_zero]
            refine v_aload_n dX7_readUnit_118 rfl ?_
            refine v_iload dX7_readUnit_119 rfl ?_
            refine v_ineg dX7_readUnit_121 ?_
            refine v_callv (M' := mX7_put) (d' := d - 1) (mc' := 0) (ms' := 0) (ci := 7) (c := 1) (As := [_]) dX7_readUnit_122 k_749 cm_X7_put rfl (by omega) (by decide) kk_1 (Nat.le_of_ble_eq_true rfl) rfl ⟨Nat.le_refl _, Nat.le_refl _⟩ ?_
            refine s_cputN (by omega) (by omega) (by omega) ⟨by omega, by omega⟩ ?_
            dsimp only [Option.toList, List.cons_append, List.nil_append, Nat.add_zero]
            refine v_vret dX7_readUnit_125 rfl (Nat.le_refl _) (Nat.le_refl _) ?_
            exact hsu _ _ _ _ (((unit_c c16_1 c47_2).trans ((pThen_r c81_9).trans (pCmp_s (by rw [c92_17]; rfl) c115_44)))) (by omega) (by omega) (by omega) (by omega) (SL_as (SL_put c115_49) (by simp only [List.append_assoc]))
        · dsimp only [Option.toList, List.cons_append, List.nil_append, Nat.add_zero]
          refine v_if_ne_f (tgt := 103) dX7_readUnit_95 (by decide) (by decide) ?_
          refine v_aload_n dX7_readUnit_98 rfl ?_
          refine v_callv (M' := mX7_fail) (d' := d - 1) (mc' := 0) (ms' := 0) (ci := 7) (c := 1) (As := []) dX7_readUnit_99 k_745 cm_X7_fail rfl (by omega) (by decide) kk_1 (Nat.le_of_ble_eq_true rfl) rfl ⟨Nat.le_refl _, Nat.le_refl _⟩ ?_
          refine s_cfail0 (by omega) ?_
          dsimp only [Option.toList, List.cons_append, List.nil_append, Nat.add_zero]
          refine v_vret dX7_readUnit_102 rfl (Nat.le_refl _) (Nat.le_refl _) ?_
          exact hf _ _ _ _ (((unit_c c16_1 c47_2).trans ((pThen_r c81_9).trans (pCmp_no (oCmp_f c92_18 c92_19 c92_20))))) (by omega) (by omega) (by omega) (by omega) (by omega)
        · dsimp only [Option.toList, List.cons_append, List.nil_append, Nat.add_zero]
          refine v_if_ne_t (tgt := 103) dX7_readUnit_95 (by decide) (by decide) ?_
          refine v_aload_n dX7_readUnit_103 rfl ?_
          refine v_dup dX7_readUnit_104 rfl ?_
          refine v_getv (ci := 7) (j := 2) (ji := 2) (tg := 0) dX7_readUnit_105 k_134 (by decide) kk_1 (by decide) rfl rfl (by decide) (cps_r2) ?_
          refine v_iconst dX7_readUnit_108 (c32 rfl) ?_
          refine v_iaddE dX7_readUnit_109 (by omega) ?_
          refine v_puti (ci := 7) (j := 2) (ji := 2) dX7_readUnit_110 k_134 (by decide) kk_1 (by decide) rfl rfl rfl ?_
          rw [cps_w2]
          refine v_aload_n dX7_readUnit_113 rfl ?_
          refine v_iload_n dX7_readUnit_114 rfl ?_
          refine v_callv (M' := mX7_readSum) (d' := d - 1) (mc' := 0) (ms' := 0) (ci := 7) (c := 1) (As := [_]) dX7_readUnit_115 k_761 cm_X7_readSum rfl (by omega) (by decide) kk_1 (Nat.le_of_ble_eq_true rfl) rfl ⟨Nat.le_refl _, Nat.le_refl _⟩ ?_
          refine hS (by omega) (by omega) (by omega) (by omega) c81_14 (List.append_nil _).symm (fun xe_57 xr_57 xa_57 xs_57 c115_52 c115_53 c115_54 c115_55 c115_56 c115_57 => ?_) (fun xa_63 xk_63 xr_63 xs_63 c115_58 c115_59 c115_60 c115_61 c115_62 c115_63 => ?_)
          · dsimp only [Option.toList, List.cons_append, List.nil_append, Nat.add_zero]
            refine v_aload_n dX7_readUnit_118 rfl ?_
            refine v_iload dX7_readUnit_119 rfl ?_
            refine v_ineg dX7_readUnit_121 ?_
            refine v_callv (M' := mX7_put) (d' := d - 1) (mc' := 0) (ms' := 0) (ci := 7) (c := 1) (As := [_]) dX7_readUnit_122 k_749 cm_X7_put rfl (by omega) (by decide) kk_1 (Nat.le_of_ble_eq_true rfl) rfl ⟨Nat.le_refl _, Nat.le_refl _⟩ ?_
            refine s_cputF (by omega) (by omega) (by omega) (fun xr_65 xs_65 c122_64 c122_65 => ?_)
            dsimp only [Option.toList, List.cons_append, List.nil_append, Nat.add_zero]
            refine v_vret dX7_readUnit_125 rfl (Nat.le_refl _) (Nat.le_refl _) ?_
            exact hf _ _ _ _ (((unit_c c16_1 c47_2).trans ((pThen_r c81_9).trans (pCmp_f (by rw [c92_23]; rfl) c115_52)))) (by omega) (by omega) (by omega) (by omega) (by omega)
          · dsimp only [Option.toList, List.cons_append, List.nil_append, Nat.add_zero]
            refine v_aload_n dX7_readUnit_118 rfl ?_
            refine v_iload dX7_readUnit_119 rfl ?_
            refine v_ineg dX7_readUnit_121 ?_
            refine v_callv (M' := mX7_put) (d' := d - 1) (mc' := 0) (ms' := 0) (ci := 7) (c := 1) (As := [_]) dX7_readUnit_122 k_749 cm_X7_put rfl (by omega) (by decide) kk_1 (Nat.le_of_ble_eq_true rfl) rfl ⟨Nat.le_refl _, Nat.le_refl _⟩ ?_
            refine s_cputN (by omega) (by omega) (by omega) ⟨by omega, by omega⟩ ?_
            dsimp only [Option.toList, List.cons_append, List.nil_append, Nat.add_zero]
            refine v_vret dX7_readUnit_125 rfl (Nat.le_refl _) (Nat.le_refl _) ?_
            exact hsu _ _ _ _ (((unit_c c16_1 c47_2).trans ((pThen_r c81_9).trans (pCmp_s (by rw [c92_23]; rfl) c115_58)))) (by omega) (by omega) (by omega) (by omega) (SL_as (SL_put c115_63) (by simp only [List.append_assoc]))
    · refine v_aload_n dX7_readUnit_50 rfl ?_
      refine v_iload_n dX7_readUnit_51 rfl ?_
      refine v_callv (M' := mX7_opens) (d' := d - 1) (mc' := 0) (ms' := 0) (ci := 7) (c := 1) (As := [_]) dX7_readUnit_52 k_785 cm_X7_opens rfl (by omega) (by decide) kk_1 (Nat.le_of_ble_eq_true rfl) rfl ⟨Nat.le_refl _, Nat.le_refl _⟩ ?_
      refine s_copens (by omega) ⟨by omega, by omega⟩ (fun c52_66 => ?_) (fun c52_67 => ?_)
      · dsimp only [Option.toList, List.cons_append, List.nil_append, Nat.add_zero]
        refine v_if_eq_f (tgt := 125) dX7_readUnit_55 (by decide) (by decide) ?_
        obtain ⟨D', rfl⟩ : ∃ D', D = D' + 1 := ⟨D - 1, by omega⟩
        have huu := hu1 D' rfl
        have hcc := hc1 D' rfl
        refine v_aload_n dX7_readUnit_58 rfl ?_
        refine v_iload_n dX7_readUnit_59 rfl ?_
        refine v_iconst dX7_readUnit_60 (c32 rfl) ?_
        refine v_iaddE dX7_readUnit_61 (by omega) ?_
        refine v_iconst dX7_readUnit_62 (c32 rfl) ?_
        refine v_callv (M' := mX7_readCondition) (d' := d - 1) (mc' := 0) (ms' := 0) (ci := 7) (c := 1) (As := [_, _]) dX7_readUnit_63 k_792 cm_X7_readCondition rfl (by omega) (by decide) kk_1 (Nat.le_of_ble_eq_true rfl) rfl ⟨Nat.le_refl _, Nat.le_refl _⟩ ?_
        refine hcc (by omega) (by omega) (by omega) (by omega) hSL (List.append_nil _).symm (fun xe_73 xr_73 xa_73 xs_73 c63_68 c63_69 c63_70 c63_71 c63_72 c63_73 => ?_) (fun xa_79 xk_79 xr_79 xs_79 c63_74 c63_75 c63_76 c63_77 c63_78 c63_79 => ?_)
        · dsimp only [Option.toList, List.cons_append, List.nil_append, Nat.add_zero]
          refine v_aload_n dX7_readUnit_66 rfl ?_
          refine v_bipush dX7_readUnit_67 (c32 rfl) (by decide) ?_
          have hpg := @sk_ge u n xa_73
          have hpl := @sk_le u n xa_73 (by omega)
          refine v_callv (M' := mX7_need) (d' := d - 1) (mc' := 0) (ms' := 0) (ci := 7) (c := 1) (As := [_]) dX7_readUnit_69 k_753 cm_X7_need rfl (by omega) (by decide) kk_1 (Nat.le_of_ble_eq_true rfl) rfl ⟨Nat.le_refl _, Nat.le_refl _⟩ ?_
          refine s_cneed1 (by omega) hT0 (by omega) (by omega) (by omega) (by decide) ?_
          dsimp only [Option.toList, List.cons_append, List.nil_append, Nat.add_zero]
          refine v_goto (tgt := 125) dX7_readUnit_72 (by decide) ?_
          refine v_vret dX7_readUnit_125 rfl (Nat.le_refl _) (Nat.le_refl _) ?_
          exact hf _ _ _ _ ((unit_40 c47_2).trans (pNeed_l c63_68)) (by omega) (by omega) (by omega) (by omega) (by omega)
        · dsimp only [Option.toList, List.cons_append, List.nil_append, Nat.add_zero]
          refine v_aload_n dX7_readUnit_66 rfl ?_
          refine v_bipush dX7_readUnit_67 (c32 rfl) (by decide) ?_
          have hpq := @pk_rng u n xa_79 hur (by omega)
          have hpg := @sk_ge u n xa_79
          have hpl := @sk_le u n xa_79 (by omega)
          refine v_callv (M' := mX7_need) (d' := d - 1) (mc' := 0) (ms' := 0) (ci := 7) (c := 1) (As := [_]) dX7_readUnit_69 k_753 cm_X7_need rfl (by omega) (by decide) kk_1 (Nat.le_of_ble_eq_true rfl) rfl ⟨Nat.le_refl _, Nat.le_refl _⟩ ?_
          refine s_cneed0 (by omega) hT0 (by omega) (by omega) (fun c69_80 => ?_) (fun c69_81 => ?_)
          · dsimp only [Option.toList, List.cons_append, List.nil_append, Nat.add_zero]
            refine v_goto (tgt := 125) dX7_readUnit_72 (by decide) ?_
            refine v_vret dX7_readUnit_125 rfl (Nat.le_refl _) (Nat.le_refl _) ?_
            exact hsu _ _ _ _ ((unit_40 c47_2).trans (pNeed_s c63_74 c69_80)) (by omega) (by omega) (by omega) (by omega) c63_79
          · dsimp only [Option.toList, List.cons_append, List.nil_append, Nat.add_zero]
            refine v_goto (tgt := 125) dX7_readUnit_72 (by decide) ?_
            refine v_vret dX7_readUnit_125 rfl (Nat.le_refl _) (Nat.le_refl _) ?_
            exact hf _ _ _ _ ((unit_40 c47_2).trans (pNeed_no c63_74 c69_81)) (by omega) (by omega) (by omega) (by omega) (by omega)
      · dsimp only [Option.toList, List.cons_append, List.nil_append, Nat.add_zero]
        refine v_if_eq_t (tgt := 125) dX7_readUnit_55 (by decide) (by decide) ?_
        refine v_vret dX7_readUnit_125 rfl (Nat.le_refl _) (Nat.le_refl _) ?_
        obtain rfl : D = 0 := by omega
        exact hf _ _ _ _ (unit0 (Or.inr c47_2)) (by omega) (by omega) (by omega) (by omega) (by omega)
  · refine v_aload_n dX7_readUnit_19 rfl ?_
    refine v_iload_n dX7_readUnit_20 rfl ?_
    refine v_callv (M' := mX7_opens) (d' := d - 1) (mc' := 0) (ms' := 0) (ci := 7) (c := 1) (As := [_]) dX7_readUnit_21 k_785 cm_X7_opens rfl (by omega) (by decide) kk_1 (Nat.le_of_ble_eq_true rfl) rfl ⟨Nat.le_refl _, Nat.le_refl _⟩ ?_
    refine s_copens (by omega) ⟨by omega, by omega⟩ (fun c21_82 => ?_) (fun c21_83 => ?_)
    · dsimp only [Option.toList, List.cons_append, List.nil_append, Nat.add_zero]
      refine v_if_eq_f (tgt := 125) dX7_readUnit_24 (by decide) (by decide) ?_
      obtain ⟨D', rfl⟩ : ∃ D', D = D' + 1 := ⟨D - 1, by omega⟩
      have huu := hu1 D' rfl
      have hcc := hc1 D' rfl
      refine v_aload_n dX7_readUnit_27 rfl ?_
      refine v_iload_n dX7_readUnit_28 rfl ?_
      refine v_iconst dX7_readUnit_29 (c32 rfl) ?_
      refine v_iaddE dX7_readUnit_30 (by omega) ?_
      refine v_iconst dX7_readUnit_31 (c32 rfl) ?_
      refine v_callv (M' := mX7_readUnit) (d' := d - 1) (mc' := 0) (ms' := 0) (ci := 7) (c := 1) (As := [_, _]) dX7_readUnit_32 k_800 cm_X7_readUnit rfl (by omega) (by decide) kk_1 (Nat.le_of_ble_eq_true rfl) rfl ⟨Nat.le_refl _, Nat.le_refl _⟩ ?_
      refine huu (by omega) (by omega) (by omega) (by omega) hSL (List.append_nil _).symm (fun xe_89 xr_89 xa_89 xs_89 c32_84 c32_85 c32_86 c32_87 c32_88 c32_89 => ?_) (fun xa_95 xk_95 xr_95 xs_95 c32_90 c32_91 c32_92 c32_93 c32_94 c32_95 => ?_)
      · dsimp only [Option.toList, List.cons_append, List.nil_append, Nat.add_zero]
        refine v_aload_n dX7_readUnit_35 rfl ?_
        refine v_bipush dX7_readUnit_36 (c32 rfl) (by decide) ?_
        refine v_callv (M' := mX7_put) (d' := d - 1) (mc' := 0) (ms' := 0) (ci := 7) (c := 1) (As := [_]) dX7_readUnit_38 k_749 cm_X7_put rfl (by omega) (by decide) kk_1 (Nat.le_of_ble_eq_true rfl) rfl ⟨Nat.le_refl _, Nat.le_refl _⟩ ?_
        refine s_cputF (by omega) (by omega) (by omega) (fun xr_97 xs_97 c38_96 c38_97 => ?_)
        dsimp only [Option.toList, List.cons_append, List.nil_append, Nat.add_zero]
        refine v_goto (tgt := 125) dX7_readUnit_41 (by decide) ?_
        refine v_vret dX7_readUnit_125 rfl (Nat.le_refl _) (Nat.le_refl _) ?_
        exact hf _ _ _ _ ((unit_33 c16_1).trans (pThen_l c32_84)) (by omega) (by omega) (by omega) (by omega) (by omega)
      · dsimp only [Option.toList, List.cons_append, List.nil_append, Nat.add_zero]
        refine v_aload_n dX7_readUnit_35 rfl ?_
        refine v_bipush dX7_readUnit_36 (c32 rfl) (by decide) ?_
        refine v_callv (M' := mX7_put) (d' := d - 1) (mc' := 0) (ms' := 0) (ci := 7) (c := 1) (As := [_]) dX7_readUnit_38 k_749 cm_X7_put rfl (by omega) (by decide) kk_1 (Nat.le_of_ble_eq_true rfl) rfl ⟨Nat.le_refl _, Nat.le_refl _⟩ ?_
        refine s_cput (by omega) (by omega) (by omega) ?_
        dsimp only [Option.toList, List.cons_append, List.nil_append, Nat.add_zero]
        refine v_goto (tgt := 125) dX7_readUnit_41 (by decide) ?_
        refine v_vret dX7_readUnit_125 rfl (Nat.le_refl _) (Nat.le_refl _) ?_
        exact hsu _ _ _ _ ((unit_33 c16_1).trans (pThen_r c32_90)) (by omega) (by omega) (by omega) (by omega) (SL_as (SL_put c32_95) (by simp only [List.append_assoc]))
    · dsimp only [Option.toList, List.cons_append, List.nil_append, Nat.add_zero]
      refine v_if_eq_t (tgt := 125) dX7_readUnit_24 (by decide) (by decide) ?_
      refine v_vret dX7_readUnit_125 rfl (Nat.le_refl _) (Nat.le_refl _) ?_
      obtain rfl : D = 0 := by omega
      exact hf _ _ _ _ (unit0 (Or.inl c16_1)) (by omega) (by omega) (by omega) (by omega) (by omega)

set_option maxHeartbeats 4000000 in
set_option maxRecDepth 100000 in
theorem c_unit1 {l : Launch} {G : GG} {h : AH} {n : Int} {u : Int → Int} {dp : Int} {D : Nat} {k1 : List Int} (hT : CT h u n) (hS : RdC l G h u n (8 + 3 * D) mX7_readSum [(0, dp)] [] (sumL u n D)) : RdC l G h u n (9 + 3 * D) mX7_readUnit [(0, dp), (0, 1)] k1 (fun a => pCmp u n D a k1) := by
  intro d a s R K1 K Q hd h0 h1 hsa hSL hK hf hsu
  subst hK
  have hT0 := hT
  obtain ⟨⟨hn0, hn1⟩, hen, hu, hur⟩ := hT
  have hpk := @pk_rng u n a hur h0
  have hsg := @sk_ge u n a
  have hsl := @sk_le u n a h1
  have hs0 := SL_nn hSL
  refine sp_of (L := [(2, 1), (0, dp), (0, 1), (9, 0), (9, 0)]) pl_X7 (Nat.le_of_ble_eq_true rfl) (tg_c (by decide) (tg_c (by decide) (tg_c (by decide) tg_0))) rfl ?_
  refine v_iload_n dX7_readUnit_0 rfl ?_
  refine v_if_eq_f (tgt := 8) dX7_readUnit_1 (by decide) (by decide) ?_
  refine v_iconst dX7_readUnit_4 (c32 rfl) ?_
  refine v_goto (tgt := 12) dX7_readUnit_5 (by decide) ?_
  refine v_istore_n_3 dX7_readUnit_12 (by decide) rfl ?_
  refine v_iload_n dX7_readUnit_13 rfl ?_
  refine v_bipush dX7_readUnit_14 (c32 rfl) (by decide) ?_
  refine v_icmp_ne_t (tgt := 44) dX7_readUnit_16 (by decide) (by decide) ?_
  refine v_iload_n dX7_readUnit_44 rfl ?_
  refine v_bipush dX7_readUnit_45 (c32 rfl) (by decide) ?_
  refine v_icmp_ne_t (tgt := 75) dX7_readUnit_47 (by decide) (by decide) ?_
  refine v_iload_n dX7_readUnit_75 rfl ?_
  refine v_if_ne_t (tgt := 84) dX7_readUnit_76 (by decide) (by decide) ?_
  refine v_aload_n dX7_readUnit_84 rfl ?_
  refine v_callv (M' := mX7_peek) (d' := d - 1) (mc' := 0) (ms' := 0) (ci := 7) (c := 1) (As := []) dX7_readUnit_85 k_654 cm_X7_peek rfl (by omega) (by decide) kk_1 (Nat.le_of_ble_eq_true rfl) rfl ⟨Nat.le_refl _, Nat.le_refl _⟩ ?_
  refine s_cpeek0 (by omega) hT0 (by omega) (by omega) ?_
  dsimp only [Option.toList, List.cons_append, List.nil_append, Nat.add_zero]
  refine v_istore_4 dX7_readUnit_88 (by decide) rfl ?_
  refine v_iload dX7_readUnit_90 rfl ?_
  refine v_calls (M' := mX7_isComparison) (d' := d - 1) (mc' := 0) (ms' := 0) (As := [_]) dX7_readUnit_92 k_789 cm_X7_isComparison (by omega) (Nat.le_of_ble_eq_true rfl) rfl ⟨Nat.le_refl _, Nat.le_refl _⟩ ?_
  refine s_X7_isComparison (by omega) (fun c92_1 => ?_) (fun c92_2 c92_3 => ?_) (fun c92_4 c92_5 c92_6 => ?_) (fun c92_7 c92_8 c92_9 => ?_)
  · dsimp only [Option.toList, List.cons_append, List.nil_append, Nat.add_zero]
    refine v_if_ne_t (tgt := 103) dX7_readUnit_95 (by decide) (by decide) ?_
    refine v_aload_n dX7_readUnit_103 rfl ?_
    refine v_dup dX7_readUnit_104 rfl ?_
    refine v_getv (ci := 7) (j := 2) (ji := 2) (tg := 0) dX7_readUnit_105 k_134 (by decide) kk_1 (by decide) rfl rfl (by decide) (cps_r2) ?_
    refine v_iconst dX7_readUnit_108 (c32 rfl) ?_
    refine v_iaddE dX7_readUnit_109 (by omega) ?_
    refine v_puti (ci := 7) (j := 2) (ji := 2) dX7_readUnit_110 k_134 (by decide) kk_1 (by decide) rfl rfl rfl ?_
    rw [cps_w2]
    refine v_aload_n dX7_readUnit_113 rfl ?_
    refine v_iload_n dX7_readUnit_114 rfl ?_
    refine v_callv (M' := mX7_readSum) (d' := d - 1) (mc' := 0) (ms' := 0) (ci := 7) (c := 1) (As := [_]) dX7_readUnit_115 k_761 cm_X7_readSum rfl (by omega) (by decide) kk_1 (Nat.le_of_ble_eq_true rfl) rfl ⟨Nat.le_refl _, Nat.le_refl _⟩ ?_
    refine hS (by omega) (by omega) (by omega) (by omega) hSL (List.append_nil _).symm (fun xe_15 xr_15 xa_15 xs_15 c115_10 c115_11 c115_12 c115_13 c115_14 c115_15 => ?_) (fun xa_21 xk_21 xr_21 xs_21 c115_16 c115_17 c115_18 c115_19 c115_20 c115_21 => ?_)
    · dsimp only [Option.toList, List.cons_append, List.nil_append, Nat.add_zero]
      refine v_aload_n dX7_readUnit_118 rfl ?_
      refine v_iload dX7_readUnit_119 rfl ?_
      refine v_ineg dX7_readUnit_121 ?_
      refine v_callv (M' := mX7_put) (d' := d - 1) (mc' := 0) (ms' := 0) (ci := 7) (c := 1) (As := [_]) dX7_readUnit_122 k_749 cm_X7_put rfl (by omega) (by decide) kk_1 (Nat.le_of_ble_eq_true rfl) rfl ⟨Nat.le_refl _, Nat.le_refl _⟩ ?_
      refine s_cputF (by omega) (by omega) (by omega) (fun xr_23 xs_23 c122_22 c122_23 => ?_)
      dsimp only [Option.toList, List.cons_append, List.nil_append, Nat.add_zero]
      refine v_vret dX7_readUnit_125 rfl (Nat.le_refl _) (Nat.le_refl _) ?_
      exact hf _ _ _ _ ((pCmp_f (by rw [c92_1]; rfl) c115_10)) (by omega) (by omega) (by omega) (by omega) (by omega)
    · dsimp only [Option.toList, List.cons_append, List.nil_append, Nat.add_zero]
      refine v_aload_n dX7_readUnit_118 rfl ?_
      refine v_iload dX7_readUnit_119 rfl ?_
      refine v_ineg dX7_readUnit_121 ?_
      refine v_callv (M' := mX7_put) (d' := d - 1) (mc' := 0) (ms' := 0) (ci := 7) (c := 1) (As := [_]) dX7_readUnit_122 k_749 cm_X7_put rfl (by omega) (by decide) kk_1 (Nat.le_of_ble_eq_true rfl) rfl ⟨Nat.le_refl _, Nat.le_refl _⟩ ?_
      refine s_cputN (by omega) (by omega) (by omega) ⟨by omega, by omega⟩ ?_
      dsimp only [Option.toList, List.cons_append, List.nil_append, Nat.add_zero]
      refine v_vret dX7_readUnit_125 rfl (Nat.le_refl _) (Nat.le_refl _) ?_
      exact hsu _ _ _ _ ((pCmp_s (by rw [c92_1]; rfl) c115_16)) (by omega) (by omega) (by omega) (by omega) (SL_as (SL_put c115_21) (by simp only [List.append_assoc]))
  · dsimp only [Option.toList, List.cons_append, List.nil_append, Nat.add_zero]
    refine v_if_ne_t (tgt := 103) dX7_readUnit_95 (by decide) (by decide) ?_
    refine v_aload_n dX7_readUnit_103 rfl ?_
    refine v_dup dX7_readUnit_104 rfl ?_
    refine v_getv (ci := 7) (j := 2) (ji := 2) (tg := 0) dX7_readUnit_105 k_134 (by decide) kk_1 (by decide) rfl rfl (by decide) (cps_r2) ?_
    refine v_iconst dX7_readUnit_108 (c32 rfl) ?_
    refine v_iaddE dX7_readUnit_109 (by omega) ?_
    refine v_puti (ci := 7) (j := 2) (ji := 2) dX7_readUnit_110 k_134 (by decide) kk_1 (by decide) rfl rfl rfl ?_
    rw [cps_w2]
    refine v_aload_n dX7_readUnit_113 rfl ?_
    refine v_iload_n dX7_readUnit_114 rfl ?_
    refine v_callv (M' := mX7_readSum) (d' := d - 1) (mc' := 0) (ms' := 0) (ci := 7) (c := 1) (As := [_]) dX7_readUnit_115 k_761 cm_X7_readSum rfl (by omega) (by decide) kk_1 (Nat.le_of_ble_eq_true rfl) rfl ⟨Nat.le_refl _, Nat.le_refl _⟩ ?_
    refine hS (by omega) (by omega) (by omega) (by omega) hSL (List.append_nil _).symm (fun xe_29 xr_29 xa_29 xs_29 c115_24 c115_25 c115_26 c115_27 c115_28 c115_29 => ?_) (fun xa_35 xk_35 xr_35 xs_35 c115_30 c115_31 c115_32 c115_33 c115_34 c115_35 => ?_)
    · dsimp only [Option.toList, List.cons_append, List.nil_append, Nat.add_zero]
      refine v_aload_n dX7_readUnit_118 rfl ?_
      refine v_iload dX7_readUnit_119 rfl ?_
      refine v_ineg dX7_readUnit_121 ?_
      refine v_callv (M' := mX7_put) (d' := d - 1) (mc' := 0) (ms' := 0) (ci := 7) (c := 1) (As := [_]) dX7_readUnit_122 k_749 cm_X7_put rfl (by omega) (by decide) kk_1 (Nat.le_of_ble_eq_true rfl) rfl ⟨Nat.le_refl _, Nat.le_refl _⟩ ?_
      refine s_cputF (by omega) (by omega) (by omega) (fun xr_37 xs_37 c122_36 c122_37 => ?_)
      dsimp only [Option.toList, List.cons_append, List.nil_append, Nat.add_zero]
      refine v_vret dX7_readUnit_125 rfl (Nat.le_refl _) (Nat.le_refl _) ?_
      exact hf _ _ _ _ ((pCmp_f (by rw [c92_3]; rfl) c115_24)) (by omega) (by omega) (by omega) (by omega) (by omega)
    · dsimp only [Option.toList, List.cons_append, List.nil_append, Nat.add_zero]
      refine v_aload_n dX7_readUnit_118 rfl ?_
      refine v_iload dX7_readUnit_119 rfl ?_
      refine v_ineg dX7_readUnit_121 ?_
      refine v_callv (M' := mX7_put) (d' := d - 1) (mc' := 0) (ms' := 0) (ci := 7) (c := 1) (As := [_]) dX7_readUnit_122 k_749 cm_X7_put rfl (by omega) (by decide) kk_1 (Nat.le_of_ble_eq_true rfl) rfl ⟨Nat.le_refl _, Nat.le_refl _⟩ ?_
      refine s_cputN (by omega) (by omega) (by omega) ⟨by omega, by omega⟩ ?_
      dsimp only [Option.toList, List.cons_append, List.nil_append, Nat.add_zero]
      refine v_vret dX7_readUnit_125 rfl (Nat.le_refl _) (Nat.le_refl _) ?_
      exact hsu _ _ _ _ ((pCmp_s (by rw [c92_3]; rfl) c115_30)) (by omega) (by omega) (by omega) (by omega) (SL_as (SL_put c115_35) (by simp only [List.append_assoc]))
  · dsimp only [Option.toList, List.cons_append, List.nil_append, Nat.add_zero]
    refine v_if_ne_f (tgt := 103) dX7_readUnit_95 (by decide) (by decide) ?_
    refine v_aload_n dX7_readUnit_98 rfl ?_
    refine v_callv (M' := mX7_fail) (d' := d - 1) (mc' := 0) (ms' := 0) (ci := 7) (c := 1) (As := []) dX7_readUnit_99 k_745 cm_X7_fail rfl (by omega) (by decide) kk_1 (Nat.le_of_ble_eq_true rfl) rfl ⟨Nat.le_refl _, Nat.le_refl _⟩ ?_
    refine s_cfail0 (by omega) ?_
    dsimp only [Option.toList, List.cons_append, List.nil_append, Nat.add_zero]
    refine v_vret dX7_readUnit_102 rfl (Nat.le_refl _) (Nat.le_refl _) ?_
    exact hf _ _ _ _ ((pCmp_no (oCmp_f c92_4 c92_5 c92_6))) (by omega) (by omega) (by omega) (by omega) (by omega)
  · dsimp only [Option.toList, List.cons_append, List.nil_append, Nat.add_zero]
    refine v_if_ne_t (tgt := 103) dX7_readUnit_95 (by decide) (by decide) ?_
    refine v_aload_n dX7_readUnit_103 rfl ?_
    refine v_dup dX7_readUnit_104 rfl ?_
    refine v_getv (ci := 7) (j := 2) (ji := 2) (tg := 0) dX7_readUnit_105 k_134 (by decide) kk_1 (by decide) rfl rfl (by decide) (cps_r2) ?_
    refine v_iconst dX7_readUnit_108 (c32 rfl) ?_
    refine v_iaddE dX7_readUnit_109 (by omega) ?_
    refine v_puti (ci := 7) (j := 2) (ji := 2) dX7_readUnit_110 k_134 (by decide) kk_1 (by decide) rfl rfl rfl ?_
    rw [cps_w2]
    refine v_aload_n dX7_readUnit_113 rfl ?_
    refine v_iload_n dX7_readUnit_114 rfl ?_
    refine v_callv (M' := mX7_readSum) (d' := d - 1) (mc' := 0) (ms' := 0) (ci := 7) (c := 1) (As := [_]) dX7_readUnit_115 k_761 cm_X7_readSum rfl (by omega) (by decide) kk_1 (Nat.le_of_ble_eq_true rfl) rfl ⟨Nat.le_refl _, Nat.le_refl _⟩ ?_
    refine hS (by omega) (by omega) (by omega) (by omega) hSL (List.append_nil _).symm (fun xe_43 xr_43 xa_43 xs_43 c115_38 c115_39 c115_40 c115_41 c115_42 c115_43 => ?_) (fun xa_49 xk_49 xr_49 xs_49 c115_44 c115_45 c115_46 c115_47 c115_48 c115_49 => ?_)
    · dsimp only [Option.toList, List.cons_append, List.nil_append, Nat.add_zero]
      refine v_aload_n dX7_readUnit_118 rfl ?_
      refine v_iload dX7_readUnit_119 rfl ?_
      refine v_ineg dX7_readUnit_121 ?_
      refine v_callv (M' := mX7_put) (d' := d - 1) (mc' := 0) (ms' := 0) (ci := 7) (c := 1) (As := [_]) dX7_readUnit_122 k_749 cm_X7_put rfl (by omega) (by decide) kk_1 (Nat.le_of_ble_eq_true rfl) rfl ⟨Nat.le_refl _, Nat.le_refl _⟩ ?_
      refine s_cputF (by omega) (by omega) (by omega) (fun xr_51 xs_51 c122_50 c122_51 => ?_)
      dsimp only [Option.toList, List.cons_append, List.nil_append, Nat.add_zero]
      refine v_vret dX7_readUnit_125 rfl (Nat.le_refl _) (Nat.le_refl _) ?_
      exact hf _ _ _ _ ((pCmp_f (by rw [c92_9]; rfl) c115_38)) (by omega) (by omega) (by omega) (by omega) (by omega)
    · dsimp only [Option.toList, List.cons_append, List.nil_append, Nat.add_zero]
      refine v_aload_n dX7_readUnit_118 rfl ?_
      refine v_iload dX7_readUnit_119 rfl ?_
      refine v_ineg dX7_readUnit_121 ?_
      refine v_callv (M' := mX7_put) (d' := d - 1) (mc' := 0) (ms' := 0) (ci := 7) (c := 1) (As := [_]) dX7_readUnit_122 k_749 cm_X7_put rfl (by omega) (by decide) kk_1 (Nat.le_of_ble_eq_true rfl) rfl ⟨Nat.le_refl _, Nat.le_refl _⟩ ?_
      refine s_cputN (by omega) (by omega) (by omega) ⟨by omega, by omega⟩ ?_
      dsimp only [Option.toList, List.cons_append, List.nil_append, Nat.add_zero]
      refine v_vret dX7_readUnit_125 rfl (Nat.le_refl _) (Nat.le_refl _) ?_
      exact hsu _ _ _ _ ((pCmp_s (by rw [c92_9]; rfl) c115_44)) (by omega) (by omega) (by omega) (by omega) (SL_as (SL_put c115_49) (by simp only [List.append_assoc]))

set_option maxHeartbeats 4000000 in
set_option maxRecDepth 100000 in
theorem lp_cpart {l : Launch} {G : GG} {h : AH} {n : Int} {u : Int → Int} {dp : Int} {N d : Nat} {P : Int → PR} {K : List Int} {Q : Option AV → List Kd → AH → Prop} (hd : N + 1 ≤ d) (hT : CT h u n) (hI : RdC l G h u n N mX7_readUnit [(0, dp), (0, 0)] [] P) (hN : 4 ≤ N) : ∀ {m : Nat} {g a s : Int} {R : Int → Int} {k : List Int}, n - a < m → 0 ≤ g → g ≤ a → 0 ≤ a → a ≤ n → s ≤ a → SL R s (K ++ k) →
    (∀ e R' a' s', pLoop u n oAnd P m a k = .inl e → 0 ≤ e → 0 ≤ a' → a' ≤ n → 0 ≤ s' → s' ≤ 200 → Q none K0 (cps h R' a' e s')) →
    (∀ a' k' R' s', pLoop u n oAnd P m a k = .inr (a', k') → a ≤ a' → a' ≤ n → s' - s ≤ a' - a → 0 ≤ s' → SL R' s' (K ++ k') → Q none K0 (cps h R' a' (-1) s')) →
    V l G mX7_readPart d 0 0 0 0 K0 8 [(2, 1), (0, dp), (9, 0), (0, g)] [] (cps h R a (-1) s) Q := by
  have hT0 := hT
  obtain ⟨⟨hn0, hn1⟩, hen, hu, hur⟩ := hT
  intro m
  induction m with
  | zero => intro g a s R k hm0; omega
  | succ m ih =>
    intro g a s R k hmm hg0 hga h0 h1 hsa hSL hf hsu
    have hpk := @pk_rng u n a hur h0
    have hsg := @sk_ge u n a
    have hsl := @sk_le u n a h1
    have hs0 := SL_nn hSL
    refine v_iload_n dX7_readPart_8 rfl ?_
    refine v_sipush dX7_readPart_9 (c32 rfl) (by decide) ?_
    refine v_icmp_ge (tgt := 42) dX7_readPart_12 (by decide) (fun c12_1 => ?_) (fun c12_1 => ?_)
    · refine v_vret dX7_readPart_42 rfl (Nat.le_refl _) (Nat.le_refl _) ?_
      exact hsu _ _ _ _ (by rw [pLoop_no (by rw [pk_n (by omega)]; rfl), sk_f (by omega)]) (by omega) (by omega) (by omega) (by omega) hSL
    · refine v_aload_n dX7_readPart_15 rfl ?_
      refine v_bipush dX7_readPart_16 (c32 rfl) (by decide) ?_
      refine v_callv (M' := mX7_takes) (d' := d - 1) (mc' := 0) (ms' := 0) (ci := 7) (c := 1) (As := [_]) dX7_readPart_18 k_757 cm_X7_takes rfl (by omega) (by decide) kk_1 (Nat.le_of_ble_eq_true rfl) rfl ⟨Nat.le_refl _, Nat.le_refl _⟩ ?_
      refine s_ctakes0 (by omega) hT0 (by omega) (by omega) (fun c18_2 => ?_) (fun c18_3 => ?_)
      · dsimp only [Option.toList, List.cons_append, List.nil_append, Nat.add_zero]
        refine v_if_eq_f (tgt := 42) dX7_readPart_21 (by decide) (by decide) ?_
        refine v_aload_n dX7_readPart_24 rfl ?_
        refine v_iload_n dX7_readPart_25 rfl ?_
        refine v_iconst dX7_readPart_26 (c32 rfl) ?_
        refine v_callv (M' := mX7_readUnit) (d' := d - 1) (mc' := 0) (ms' := 0) (ci := 7) (c := 1) (As := [_, _]) dX7_readPart_27 k_800 cm_X7_readUnit rfl (by omega) (by decide) kk_1 (Nat.le_of_ble_eq_true rfl) rfl ⟨Nat.le_refl _, Nat.le_refl _⟩ ?_
        refine hI (by omega) (by omega) (by omega) (by omega) hSL (List.append_nil _).symm (fun xe_9 xr_9 xa_9 xs_9 c27_4 c27_5 c27_6 c27_7 c27_8 c27_9 => ?_) (fun xa_15 xk_15 xr_15 xs_15 c27_10 c27_11 c27_12 c27_13 c27_14 c27_15 => ?_)
        · dsimp only [Option.toList, List.cons_append, List.nil_append, Nat.add_zero]
          refine v_aload_n dX7_readPart_30 rfl ?_
          refine v_bipush dX7_readPart_31 (c32 rfl) (by decide) ?_
          refine v_callv (M' := mX7_put) (d' := d - 1) (mc' := 0) (ms' := 0) (ci := 7) (c := 1) (As := [_]) dX7_readPart_33 k_749 cm_X7_put rfl (by omega) (by decide) kk_1 (Nat.le_of_ble_eq_true rfl) rfl ⟨Nat.le_refl _, Nat.le_refl _⟩ ?_
          refine s_cputF (by omega) (by omega) (by omega) (fun xr_17 xs_17 c33_16 c33_17 => ?_)
          dsimp only [Option.toList, List.cons_append, List.nil_append, Nat.add_zero]
          refine v_iinc_3 dX7_readPart_36 (by decide) rfl ?_
          rw [iadd_eq (x := g) (y := 1) (by unfold ok32; omega)]
          refine v_goto (tgt := 8) dX7_readPart_39 (by decide) ?_
          refine v_iload_n dX7_readPart_8 rfl ?_
          refine v_sipush dX7_readPart_9 (c32 rfl) (by decide) ?_
          refine v_icmp_ge (tgt := 42) dX7_readPart_12 (by decide) (fun c12_18 => ?_) (fun c12_18 => ?_)
          · refine v_vret dX7_readPart_42 rfl (Nat.le_refl _) (Nat.le_refl _) ?_
            exact hf _ _ _ _ (pLoop_f (by rw [c18_2]; rfl) c27_4) (by omega) (by omega) (by omega) (by omega) (by omega)
          · refine v_aload_n dX7_readPart_15 rfl ?_
            refine v_bipush dX7_readPart_16 (c32 rfl) (by decide) ?_
            have hpg := @sk_ge u n xa_9
            have hpl := @sk_le u n xa_9 (by omega)
            refine v_callv (M' := mX7_takes) (d' := d - 1) (mc' := 0) (ms' := 0) (ci := 7) (c := 1) (As := [_]) dX7_readPart_18 k_757 cm_X7_takes rfl (by omega) (by decide) kk_1 (Nat.le_of_ble_eq_true rfl) rfl ⟨Nat.le_refl _, Nat.le_refl _⟩ ?_
            refine s_ctakes1 (by omega) hT0 (by omega) (by omega) (by omega) (by decide) ?_
            dsimp only [Option.toList, List.cons_append, List.nil_append, Nat.add_zero]
            refine v_if_eq_t (tgt := 42) dX7_readPart_21 (by decide) (by decide) ?_
            refine v_vret dX7_readPart_42 rfl (Nat.le_refl _) (Nat.le_refl _) ?_
            exact hf _ _ _ _ (pLoop_f (by rw [c18_2]; rfl) c27_4) (by omega) (by omega) (by omega) (by omega) (by omega)
        · dsimp only [Option.toList, List.cons_append, List.nil_append, Nat.add_zero]
          refine v_aload_n dX7_readPart_30 rfl ?_
          refine v_bipush dX7_readPart_31 (c32 rfl) (by decide) ?_
          refine v_callv (M' := mX7_put) (d' := d - 1) (mc' := 0) (ms' := 0) (ci := 7) (c := 1) (As := [_]) dX7_readPart_33 k_749 cm_X7_put rfl (by omega) (by decide) kk_1 (Nat.le_of_ble_eq_true rfl) rfl ⟨Nat.le_refl _, Nat.le_refl _⟩ ?_
          refine s_cput (by omega) (by omega) (by omega) ?_
          dsimp only [Option.toList, List.cons_append, List.nil_append, Nat.add_zero]
          refine v_iinc_3 dX7_readPart_36 (by decide) rfl ?_
          rw [iadd_eq (x := g) (y := 1) (by unfold ok32; omega)]
          refine v_goto (tgt := 8) dX7_readPart_39 (by decide) ?_
          have el : pLoop u n oAnd P (m + 1) a k = pLoop u n oAnd P m xa_15 (k ++ xk_15 ++ [-(pk u n a)]) := pLoop_s (by rw [c18_2]; rfl) c27_10
          rw [el] at hf hsu
          have hSL9 : SL (fset xr_15 xs_15 (-38)) (xs_15 + 1) (K ++ (k ++ xk_15 ++ [-(pk u n a)])) := SL_as (SL_put c27_15) (by rw [c18_2]; simp only [List.append_assoc])
          refine v_loc (lo_k (lo_k (lo_d (lo_k lo_nil)))) ?_
          exact ih (by omega) (by omega) (by omega) (by omega) (by omega) (by omega) hSL9 hf (fun a9 k9 r9 s9 q1 q2 q3 q4 q5 q6 => hsu a9 k9 r9 s9 q1 (by omega) q3 (by omega) q5 q6)
      · dsimp only [Option.toList, List.cons_append, List.nil_append, Nat.add_zero]
        refine v_if_eq_t (tgt := 42) dX7_readPart_21 (by decide) (by decide) ?_
        refine v_vret dX7_readPart_42 rfl (Nat.le_refl _) (Nat.le_refl _) ?_
        exact hsu _ _ _ _ (pLoop_no (oAnd_f c18_3)) (by omega) (by omega) (by omega) (by omega) hSL

set_option maxHeartbeats 4000000 in
set_option maxRecDepth 100000 in
theorem c_part {l : Launch} {G : GG} {h : AH} {n : Int} {u : Int → Int} {dp : Int} {N : Nat} {P : Int → PR} (hT : CT h u n) (hI : RdC l G h u n N mX7_readUnit [(0, dp), (0, 0)] [] P) (hN : 4 ≤ N) : RdC l G h u n (N + 1) mX7_readPart [(0, dp), (0, 0)] [] (fun a => pThen (P a) (pLoop u n oAnd P 201)) := by
  intro d a s R K1 K Q hd h0 h1 hsa hSL hK hf hsu
  rw [List.append_nil] at hK
  subst hK
  have hT0 := hT
  obtain ⟨⟨hn0, hn1⟩, hen, hu, hur⟩ := hT
  have hpk := @pk_rng u n a hur h0
  have hsg := @sk_ge u n a
  have hsl := @sk_le u n a h1
  have hs0 := SL_nn hSL
  refine sp_of (L := [(2, 1), (0, dp), (0, 0), (9, 0)]) pl_X7 (Nat.le_of_ble_eq_true rfl) (tg_c (by decide) (tg_c (by decide) (tg_c (by decide) tg_0))) rfl ?_
  refine v_aload_n dX7_readPart_0 rfl ?_
  refine v_iload_n dX7_readPart_1 rfl ?_
  refine v_iload_n dX7_readPart_2 rfl ?_
  refine v_callv (M' := mX7_readUnit) (d' := d - 1) (mc' := 0) (ms' := 0) (ci := 7) (c := 1) (As := [_, _]) dX7_readPart_3 k_800 cm_X7_readUnit rfl (by omega) (by decide) kk_1 (Nat.le_of_ble_eq_true rfl) rfl ⟨Nat.le_refl _, Nat.le_refl _⟩ ?_
  refine hI (by omega) (by omega) (by omega) (by omega) hSL (List.append_nil _).symm (fun xe_6 xr_6 xa_6 xs_6 c3_1 c3_2 c3_3 c3_4 c3_5 c3_6 => ?_) (fun xa_12 xk_12 xr_12 xs_12 c3_7 c3_8 c3_9 c3_10 c3_11 c3_12 => ?_)
  · dsimp only [Option.toList, List.cons_append, List.nil_append, Nat.add_zero]
    refine v_iconst dX7_readPart_6 (c32 rfl) ?_
    refine v_istore_n_3 dX7_readPart_7 (by decide) rfl ?_
    refine v_iload_n dX7_readPart_8 rfl ?_
    refine v_sipush dX7_readPart_9 (c32 rfl) (by decide) ?_
    refine v_icmp_ge_f (tgt := 42) dX7_readPart_12 (by decide) (by decide) ?_
    refine v_aload_n dX7_readPart_15 rfl ?_
    refine v_bipush dX7_readPart_16 (c32 rfl) (by decide) ?_
    have hpg := @sk_ge u n xa_6
    have hpl := @sk_le u n xa_6 (by omega)
    refine v_callv (M' := mX7_takes) (d' := d - 1) (mc' := 0) (ms' := 0) (ci := 7) (c := 1) (As := [_]) dX7_readPart_18 k_757 cm_X7_takes rfl (by omega) (by decide) kk_1 (Nat.le_of_ble_eq_true rfl) rfl ⟨Nat.le_refl _, Nat.le_refl _⟩ ?_
    refine s_ctakes1 (by omega) hT0 (by omega) (by omega) (by omega) (by decide) ?_
    dsimp only [Option.toList, List.cons_append, List.nil_append, Nat.add_zero]
    refine v_if_eq_t (tgt := 42) dX7_readPart_21 (by decide) (by decide) ?_
    refine v_vret dX7_readPart_42 rfl (Nat.le_refl _) (Nat.le_refl _) ?_
    exact hf _ _ _ _ (pThen_l c3_1) (by omega) (by omega) (by omega) (by omega) (by omega)
  · dsimp only [Option.toList, List.cons_append, List.nil_append, Nat.add_zero]
    refine v_iconst dX7_readPart_6 (c32 rfl) ?_
    refine v_istore_n_3 dX7_readPart_7 (by decide) rfl ?_
    refine v_loc (lo_k (lo_k (lo_d (lo_k lo_nil)))) ?_
    refine lp_cpart (by omega) hT0 hI hN (m := 201) (by omega) (by omega) (by omega) (by omega) (by omega) (by omega) c3_12 (fun e9 r9 a9 s9 q1 => hf e9 r9 a9 s9 ((pThen_r c3_7).trans q1)) (fun a9 k9 r9 s9 q1 q2 q3 q4 q5 q6 => hsu a9 k9 r9 s9 ((pThen_r c3_7).trans q1) (by omega) q3 (by omega) q5 q6)

set_option maxHeartbeats 4000000 in
set_option maxRecDepth 100000 in
theorem c_part1 {l : Launch} {G : GG} {h : AH} {n : Int} {u : Int → Int} {dp : Int} {N NF : Nat} {P P0 : Int → PR} {k1 : List Int} (hT : CT h u n) (hF : RdC l G h u n NF mX7_readUnit [(0, dp), (0, 1)] k1 P0) (hI : RdC l G h u n N mX7_readUnit [(0, dp), (0, 0)] [] P) (hN : 4 ≤ N) (hNF : NF ≤ N) : RdC l G h u n (N + 1) mX7_readPart [(0, dp), (0, 1)] k1 (fun a => pThen (P0 a) (pLoop u n oAnd P 201)) := by
  intro d a s R K1 K Q hd h0 h1 hsa hSL hK hf hsu
  subst hK
  have hT0 := hT
  obtain ⟨⟨hn0, hn1⟩, hen, hu, hur⟩ := hT
  have hpk := @pk_rng u n a hur h0
  have hsg := @sk_ge u n a
  have hsl := @sk_le u n a h1
  have hs0 := SL_nn hSL
  refine sp_of (L := [(2, 1), (0, dp), (0, 1), (9, 0)]) pl_X7 (Nat.le_of_ble_eq_true rfl) (tg_c (by decide) (tg_c (by decide) (tg_c (by decide) tg_0))) rfl ?_
  refine v_aload_n dX7_readPart_0 rfl ?_
  refine v_iload_n dX7_readPart_1 rfl ?_
  refine v_iload_n dX7_readPart_2 rfl ?_
  refine v_callv (M' := mX7_readUnit) (d' := d - 1) (mc' := 0) (ms' := 0) (ci := 7) (c := 1) (As := [_, _]) dX7_readPart_3 k_800 cm_X7_readUnit rfl (by omega) (by decide) kk_1 (Nat.le_of_ble_eq_true rfl) rfl ⟨Nat.le_refl _, Nat.le_refl _⟩ ?_
  refine hF (by omega) (by omega) (by omega) (by omega) hSL rfl (fun xe_6 xr_6 xa_6 xs_6 c3_1 c3_2 c3_3 c3_4 c3_5 c3_6 => ?_) (fun xa_12 xk_12 xr_12 xs_12 c3_7 c3_8 c3_9 c3_10 c3_11 c3_12 => ?_)
  · dsimp only [Option.toList, List.cons_append, List.nil_append, Nat.add_zero]
    refine v_iconst dX7_readPart_6 (c32 rfl) ?_
    refine v_istore_n_3 dX7_readPart_7 (by decide) rfl ?_
    refine v_iload_n dX7_readPart_8 rfl ?_
    refine v_sipush dX7_readPart_9 (c32 rfl) (by decide) ?_
    refine v_icmp_ge_f (tgt := 42) dX7_readPart_12 (by decide) (by decide) ?_
    refine v_aload_n dX7_readPart_15 rfl ?_
    refine v_bipush dX7_readPart_16 (c32 rfl) (by decide) ?_
    have hpg := @sk_ge u n xa_6
    have hpl := @sk_le u n xa_6 (by omega)
    refine v_callv (M' := mX7_takes) (d' := d - 1) (mc' := 0) (ms' := 0) (ci := 7) (c := 1) (As := [_]) dX7_readPart_18 k_757 cm_X7_takes rfl (by omega) (by decide) kk_1 (Nat.le_of_ble_eq_true rfl) rfl ⟨Nat.le_refl _, Nat.le_refl _⟩ ?_
    refine s_ctakes1 (by omega) hT0 (by omega) (by omega) (by omega) (by decide) ?_
    dsimp only [Option.toList, List.cons_append, List.nil_append, Nat.add_zero]
    refine v_if_eq_t (tgt := 42) dX7_readPart_21 (by decide) (by decide) ?_
    refine v_vret dX7_readPart_42 rfl (Nat.le_refl _) (Nat.le_refl _) ?_
    exact hf _ _ _ _ (pThen_l c3_1) (by omega) (by omega) (by omega) (by omega) (by omega)
  · dsimp only [Option.toList, List.cons_append, List.nil_append, Nat.add_zero]
    refine v_iconst dX7_readPart_6 (c32 rfl) ?_
    refine v_istore_n_3 dX7_readPart_7 (by decide) rfl ?_
    refine v_loc (lo_k (lo_k (lo_d (lo_k lo_nil)))) ?_
    refine lp_cpart (by omega) hT0 hI hN (m := 201) (by omega) (by omega) (by omega) (by omega) (by omega) (by omega) c3_12 (fun e9 r9 a9 s9 q1 => hf e9 r9 a9 s9 ((pThen_r c3_7).trans q1)) (fun a9 k9 r9 s9 q1 q2 q3 q4 q5 q6 => hsu a9 k9 r9 s9 ((pThen_r c3_7).trans q1) (by omega) q3 (by omega) q5 q6)

set_option maxHeartbeats 4000000 in
set_option maxRecDepth 100000 in
theorem lp_ccond {l : Launch} {G : GG} {h : AH} {n : Int} {u : Int → Int} {dp : Int} {N d : Nat} {P : Int → PR} {K : List Int} {Q : Option AV → List Kd → AH → Prop} (hd : N + 1 ≤ d) (hT : CT h u n) (hI : RdC l G h u n N mX7_readPart [(0, dp), (0, 0)] [] P) (hN : 4 ≤ N) : ∀ {m : Nat} {g a s : Int} {R : Int → Int} {k : List Int}, n - a < m → 0 ≤ g → g ≤ a → 0 ≤ a → a ≤ n → s ≤ a → SL R s (K ++ k) →
    (∀ e R' a' s', pLoop u n oOr P m a k = .inl e → 0 ≤ e → 0 ≤ a' → a' ≤ n → 0 ≤ s' → s' ≤ 200 → Q none K0 (cps h R' a' e s')) →
    (∀ a' k' R' s', pLoop u n oOr P m a k = .inr (a', k') → a ≤ a' → a' ≤ n → s' - s ≤ a' - a → 0 ≤ s' → SL R' s' (K ++ k') → Q none K0 (cps h R' a' (-1) s')) →
    V l G mX7_readCondition d 0 0 0 0 K0 8 [(2, 1), (0, dp), (9, 0), (0, g)] [] (cps h R a (-1) s) Q := by
  have hT0 := hT
  obtain ⟨⟨hn0, hn1⟩, hen, hu, hur⟩ := hT
  intro m
  induction m with
  | zero => intro g a s R k hm0; omega
  | succ m ih =>
    intro g a s R k hmm hg0 hga h0 h1 hsa hSL hf hsu
    have hpk := @pk_rng u n a hur h0
    have hsg := @sk_ge u n a
    have hsl := @sk_le u n a h1
    have hs0 := SL_nn hSL
    refine v_iload_n dX7_readCondition_8 rfl ?_
    refine v_sipush dX7_readCondition_9 (c32 rfl) (by decide) ?_
    refine v_icmp_ge (tgt := 42) dX7_readCondition_12 (by decide) (fun c12_1 => ?_) (fun c12_1 => ?_)
    · refine v_vret dX7_readCondition_42 rfl (Nat.le_refl _) (Nat.le_refl _) ?_
      exact hsu _ _ _ _ (by rw [pLoop_no (by rw [pk_n (by omega)]; rfl), sk_f (by omega)]) (by omega) (by omega) (by omega) (by omega) hSL
    · refine v_aload_n dX7_readCondition_15 rfl ?_
      refine v_bipush dX7_readCondition_16 (c32 rfl) (by decide) ?_
      refine v_callv (M' := mX7_takes) (d' := d - 1) (mc' := 0) (ms' := 0) (ci := 7) (c := 1) (As := [_]) dX7_readCondition_18 k_757 cm_X7_takes rfl (by omega) (by decide) kk_1 (Nat.le_of_ble_eq_true rfl) rfl ⟨Nat.le_refl _, Nat.le_refl _⟩ ?_
      refine s_ctakes0 (by omega) hT0 (by omega) (by omega) (fun c18_2 => ?_) (fun c18_3 => ?_)
      · dsimp only [Option.toList, List.cons_append, List.nil_append, Nat.add_zero]
        refine v_if_eq_f (tgt := 42) dX7_readCondition_21 (by decide) (by decide) ?_
        refine v_aload_n dX7_readCondition_24 rfl ?_
        refine v_iload_n dX7_readCondition_25 rfl ?_
        refine v_iconst dX7_readCondition_26 (c32 rfl) ?_
        refine v_callv (M' := mX7_readPart) (d' := d - 1) (mc' := 0) (ms' := 0) (ci := 7) (c := 1) (As := [_, _]) dX7_readCondition_27 k_796 cm_X7_readPart rfl (by omega) (by decide) kk_1 (Nat.le_of_ble_eq_true rfl) rfl ⟨Nat.le_refl _, Nat.le_refl _⟩ ?_
        refine hI (by omega) (by omega) (by omega) (by omega) hSL (List.append_nil _).symm (fun xe_9 xr_9 xa_9 xs_9 c27_4 c27_5 c27_6 c27_7 c27_8 c27_9 => ?_) (fun xa_15 xk_15 xr_15 xs_15 c27_10 c27_11 c27_12 c27_13 c27_14 c27_15 => ?_)
        · dsimp only [Option.toList, List.cons_append, List.nil_append, Nat.add_zero]
          refine v_aload_n dX7_readCondition_30 rfl ?_
          refine v_bipush dX7_readCondition_31 (c32 rfl) (by decide) ?_
          refine v_callv (M' := mX7_put) (d' := d - 1) (mc' := 0) (ms' := 0) (ci := 7) (c := 1) (As := [_]) dX7_readCondition_33 k_749 cm_X7_put rfl (by omega) (by decide) kk_1 (Nat.le_of_ble_eq_true rfl) rfl ⟨Nat.le_refl _, Nat.le_refl _⟩ ?_
          refine s_cputF (by omega) (by omega) (by omega) (fun xr_17 xs_17 c33_16 c33_17 => ?_)
          dsimp only [Option.toList, List.cons_append, List.nil_append, Nat.add_zero]
          refine v_iinc_3 dX7_readCondition_36 (by decide) rfl ?_
          rw [iadd_eq (x := g) (y := 1) (by unfold ok32; omega)]
          refine v_goto (tgt := 8) dX7_readCondition_39 (by decide) ?_
          refine v_iload_n dX7_readCondition_8 rfl ?_
          refine v_sipush dX7_readCondition_9 (c32 rfl) (by decide) ?_
          refine v_icmp_ge (tgt := 42) dX7_readCondition_12 (by decide) (fun c12_18 => ?_) (fun c12_18 => ?_)
          · refine v_vret dX7_readCondition_42 rfl (Nat.le_refl _) (Nat.le_refl _) ?_
            exact hf _ _ _ _ (pLoop_f (by rw [c18_2]; rfl) c27_4) (by omega) (by omega) (by omega) (by omega) (by omega)
          · refine v_aload_n dX7_readCondition_15 rfl ?_
            refine v_bipush dX7_readCondition_16 (c32 rfl) (by decide) ?_
            have hpg := @sk_ge u n xa_9
            have hpl := @sk_le u n xa_9 (by omega)
            refine v_callv (M' := mX7_takes) (d' := d - 1) (mc' := 0) (ms' := 0) (ci := 7) (c := 1) (As := [_]) dX7_readCondition_18 k_757 cm_X7_takes rfl (by omega) (by decide) kk_1 (Nat.le_of_ble_eq_true rfl) rfl ⟨Nat.le_refl _, Nat.le_refl _⟩ ?_
            refine s_ctakes1 (by omega) hT0 (by omega) (by omega) (by omega) (by decide) ?_
            dsimp only [Option.toList, List.cons_append, List.nil_append, Nat.add_zero]
            refine v_if_eq_t (tgt := 42) dX7_readCondition_21 (by decide) (by decide) ?_
            refine v_vret dX7_readCondition_42 rfl (Nat.le_refl _) (Nat.le_refl _) ?_
            exact hf _ _ _ _ (pLoop_f (by rw [c18_2]; rfl) c27_4) (by omega) (by omega) (by omega) (by omega) (by omega)
        · dsimp only [Option.toList, List.cons_append, List.nil_append, Nat.add_zero]
          refine v_aload_n dX7_readCondition_30 rfl ?_
          refine v_bipush dX7_readCondition_31 (c32 rfl) (by decide) ?_
          refine v_callv (M' := mX7_put) (d' := d - 1) (mc' := 0) (ms' := 0) (ci := 7) (c := 1) (As := [_]) dX7_readCondition_33 k_749 cm_X7_put rfl (by omega) (by decide) kk_1 (Nat.le_of_ble_eq_true rfl) rfl ⟨Nat.le_refl _, Nat.le_refl _⟩ ?_
          refine s_cput (by omega) (by omega) (by omega) ?_
          dsimp only [Option.toList, List.cons_append, List.nil_append, Nat.add_zero]
          refine v_iinc_3 dX7_readCondition_36 (by decide) rfl ?_
          rw [iadd_eq (x := g) (y := 1) (by unfold ok32; omega)]
          refine v_goto (tgt := 8) dX7_readCondition_39 (by decide) ?_
          have el : pLoop u n oOr P (m + 1) a k = pLoop u n oOr P m xa_15 (k ++ xk_15 ++ [-(pk u n a)]) := pLoop_s (by rw [c18_2]; rfl) c27_10
          rw [el] at hf hsu
          have hSL9 : SL (fset xr_15 xs_15 (-124)) (xs_15 + 1) (K ++ (k ++ xk_15 ++ [-(pk u n a)])) := SL_as (SL_put c27_15) (by rw [c18_2]; simp only [List.append_assoc])
          refine v_loc (lo_k (lo_k (lo_d (lo_k lo_nil)))) ?_
          exact ih (by omega) (by omega) (by omega) (by omega) (by omega) (by omega) hSL9 hf (fun a9 k9 r9 s9 q1 q2 q3 q4 q5 q6 => hsu a9 k9 r9 s9 q1 (by omega) q3 (by omega) q5 q6)
      · dsimp only [Option.toList, List.cons_append, List.nil_append, Nat.add_zero]
        refine v_if_eq_t (tgt := 42) dX7_readCondition_21 (by decide) (by decide) ?_
        refine v_vret dX7_readCondition_42 rfl (Nat.le_refl _) (Nat.le_refl _) ?_
        exact hsu _ _ _ _ (pLoop_no (oOr_f c18_3)) (by omega) (by omega) (by omega) (by omega) hSL

set_option maxHeartbeats 4000000 in
set_option maxRecDepth 100000 in
theorem c_cond {l : Launch} {G : GG} {h : AH} {n : Int} {u : Int → Int} {dp : Int} {N : Nat} {P : Int → PR} (hT : CT h u n) (hI : RdC l G h u n N mX7_readPart [(0, dp), (0, 0)] [] P) (hN : 4 ≤ N) : RdC l G h u n (N + 1) mX7_readCondition [(0, dp), (0, 0)] [] (fun a => pThen (P a) (pLoop u n oOr P 201)) := by
  intro d a s R K1 K Q hd h0 h1 hsa hSL hK hf hsu
  rw [List.append_nil] at hK
  subst hK
  have hT0 := hT
  obtain ⟨⟨hn0, hn1⟩, hen, hu, hur⟩ := hT
  have hpk := @pk_rng u n a hur h0
  have hsg := @sk_ge u n a
  have hsl := @sk_le u n a h1
  have hs0 := SL_nn hSL
  refine sp_of (L := [(2, 1), (0, dp), (0, 0), (9, 0)]) pl_X7 (Nat.le_of_ble_eq_true rfl) (tg_c (by decide) (tg_c (by decide) (tg_c (by decide) tg_0))) rfl ?_
  refine v_aload_n dX7_readCondition_0 rfl ?_
  refine v_iload_n dX7_readCondition_1 rfl ?_
  refine v_iload_n dX7_readCondition_2 rfl ?_
  refine v_callv (M' := mX7_readPart) (d' := d - 1) (mc' := 0) (ms' := 0) (ci := 7) (c := 1) (As := [_, _]) dX7_readCondition_3 k_796 cm_X7_readPart rfl (by omega) (by decide) kk_1 (Nat.le_of_ble_eq_true rfl) rfl ⟨Nat.le_refl _, Nat.le_refl _⟩ ?_
  refine hI (by omega) (by omega) (by omega) (by omega) hSL (List.append_nil _).symm (fun xe_6 xr_6 xa_6 xs_6 c3_1 c3_2 c3_3 c3_4 c3_5 c3_6 => ?_) (fun xa_12 xk_12 xr_12 xs_12 c3_7 c3_8 c3_9 c3_10 c3_11 c3_12 => ?_)
  · dsimp only [Option.toList, List.cons_append, List.nil_append, Nat.add_zero]
    refine v_iconst dX7_readCondition_6 (c32 rfl) ?_
    refine v_istore_n_3 dX7_readCondition_7 (by decide) rfl ?_
    refine v_iload_n dX7_readCondition_8 rfl ?_
    refine v_sipush dX7_readCondition_9 (c32 rfl) (by decide) ?_
    refine v_icmp_ge_f (tgt := 42) dX7_readCondition_12 (by decide) (by decide) ?_
    refine v_aload_n dX7_readCondition_15 rfl ?_
    refine v_bipush dX7_readCondition_16 (c32 rfl) (by decide) ?_
    have hpg := @sk_ge u n xa_6
    have hpl := @sk_le u n xa_6 (by omega)
    refine v_callv (M' := mX7_takes) (d' := d - 1) (mc' := 0) (ms' := 0) (ci := 7) (c := 1) (As := [_]) dX7_readCondition_18 k_757 cm_X7_takes rfl (by omega) (by decide) kk_1 (Nat.le_of_ble_eq_true rfl) rfl ⟨Nat.le_refl _, Nat.le_refl _⟩ ?_
    refine s_ctakes1 (by omega) hT0 (by omega) (by omega) (by omega) (by decide) ?_
    dsimp only [Option.toList, List.cons_append, List.nil_append, Nat.add_zero]
    refine v_if_eq_t (tgt := 42) dX7_readCondition_21 (by decide) (by decide) ?_
    refine v_vret dX7_readCondition_42 rfl (Nat.le_refl _) (Nat.le_refl _) ?_
    exact hf _ _ _ _ (pThen_l c3_1) (by omega) (by omega) (by omega) (by omega) (by omega)
  · dsimp only [Option.toList, List.cons_append, List.nil_append, Nat.add_zero]
    refine v_iconst dX7_readCondition_6 (c32 rfl) ?_
    refine v_istore_n_3 dX7_readCondition_7 (by decide) rfl ?_
    refine v_loc (lo_k (lo_k (lo_d (lo_k lo_nil)))) ?_
    refine lp_ccond (by omega) hT0 hI hN (m := 201) (by omega) (by omega) (by omega) (by omega) (by omega) (by omega) c3_12 (fun e9 r9 a9 s9 q1 => hf e9 r9 a9 s9 ((pThen_r c3_7).trans q1)) (fun a9 k9 r9 s9 q1 q2 q3 q4 q5 q6 => hsu a9 k9 r9 s9 ((pThen_r c3_7).trans q1) (by omega) q3 (by omega) q5 q6)

set_option maxHeartbeats 4000000 in
set_option maxRecDepth 100000 in
theorem c_cond1 {l : Launch} {G : GG} {h : AH} {n : Int} {u : Int → Int} {dp : Int} {N NF : Nat} {P P0 : Int → PR} {k1 : List Int} (hT : CT h u n) (hF : RdC l G h u n NF mX7_readPart [(0, dp), (0, 1)] k1 P0) (hI : RdC l G h u n N mX7_readPart [(0, dp), (0, 0)] [] P) (hN : 4 ≤ N) (hNF : NF ≤ N) : RdC l G h u n (N + 1) mX7_readCondition [(0, dp), (0, 1)] k1 (fun a => pThen (P0 a) (pLoop u n oOr P 201)) := by
  intro d a s R K1 K Q hd h0 h1 hsa hSL hK hf hsu
  subst hK
  have hT0 := hT
  obtain ⟨⟨hn0, hn1⟩, hen, hu, hur⟩ := hT
  have hpk := @pk_rng u n a hur h0
  have hsg := @sk_ge u n a
  have hsl := @sk_le u n a h1
  have hs0 := SL_nn hSL
  refine sp_of (L := [(2, 1), (0, dp), (0, 1), (9, 0)]) pl_X7 (Nat.le_of_ble_eq_true rfl) (tg_c (by decide) (tg_c (by decide) (tg_c (by decide) tg_0))) rfl ?_
  refine v_aload_n dX7_readCondition_0 rfl ?_
  refine v_iload_n dX7_readCondition_1 rfl ?_
  refine v_iload_n dX7_readCondition_2 rfl ?_
  refine v_callv (M' := mX7_readPart) (d' := d - 1) (mc' := 0) (ms' := 0) (ci := 7) (c := 1) (As := [_, _]) dX7_readCondition_3 k_796 cm_X7_readPart rfl (by omega) (by decide) kk_1 (Nat.le_of_ble_eq_true rfl) rfl ⟨Nat.le_refl _, Nat.le_refl _⟩ ?_
  refine hF (by omega) (by omega) (by omega) (by omega) hSL rfl (fun xe_6 xr_6 xa_6 xs_6 c3_1 c3_2 c3_3 c3_4 c3_5 c3_6 => ?_) (fun xa_12 xk_12 xr_12 xs_12 c3_7 c3_8 c3_9 c3_10 c3_11 c3_12 => ?_)
  · dsimp only [Option.toList, List.cons_append, List.nil_append, Nat.add_zero]
    refine v_iconst dX7_readCondition_6 (c32 rfl) ?_
    refine v_istore_n_3 dX7_readCondition_7 (by decide) rfl ?_
    refine v_iload_n dX7_readCondition_8 rfl ?_
    refine v_sipush dX7_readCondition_9 (c32 rfl) (by decide) ?_
    refine v_icmp_ge_f (tgt := 42) dX7_readCondition_12 (by decide) (by decide) ?_
    refine v_aload_n dX7_readCondition_15 rfl ?_
    refine v_bipush dX7_readCondition_16 (c32 rfl) (by decide) ?_
    have hpg := @sk_ge u n xa_6
    have hpl := @sk_le u n xa_6 (by omega)
    refine v_callv (M' := mX7_takes) (d' := d - 1) (mc' := 0) (ms' := 0) (ci := 7) (c := 1) (As := [_]) dX7_readCondition_18 k_757 cm_X7_takes rfl (by omega) (by decide) kk_1 (Nat.le_of_ble_eq_true rfl) rfl ⟨Nat.le_refl _, Nat.le_refl _⟩ ?_
    refine s_ctakes1 (by omega) hT0 (by omega) (by omega) (by omega) (by decide) ?_
    dsimp only [Option.toList, List.cons_append, List.nil_append, Nat.add_zero]
    refine v_if_eq_t (tgt := 42) dX7_readCondition_21 (by decide) (by decide) ?_
    refine v_vret dX7_readCondition_42 rfl (Nat.le_refl _) (Nat.le_refl _) ?_
    exact hf _ _ _ _ (pThen_l c3_1) (by omega) (by omega) (by omega) (by omega) (by omega)
  · dsimp only [Option.toList, List.cons_append, List.nil_append, Nat.add_zero]
    refine v_iconst dX7_readCondition_6 (c32 rfl) ?_
    refine v_istore_n_3 dX7_readCondition_7 (by decide) rfl ?_
    refine v_loc (lo_k (lo_k (lo_d (lo_k lo_nil)))) ?_
    refine lp_ccond (by omega) hT0 hI hN (m := 201) (by omega) (by omega) (by omega) (by omega) (by omega) (by omega) c3_12 (fun e9 r9 a9 s9 q1 => hf e9 r9 a9 s9 ((pThen_r c3_7).trans q1)) (fun a9 k9 r9 s9 q1 q2 q3 q4 q5 q6 => hsu a9 k9 r9 s9 ((pThen_r c3_7).trans q1) (by omega) q3 (by omega) q5 q6)

theorem c_unitL {l : Launch} {G : GG} {h : AH} {n : Int} {u : Int → Int} (hT : CT h u n) : ∀ {D : Nat} {dp : Int}, dp + D = 8 → 0 ≤ dp → RdC l G h u n (9 + 3 * D) mX7_readUnit [(0, dp), (0, 0)] [] (unitL u n D) ∧ RdC l G h u n (10 + 3 * D) mX7_readPart [(0, dp), (0, 0)] [] (pPart u n (unitL u n D)) ∧ RdC l G h u n (11 + 3 * D) mX7_readCondition [(0, dp), (0, 0)] [] (pCond u n (unitL u n D)) := by
  intro D
  induction D with
  | zero =>
    intro dp hD hdp
    have hd2 : 0 ≤ dp ∧ dp ≤ 8 := ⟨hdp, by omega⟩
    have a1 := c_unit (l := l) (G := G) (D := 0) hD hd2 hT (c_sumL hT hD hdp) (fun D' e => by omega) (fun D' e => by omega)
    have a2 := c_part hT a1 (by omega)
    exact ⟨a1, a2, c_cond hT a2 (by omega)⟩
  | succ D ih =>
    intro dp hD hdp
    have hd2 : 0 ≤ dp ∧ dp ≤ 8 := ⟨hdp, by omega⟩
    have a1 := c_unit (l := l) (G := G) (D := D + 1) (dp := dp) hD hd2 hT (c_sumL hT hD hdp) (fun D' e => by
      obtain rfl : D' = D := by omega
      exact (ih (dp := dp + 1) (by omega) (by omega)).1) (fun D' e => by
      obtain rfl : D' = D := by omega
      exact (ih (dp := dp + 1) (by omega) (by omega)).2.2)
    have a2 := c_part hT a1 (by omega)
    have a3 := c_cond hT a2 (by omega)
    rw [show 9 + 3 * (D + 1) + 1 = 10 + 3 * (D + 1) by omega] at a2 a3
    rw [show 10 + 3 * (D + 1) + 1 = 11 + 3 * (D + 1) by omega] at a3
    exact ⟨a1, a2, a3⟩

theorem c_condS {l : Launch} {G : GG} {h : AH} {n : Int} {u : Int → Int} (hT : CT h u n) {D : Nat} {dp : Int} {k1 : List Int} (hD : dp + D = 8) (hdp : 0 ≤ dp) : RdC l G h u n (11 + 3 * D) mX7_readCondition [(0, dp), (0, 1)] k1 (fun a => pCondS u n D a k1) := by
  have hU := c_unitL (l := l) (G := G) hT hD hdp
  have a1 := c_part1 (k1 := k1) hT (c_unit1 hT (c_sumL (l := l) (G := G) hT hD hdp)) hU.1 (by omega) (by omega)
  have a2 := c_cond1 hT a1 hU.2.1 (by omega) (by omega)
  rw [show 10 + 3 * D + 1 = 11 + 3 * D by omega] at a2
  exact a2

