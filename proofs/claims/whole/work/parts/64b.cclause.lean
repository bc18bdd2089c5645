set_option maxHeartbeats 4000000 in
set_option maxRecDepth 100000 in
theorem c_clause {l : Launch} {G : GG} {h : AH} {n : Int} {u : Int → Int} {R : Int → Int} {a s : Int} {K : List Int} {d : Nat} {Q : Option AV → List Kd → AH → Prop} (hd : 36 ≤ d) (hT : CT h u n) (h0 : 0 ≤ a) (h1 : a ≤ n) (hsa : s ≤ a) (hSL : SL R s K)
    (hf : ∀ e R' a' s', pClause u n a = .inl e → 0 ≤ e → 0 ≤ a' → a' ≤ n → 0 ≤ s' → s' ≤ 200 → Q none K0 (cps h R' a' e s'))
    (hsu : ∀ a' lb k R' s', pClause u n a = .inr (a', lb, k) → a < a' → a' ≤ n → s' - s ≤ a' - a → 0 ≤ s' → SL R' s' (K ++ lb :: s' :: k) → Q none K0 (cps h R' a' (-1) s')) :
    Sp l G mX7_readClause d 0 0 K0 [(2, 1)] (cps h R a (-1) s) Q := by
  have hT0 := hT
  have hS := c_sumL (l := l) (G := G) hT0 (D := 8) (dp := 0) (by decide) (by decide)
  have hC := (c_unitL (l := l) (G := G) hT0 (D := 8) (dp := 0) (by decide) (by decide)).2.2
  obtain ⟨⟨hn0, hn1⟩, hen, hu, hur⟩ := hT
  have hpk := @pk_rng u n a hur h0
  have hsg := @sk_ge u n a
  have hsl := @sk_le u n a h1
  have hs0 := SL_nn hSL
  refine sp_of (L := [(2, 1), (9, 0), (9, 0), (9, 0)]) pl_X7 (Nat.le_of_ble_eq_true rfl) (tg_c (by decide) tg_0) rfl ?_
  refine v_aload_n dX7_readClause_0 rfl ?_
  refine v_callv (M' := mX7_peek) (d' := d - 1) (mc' := 0) (ms' := 0) (ci := 7) (c := 1) (As := []) dX7_readClause_1 k_654 cm_X7_peek rfl (by omega) (by decide) kk_1 (Nat.le_of_ble_eq_true rfl) rfl ⟨Nat.le_refl _, Nat.le_refl _⟩ ?_
  refine s_cpeek0 (by omega) hT0 (by omega) (by omega) ?_
  dsimp only [Option.toList, List.cons_append, List.nil_append, Nat.add_zero]
  refine v_istore_n_1 dX7_readClause_4 (by decide) rfl ?_
  refine v_iload_n dX7_readClause_5 rfl ?_
  refine v_bipush dX7_readClause_6 (c32 rfl) (by decide) ?_
  refine v_bipush dX7_readClause_8 (c32 rfl) (by decide) ?_
  refine v_callsN (M' := mX11_within) (d' := d - 1) (mc' := 0) (ms' := 0) (As := [_, _, _]) dX7_readClause_10 k_641 cm_X11_within (by omega) (Nat.le_of_ble_eq_true rfl) rfl ⟨Nat.le_refl _, Nat.le_refl _⟩ ?_
  refine s_X11_within (by omega) (fun c10_1 => ?_) (fun c10_2 c10_3 => ?_) (fun c10_4 c10_5 => ?_)
  · dsimp only [Option.toList, List.cons_append, List.nil_append, Nat.add_zero]
    refine v_if_eq_t (tgt := 26) dX7_readClause_13 (by decide) (by decide) ?_
    refine v_aload_n dX7_readClause_26 rfl ?_
    refine v_callv (M' := mX7_fail) (d' := d - 1) (mc' := 0) (ms' := 0) (ci := 7) (c := 1) (As := []) dX7_readClause_27 k_745 cm_X7_fail rfl (by omega) (by decide) kk_1 (Nat.le_of_ble_eq_true rfl) rfl ⟨Nat.le_refl _, Nat.le_refl _⟩ ?_
    refine s_cfail0 (by omega) ?_
    dsimp only [Option.toList, List.cons_append, List.nil_append, Nat.add_zero]
    refine v_vret dX7_readClause_30 rfl (Nat.le_refl _) (Nat.le_refl _) ?_
    exact hf _ _ _ _ (cl_1 (by rcases @ix0_cases (pk u n a) with q | q; exact q.2; exfalso; have := isLab_in q.2.1; omega)) (by omega) (by omega) (by omega) (by omega) (by omega)
  · dsimp only [Option.toList, List.cons_append, List.nil_append, Nat.add_zero]
    refine v_if_eq_t (tgt := 26) dX7_readClause_13 (by decide) (by decide) ?_
    refine v_aload_n dX7_readClause_26 rfl ?_
    refine v_callv (M' := mX7_fail) (d' := d - 1) (mc' := 0) (ms' := 0) (ci := 7) (c := 1) (As := []) dX7_readClause_27 k_745 cm_X7_fail rfl (by omega) (by decide) kk_1 (Nat.le_of_ble_eq_true rfl) rfl ⟨Nat.le_refl _, Nat.le_refl _⟩ ?_
    refine s_cfail0 (by omega) ?_
    dsimp only [Option.toList, List.cons_append, List.nil_append, Nat.add_zero]
    refine v_vret dX7_readClause_30 rfl (Nat.le_refl _) (Nat.le_refl _) ?_
    exact hf _ _ _ _ (cl_1 (by rcases @ix0_cases (pk u n a) with q | q; exact q.2; exfalso; have := isLab_in q.2.1; omega)) (by omega) (by omega) (by omega) (by omega) (by omega)
  · dsimp only [Option.toList, List.cons_append, List.nil_append, Nat.add_zero]
    refine v_if_eq_f (tgt := 26) dX7_readClause_13 (by decide) (by decide) ?_
    refine v_ldcS (i := 0) dX7_readClause_16 (fun _ q => q.2.2.1) ?_
    refine v_iload_n dX7_readClause_18 rfl ?_
    refine v_i2c dX7_readClause_19 ?_
    refine v_callvS (M' := mJ0_indexOf_0f7a4) (d' := d - 1) (i := 0) (As := [_]) dX7_readClause_20 k_659 cm_J0_indexOf_0f7a4 rfl (by omega) (by decide) (Nat.le_of_ble_eq_true rfl) rfl ⟨Nat.le_refl _, Nat.le_refl _⟩ ?_
    refine s_indexOf_0 (by omega) ?_
    dsimp only [Option.toList, List.cons_append, List.nil_append, Nat.add_zero]
    refine v_if_ge (tgt := 31) dX7_readClause_23 (by decide) (fun c23_6 => ?_) (fun c23_6 => ?_)
    · have hlab : isLab (pk u n a) = true := by
        rw [i2c_b ⟨by omega, by omega⟩] at c23_6
        rcases @ix0_cases (pk u n a) with q | q
        · omega
        · exact q.2.1
      refine v_aload_n dX7_readClause_31 rfl ?_
      refine v_dup dX7_readClause_32 rfl ?_
      refine v_getv (ci := 7) (j := 2) (ji := 2) (tg := 0) dX7_readClause_33 k_134 (by decide) kk_1 (by decide) rfl rfl (by decide) (cps_r2) ?_
      refine v_iconst dX7_readClause_36 (c32 rfl) ?_
      refine v_iaddE dX7_readClause_37 (by omega) ?_
      refine v_puti (ci := 7) (j := 2) (ji := 2) dX7_readClause_38 k_134 (by decide) kk_1 (by decide) rfl rfl rfl ?_
      rw [cps_w2]
      refine v_aload_n dX7_readClause_41 rfl ?_
      refine v_getv (ci := 7) (j := 5) (ji := 5) (tg := 0) dX7_readClause_42 k_139 (by decide) kk_1 (by decide) rfl rfl (by decide) (cps_r5) ?_
      refine v_istore_n_2 dX7_readClause_45 (by decide) rfl ?_
      refine v_aload_n dX7_readClause_46 rfl ?_
      refine v_iload_n dX7_readClause_47 rfl ?_
      refine v_callv (M' := mX7_put) (d' := d - 1) (mc' := 0) (ms' := 0) (ci := 7) (c := 1) (As := [_]) dX7_readClause_48 k_749 cm_X7_put rfl (by omega) (by decide) kk_1 (Nat.le_of_ble_eq_true rfl) rfl ⟨Nat.le_refl _, Nat.le_refl _⟩ ?_
      refine s_cput (by omega) (by omega) (by omega) ?_
      dsimp only [Option.toList, List.cons_append, List.nil_append, Nat.add_zero]
      refine v_aload_n dX7_readClause_51 rfl ?_
      refine v_iconst dX7_readClause_52 (c32 rfl) ?_
      refine v_callv (M' := mX7_put) (d' := d - 1) (mc' := 0) (ms' := 0) (ci := 7) (c := 1) (As := [_]) dX7_readClause_53 k_749 cm_X7_put rfl (by omega) (by decide) kk_1 (Nat.le_of_ble_eq_true rfl) rfl ⟨Nat.le_refl _, Nat.le_refl _⟩ ?_
      refine s_cput2 (by omega) (by omega) (fun c53_7 => ?_) (fun c53_8 => ?_)
      · dsimp only [Option.toList, List.cons_append, List.nil_append, Nat.add_zero]
        refine v_aload_n dX7_readClause_56 rfl ?_
        refine v_bipush dX7_readClause_57 (c32 rfl) (by decide) ?_
        have hpq := @pk_rng u n ((sk u n a) + 1) hur (by omega)
        have hpg := @sk_ge u n ((sk u n a) + 1)
        have hpl := @sk_le u n ((sk u n a) + 1) (by omega)
        refine v_callv (M' := mX7_need) (d' := d - 1) (mc' := 0) (ms' := 0) (ci := 7) (c := 1) (As := [_]) dX7_readClause_59 k_753 cm_X7_need rfl (by omega) (by decide) kk_1 (Nat.le_of_ble_eq_true rfl) rfl ⟨Nat.le_refl _, Nat.le_refl _⟩ ?_
        refine s_cneed0 (by omega) hT0 (by omega) (by omega) (fun c59_9 => ?_) (fun c59_10 => ?_)
        · dsimp only [Option.toList, List.cons_append, List.nil_append, Nat.add_zero]
          refine v_aload_n dX7_readClause_62 rfl ?_
          have hpq := @pk_rng u n ((sk u n ((sk u n a) + 1)) + 1) hur (by omega)
          have hpg := @sk_ge u n ((sk u n ((sk u n a) + 1)) + 1)
          have hpl := @sk_le u n ((sk u n ((sk u n a) + 1)) + 1) (by omega)
          refine v_callv (M' := mX7_peek) (d' := d - 1) (mc' := 0) (ms' := 0) (ci := 7) (c := 1) (As := []) dX7_readClause_63 k_654 cm_X7_peek rfl (by omega) (by decide) kk_1 (Nat.le_of_ble_eq_true rfl) rfl ⟨Nat.le_refl _, Nat.le_refl _⟩ ?_
          refine s_cpeek0 (by omega) hT0 (by omega) (by omega) ?_
          dsimp only [Option.toList, List.cons_append, List.nil_append, Nat.add_zero]
          refine v_bipush dX7_readClause_66 (c32 rfl) (by decide) ?_
          refine v_icmp_eq (tgt := 84) dX7_readClause_68 (by decide) (fun c68_11 => ?_) (fun c68_11 => ?_)
          · refine v_iconst dX7_readClause_84 (c32 rfl) ?_
            refine v_istore_n_3 dX7_readClause_85 (by decide) rfl ?_
            refine v_iload_n dX7_readClause_86 rfl ?_
            refine v_if_eq_t (tgt := 95) dX7_readClause_87 (by decide) (by decide) ?_
            refine v_iload_n dX7_readClause_95 rfl ?_
            refine v_if_eq_t (tgt := 109) dX7_readClause_96 (by decide) (by decide) ?_
            refine v_aload_n dX7_readClause_109 rfl ?_
            refine v_iconst dX7_readClause_110 (c32 rfl) ?_
            refine v_iload_n dX7_readClause_111 rfl ?_
            refine v_callv (M' := mX7_readCondition) (d' := d - 1) (mc' := 0) (ms' := 0) (ci := 7) (c := 1) (As := [_, _]) dX7_readClause_112 k_792 cm_X7_readCondition rfl (by omega) (by decide) kk_1 (Nat.le_of_ble_eq_true rfl) rfl ⟨Nat.le_refl _, Nat.le_refl _⟩ ?_
            refine hC (by omega) (by omega) (by omega) (by omega) (SL_put (SL_put hSL)) (List.append_nil _).symm (fun xe_17 xr_17 xa_17 xs_17 c112_12 c112_13 c112_14 c112_15 c112_16 c112_17 => ?_) (fun xa_23 xk_23 xr_23 xs_23 c112_18 c112_19 c112_20 c112_21 c112_22 c112_23 => ?_)
            · dsimp only [Option.toList, List.cons_append, List.nil_append, Nat.add_zero]
              refine v_aload_n dX7_readClause_115 rfl ?_
              refine v_bipush dX7_readClause_116 (c32 rfl) (by decide) ?_
              have hpg := @sk_ge u n xa_17
              have hpl := @sk_le u n xa_17 (by omega)
              refine v_callv (M' := mX7_need) (d' := d - 1) (mc' := 0) (ms' := 0) (ci := 7) (c := 1) (As := [_]) dX7_readClause_118 k_753 cm_X7_need rfl (by omega) (by decide) kk_1 (Nat.le_of_ble_eq_true rfl) rfl ⟨Nat.le_refl _, Nat.le_refl _⟩ ?_
              refine s_cneed1 (by omega) hT0 (by omega) (by omega) (by omega) (by first | decide | omega) ?_
              dsimp only [Option.toList, List.cons_append, List.nil_append, Nat.add_zero]
              refine v_aload_n dX7_readClause_121 rfl ?_
              refine v_bipush dX7_readClause_122 (c32 rfl) (by decide) ?_
              refine v_callv (M' := mX7_put) (d' := d - 1) (mc' := 0) (ms' := 0) (ci := 7) (c := 1) (As := [_]) dX7_readClause_124 k_749 cm_X7_put rfl (by omega) (by decide) kk_1 (Nat.le_of_ble_eq_true rfl) rfl ⟨Nat.le_refl _, Nat.le_refl _⟩ ?_
              refine s_cputF (by omega) (by omega) (by omega) (fun xr_25 xs_25 c124_24 c124_25 => ?_)
              dsimp only [Option.toList, List.cons_append, List.nil_append, Nat.add_zero]
              refine v_aload_n dX7_readClause_127 rfl ?_
              refine v_iconst dX7_readClause_128 (c32 rfl) ?_
              refine v_callv (M' := mX7_readSum) (d' := d - 1) (mc' := 0) (ms' := 0) (ci := 7) (c := 1) (As := [_]) dX7_readClause_129 k_761 cm_X7_readSum rfl (by omega) (by decide) kk_1 (Nat.le_of_ble_eq_true rfl) rfl ⟨Nat.le_refl _, Nat.le_refl _⟩ ?_
              refine s_csumF (by omega) hT0 (by omega) (by omega) (by omega) (by omega) (by omega) (fun xr_29 xa_29 xs_29 c129_26 c129_27 c129_28 c129_29 => ?_)
              dsimp only [Option.toList, List.cons_append, List.nil_append, Nat.add_zero]
              refine v_iload_n dX7_readClause_132 rfl ?_
              refine v_iconst dX7_readClause_133 (c32 rfl) ?_
              refine v_iaddE dX7_readClause_134 (by omega) ?_
              refine v_sipush dX7_readClause_135 (c32 rfl) (by decide) ?_
              refine v_icmp_ge_f (tgt := 153) dX7_readClause_138 (by decide) (by omega) ?_
              refine v_aload_n dX7_readClause_141 rfl ?_
              refine v_getr (ci := 7) (j := 4) (ji := 4) (z := 3) dX7_readClause_142 k_136 (by decide) kk_1 (by decide) rfl rfl (fun r => rt_1_4 (r rfl)) (by decide) ?_
              refine v_iload_n dX7_readClause_145 rfl ?_
              refine v_iconst dX7_readClause_146 (c32 rfl) ?_
              refine v_iaddE dX7_readClause_147 (by omega) ?_
              refine v_aload_n dX7_readClause_148 rfl ?_
              refine v_getv (ci := 7) (j := 5) (ji := 5) (tg := 0) dX7_readClause_149 k_139 (by decide) kk_1 (by decide) rfl rfl (by decide) (cps_r5) ?_
              refine v_iastore dX7_readClause_152 (by decide) kk_3 (by omega) (by omega) ?_
              rw [cps_wR]
              refine v_vret dX7_readClause_153 rfl (Nat.le_refl _) (Nat.le_refl _) ?_
              exact hf _ _ _ _ (cl_f hlab c59_9 ((body_c (Or.inl c68_11)).trans (rest_l (pCond_sk.symm.trans c112_12)))) (by omega) (by omega) (by omega) (by omega) (by omega)
            · dsimp only [Option.toList, List.cons_append, List.nil_append, Nat.add_zero]
              refine v_aload_n dX7_readClause_115 rfl ?_
              refine v_bipush dX7_readClause_116 (c32 rfl) (by decide) ?_
              have hpq := @pk_rng u n xa_23 hur (by omega)
              have hpg := @sk_ge u n xa_23
              have hpl := @sk_le u n xa_23 (by omega)
              refine v_callv (M' := mX7_need) (d' := d - 1) (mc' := 0) (ms' := 0) (ci := 7) (c := 1) (As := [_]) dX7_readClause_118 k_753 cm_X7_need rfl (by omega) (by decide) kk_1 (Nat.le_of_ble_eq_true rfl) rfl ⟨Nat.le_refl _, Nat.le_refl _⟩ ?_
              refine s_cneed0 (by omega) hT0 (by omega) (by omega) (fun c118_30 => ?_) (fun c118_31 => ?_)
              · dsimp only [Option.toList, List.cons_append, List.nil_append, Nat.add_zero]
                refine v_aload_n dX7_readClause_121 rfl ?_
                refine v_bipush dX7_readClause_122 (c32 rfl) (by decide) ?_
                refine v_callv (M' := mX7_put) (d' := d - 1) (mc' := 0) (ms' := 0) (ci := 7) (c := 1) (As := [_]) dX7_readClause_124 k_749 cm_X7_put rfl (by omega) (by decide) kk_1 (Nat.le_of_ble_eq_true rfl) rfl ⟨Nat.le_refl _, Nat.le_refl _⟩ ?_
                refine s_cput (by omega) (by omega) (by omega) ?_
                dsimp only [Option.toList, List.cons_append, List.nil_append, Nat.add_zero]
                refine v_aload_n dX7_readClause_127 rfl ?_
                refine v_iconst dX7_readClause_128 (c32 rfl) ?_
                refine v_callv (M' := mX7_readSum) (d' := d - 1) (mc' := 0) (ms' := 0) (ci := 7) (c := 1) (As := [_]) dX7_readClause_129 k_761 cm_X7_readSum rfl (by omega) (by decide) kk_1 (Nat.le_of_ble_eq_true rfl) rfl ⟨Nat.le_refl _, Nat.le_refl _⟩ ?_
                refine hS (by omega) (by omega) (by omega) (by omega) (SL_put c112_23) (List.append_nil _).symm (fun xe_37 xr_37 xa_37 xs_37 c129_32 c129_33 c129_34 c129_35 c129_36 c129_37 => ?_) (fun xa_43 xk_43 xr_43 xs_43 c129_38 c129_39 c129_40 c129_41 c129_42 c129_43 => ?_)
                · dsimp only [Option.toList, List.cons_append, List.nil_append, Nat.add_zero]
                  refine v_iload_n dX7_readClause_132 rfl ?_
                  refine v_iconst dX7_readClause_133 (c32 rfl) ?_
                  refine v_iaddE dX7_readClause_134 (by omega) ?_
                  refine v_sipush dX7_readClause_135 (c32 rfl) (by decide) ?_
                  refine v_icmp_ge_f (tgt := 153) dX7_readClause_138 (by decide) (by omega) ?_
                  refine v_aload_n dX7_readClause_141 rfl ?_
                  refine v_getr (ci := 7) (j := 4) (ji := 4) (z := 3) dX7_readClause_142 k_136 (by decide) kk_1 (by decide) rfl rfl (fun r => rt_1_4 (r rfl)) (by decide) ?_
                  refine v_iload_n dX7_readClause_145 rfl ?_
                  refine v_iconst dX7_readClause_146 (c32 rfl) ?_
                  refine v_iaddE dX7_readClause_147 (by omega) ?_
                  refine v_aload_n dX7_readClause_148 rfl ?_
                  refine v_getv (ci := 7) (j := 5) (ji := 5) (tg := 0) dX7_readClause_149 k_139 (by decide) kk_1 (by decide) rfl rfl (by decide) (cps_r5) ?_
                  refine v_iastore dX7_readClause_152 (by decide) kk_3 (by omega) (by omega) ?_
                  rw [cps_wR]
                  refine v_vret dX7_readClause_153 rfl (Nat.le_refl _) (Nat.le_refl _) ?_
                  exact hf _ _ _ _ (cl_f hlab c59_9 ((body_c (Or.inl c68_11)).trans (rest_f (pCond_sk.symm.trans c112_18) c118_30 c129_32))) (by omega) (by omega) (by omega) (by omega) (by omega)
                · dsimp only [Option.toList, List.cons_append, List.nil_append, Nat.add_zero]
                  refine v_iload_n dX7_readClause_132 rfl ?_
                  refine v_iconst dX7_readClause_133 (c32 rfl) ?_
                  refine v_iaddE dX7_readClause_134 (by omega) ?_
                  refine v_sipush dX7_readClause_135 (c32 rfl) (by decide) ?_
                  refine v_icmp_ge_f (tgt := 153) dX7_readClause_138 (by decide) (by omega) ?_
                  refine v_aload_n dX7_readClause_141 rfl ?_
                  refine v_getr (ci := 7) (j := 4) (ji := 4) (z := 3) dX7_readClause_142 k_136 (by decide) kk_1 (by decide) rfl rfl (fun r => rt_1_4 (r rfl)) (by decide) ?_
                  refine v_iload_n dX7_readClause_145 rfl ?_
                  refine v_iconst dX7_readClause_146 (c32 rfl) ?_
                  refine v_iaddE dX7_readClause_147 (by omega) ?_
                  refine v_aload_n dX7_readClause_148 rfl ?_
                  refine v_getv (ci := 7) (j := 5) (ji := 5) (tg := 0) dX7_readClause_149 k_139 (by decide) kk_1 (by decide) rfl rfl (by decide) (cps_r5) ?_
                  refine v_iastore dX7_readClause_152 (by decide) kk_3 (by omega) (by omega) ?_
                  rw [cps_wR]
                  refine v_vret dX7_readClause_153 rfl (Nat.le_refl _) (Nat.le_refl _) ?_
                  exact hsu _ _ _ _ _ (cl_s hlab c59_9 ((body_c (Or.inl c68_11)).trans (rest_s (pCond_sk.symm.trans c112_18) c118_30 c129_38))) (by omega) (by omega) (by omega) (by omega) (SL_patch hSL.1 (SL_as c129_43 (by simp only [List.append_assoc, List.cons_append, List.nil_append, List.singleton_append])))
              · dsimp only [Option.toList, List.cons_append, List.nil_append, Nat.add_zero]
                refine v_aload_n dX7_readClause_121 rfl ?_
                refine v_bipush dX7_readClause_122 (c32 rfl) (by decide) ?_
                refine v_callv (M' := mX7_put) (d' := d - 1) (mc' := 0) (ms' := 0) (ci := 7) (c := 1) (As := [_]) dX7_readClause_124 k_749 cm_X7_put rfl (by omega) (by decide) kk_1 (Nat.le_of_ble_eq_true rfl) rfl ⟨Nat.le_refl _, Nat.le_refl _⟩ ?_
                refine s_cputF (by omega) (by omega) (by omega) (fun xr_45 xs_45 c124_44 c124_45 => ?_)
                dsimp only [Option.toList, List.cons_append, List.nil_append, Nat.add_zero]
                refine v_aload_n dX7_readClause_127 rfl ?_
                refine v_iconst dX7_readClause_128 (c32 rfl) ?_
                refine v_callv (M' := mX7_readSum) (d' := d - 1) (mc' := 0) (ms' := 0) (ci := 7) (c := 1) (As := [_]) dX7_readClause_129 k_761 cm_X7_readSum rfl (by omega) (by decide) kk_1 (Nat.le_of_ble_eq_true rfl) rfl ⟨Nat.le_refl _, Nat.le_refl _⟩ ?_
                refine s_csumF (by omega) hT0 (by omega) (by omega) (by omega) (by omega) (by omega) (fun xr_49 xa_49 xs_49 c129_46 c129_47 c129_48 c129_49 => ?_)
                dsimp only [Option.toList, List.cons_append, List.nil_append, Nat.add_zero]
                refine v_iload_n dX7_readClause_132 rfl ?_
                refine v_iconst dX7_readClause_133 (c32 rfl) ?_
                refine v_iaddE dX7_readClause_134 (by omega) ?_
                refine v_sipush dX7_readClause_135 (c32 rfl) (by decide) ?_
                refine v_icmp_ge_f (tgt := 153) dX7_readClause_138 (by decide) (by omega) ?_
                refine v_aload_n dX7_readClause_141 rfl ?_
                refine v_getr (ci := 7) (j := 4) (ji := 4) (z := 3) dX7_readClause_142 k_136 (by decide) kk_1 (by decide) rfl rfl (fun r => rt_1_4 (r rfl)) (by decide) ?_
                refine v_iload_n dX7_readClause_145 rfl ?_
                refine v_iconst dX7_readClause_146 (c32 rfl) ?_
                refine v_iaddE dX7_readClause_147 (by omega) ?_
                refine v_aload_n dX7_readClause_148 rfl ?_
                refine v_getv (ci := 7) (j := 5) (ji := 5) (tg := 0) dX7_readClause_149 k_139 (by decide) kk_1 (by decide) rfl rfl (by decide) (cps_r5) ?_
                refine v_iastore dX7_readClause_152 (by decide) kk_3 (by omega) (by omega) ?_
                rw [cps_wR]
                refine v_vret dX7_readClause_153 rfl (Nat.le_refl _) (Nat.le_refl _) ?_
                exact hf _ _ _ _ (cl_f hlab c59_9 ((body_c (Or.inl c68_11)).trans (rest_no (pCond_sk.symm.trans c112_18) c118_31))) (by omega) (by omega) (by omega) (by omega) (by omega)
          · refine v_aload_n dX7_readClause_71 rfl ?_
            refine v_callv (M' := mX7_peek) (d' := d - 1) (mc' := 0) (ms' := 0) (ci := 7) (c := 1) (As := []) dX7_readClause_72 k_654 cm_X7_peek rfl (by omega) (by decide) kk_1 (Nat.le_of_ble_eq_true rfl) rfl ⟨Nat.le_refl _, Nat.le_refl _⟩ ?_
            refine s_cpeek0b (by omega) hT0 (by omega) (by omega) ?_
            dsimp only [Option.toList, List.cons_append, List.nil_append, Nat.add_zero]
            refine v_bipush dX7_readClause_75 (c32 rfl) (by decide) ?_
            refine v_icmp_eq (tgt := 84) dX7_readClause_77 (by decide) (fun c77_50 => ?_) (fun c77_50 => ?_)
            · refine v_iconst dX7_readClause_84 (c32 rfl) ?_
              refine v_istore_n_3 dX7_readClause_85 (by decide) rfl ?_
              refine v_iload_n dX7_readClause_86 rfl ?_
              refine v_if_eq_t (tgt := 95) dX7_readClause_87 (by decide) (by decide) ?_
              refine v_iload_n dX7_readClause_95 rfl ?_
              refine v_if_eq_t (tgt := 109) dX7_readClause_96 (by decide) (by decide) ?_
              refine v_aload_n dX7_readClause_109 rfl ?_
              refine v_iconst dX7_readClause_110 (c32 rfl) ?_
              refine v_iload_n dX7_readClause_111 rfl ?_
              refine v_callv (M' := mX7_readCondition) (d' := d - 1) (mc' := 0) (ms' := 0) (ci := 7) (c := 1) (As := [_, _]) dX7_readClause_112 k_792 cm_X7_readCondition rfl (by omega) (by decide) kk_1 (Nat.le_of_ble_eq_true rfl) rfl ⟨Nat.le_refl _, Nat.le_refl _⟩ ?_
              refine hC (by omega) (by omega) (by omega) (by omega) (SL_put (SL_put hSL)) (List.append_nil _).symm (fun xe_56 xr_56 xa_56 xs_56 c112_51 c112_52 c112_53 c112_54 c112_55 c112_56 => ?_) (fun xa_62 xk_62 xr_62 xs_62 c112_57 c112_58 c112_59 c112_60 c112_61 c112_62 => ?_)
              · dsimp only [Option.toList, List.cons_append, List.nil_append, Nat.add_zero]
                refine v_aload_n dX7_readClause_115 rfl ?_
                refine v_bipush dX7_readClause_116 (c32 rfl) (by decide) ?_
                have hpg := @sk_ge u n xa_56
                have hpl := @sk_le u n xa_56 (by omega)
                refine v_callv (M' := mX7_need) (d' := d - 1) (mc' := 0) (ms' := 0) (ci := 7) (c := 1) (As := [_]) dX7_readClause_118 k_753 cm_X7_need rfl (by omega) (by decide) kk_1 (Nat.le_of_ble_eq_true rfl) rfl ⟨Nat.le_refl _, Nat.le_refl _⟩ ?_
                refine s_cneed1 (by omega) hT0 (by omega) (by omega) (by omega) (by first | decide | omega) ?_
                dsimp only [Option.toList, List.cons_append, List.nil_append, Nat.add_zero]
                refine v_aload_n dX7_readClause_121 rfl ?_
                refine v_bipush dX7_readClause_122 (c32 rfl) (by decide) ?_
                refine v_callv (M' := mX7_put) (d' := d - 1) (mc' := 0) (ms' := 0) (ci := 7) (c := 1) (As := [_]) dX7_readClause_124 k_749 cm_X7_put rfl (by omega) (by decide) kk_1 (Nat.le_of_ble_eq_true rfl) rfl ⟨Nat.le_refl _, Nat.le_refl _⟩ ?_
                refine s_cputF (by omega) (by omega) (by omega) (fun xr_64 xs_64 c124_63 c124_64 => ?_)
                dsimp only [Option.toList, List.cons_append, List.nil_append, Nat.add_zero]
                refine v_aload_n dX7_readClause_127 rfl ?_
                refine v_iconst dX7_readClause_128 (c32 rfl) ?_
                refine v_callv (M' := mX7_readSum) (d' := d - 1) (mc' := 0) (ms' := 0) (ci := 7) (c := 1) (As := [_]) dX7_readClause_129 k_761 cm_X7_readSum rfl (by omega) (by decide) kk_1 (Nat.le_of_ble_eq_true rfl) rfl ⟨Nat.le_refl _, Nat.le_refl _⟩ ?_
                refine s_csumF (by omega) hT0 (by omega) (by omega) (by omega) (by omega) (by omega) (fun xr_68 xa_68 xs_68 c129_65 c129_66 c129_67 c129_68 => ?_)
                dsimp only [Option.toList, List.cons_append, List.nil_append, Nat.add_zero]
                refine v_iload_n dX7_readClause_132 rfl ?_
                refine v_iconst dX7_readClause_133 (c32 rfl) ?_
                refine v_iaddE dX7_readClause_134 (by omega) ?_
                refine v_sipush dX7_readClause_135 (c32 rfl) (by decide) ?_
                refine v_icmp_ge_f (tgt := 153) dX7_readClause_138 (by decide) (by omega) ?_
                refine v_aload_n dX7_readClause_141 rfl ?_
                refine v_getr (ci := 7) (j := 4) (ji := 4) (z := 3) dX7_readClause_142 k_136 (by decide) kk_1 (by decide) rfl rfl (fun r => rt_1_4 (r rfl)) (by decide) ?_
                refine v_iload_n dX7_readClause_145 rfl ?_
                refine v_iconst dX7_readClause_146 (c32 rfl) ?_
                refine v_iaddE dX7_readClause_147 (by omega) ?_
                refine v_aload_n dX7_readClause_148 rfl ?_
                refine v_getv (ci := 7) (j := 5) (ji := 5) (tg := 0) dX7_readClause_149 k_139 (by decide) kk_1 (by decide) rfl rfl (by decide) (cps_r5) ?_
                refine v_iastore dX7_readClause_152 (by decide) kk_3 (by omega) (by omega) ?_
                rw [cps_wR]
                refine v_vret dX7_readClause_153 rfl (Nat.le_refl _) (Nat.le_refl _) ?_
                exact hf _ _ _ _ (cl_f hlab c59_9 ((body_c (Or.inr c77_50)).trans (rest_l (pCond_sk.symm.trans c112_51)))) (by omega) (by omega) (by omega) (by omega) (by omega)
              · dsimp only [Option.toList, List.cons_append, List.nil_append, Nat.add_zero]
                refine v_aload_n dX7_readClause_115 rfl ?_
                refine v_bipush dX7_readClause_116 (c32 rfl) (by decide) ?_
                have hpq := @pk_rng u n xa_62 hur (by omega)
                have hpg := @sk_ge u n xa_62
                have hpl := @sk_le u n xa_62 (by omega)
                refine v_callv (M' := mX7_need) (d' := d - 1) (mc' := 0) (ms' := 0) (ci := 7) (c := 1) (As := [_]) dX7_readClause_118 k_753 cm_X7_need rfl (by omega) (by decide) kk_1 (Nat.le_of_ble_eq_true rfl) rfl ⟨Nat.le_refl _, Nat.le_refl _⟩ ?_
                refine s_cneed0 (by omega) hT0 (by omega) (by omega) (fun c118_69 => ?_) (fun c118_70 => ?_)
                · dsimp only [Option.toList, List.cons_append, List.nil_append, Nat.add_zero]
                  refine v_aload_n dX7_readClause_121 rfl ?_
                  refine v_bipush dX7_readClause_122 (c32 rfl) (by decide) ?_
                  refine v_callv (M' := mX7_put) (d' := d - 1) (mc' := 0) (ms' := 0) (ci := 7) (c := 1) (As := [_]) dX7_readClause_124 k_749 cm_X7_put rfl (by omega) (by decide) kk_1 (Nat.le_of_ble_eq_true rfl) rfl ⟨Nat.le_refl _, Nat.le_refl _⟩ ?_
                  refine s_cput (by omega) (by omega) (by omega) ?_
                  dsimp only [Option.toList, List.cons_append, List.nil_append, Nat.add_zero]
                  refine v_aload_n dX7_readClause_127 rfl ?_
                  refine v_iconst dX7_readClause_128 (c32 rfl) ?_
                  refine v_callv (M' := mX7_readSum) (d' := d - 1) (mc' := 0) (ms' := 0) (ci := 7) (c := 1) (As := [_]) dX7_readClause_129 k_761 cm_X7_readSum rfl (by omega) (by decide) kk_1 (Nat.le_of_ble_eq_true rfl) rfl ⟨Nat.le_refl _, Nat.le_refl _⟩ ?_
                  refine hS (by omega) (by omega) (by omega) (by omega) (SL_put c112_62) (List.append_nil _).symm (fun xe_76 xr_76 xa_76 xs_76 c129_71 c129_72 c129_73 c129_74 c129_75 c129_76 => ?_) (fun xa_82 xk_82 xr_82 xs_82 c129_77 c129_78 c129_79 c129_80 c129_81 c129_82 => ?_)
                  · dsimp only [Option.toList, List.cons_append, List.nil_append, Nat.add_zero]
                    refine v_iload_n dX7_readClause_132 rfl ?_
                    refine v_iconst dX7_readClause_133 (c32 rfl) ?_
                    refine v_iaddE dX7_readClause_134 (by omega) ?_
                    refine v_sipush dX7_readClause_135 (c32 rfl) (by decide) ?_
                    refine v_icmp_ge_f (tgt := 153) dX7_readClause_138 (by decide) (by omega) ?_
                    refine v_aload_n dX7_readClause_141 rfl ?_
                    refine v_getr (ci := 7) (j := 4) (ji := 4) (z := 3) dX7_readClause_142 k_136 (by decide) kk_1 (by decide) rfl rfl (fun r => rt_1_4 (r rfl)) (by decide) ?_
                    refine v_iload_n dX7_readClause_145 rfl ?_
                    refine v_iconst dX7_readClause_146 (c32 rfl) ?_
                    refine v_iaddE dX7_readClause_147 (by omega) ?_
                    refine v_aload_n dX7_readClause_148 rfl ?_
                    refine v_getv (ci := 7) (j := 5) (ji := 5) (tg := 0) dX7_readClause_149 k_139 (by decide) kk_1 (by decide) rfl rfl (by decide) (cps_r5) ?_
                    refine v_iastore dX7_readClause_152 (by decide) kk_3 (by omega) (by omega) ?_
                    rw [cps_wR]
                    refine v_vret dX7_readClause_153 rfl (Nat.le_refl _) (Nat.le_refl _) ?_
                    exact hf _ _ _ _ (cl_f hlab c59_9 ((body_c (Or.inr c77_50)).trans (rest_f (pCond_sk.symm.trans c112_57) c118_69 c129_71))) (by omega) (by omega) (by omega) (by omega) (by omega)
                  · dsimp only [Option.toList, List.cons_append, List.nil_append, Nat.add_zero]
                    refine v_iload_n dX7_readClause_132 rfl ?_
                    refine v_iconst dX7_readClause_133 (c32 rfl) ?_
                    refine v_iaddE dX7_readClause_134 (by omega) ?_
                    refine v_sipush dX7_readClause_135 (c32 rfl) (by decide) ?_
                    refine v_icmp_ge_f (tgt := 153) dX7_readClause_138 (by decide) (by omega) ?_
                    refine v_aload_n dX7_readClause_141 rfl ?_
                    refine v_getr (ci := 7) (j := 4) (ji := 4) (z := 3) dX7_readClause_142 k_136 (by decide) kk_1 (by decide) rfl rfl (fun r => rt_1_4 (r rfl)) (by decide) ?_
                    refine v_iload_n dX7_readClause_145 rfl ?_
                    refine v_iconst dX7_readClause_146 (c32 rfl) ?_
                    refine v_iaddE dX7_readClause_147 (by omega) ?_
                    refine v_aload_n dX7_readClause_148 rfl ?_
                    refine v_getv (ci := 7) (j := 5) (ji := 5) (tg := 0) dX7_readClause_149 k_139 (by decide) kk_1 (by decide) rfl rfl (by decide) (cps_r5) ?_
                    refine v_iastore dX7_readClause_152 (by decide) kk_3 (by omega) (by omega) ?_
                    rw [cps_wR]
                    refine v_vret dX7_readClause_153 rfl (Nat.le_refl _) (Nat.le_refl _) ?_
                    exact hsu _ _ _ _ _ (cl_s hlab c59_9 ((body_c (Or.inr c77_50)).trans (rest_s (pCond_sk.symm.trans c112_57) c118_69 c129_77))) (by omega) (by omega) (by omega) (by omega) (SL_patch hSL.1 (SL_as c129_82 (by simp only [List.append_assoc, List.cons_append, List.nil_append, List.singleton_append])))
                · dsimp only [Option.toList, List.cons_append, List.nil_append, Nat.add_zero]
                  refine v_aload_n dX7_readClause_121 rfl ?_
                  refine v_bipush dX7_readClause_122 (c32 rfl) (by decide) ?_
                  refine v_callv (M' := mX7_put) (d' := d - 1) (mc' := 0) (ms' := 0) (ci := 7) (c := 1) (As := [_]) dX7_readClause_124 k_749 cm_X7_put rfl (by omega) (by decide) kk_1 (Nat.le_of_ble_eq_true rfl) rfl ⟨Nat.le_refl _, Nat.le_refl _⟩ ?_
                  refine s_cputF (by omega) (by omega) (by omega) (fun xr_84 xs_84 c124_83 c124_84 => ?_)
                  dsimp only [Option.toList, List.cons_append, List.nil_append, Nat.add_zero]
                  refine v_aload_n dX7_readClause_127 rfl ?_
                  refine v_iconst dX7_readClause_128 (c32 rfl) ?_
                  refine v_callv (M' := mX7_readSum) (d' := d - 1) (mc' := 0) (ms' := 0) (ci := 7) (c := 1) (As := [_]) dX7_readClause_129 k_761 cm_X7_readSum rfl (by omega) (by decide) kk_1 (Nat.le_of_ble_eq_true rfl) rfl ⟨Nat.le_refl _, Nat.le_refl _⟩ ?_
                  refine s_csumF (by omega) hT0 (by omega) (by omega) (by omega) (by omega) (by omega) (fun xr_88 xa_88 xs_88 c129_85 c129_86 c129_87 c129_88 => ?_)
                  dsimp only [Option.toList, List.cons_append, List.nil_append, Nat.add_zero]
                  refine v_iload_n dX7_readClause_132 rfl ?_
                  refine v_iconst dX7_readClause_133 (c32 rfl) ?_
                  refine v_iaddE dX7_readClause_134 (by omega) ?_
                  refine v_sipush dX7_readClause_135 (c32 rfl) (by decide) ?_
                  refine v_icmp_ge_f (tgt := 153) dX7_readClause_138 (by decide) (by omega) ?_
                  refine v_aload_n dX7_readClause_141 rfl ?_
                  refine v_getr (ci := 7) (j := 4) (ji := 4) (z := 3) dX7_readClause_142 k_136 (by decide) kk_1 (by decide) rfl rfl (fun r => rt_1_4 (r rfl)) (by decide) ?_
                  refine v_iload_n dX7_readClause_145 rfl ?_
                  refine v_iconst dX7_readClause_146 (c32 rfl) ?_
                  refine v_iaddE dX7_readClause_147 (by omega) ?_
                  refine v_aload_n dX7_readClause_148 rfl ?_
                  refine v_getv (ci := 7) (j := 5) (ji := 5) (tg := 0) dX7_readClause_149 k_139 (by decide) kk_1 (by decide) rfl rfl (by decide) (cps_r5) ?_
                  refine v_iastore dX7_readClause_152 (by decide) kk_3 (by omega) (by omega) ?_
                  rw [cps_wR]
                  refine v_vret dX7_readClause_153 rfl (Nat.le_refl _) (Nat.le_refl _) ?_
                  exact hf _ _ _ _ (cl_f hlab c59_9 ((body_c (Or.inr c77_50)).trans (rest_no (pCond_sk.symm.trans c112_57) c118_70))) (by omega) (by omega) (by omega) (by omega) (by omega)
            · refine v_iconst dX7_readClause_80 (c32 rfl) ?_
              refine v_goto (tgt := 85) dX7_readClause_81 (by decide) ?_
              refine v_istore_n_3 dX7_readClause_85 (by decide) rfl ?_
              refine v_iload_n dX7_readClause_86 rfl ?_
              refine v_if_eq_f (tgt := 95) dX7_readClause_87 (by decide) (by decide) ?_
              refine v_aload_n dX7_readClause_90 rfl ?_
              refine v_iconst dX7_readClause_91 (c32 rfl) ?_
              refine v_callv (M' := mX7_readSum) (d' := d - 1) (mc' := 0) (ms' := 0) (ci := 7) (c := 1) (As := [_]) dX7_readClause_92 k_761 cm_X7_readSum rfl (by omega) (by decide) kk_1 (Nat.le_of_ble_eq_true rfl) rfl ⟨Nat.le_refl _, Nat.le_refl _⟩ ?_
              refine hS (by omega) (by omega) (by omega) (by omega) (SL_put (SL_put hSL)) (List.append_nil _).symm (fun xe_94 xr_94 xa_94 xs_94 c92_89 c92_90 c92_91 c92_92 c92_93 c92_94 => ?_) (fun xa_100 xk_100 xr_100 xs_100 c92_95 c92_96 c92_97 c92_98 c92_99 c92_100 => ?_)
              · dsimp only [Option.toList, List.cons_append, List.nil_append, Nat.add_zero]
                refine v_iload_n dX7_readClause_95 rfl ?_
                refine v_if_eq_f (tgt := 109) dX7_readClause_96 (by decide) (by decide) ?_
                refine v_aload_n dX7_readClause_99 rfl ?_
                have hpg := @sk_ge u n xa_94
                have hpl := @sk_le u n xa_94 (by omega)
                refine v_callv (M' := mX7_peek) (d' := d - 1) (mc' := 0) (ms' := 0) (ci := 7) (c := 1) (As := []) dX7_readClause_100 k_654 cm_X7_peek rfl (by omega) (by decide) kk_1 (Nat.le_of_ble_eq_true rfl) rfl ⟨Nat.le_refl _, Nat.le_refl _⟩ ?_
                refine s_cpeek1 (by omega) hT0 (by omega) (by omega) (by omega) ?_
                dsimp only [Option.toList, List.cons_append, List.nil_append, Nat.add_zero]
                refine v_calls (M' := mX7_isComparison) (d' := d - 1) (mc' := 0) (ms' := 0) (As := [_]) dX7_readClause_103 k_789 cm_X7_isComparison (by omega) (Nat.le_of_ble_eq_true rfl) rfl ⟨Nat.le_refl _, Nat.le_refl _⟩ ?_
                refine s_cmpN (by omega) ?_
                dsimp only [Option.toList, List.cons_append, List.nil_append, Nat.add_zero]
                refine v_if_eq_t (tgt := 132) dX7_readClause_106 (by decide) (by decide) ?_
                refine v_iload_n dX7_readClause_132 rfl ?_
                refine v_iconst dX7_readClause_133 (c32 rfl) ?_
                refine v_iaddE dX7_readClause_134 (by omega) ?_
                refine v_sipush dX7_readClause_135 (c32 rfl) (by decide) ?_
                refine v_icmp_ge_f (tgt := 153) dX7_readClause_138 (by decide) (by omega) ?_
                refine v_aload_n dX7_readClause_141 rfl ?_
                refine v_getr (ci := 7) (j := 4) (ji := 4) (z := 3) dX7_readClause_142 k_136 (by decide) kk_1 (by decide) rfl rfl (fun r => rt_1_4 (r rfl)) (by decide) ?_
                refine v_iload_n dX7_readClause_145 rfl ?_
                refine v_iconst dX7_readClause_146 (c32 rfl) ?_
                refine v_iaddE dX7_readClause_147 (by omega) ?_
                refine v_aload_n dX7_readClause_148 rfl ?_
                refine v_getv (ci := 7) (j := 5) (ji := 5) (tg := 0) dX7_readClause_149 k_139 (by decide) kk_1 (by decide) rfl rfl (by decide) (cps_r5) ?_
                refine v_iastore dX7_readClause_152 (by decide) kk_3 (by omega) (by omega) ?_
                rw [cps_wR]
                refine v_vret dX7_readClause_153 rfl (Nat.le_refl _) (Nat.le_refl _) ?_
                exact hf _ _ _ _ (cl_f hlab c59_9 (body_f c68_11 c77_50 (sumL_sk.symm.trans c92_89))) (by omega) (by omega) (by omega) (by omega) (by omega)
              · dsimp only [Option.toList, List.cons_append, List.nil_append, Nat.add_zero]
                refine v_iload_n dX7_readClause_95 rfl ?_
                refine v_if_eq_f (tgt := 109) dX7_readClause_96 (by decide) (by decide) ?_
                refine v_aload_n dX7_readClause_99 rfl ?_
                have hpq := @pk_rng u n xa_100 hur (by omega)
                have hpg := @sk_ge u n xa_100
                have hpl := @sk_le u n xa_100 (by omega)
                refine v_callv (M' := mX7_peek) (d' := d - 1) (mc' := 0) (ms' := 0) (ci := 7) (c := 1) (As := []) dX7_readClause_100 k_654 cm_X7_peek rfl (by omega) (by decide) kk_1 (Nat.le_of_ble_eq_true rfl) rfl ⟨Nat.le_refl _, Nat.le_refl _⟩ ?_
                refine s_cpeek0 (by omega) hT0 (by omega) (by omega) ?_
                dsimp only [Option.toList, List.cons_append, List.nil_append, Nat.add_zero]
                refine v_calls (M' := mX7_isComparison) (d' := d - 1) (mc' := 0) (ms' := 0) (As := [_]) dX7_readClause_103 k_789 cm_X7_isComparison (by omega) (Nat.le_of_ble_eq_true rfl) rfl ⟨Nat.le_refl _, Nat.le_refl _⟩ ?_
                refine s_X7_isComparison (by omega) (fun c103_101 => ?_) (fun c103_102 c103_103 => ?_) (fun c103_104 c103_105 c103_106 => ?_) (fun c103_107 c103_108 c103_109 => ?_)
                · dsimp only [Option.toList, List.cons_append, List.nil_append, Nat.add_zero]
                  refine v_if_eq_f (tgt := 132) dX7_readClause_106 (by decide) (by decide) ?_
                  refine v_aload_n dX7_readClause_109 rfl ?_
                  refine v_iconst dX7_readClause_110 (c32 rfl) ?_
                  refine v_iload_n dX7_readClause_111 rfl ?_
                  refine v_callv (M' := mX7_readCondition) (d' := d - 1) (mc' := 0) (ms' := 0) (ci := 7) (c := 1) (As := [_, _]) dX7_readClause_112 k_792 cm_X7_readCondition rfl (by omega) (by decide) kk_1 (Nat.le_of_ble_eq_true rfl) rfl ⟨Nat.le_refl _, Nat.le_refl _⟩ ?_
                  refine (c_condS hT0 (D := 8) (dp := 0) (by decide) (by decide)) (by omega) (by omega) (by omega) (by omega) c92_100 rfl (fun xe_115 xr_115 xa_115 xs_115 c112_110 c112_111 c112_112 c112_113 c112_114 c112_115 => ?_) (fun xa_121 xk_121 xr_121 xs_121 c112_116 c112_117 c112_118 c112_119 c112_120 c112_121 => ?_)
                  · dsimp only [Option.toList, List.cons_append, List.nil_append, Nat.add_zero]
                    refine v_aload_n dX7_readClause_115 rfl ?_
                    refine v_bipush dX7_readClause_116 (c32 rfl) (by decide) ?_
                    have hpg := @sk_ge u n xa_115
                    have hpl := @sk_le u n xa_115 (by omega)
                    refine v_callv (M' := mX7_need) (d' := d - 1) (mc' := 0) (ms' := 0) (ci := 7) (c := 1) (As := [_]) dX7_readClause_118 k_753 cm_X7_need rfl (by omega) (by decide) kk_1 (Nat.le_of_ble_eq_true rfl) rfl ⟨Nat.le_refl _, Nat.le_refl _⟩ ?_
                    refine s_cneed1 (by omega) hT0 (by omega) (by omega) (by omega) (by first | decide | omega) ?_
                    dsimp only [Option.toList, List.cons_append, List.nil_append, Nat.add_zero]
                    refine v_aload_n dX7_readClause_121 rfl ?_
                    refine v_bipush dX7_readClause_122 (c32 rfl) (by decide) ?_
                    refine v_callv (M' := mX7_put) (d' := d - 1) (mc' := 0) (ms' := 0) (ci := 7) (c := 1) (As := [_]) dX7_readClause_124 k_749 cm_X7_put rfl (by omega) (by decide) kk_1 (Nat.le_of_ble_eq_true rfl) rfl ⟨Nat.le_refl _, Nat.le_refl _⟩ ?_
                    refine s_cputF (by omega) (by omega) (by omega) (fun xr_123 xs_123 c124_122 c124_123 => ?_)
                    dsimp only [Option.toList, List.cons_append, List.nil_append, Nat.add_zero]
                    refine v_aload_n dX7_readClause_127 rfl ?_
                    refine v_iconst dX7_readClause_128 (c32 rfl) ?_
                    refine v_callv (M' := mX7_readSum) (d' := d - 1) (mc' := 0) (ms' := 0) (ci := 7) (c := 1) (As := [_]) dX7_readClause_129 k_761 cm_X7_readSum rfl (by omega) (by decide) kk_1 (Nat.le_of_ble_eq_true rfl) rfl ⟨Nat.le_refl _, Nat.le_refl _⟩ ?_
                    refine s_csumF (by omega) hT0 (by omega) (by omega) (by omega) (by omega) (by omega) (fun xr_127 xa_127 xs_127 c129_124 c129_125 c129_126 c129_127 => ?_)
                    dsimp only [Option.toList, List.cons_append, List.nil_append, Nat.add_zero]
                    refine v_iload_n dX7_readClause_132 rfl ?_
                    refine v_iconst dX7_readClause_133 (c32 rfl) ?_
                    refine v_iaddE dX7_readClause_134 (by omega) ?_
                    refine v_sipush dX7_readClause_135 (c32 rfl) (by decide) ?_
                    refine v_icmp_ge_f (tgt := 153) dX7_readClause_138 (by decide) (by omega) ?_
                    refine v_aload_n dX7_readClause_141 rfl ?_
                    refine v_getr (ci := 7) (j := 4) (ji := 4) (z := 3) dX7_readClause_142 k_136 (by decide) kk_1 (by decide) rfl rfl (fun r => rt_1_4 (r rfl)) (by decide) ?_
                    refine v_iload_n dX7_readClause_145 rfl ?_
                    refine v_iconst dX7_readClause_146 (c32 rfl) ?_
                    refine v_iaddE dX7_readClause_147 (by omega) ?_
                    refine v_aload_n dX7_readClause_148 rfl ?_
                    refine v_getv (ci := 7) (j := 5) (ji := 5) (tg := 0) dX7_readClause_149 k_139 (by decide) kk_1 (by decide) rfl rfl (by decide) (cps_r5) ?_
                    refine v_iastore dX7_readClause_152 (by decide) kk_3 (by omega) (by omega) ?_
                    rw [cps_wR]
                    refine v_vret dX7_readClause_153 rfl (Nat.le_refl _) (Nat.le_refl _) ?_
                    exact hf _ _ _ _ (cl_f hlab c59_9 ((body_q c68_11 c77_50 (sumL_sk.symm.trans c92_95) (by rw [c103_101]; rfl)).trans (rest_l (pCondS_sk.symm.trans c112_110)))) (by omega) (by omega) (by omega) (by omega) (by omega)
                  · dsimp only [Option.toList, List.cons_append, List.nil_append, Nat.add_zero]
                    refine v_aload_n dX7_readClause_115 rfl ?_
                    refine v_bipush dX7_readClause_116 (c32 rfl) (by decide) ?_
                    have hpq := @pk_rng u n xa_121 hur (by omega)
                    have hpg := @sk_ge u n xa_121
                    have hpl := @sk_le u n xa_121 (by omega)
                    refine v_callv (M' := mX7_need) (d' := d - 1) (mc' := 0) (ms' := 0) (ci := 7) (c := 1) (As := [_]) dX7_readClause_118 k_753 cm_X7_need rfl (by omega) (by decide) kk_1 (Nat.le_of_ble_eq_true rfl) rfl ⟨Nat.le_refl _, Nat.le_refl _⟩ ?_
                    refine s_cneed0 (by omega) hT0 (by omega) (by omega) (fun c118_128 => ?_) (fun c118_129 => ?_)
                    · dsimp only [Option.toList, List.cons_append, List.nil_append, Nat.add_zero]
                      refine v_aload_n dX7_readClause_121 rfl ?_
                      refine v_bipush dX7_readClause_122 (c32 rfl) (by decide) ?_
                      refine v_callv (M' := mX7_put) (d' := d - 1) (mc' := 0) (ms' := 0) (ci := 7) (c := 1) (As := [_]) dX7_readClause_124 k_749 cm_X7_put rfl (by omega) (by decide) kk_1 (Nat.le_of_ble_eq_true rfl) rfl ⟨Nat.le_refl _, Nat.le_refl _⟩ ?_
                      refine s_cput (by omega) (by omega) (by omega) ?_
                      dsimp only [Option.toList, List.cons_append, List.nil_append, Nat.add_zero]
                      refine v_aload_n dX7_readClause_127 rfl ?_
                      refine v_iconst dX7_readClause_128 (c32 rfl) ?_
                      refine v_callv (M' := mX7_readSum) (d' := d - 1) (mc' := 0) (ms' := 0) (ci := 7) (c := 1) (As := [_]) dX7_readClause_129 k_761 cm_X7_readSum rfl (by omega) (by decide) kk_1 (Nat.le_of_ble_eq_true rfl) rfl ⟨Nat.le_refl _, Nat.le_refl _⟩ ?_
                      refine hS (by omega) (by omega) (by omega) (by omega) (SL_put c112_121) (List.append_nil _).symm (fun xe_135 xr_135 xa_135 xs_135 c129_130 c129_131 c129_132 c129_133 c129_134 c129_135 => ?_) (fun xa_141 xk_141 xr_141 xs_141 c129_136 c129_137 c129_138 c129_139 c129_140 c129_141 => ?_)
                      · dsimp only [Option.toList, List.cons_append, List.nil_append, Nat.add_zero]
                        refine v_iload_n dX7_readClause_132 rfl ?_
                        refine v_iconst dX7_readClause_133 (c32 rfl) ?_
                        refine v_iaddE dX7_readClause_134 (by omega) ?_
                        refine v_sipush dX7_readClause_135 (c32 rfl) (by decide) ?_
                        refine v_icmp_ge_f (tgt := 153) dX7_readClause_138 (by decide) (by omega) ?_
                        refine v_aload_n dX7_readClause_141 rfl ?_
                        refine v_getr (ci := 7) (j := 4) (ji := 4) (z := 3) dX7_readClause_142 k_136 (by decide) kk_1 (by decide) rfl rfl (fun r => rt_1_4 (r rfl)) (by decide) ?_
                        refine v_iload_n dX7_readClause_145 rfl ?_
                        refine v_iconst dX7_readClause_146 (c32 rfl) ?_
                        refine v_iaddE dX7_readClause_147 (by omega) ?_
                        refine v_aload_n dX7_readClause_148 rfl ?_
                        refine v_getv (ci := 7) (j := 5) (ji := 5) (tg := 0) dX7_readClause_149 k_139 (by decide) kk_1 (by decide) rfl rfl (by decide) (cps_r5) ?_
                        refine v_iastore dX7_readClause_152 (by decide) kk_3 (by omega) (by omega) ?_
                        rw [cps_wR]
                        refine v_vret dX7_readClause_153 rfl (Nat.le_refl _) (Nat.le_refl _) ?_
                        exact hf _ _ _ _ (cl_f hlab c59_9 ((body_q c68_11 c77_50 (sumL_sk.symm.trans c92_95) (by rw [c103_101]; rfl)).trans (rest_f (pCondS_sk.symm.trans c112_116) c118_128 c129_130))) (by omega) (by omega) (by omega) (by omega) (by omega)
                      · dsimp only [Option.toList, List.cons_append, List.nil_append, Nat.add_zero]
                        refine v_iload_n dX7_readClause_132 rfl ?_
                        refine v_iconst dX7_readClause_133 (c32 rfl) ?_
                        refine v_iaddE dX7_readClause_134 (by omega) ?_
                        refine v_sipush dX7_readClause_135 (c32 rfl) (by decide) ?_
                        refine v_icmp_ge_f (tgt := 153) dX7_readClause_138 (by decide) (by omega) ?_
                        refine v_aload_n dX7_readClause_141 rfl ?_
                        refine v_getr (ci := 7) (j := 4) (ji := 4) (z := 3) dX7_readClause_142 k_136 (by decide) kk_1 (by decide) rfl rfl (fun r => rt_1_4 (r rfl)) (by decide) ?_
                        refine v_iload_n dX7_readClause_145 rfl ?_
                        refine v_iconst dX7_readClause_146 (c32 rfl) ?_
                        refine v_iaddE dX7_readClause_147 (by omega) ?_
                        refine v_aload_n dX7_readClause_148 rfl ?_
                        refine v_getv (ci := 7) (j := 5) (ji := 5) (tg := 0) dX7_readClause_149 k_139 (by decide) kk_1 (by decide) rfl rfl (by decide) (cps_r5) ?_
                        refine v_iastore dX7_readClause_152 (by decide) kk_3 (by omega) (by omega) ?_
                        rw [cps_wR]
                        refine v_vret dX7_readClause_153 rfl (Nat.le_refl _) (Nat.le_refl _) ?_
                        exact hsu _ _ _ _ _ (cl_s hlab c59_9 ((body_q c68_11 c77_50 (sumL_sk.symm.trans c92_95) (by rw [c103_101]; rfl)).trans (rest_s (pCondS_sk.symm.trans c112_116) c118_128 c129_136))) (by omega) (by omega) (by omega) (by omega) (SL_patch hSL.1 (SL_as c129_141 (by simp only [List.append_assoc, List.cons_append, List.nil_append, List.singleton_append])))
                    · dsimp only [Option.toList, List.cons_append, List.nil_append, Nat.add_zero]
                      refine v_aload_n dX7_readClause_121 rfl ?_
                      refine v_bipush dX7_readClause_122 (c32 rfl) (by decide) ?_
                      refine v_callv (M' := mX7_put) (d' := d - 1) (mc' := 0) (ms' := 0) (ci := 7) (c := 1) (As := [_]) dX7_readClause_124 k_749 cm_X7_put rfl (by omega) (by decide) kk_1 (Nat.le_of_ble_eq_true rfl) rfl ⟨Nat.le_refl _, Nat.le_refl _⟩ ?_
                      refine s_cputF (by omega) (by omega) (by omega) (fun xr_143 xs_143 c124_142 c124_143 => ?_)
                      dsimp only [Option.toList, List.cons_append, List.nil_append, Nat.add_zero]
                      refine v_aload_n dX7_readClause_127 rfl ?_
                      refine v_iconst dX7_readClause_128 (c32 rfl) ?_
                      refine v_callv (M' := mX7_readSum) (d' := d - 1) (mc' := 0) (ms' := 0) (ci := 7) (c := 1) (As := [_]) dX7_readClause_129 k_761 cm_X7_readSum rfl (by omega) (by decide) kk_1 (Nat.le_of_ble_eq_true rfl) rfl ⟨Nat.le_refl _, Nat.le_refl _⟩ ?_
                      refine s_csumF (by omega) hT0 (by omega) (by omega) (by omega) (by omega) (by omega) (fun xr_147 xa_147 xs_147 c129_144 c129_145 c129_146 c129_147 => ?_)
                      dsimp only [Option.toList, List.cons_append, List.nil_append, Nat.add_zero]
                      refine v_iload_n dX7_readClause_132 rfl ?_
                      refine v_iconst dX7_readClause_133 (c32 rfl) ?_
                      refine v_iaddE dX7_readClause_134 (by omega) ?_
                      refine v_sipush dX7_readClause_135 (c32 rfl) (by decide) ?_
                      refine v_icmp_ge_f (tgt := 153) dX7_readClause_138 (by decide) (by omega) ?_
                      refine v_aload_n dX7_readClause_141 rfl ?_
                      refine v_getr (ci := 7) (j := 4) (ji := 4) (z := 3) dX7_readClause_142 k_136 (by decide) kk_1 (by decide) rfl rfl (fun r => rt_1_4 (r rfl)) (by decide) ?_
                      refine v_iload_n dX7_readClause_145 rfl ?_
                      refine v_iconst dX7_readClause_146 (c32 rfl) ?_
                      refine v_iaddE dX7_readClause_147 (by omega) ?_
                      refine v_aload_n dX7_readClause_148 rfl ?_
                      refine v_getv (ci := 7) (j := 5) (ji := 5) (tg := 0) dX7_readClause_149 k_139 (by decide) kk_1 (by decide) rfl rfl (by decide) (cps_r5) ?_
                      refine v_iastore dX7_readClause_152 (by decide) kk_3 (by omega) (by omega) ?_
                      rw [cps_wR]
                      refine v_vret dX7_readClause_153 rfl (Nat.le_refl _) (Nat.le_refl _) ?_
                      exact hf _ _ _ _ (cl_f hlab c59_9 ((body_q c68_11 c77_50 (sumL_sk.symm.trans c92_95) (by rw [c103_101]; rfl)).trans (rest_no (pCondS_sk.symm.trans c112_116) c118_129))) (by omega) (by omega) (by omega) (by omega) (by omega)
                · dsimp only [Option.toList, List.cons_append, List.nil_append, Nat.add_zero]
                  refine v_if_eq_f (tgt := 132) dX7_readClause_106 (by decide) (by decide) ?_
                  refine v_aload_n dX7_readClause_109 rfl ?_
                  refine v_iconst dX7_readClause_110 (c32 rfl) ?_
                  refine v_iload_n dX7_readClause_111 rfl ?_
                  refine v_callv (M' := mX7_readCondition) (d' := d - 1) (mc' := 0) (ms' := 0) (ci := 7) (c := 1) (As := [_, _]) dX7_readClause_112 k_792 cm_X7_readCondition rfl (by omega) (by decide) kk_1 (Nat.le_of_ble_eq_true rfl) rfl ⟨Nat.le_refl _, Nat.le_refl _⟩ ?_
                  refine (c_condS hT0 (D := 8) (dp := 0) (by decide) (by decide)) (by omega) (by omega) (by omega) (by omega) c92_100 rfl (fun xe_153 xr_153 xa_153 xs_153 c112_148 c112_149 c112_150 c112_151 c112_152 c112_153 => ?_) (fun xa_159 xk_159 xr_159 xs_159 c112_154 c112_155 c112_156 c112_157 c112_158 c112_159 => ?_)
                  · dsimp only [Option.toList, List.cons_append, List.nil_append, Nat.add_zero]
                    refine v_aload_n dX7_readClause_115 rfl ?_
                    refine v_bipush dX7_readClause_116 (c32 rfl) (by decide) ?_
                    have hpg := @sk_ge u n xa_153
                    have hpl := @sk_le u n xa_153 (by omega)
                    refine v_callv (M' := mX7_need) (d' := d - 1) (mc' := 0) (ms' := 0) (ci := 7) (c := 1) (As := [_]) dX7_readClause_118 k_753 cm_X7_need rfl (by omega) (by decide) kk_1 (Nat.le_of_ble_eq_true rfl) rfl ⟨Nat.le_refl _, Nat.le_refl _⟩ ?_
                    refine s_cneed1 (by omega) hT0 (by omega) (by omega) (by omega) (by first | decide | omega) ?_
                    dsimp only [Option.toList, List.cons_append, List.nil_append, Nat.add_zero]
                    refine v_aload_n dX7_readClause_121 rfl ?_
                    refine v_bipush dX7_readClause_122 (c32 rfl) (by decide) ?_
                    refine v_callv (M' := mX7_put) (d' := d - 1) (mc' := 0) (ms' := 0) (ci := 7) (c := 1) (As := [_]) dX7_readClause_124 k_749 cm_X7_put rfl (by omega) (by decide) kk_1 (Nat.le_of_ble_eq_true rfl) rfl ⟨Nat.le_refl _, Nat.le_refl _⟩ ?_
                    refine s_cputF (by omega) (by omega) (by omega) (fun xr_161 xs_161 c124_160 c124_161 => ?_)
                    dsimp only [Option.toList, List.cons_append, List.nil_append, Nat.add_zero]
                    refine v_aload_n dX7_readClause_127 rfl ?_
                    refine v_iconst dX7_readClause_128 (c32 rfl) ?_
                    refine v_callv (M' := mX7_readSum) (d' := d - 1) (mc' := 0) (ms' := 0) (ci := 7) (c := 1) (As := [_]) dX7_readClause_129 k_761 cm_X7_readSum rfl (by omega) (by decide) kk_1 (Nat.le_of_ble_eq_true rfl) rfl ⟨Nat.le_refl _, Nat.le_refl _⟩ ?_
                    refine s_csumF (by omega) hT0 (by omega) (by omega) (by omega) (by omega) (by omega) (fun xr_165 xa_165 xs_165 c129_162 c129_163 c129_164 c129_165 => ?_)
                    dsimp only [Option.toList, List.cons_append, List.nil_append, Nat.add_zero]
                    refine v_iload_n dX7_readClause_132 rfl ?_
                    refine v_iconst dX7_readClause_133 (c32 rfl) ?_
                    refine v_iaddE dX7_readClause_134 (by omega) ?_
                    refine v_sipush dX7_readClause_135 (c32 rfl) (by decide) ?_
                    refine v_icmp_ge_f (tgt := 153) dX7_readClause_138 (by decide) (by omega) ?_
                    refine v_aload_n dX7_readClause_141 rfl ?_
                    refine v_getr (ci := 7) (j := 4) (ji := 4) (z := 3) dX7_readClause_142 k_136 (by decide) kk_1 (by decide) rfl rfl (fun r => rt_1_4 (r rfl)) (by decide) ?_
                    refine v_iload_n dX7_readClause_145 rfl ?_
                    refine v_iconst dX7_readClause_146 (c32 rfl) ?_
                    refine v_iaddE dX7_readClause_147 (by omega) ?_
                    refine v_aload_n dX7_readClause_148 rfl ?_
                    refine v_getv (ci := 7) (j := 5) (ji := 5) (tg := 0) dX7_readClause_149 k_139 (by decide) kk_1 (by decide) rfl rfl (by decide) (cps_r5) ?_
                    refine v_iastore dX7_readClause_152 (by decide) kk_3 (by omega) (by omega) ?_
                    rw [cps_wR]
                    refine v_vret dX7_readClause_153 rfl (Nat.le_refl _) (Nat.le_refl _) ?_
                    exact hf _ _ _ _ (cl_f hlab c59_9 ((body_q c68_11 c77_50 (sumL_sk.symm.trans c92_95) (by rw [c103_103]; rfl)).trans (rest_l (pCondS_sk.symm.trans c112_148)))) (by omega) (by omega) (by omega) (by omega) (by omega)
                  · dsimp only [Option.toList, List.cons_append, List.nil_append, Nat.add_zero]
                    refine v_aload_n dX7_readClause_115 rfl ?_
                    refine v_bipush dX7_readClause_116 (c32 rfl) (by decide) ?_
                    have hpq := @pk_rng u n xa_159 hur (by omega)
                    have hpg := @sk_ge u n xa_159
                    have hpl := @sk_le u n xa_159 (by omega)
                    refine v_callv (M' := mX7_need) (d' := d - 1) (mc' := 0) (ms' := 0) (ci := 7) (c := 1) (As := [_]) dX7_readClause_118 k_753 cm_X7_need rfl (by omega) (by decide) kk_1 (Nat.le_of_ble_eq_true rfl) rfl ⟨Nat.le_refl _, Nat.le_refl _⟩ ?_
                    refine s_cneed0 (by omega) hT0 (by omega) (by omega) (fun c118_166 => ?_) (fun c118_167 => ?_)
                    · dsimp only [Option.toList, List.cons_append, List.nil_append, Nat.add_zero]
                      refine v_aload_n dX7_readClause_121 rfl ?_
                      refine v_bipush dX7_readClause_122 (c32 rfl) (by decide) ?_
                      refine v_callv (M' := mX7_put) (d' := d - 1) (mc' := 0) (ms' := 0) (ci := 7) (c := 1) (As := [_]) dX7_readClause_124 k_749 cm_X7_put rfl (by omega) (by decide) kk_1 (Nat.le_of_ble_eq_true rfl) rfl ⟨Nat.le_refl _, Nat.le_refl _⟩ ?_
                      refine s_cput (by omega) (by omega) (by omega) ?_
                      dsimp only [Option.toList, List.cons_append, List.nil_append, Nat.add_zero]
                      refine v_aload_n dX7_readClause_127 rfl ?_
                      refine v_iconst dX7_readClause_128 (c32 rfl) ?_
                      refine v_callv (M' := mX7_readSum) (d' := d - 1) (mc' := 0) (ms' := 0) (ci := 7) (c := 1) (As := [_]) dX7_readClause_129 k_761 cm_X7_readSum rfl (by omega) (by decide) kk_1 (Nat.le_of_ble_eq_true rfl) rfl ⟨Nat.le_refl _, Nat.le_refl _⟩ ?_
                      refine hS (by omega) (by omega) (by omega) (by omega) (SL_put c112_159) (List.append_nil _).symm (fun xe_173 xr_173 xa_173 xs_173 c129_168 c129_169 c129_170 c129_171 c129_172 c129_173 => ?_) (fun xa_179 xk_179 xr_179 xs_179 c129_174 c129_175 c129_176 c129_177 c129_178 c129_179 => ?_)
                      · dsimp only [Option.toList, List.cons_append, List.nil_append, Nat.add_zero]
                        refine v_iload_n dX7_readClause_132 rfl ?_
                        refine v_iconst dX7_readClause_133 (c32 rfl) ?_
                        refine v_iaddE dX7_readClause_134 (by omega) ?_
                        refine v_sipush dX7_readClause_135 (c32 rfl) (by decide) ?_
                        refine v_icmp_ge_f (tgt := 153) dX7_readClause_138 (by decide) (by omega) ?_
                        refine v_aload_n dX7_readClause_141 rfl ?_
                        refine v_getr (ci := 7) (j := 4) (ji := 4) (z := 3) dX7_readClause_142 k_136 (by decide) kk_1 (by decide) rfl rfl (fun r => rt_1_4 (r rfl)) (by decide) ?_
                        refine v_iload_n dX7_readClause_145 rfl ?_
                        refine v_iconst dX7_readClause_146 (c32 rfl) ?_
                        refine v_iaddE dX7_readClause_147 (by omega) ?_
                        refine v_aload_n dX7_readClause_148 rfl ?_
                        refine v_getv (ci := 7) (j := 5) (ji := 5) (tg := 0) dX7_readClause_149 k_139 (by decide) kk_1 (by decide) rfl rfl (by decide) (cps_r5) ?_
                        refine v_iastore dX7_readClause_152 (by decide) kk_3 (by omega) (by omega) ?_
                        rw [cps_wR]
                        refine v_vret dX7_readClause_153 rfl (Nat.le_refl _) (Nat.le_refl _) ?_
                        exact hf _ _ _ _ (cl_f hlab c59_9 ((body_q c68_11 c77_50 (sumL_sk.symm.trans c92_95) (by rw [c103_103]; rfl)).trans (rest_f (pCondS_sk.symm.trans c112_154) c118_166 c129_168))) (by omega) (by omega) (by omega) (by omega) (by omega)
                      · dsimp only [Option.toList, List.cons_append, List.nil_append, Nat.add_zero]
                        refine v_iload_n dX7_readClause_132 rfl ?_
                        refine v_iconst dX7_readClause_133 (c32 rfl) ?_
                        refine v_iaddE dX7_readClause_134 (by omega) ?_
                        refine v_sipush dX7_readClause_135 (c32 rfl) (by decide) ?_
                        refine v_icmp_ge_f (tgt := 153) dX7_readClause_138 (by decide) (by omega) ?_
                        refine v_aload_n dX7_readClause_141 rfl ?_
                        refine v_getr (ci := 7) (j := 4) (ji := 4) (z := 3) dX7_readClause_142 k_136 (by decide) kk_1 (by decide) rfl rfl (fun r => rt_1_4 (r rfl)) (by decide) ?_
                        refine v_iload_n dX7_readClause_145 rfl ?_
                        refine v_iconst dX7_readClause_146 (c32 rfl) ?_
                        refine v_iaddE dX7_readClause_147 (by omega) ?_
                        refine v_aload_n dX7_readClause_148 rfl ?_
                        refine v_getv (ci := 7) (j := 5) (ji := 5) (tg := 0) dX7_readClause_149 k_139 (by decide) kk_1 (by decide) rfl rfl (by decide) (cps_r5) ?_
                        refine v_iastore dX7_readClause_152 (by decide) kk_3 (by omega) (by omega) ?_
                        rw [cps_wR]
                        refine v_vret dX7_readClause_153 rfl (Nat.le_refl _) (Nat.le_refl _) ?_
                        exact hsu _ _ _ _ _ (cl_s hlab c59_9 ((body_q c68_11 c77_50 (sumL_sk.symm.trans c92_95) (by rw [c103_103]; rfl)).trans (rest_s (pCondS_sk.symm.trans c112_154) c118_166 c129_174))) (by omega) (by omega) (by omega) (by omega) (SL_patch hSL.1 (SL_as c129_179 (by simp only [List.append_assoc, List.cons_append, List.nil_append, List.singleton_append])))
                    · dsimp only [Option.toList, List.cons_append, List.nil_append, Nat.add_zero]
                      refine v_aload_n dX7_readClause_121 rfl ?_
                      refine v_bipush dX7_readClause_122 (c32 rfl) (by decide) ?_
                      refine v_callv (M' := mX7_put) (d' := d - 1) (mc' := 0) (ms' := 0) (ci := 7) (c := 1) (As := [_]) dX7_readClause_124 k_749 cm_X7_put rfl (by omega) (by decide) kk_1 (Nat.le_of_ble_eq_true rfl) rfl ⟨Nat.le_refl _, Nat.le_refl _⟩ ?_
                      refine s_cputF (by omega) (by omega) (by omega) (fun xr_181 xs_181 c124_180 c124_181 => ?_)
                      dsimp only [Option.toList, List.cons_append, List.nil_append, Nat.add_zero]
                      refine v_aload_n dX7_readClause_127 rfl ?_
                      refine v_iconst dX7_readClause_128 (c32 rfl) ?_
                      refine v_callv (M' := mX7_readSum) (d' := d - 1) (mc' := 0) (ms' := 0) (ci := 7) (c := 1) (As := [_]) dX7_readClause_129 k_761 cm_X7_readSum rfl (by omega) (by decide) kk_1 (Nat.le_of_ble_eq_true rfl) rfl ⟨Nat.le_refl _, Nat.le_refl _⟩ ?_
                      refine s_csumF (by omega) hT0 (by omega) (by omega) (by omega) (by omega) (by omega) (fun xr_185 xa_185 xs_185 c129_182 c129_183 c129_184 c129_185 => ?_)
                      dsimp only [Option.toList, List.cons_append, List.nil_append, Nat.add_zero]
                      refine v_iload_n dX7_readClause_132 rfl ?_
                      refine v_iconst dX7_readClause_133 (c32 rfl) ?_
                      refine v_iaddE dX7_readClause_134 (by omega) ?_
                      refine v_sipush dX7_readClause_135 (c32 rfl) (by decide) ?_
                      refine v_icmp_ge_f (tgt := 153) dX7_readClause_138 (by decide) (by omega) ?_
                      refine v_aload_n dX7_readClause_141 rfl ?_
                      refine v_getr (ci := 7) (j := 4) (ji := 4) (z := 3) dX7_readClause_142 k_136 (by decide) kk_1 (by decide) rfl rfl (fun r => rt_1_4 (r rfl)) (by decide) ?_
                      refine v_iload_n dX7_readClause_145 rfl ?_
                      refine v_iconst dX7_readClause_146 (c32 rfl) ?_
                      refine v_iaddE dX7_readClause_147 (by omega) ?_
                      refine v_aload_n dX7_readClause_148 rfl ?_
                      refine v_getv (ci := 7) (j := 5) (ji := 5) (tg := 0) dX7_readClause_149 k_139 (by decide) kk_1 (by decide) rfl rfl (by decide) (cps_r5) ?_
                      refine v_iastore dX7_readClause_152 (by decide) kk_3 (by omega) (by omega) ?_
                      rw [cps_wR]
                      refine v_vret dX7_readClause_153 rfl (Nat.le_refl _) (Nat.le_refl _) ?_
                      exact hf _ _ _ _ (cl_f hlab c59_9 ((body_q c68_11 c77_50 (sumL_sk.symm.trans c92_95) (by rw [c103_103]; rfl)).trans (rest_no (pCondS_sk.symm.trans c112_154) c118_167))) (by omega) (by omega) (by omega) (by omega) (by omega)
                · dsimp only [Option.toList, List.cons_append, List.nil_append, Nat.add_zero]
                  refine v_if_eq_t (tgt := 132) dX7_readClause_106 (by decide) (by decide) ?_
                  refine v_iload_n dX7_readClause_132 rfl ?_
                  refine v_iconst dX7_readClause_133 (c32 rfl) ?_
                  refine v_iaddE dX7_readClause_134 (by omega) ?_
                  refine v_sipush dX7_readClause_135 (c32 rfl) (by decide) ?_
                  refine v_icmp_ge_f (tgt := 153) dX7_readClause_138 (by decide) (by omega) ?_
                  refine v_aload_n dX7_readClause_141 rfl ?_
                  refine v_getr (ci := 7) (j := 4) (ji := 4) (z := 3) dX7_readClause_142 k_136 (by decide) kk_1 (by decide) rfl rfl (fun r => rt_1_4 (r rfl)) (by decide) ?_
                  refine v_iload_n dX7_readClause_145 rfl ?_
                  refine v_iconst dX7_readClause_146 (c32 rfl) ?_
                  refine v_iaddE dX7_readClause_147 (by omega) ?_
                  refine v_aload_n dX7_readClause_148 rfl ?_
                  refine v_getv (ci := 7) (j := 5) (ji := 5) (tg := 0) dX7_readClause_149 k_139 (by decide) kk_1 (by decide) rfl rfl (by decide) (cps_r5) ?_
                  refine v_iastore dX7_readClause_152 (by decide) kk_3 (by omega) (by omega) ?_
                  rw [cps_wR]
                  refine v_vret dX7_readClause_153 rfl (Nat.le_refl _) (Nat.le_refl _) ?_
                  exact hsu _ _ _ _ _ (cl_s hlab c59_9 (body_n c68_11 c77_50 (sumL_sk.symm.trans c92_95) (oCmp_f c103_104 c103_105 c103_106))) (by omega) (by omega) (by omega) (by omega) (SL_patch hSL.1 (SL_as c92_100 (by simp only [List.append_assoc, List.cons_append, List.nil_append, List.singleton_append])))
                · dsimp only [Option.toList, List.cons_append, List.nil_append, Nat.add_zero]
                  refine v_if_eq_f (tgt := 132) dX7_readClause_106 (by decide) (by decide) ?_
                  refine v_aload_n dX7_readClause_109 rfl ?_
                  refine v_iconst dX7_readClause_110 (c32 rfl) ?_
                  refine v_iload_n dX7_readClause_111 rfl ?_
                  refine v_callv (M' := mX7_readCondition) (d' := d - 1) (mc' := 0) (ms' := 0) (ci := 7) (c := 1) (As := [_, _]) dX7_readClause_112 k_792 cm_X7_readCondition rfl (by omega) (by decide) kk_1 (Nat.le_of_ble_eq_true rfl) rfl ⟨Nat.le_refl _, Nat.le_refl _⟩ ?_
                  refine (c_condS hT0 (D := 8) (dp := 0) (by decide) (by decide)) (by omega) (by omega) (by omega) (by omega) c92_100 rfl (fun xe_191 xr_191 xa_191 xs_191 c112_186 c112_187 c112_188 c112_189 c112_190 c112_191 => ?_) (fun xa_197 xk_197 xr_197 xs_197 c112_192 c112_193 c112_194 c112_195 c112_196 c112_197 => ?_)
                  · dsimp only [Option.toList, List.cons_append, List.nil_append, Nat.add_zero]
                    refine v_aload_n dX7_readClause_115 rfl ?_
                    refine v_bipush dX7_readClause_116 (c32 rfl) (by decide) ?_
                    have hpg := @sk_ge u n xa_191
                    have hpl := @sk_le u n xa_191 (by omega)
                    refine v_callv (M' := mX7_need) (d' := d - 1) (mc' := 0) (ms' := 0) (ci := 7) (c := 1) (As := [_]) dX7_readClause_118 k_753 cm_X7_need rfl (by omega) (by decide) kk_1 (Nat.le_of_ble_eq_true rfl) rfl ⟨Nat.le_refl _, Nat.le_refl _⟩ ?_
                    refine s_cneed1 (by omega) hT0 (by omega) (by omega) (by omega) (by first | decide | omega) ?_
                    dsimp only [Option.toList, List.cons_append, List.nil_append, Nat.add_zero]
                    refine v_aload_n dX7_readClause_121 rfl ?_
                    refine v_bipush dX7_readClause_122 (c32 rfl) (by decide) ?_
                    refine v_callv (M' := mX7_put) (d' := d - 1) (mc' := 0) (ms' := 0) (ci := 7) (c := 1) (As := [_]) dX7_readClause_124 k_749 cm_X7_put rfl (by omega) (by decide) kk_1 (Nat.le_of_ble_eq_true rfl) rfl ⟨Nat.le_refl _, Nat.le_refl _⟩ ?_
                    refine s_cputF (by omega) (by omega) (by omega) (fun xr_199 xs_199 c124_198 c124_199 => ?_)
                    dsimp only [Option.toList, List.cons_append, List.nil_append, Nat.add_zero]
                    refine v_aload_n dX7_readClause_127 rfl ?_
                    refine v_iconst dX7_readClause_128 (c32 rfl) ?_
                    refine v_callv (M' := mX7_readSum) (d' := d - 1) (mc' := 0) (ms' := 0) (ci := 7) (c := 1) (As := [_]) dX7_readClause_129 k_761 cm_X7_readSum rfl (by omega) (by decide) kk_1 (Nat.le_of_ble_eq_true rfl) rfl ⟨Nat.le_refl _, Nat.le_refl _⟩ ?_
                    refine s_csumF (by omega) hT0 (by omega) (by omega) (by omega) (by omega) (by omega) (fun xr_203 xa_203 xs_203 c129_200 c129_201 c129_202 c129_203 => ?_)
                    dsimp only [Option.toList, List.cons_append, List.nil_append, Nat.add_zero]
                    refine v_iload_n dX7_readClause_132 rfl ?_
                    refine v_iconst dX7_readClause_133 (c32 rfl) ?_
                    refine v_iaddE dX7_readClause_134 (by omega) ?_
                    refine v_sipush dX7_readClause_135 (c32 rfl) (by decide) ?_
                    refine v_icmp_ge_f (tgt := 153) dX7_readClause_138 (by decide) (by omega) ?_
                    refine v_aload_n dX7_readClause_141 rfl ?_
                    refine v_getr (ci := 7) (j := 4) (ji := 4) (z := 3) dX7_readClause_142 k_136 (by decide) kk_1 (by decide) rfl rfl (fun r => rt_1_4 (r rfl)) (by decide) ?_
                    refine v_iload_n dX7_readClause_145 rfl ?_
                    refine v_iconst dX7_readClause_146 (c32 rfl) ?_
                    refine v_iaddE dX7_readClause_147 (by omega) ?_
                    refine v_aload_n dX7_readClause_148 rfl ?_
                    refine v_getv (ci := 7) (j := 5) (ji := 5) (tg := 0) dX7_readClause_149 k_139 (by decide) kk_1 (by decide) rfl rfl (by decide) (cps_r5) ?_
                    refine v_iastore dX7_readClause_152 (by decide) kk_3 (by omega) (by omega) ?_
                    rw [cps_wR]
                    refine v_vret dX7_readClause_153 rfl (Nat.le_refl _) (Nat.le_refl _) ?_
                    exact hf _ _ _ _ (cl_f hlab c59_9 ((body_q c68_11 c77_50 (sumL_sk.symm.trans c92_95) (by rw [c103_109]; rfl)).trans (rest_l (pCondS_sk.symm.trans c112_186)))) (by omega) (by omega) (by omega) (by omega) (by omega)
                  · dsimp only [Option.toList, List.cons_append, List.nil_append, Nat.add_zero]
                    refine v_aload_n dX7_readClause_115 rfl ?_
                    refine v_bipush dX7_readClause_116 (c32 rfl) (by decide) ?_
                    have hpq := @pk_rng u n xa_197 hur (by omega)
                    have hpg := @sk_ge u n xa_197
                    have hpl := @sk_le u n xa_197 (by omega)
                    refine v_callv (M' := mX7_need) (d' := d - 1) (mc' := 0) (ms' := 0) (ci := 7) (c := 1) (As := [_]) dX7_readClause_118 k_753 cm_X7_need rfl (by omega) (by decide) kk_1 (Nat.le_of_ble_eq_true rfl) rfl ⟨Nat.le_refl _, Nat.le_refl _⟩ ?_
                    refine s_cneed0 (by omega) hT0 (by omega) (by omega) (fun c118_204 => ?_) (fun c118_205 => ?_)
                    · dsimp only [Option.toList, List.cons_append, List.nil_append, Nat.add_zero]
                      refine v_aload_n dX7_readClause_121 rfl ?_
                      refine v_bipush dX7_readClause_122 (c32 rfl) (by decide) ?_
                      refine v_callv (M' := mX7_put) (d' := d - 1) (mc' := 0) (ms' := 0) (ci := 7) (c := 1) (As := [_]) dX7_readClause_124 k_749 cm_X7_put rfl (by omega) (by decide) kk_1 (Nat.le_of_ble_eq_true rfl) rfl ⟨Nat.le_refl _, Nat.le_refl _⟩ ?_
                      refine s_cput (by omega) (by omega) (by omega) ?_
                      dsimp only [Option.toList, List.cons_append, List.nil_append, Nat.add_zero]
                      refine v_aload_n dX7_readClause_127 rfl ?_
                      refine v_iconst dX7_readClause_128 (c32 rfl) ?_
                      refine v_callv (M' := mX7_readSum) (d' := d - 1) (mc' := 0) (ms' := 0) (ci := 7) (c := 1) (As := [_]) dX7_readClause_129 k_761 cm_X7_readSum rfl (by omega) (by decide) kk_1 (Nat.le_of_ble_eq_true rfl) rfl ⟨Nat.le_refl _, Nat.le_refl _⟩ ?_
                      refine hS (by omega) (by omega) (by omega) (by omega) (SL_put c112_197) (List.append_nil _).symm (fun xe_211 xr_211 xa_211 xs_211 c129_206 c129_207 c129_208 c129_209 c129_210 c129_211 => ?_) (fun xa_217 xk_217 xr_217 xs_217 c129_212 c129_213 c129_214 c129_215 c129_216 c129_217 => ?_)
                      · dsimp only [Option.toList, List.cons_append, List.nil_append, Nat.add_zero]
                        refine v_iload_n dX7_readClause_132 rfl ?_
                        refine v_iconst dX7_readClause_133 (c32 rfl) ?_
                        refine v_iaddE dX7_readClause_134 (by omega) ?_
                        refine v_sipush dX7_readClause_135 (c32 rfl) (by decide) ?_
                        refine v_icmp_ge_f (tgt := 153) dX7_readClause_138 (by decide) (by omega) ?_
                        refine v_aload_n dX7_readClause_141 rfl ?_
                        refine v_getr (ci := 7) (j := 4) (ji := 4) (z := 3) dX7_readClause_142 k_136 (by decide) kk_1 (by decide) rfl rfl (fun r => rt_1_4 (r rfl)) (by decide) ?_
                        refine v_iload_n dX7_readClause_145 rfl ?_
                        refine v_iconst dX7_readClause_146 (c32 rfl) ?_
                        refine v_iaddE dX7_readClause_147 (by omega) ?_
                        refine v_aload_n dX7_readClause_148 rfl ?_
                        refine v_getv (ci := 7) (j := 5) (ji := 5) (tg := 0) dX7_readClause_149 k_139 (by decide) kk_1 (by decide) rfl rfl (by decide) (cps_r5) ?_
                        refine v_iastore dX7_readClause_152 (by decide) kk_3 (by omega) (by omega) ?_
                        rw [cps_wR]
                        refine v_vret dX7_readClause_153 rfl (Nat.le_refl _) (Nat.le_refl _) ?_
                        exact hf _ _ _ _ (cl_f hlab c59_9 ((body_q c68_11 c77_50 (sumL_sk.symm.trans c92_95) (by rw [c103_109]; rfl)).trans (rest_f (pCondS_sk.symm.trans c112_192) c118_204 c129_206))) (by omega) (by omega) (by omega) (by omega) (by omega)
                      · dsimp only [Option.toList, List.cons_append, List.nil_append, Nat.add_zero]
                        refine v_iload_n dX7_readClause_132 rfl ?_
                        refine v_iconst dX7_readClause_133 (c32 rfl) ?_
                        refine v_iaddE dX7_readClause_134 (by omega) ?_
                        refine v_sipush dX7_readClause_135 (c32 rfl) (by decide) ?_
                        refine v_icmp_ge_f (tgt := 153) dX7_readClause_138 (by decide) (by omega) ?_
                        refine v_aload_n dX7_readClause_141 rfl ?_
                        refine v_getr (ci := 7) (j := 4) (ji := 4) (z := 3) dX7_readClause_142 k_136 (by decide) kk_1 (by decide) rfl rfl (fun r => rt_1_4 (r rfl)) (by decide) ?_
                        refine v_iload_n dX7_readClause_145 rfl ?_
                        refine v_iconst dX7_readClause_146 (c32 rfl) ?_
                        refine v_iaddE dX7_readClause_147 (by omega) ?_
                        refine v_aload_n dX7_readClause_148 rfl ?_
                        refine v_getv (ci := 7) (j := 5) (ji := 5) (tg := 0) dX7_readClause_149 k_139 (by decide) kk_1 (by decide) rfl rfl (by decide) (cps_r5) ?_
                        refine v_iastore dX7_readClause_152 (by decide) kk_3 (by omega) (by omega) ?_
                        rw [cps_wR]
                        refine v_vret dX7_readClause_153 rfl (Nat.le_refl _) (Nat.le_refl _) ?_
                        exact hsu _ _ _ _ _ (cl_s hlab c59_9 ((body_q c68_11 c77_50 (sumL_sk.symm.trans c92_95) (by rw [c103_109]; rfl)).trans (rest_s (pCondS_sk.symm.trans c112_192) c118_204 c129_212))) (by omega) (by omega) (by omega) (by omega) (SL_patch hSL.1 (SL_as c129_217 (by simp only [List.append_assoc, List.cons_append, List.nil_append, List.singleton_append])))
                    · dsimp only [Option.toList, List.cons_append, List.nil_append, Nat.add_zero]
                      refine v_aload_n dX7_readClause_121 rfl ?_
                      refine v_bipush dX7_readClause_122 (c32 rfl) (by decide) ?_
                      refine v_callv (M' := mX7_put) (d' := d - 1) (mc' := 0) (ms' := 0) (ci := 7) (c := 1) (As := [_]) dX7_readClause_124 k_749 cm_X7_put rfl (by omega) (by decide) kk_1 (Nat.le_of_ble_eq_true rfl) rfl ⟨Nat.le_refl _, Nat.le_refl _⟩ ?_
                      refine s_cputF (by omega) (by omega) (by omega) (fun xr_219 xs_219 c124_218 c124_219 => ?_)
                      dsimp only [Option.toList, List.cons_append, List.nil_append, Nat.add_zero]
                      refine v_aload_n dX7_readClause_127 rfl ?_
                      refine v_iconst dX7_readClause_128 (c32 rfl) ?_
                      refine v_callv (M' := mX7_readSum) (d' := d - 1) (mc' := 0) (ms' := 0) (ci := 7) (c := 1) (As := [_]) dX7_readClause_129 k_761 cm_X7_readSum rfl (by omega) (by decide) kk_1 (Nat.le_of_ble_eq_true rfl) rfl ⟨Nat.le_refl _, Nat.le_refl _⟩ ?_
                      refine s_csumF (by omega) hT0 (by omega) (by omega) (by omega) (by omega) (by omega) (fun xr_223 xa_223 xs_223 c129_220 c129_221 c129_222 c129_223 => ?_)
                      dsimp only [Option.toList, List.cons_append, List.nil_append, Nat.add_zero]
                      refine v_iload_n dX7_readClause_132 rfl ?_
                      refine v_iconst dX7_readClause_133 (c32 rfl) ?_
                      refine v_iaddE dX7_readClause_134 (by omega) ?_
                      refine v_sipush dX7_readClause_135 (c32 rfl) (by decide) ?_
                      refine v_icmp_ge_f (tgt := 153) dX7_readClause_138 (by decide) (by omega) ?_
                      refine v_aload_n dX7_readClause_141 rfl ?_
                      refine v_getr (ci := 7) (j := 4) (ji := 4) (z := 3) dX7_readClause_142 k_136 (by decide) kk_1 (by decide) rfl rfl (fun r => rt_1_4 (r rfl)) (by decide) ?_
                      refine v_iload_n dX7_readClause_145 rfl ?_
                      refine v_iconst dX7_readClause_146 (c32 rfl) ?_
                      refine v_iaddE dX7_readClause_147 (by omega) ?_
                      refine v_aload_n dX7_readClause_148 rfl ?_
                      refine v_getv (ci := 7) (j := 5) (ji := 5) (tg := 0) dX7_readClause_149 k_139 (by decide) kk_1 (by decide) rfl rfl (by decide) (cps_r5) ?_
                      refine v_iastore dX7_readClause_152 (by decide) kk_3 (by omega) (by omega) ?_
                      rw [cps_wR]
                      refine v_vret dX7_readClause_153 rfl (Nat.le_refl _) (Nat.le_refl _) ?_
                      exact hf _ _ _ _ (cl_f hlab c59_9 ((body_q c68_11 c77_50 (sumL_sk.symm.trans c92_95) (by rw [c103_109]; rfl)).trans (rest_no (pCondS_sk.symm.trans c112_192) c118_205))) (by omega) (by omega) (by omega) (by omega) (by omega)
        · dsimp only [Option.toList, List.cons_append, List.nil_append, Nat.add_zero]
          refine v_aload_n dX7_readClause_62 rfl ?_
          refine v_callv (M' := mX7_peek) (d' := d - 1) (mc' := 0) (ms' := 0) (ci := 7) (c := 1) (As := []) dX7_readClause_63 k_654 cm_X7_peek rfl (by omega) (by decide) kk_1 (Nat.le_of_ble_eq_true rfl) rfl ⟨Nat.le_refl _, Nat.le_refl _⟩ ?_
          refine s_cpeek1b (by omega) hT0 (by omega) (by omega) (by omega) ?_
          dsimp only [Option.toList, List.cons_append, List.nil_append, Nat.add_zero]
          refine v_bipush dX7_readClause_66 (c32 rfl) (by decide) ?_
          refine v_icmp_eq_f (tgt := 84) dX7_readClause_68 (by decide) (by decide) ?_
          refine v_aload_n dX7_readClause_71 rfl ?_
          refine v_callv (M' := mX7_peek) (d' := d - 1) (mc' := 0) (ms' := 0) (ci := 7) (c := 1) (As := []) dX7_readClause_72 k_654 cm_X7_peek rfl (by omega) (by decide) kk_1 (Nat.le_of_ble_eq_true rfl) rfl ⟨Nat.le_refl _, Nat.le_refl _⟩ ?_
          refine s_cpeek1b (by omega) hT0 (by omega) (by omega) (by omega) ?_
          dsimp only [Option.toList, List.cons_append, List.nil_append, Nat.add_zero]
          refine v_bipush dX7_readClause_75 (c32 rfl) (by decide) ?_
          refine v_icmp_eq_f (tgt := 84) dX7_readClause_77 (by decide) (by decide) ?_
          refine v_iconst dX7_readClause_80 (c32 rfl) ?_
          refine v_goto (tgt := 85) dX7_readClause_81 (by decide) ?_
          refine v_istore_n_3 dX7_readClause_85 (by decide) rfl ?_
          refine v_iload_n dX7_readClause_86 rfl ?_
          refine v_if_eq_f (tgt := 95) dX7_readClause_87 (by decide) (by decide) ?_
          refine v_aload_n dX7_readClause_90 rfl ?_
          refine v_iconst dX7_readClause_91 (c32 rfl) ?_
          refine v_callv (M' := mX7_readSum) (d' := d - 1) (mc' := 0) (ms' := 0) (ci := 7) (c := 1) (As := [_]) dX7_readClause_92 k_761 cm_X7_readSum rfl (by omega) (by decide) kk_1 (Nat.le_of_ble_eq_true rfl) rfl ⟨Nat.le_refl _, Nat.le_refl _⟩ ?_
          refine s_csumF (by omega) hT0 (by omega) (by omega) (by omega) (by omega) (by omega) (fun xr_227 xa_227 xs_227 c92_224 c92_225 c92_226 c92_227 => ?_)
          dsimp only [Option.toList, List.cons_append, List.nil_append, Nat.add_zero]
          refine v_iload_n dX7_readClause_95 rfl ?_
          refine v_if_eq_f (tgt := 109) dX7_readClause_96 (by decide) (by decide) ?_
          refine v_aload_n dX7_readClause_99 rfl ?_
          have hpg := @sk_ge u n xa_227
          have hpl := @sk_le u n xa_227 (by omega)
          refine v_callv (M' := mX7_peek) (d' := d - 1) (mc' := 0) (ms' := 0) (ci := 7) (c := 1) (As := []) dX7_readClause_100 k_654 cm_X7_peek rfl (by omega) (by decide) kk_1 (Nat.le_of_ble_eq_true rfl) rfl ⟨Nat.le_refl _, Nat.le_refl _⟩ ?_
          refine s_cpeek1 (by omega) hT0 (by omega) (by omega) (by omega) ?_
          dsimp only [Option.toList, List.cons_append, List.nil_append, Nat.add_zero]
          refine v_calls (M' := mX7_isComparison) (d' := d - 1) (mc' := 0) (ms' := 0) (As := [_]) dX7_readClause_103 k_789 cm_X7_isComparison (by omega) (Nat.le_of_ble_eq_true rfl) rfl ⟨Nat.le_refl _, Nat.le_refl _⟩ ?_
          refine s_cmpN (by omega) ?_
          dsimp only [Option.toList, List.cons_append, List.nil_append, Nat.add_zero]
          refine v_if_eq_t (tgt := 132) dX7_readClause_106 (by decide) (by decide) ?_
          refine v_iload_n dX7_readClause_132 rfl ?_
          refine v_iconst dX7_readClause_133 (c32 rfl) ?_
          refine v_iaddE dX7_readClause_134 (by omega) ?_
          refine v_sipush dX7_readClause_135 (c32 rfl) (by decide) ?_
          refine v_icmp_ge_f (tgt := 153) dX7_readClause_138 (by decide) (by omega) ?_
          refine v_aload_n dX7_readClause_141 rfl ?_
          refine v_getr (ci := 7) (j := 4) (ji := 4) (z := 3) dX7_readClause_142 k_136 (by decide) kk_1 (by decide) rfl rfl (fun r => rt_1_4 (r rfl)) (by decide) ?_
          refine v_iload_n dX7_readClause_145 rfl ?_
          refine v_iconst dX7_readClause_146 (c32 rfl) ?_
          refine v_iaddE dX7_readClause_147 (by omega) ?_
          refine v_aload_n dX7_readClause_148 rfl ?_
          refine v_getv (ci := 7) (j := 5) (ji := 5) (tg := 0) dX7_readClause_149 k_139 (by decide) kk_1 (by decide) rfl rfl (by decide) (cps_r5) ?_
          refine v_iastore dX7_readClause_152 (by decide) kk_3 (by omega) (by omega) ?_
          rw [cps_wR]
          refine v_vret dX7_readClause_153 rfl (Nat.le_refl _) (Nat.le_refl _) ?_
          exact hf _ _ _ _ (cl_2 hlab c59_10) (by omega) (by omega) (by omega) (by omega) (by omega)
      · dsimp only [Option.toList, List.cons_append, List.nil_append, Nat.add_zero]
        refine v_aload_n dX7_readClause_56 rfl ?_
        refine v_bipush dX7_readClause_57 (c32 rfl) (by decide) ?_
        have hpq := @pk_rng u n ((sk u n a) + 1) hur (by omega)
        have hpg := @sk_ge u n ((sk u n a) + 1)
        have hpl := @sk_le u n ((sk u n a) + 1) (by omega)
        refine v_callv (M' := mX7_need) (d' := d - 1) (mc' := 0) (ms' := 0) (ci := 7) (c := 1) (As := [_]) dX7_readClause_59 k_753 cm_X7_need rfl (by omega) (by decide) kk_1 (Nat.le_of_ble_eq_true rfl) rfl ⟨Nat.le_refl _, Nat.le_refl _⟩ ?_
        refine s_cneed0 (by omega) hT0 (by omega) (by omega) (fun c59_228 => ?_) (fun c59_229 => ?_)
        · dsimp only [Option.toList, List.cons_append, List.nil_append, Nat.add_zero]
          exact absurd c59_228 (by rw [pk_n (by omega)]; decide)
        · dsimp only [Option.toList, List.cons_append, List.nil_append, Nat.add_zero]
          refine v_aload_n dX7_readClause_62 rfl ?_
          refine v_callv (M' := mX7_peek) (d' := d - 1) (mc' := 0) (ms' := 0) (ci := 7) (c := 1) (As := []) dX7_readClause_63 k_654 cm_X7_peek rfl (by omega) (by decide) kk_1 (Nat.le_of_ble_eq_true rfl) rfl ⟨Nat.le_refl _, Nat.le_refl _⟩ ?_
          refine s_cpeek1b (by omega) hT0 (by omega) (by omega) (by omega) ?_
          dsimp only [Option.toList, List.cons_append, List.nil_append, Nat.add_zero]
          refine v_bipush dX7_readClause_66 (c32 rfl) (by decide) ?_
          refine v_icmp_eq_f (tgt := 84) dX7_readClause_68 (by decide) (by decide) ?_
          refine v_aload_n dX7_readClause_71 rfl ?_
          refine v_callv (M' := mX7_peek) (d' := d - 1) (mc' := 0) (ms' := 0) (ci := 7) (c := 1) (As := []) dX7_readClause_72 k_654 cm_X7_peek rfl (by omega) (by decide) kk_1 (Nat.le_of_ble_eq_true rfl) rfl ⟨Nat.le_refl _, Nat.le_refl _⟩ ?_
          refine s_cpeek1b (by omega) hT0 (by omega) (by omega) (by omega) ?_
          dsimp only [Option.toList, List.cons_append, List.nil_append, Nat.add_zero]
          refine v_bipush dX7_readClause_75 (c32 rfl) (by decide) ?_
          refine v_icmp_eq_f (tgt := 84) dX7_readClause_77 (by decide) (by decide) ?_
          refine v_iconst dX7_readClause_80 (c32 rfl) ?_
          refine v_goto (tgt := 85) dX7_readClause_81 (by decide) ?_
          refine v_istore_n_3 dX7_readClause_85 (by decide) rfl ?_
          refine v_iload_n dX7_readClause_86 rfl ?_
          refine v_if_eq_f (tgt := 95) dX7_readClause_87 (by decide) (by decide) ?_
          refine v_aload_n dX7_readClause_90 rfl ?_
          refine v_iconst dX7_readClause_91 (c32 rfl) ?_
          refine v_callv (M' := mX7_readSum) (d' := d - 1) (mc' := 0) (ms' := 0) (ci := 7) (c := 1) (As := [_]) dX7_readClause_92 k_761 cm_X7_readSum rfl (by omega) (by decide) kk_1 (Nat.le_of_ble_eq_true rfl) rfl ⟨Nat.le_refl _, Nat.le_refl _⟩ ?_
          refine s_csumF (by omega) hT0 (by omega) (by omega) (by omega) (by omega) (by omega) (fun xr_233 xa_233 xs_233 c92_230 c92_231 c92_232 c92_233 => ?_)
          dsimp only [Option.toList, List.cons_append, List.nil_append, Nat.add_zero]
          refine v_iload_n dX7_readClause_95 rfl ?_
          refine v_if_eq_f (tgt := 109) dX7_readClause_96 (by decide) (by decide) ?_
          refine v_aload_n dX7_readClause_99 rfl ?_
          have hpg := @sk_ge u n xa_233
          have hpl := @sk_le u n xa_233 (by omega)
          refine v_callv (M' := mX7_peek) (d' := d - 1) (mc' := 0) (ms' := 0) (ci := 7) (c := 1) (As := []) dX7_readClause_100 k_654 cm_X7_peek rfl (by omega) (by decide) kk_1 (Nat.le_of_ble_eq_true rfl) rfl ⟨Nat.le_refl _, Nat.le_refl _⟩ ?_
          refine s_cpeek1 (by omega) hT0 (by omega) (by omega) (by omega) ?_
          dsimp only [Option.toList, List.cons_append, List.nil_append, Nat.add_zero]
          refine v_calls (M' := mX7_isComparison) (d' := d - 1) (mc' := 0) (ms' := 0) (As := [_]) dX7_readClause_103 k_789 cm_X7_isComparison (by omega) (Nat.le_of_ble_eq_true rfl) rfl ⟨Nat.le_refl _, Nat.le_refl _⟩ ?_
          refine s_cmpN (by omega) ?_
          dsimp only [Option.toList, List.cons_append, List.nil_append, Nat.add_zero]
          refine v_if_eq_t (tgt := 132) dX7_readClause_106 (by decide) (by decide) ?_
          refine v_iload_n dX7_readClause_132 rfl ?_
          refine v_iconst dX7_readClause_133 (c32 rfl) ?_
          refine v_iaddE dX7_readClause_134 (by omega) ?_
          refine v_sipush dX7_readClause_135 (c32 rfl) (by decide) ?_
          refine v_icmp_ge_t (tgt := 153) dX7_readClause_138 (by decide) (by omega) ?_
          refine v_vret dX7_readClause_153 rfl (Nat.le_refl _) (Nat.le_refl _) ?_
          exact hf _ _ _ _ (cl_2 hlab c59_229) (by omega) (by omega) (by omega) (by omega) (by omega)
    · rw [i2c_b ⟨by omega, by omega⟩] at c23_6
      refine v_aload_n dX7_readClause_26 rfl ?_
      refine v_callv (M' := mX7_fail) (d' := d - 1) (mc' := 0) (ms' := 0) (ci := 7) (c := 1) (As := []) dX7_readClause_27 k_745 cm_X7_fail rfl (by omega) (by decide) kk_1 (Nat.le_of_ble_eq_true rfl) rfl ⟨Nat.le_refl _, Nat.le_refl _⟩ ?_
      refine s_cfail0 (by omega) ?_
      dsimp only [Option.toList, List.cons_append, List.nil_append, Nat.add_zero]
      refine v_vret dX7_readClause_30 rfl (Nat.le_refl _) (Nat.le_refl _) ?_
      exact hf _ _ _ _ (cl_1 (by rcases @ix0_cases (pk u n a) with q | q; exact q.2; exfalso; (try rw [i2c_b ⟨by omega, by omega⟩] at *); omega)) (by omega) (by omega) (by omega) (by omega) (by omega)

