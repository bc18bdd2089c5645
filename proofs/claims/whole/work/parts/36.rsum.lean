/-! ===== the reference's reader: sums and conditions (written by wip/whole/p19.py) ===== -/
theorem oMul_f {c : Int} (h : c ≠ 42) (h2 : c ≠ 47) : oMul c = false := by unfold oMul; rw [beq_false_of_ne h, beq_false_of_ne h2]; rfl
theorem oAdd_f {c : Int} (h : c ≠ 43) (h2 : c ≠ 45) : oAdd c = false := by unfold oAdd; rw [beq_false_of_ne h, beq_false_of_ne h2]; rfl
theorem oAnd_f {c : Int} (h : c ≠ 38) : oAnd c = false := by unfold oAnd; rw [beq_false_of_ne h]
theorem oOr_f {c : Int} (h : c ≠ 124) : oOr c = false := by unfold oOr; rw [beq_false_of_ne h]
theorem oCmp_f {c : Int} (h : c ≠ 61) (h2 : c ≠ 60) (h3 : c ≠ 62) : oCmp c = false := by unfold oCmp; rw [beq_false_of_ne h, beq_false_of_ne h2, beq_false_of_ne h3]; rfl
theorem bAnd {v w : Int} (h1 : 0 ≤ v) (h2 : v < 2) (h3 : 0 ≤ w) (h4 : w < 2) : bd (jn 38 v w) = if v = 0 then 0 else if w = 0 then 0 else 1 := by
  rcases (show v = 0 ∨ v = 1 by omega) with rfl | rfl <;> rcases (show w = 0 ∨ w = 1 by omega) with rfl | rfl <;> decide +kernel
theorem bOr {v w : Int} (h1 : 0 ≤ v) (h2 : v < 2) (h3 : 0 ≤ w) (h4 : w < 2) : bd (jn 124 v w) = if v = 0 then (if w = 0 then 0 else 1) else 1 := by
  rcases (show v = 0 ∨ v = 1 by omega) with rfl | rfl <;> rcases (show w = 0 ∨ w = 1 by omega) with rfl | rfl <;> decide +kernel
/-- a reader of a condition -/
def RdB (l : Launch) (G : GG) (h : AH) (u : Int → Int) (n dp : Int) (N mm : Nat) (M : MI) (as : List AV) (P : Int → PR) : Prop :=
  ∀ ⦃d : Nat⦄ ⦃a : Int⦄ ⦃Q : Option AV → List Kd → AH → Prop⦄, N ≤ d → 0 ≤ a → a ≤ n →
    (∀ e v a' dp', P a = .inl e → 0 ≤ e → 0 ≤ v → v < 2 → dp ≤ dp' → dp' ≤ 8 → Q (some (0, v)) K0 (pst h a' e dp')) →
    (∀ a' k v, P a = .inr (a', k) → a ≤ a' → a' ≤ n → VH (ltr h) k v mm → 0 ≤ v → v < 2 → Q (some (0, v)) K0 (pst h a' (-1) dp)) →
    Sp l G M d 0 0 K0 ((2, 116) :: as) (pst h a (-1) dp) Q

set_option maxHeartbeats 4000000 in
set_option maxRecDepth 100000 in
theorem lp_term {l : Launch} {G : GG} {h : AH} {t b n : Int} {u : Int → Int} {tn : Nat} {dp : Int} {N mI mm d : Nat} {P : Int → PR} {Q : Option AV → List Kd → AH → Prop} (hd : N + 1 ≤ d) (hdp : 0 ≤ dp ∧ dp ≤ 8) (hT : MT h t b n u tn) (hI : RdS l G h u n dp N mI mX12_atom P) (hm : mI + 1 ≤ mm) (hN : 4 ≤ N) : ∀ {m : Nat} {a v : Int} {k : List Int}, n - a < m → 0 ≤ a → a ≤ n → VH (ltr h) k v mm → -10000000 ≤ v → v ≤ 10000000 →
    (∀ e v a' dp', pLoop u n oMul P m a k = .inl e → 0 ≤ e → dp ≤ dp' → dp' ≤ 8 → Q (some (0, v)) K0 (pst h a' e dp')) →
    (∀ a' k' v, pLoop u n oMul P m a k = .inr (a', k') → a ≤ a' → a' ≤ n → VH (ltr h) k' v mm → -10000000 ≤ v → v ≤ 10000000 → Q (some (0, v)) K0 (pst h a' (-1) dp)) →
    V l G mX12_term d 0 0 0 0 K0 5 [(2, 116), (0, v), (9, 0), (9, 0), (9, 0)] [] (pst h a (-1) dp) Q := by
  have hT0 := hT
  obtain ⟨htt, hkt, hbn, htx, hbg, hen, hb0, hb1, hn0, hn1, hur, hu⟩ := hT
  intro m
  induction m with
  | zero => intro a v k hm0; omega
  | succ m ih =>
    intro a v k hmm h0 h1 hk hb1 hb2 hf hsu
    have hpk := @pk_rng u n a hur h0
    have hsg := @sk_ge u n a
    have hsl := @sk_le u n a h1
    refine v_aload_n dX12_term_5 rfl ?_
    refine v_getv (ci := 12) (j := 21) (ji := 21) (tg := 0) dX12_term_6 k_1437 (by decide) kk_116 (by decide) rfl rfl (by decide) (pst_r21) ?_
    refine v_iconst dX12_term_9 (c32 rfl) ?_
    refine v_icmp_ne_f (tgt := 94) dX12_term_10 (by decide) (by decide) ?_
    refine v_aload_n dX12_term_13 rfl ?_
    refine v_callv (M' := mX12_look) (d' := d - 1) (mc' := 0) (ms' := 0) (ci := 12) (c := 116) (As := []) dX12_term_14 k_1755 cm_X12_look rfl (by omega) (by decide) kk_116 (Nat.le_of_ble_eq_true rfl) rfl ⟨Nat.le_refl _, Nat.le_refl _⟩ ?_
    refine s_look (by omega) hT0 (by omega) (by omega) ?_
    dsimp only [Option.toList, List.cons_append, List.nil_append, Nat.add_zero]
    refine v_bipush dX12_term_17 (c32 rfl) (by decide) ?_
    refine v_icmp_eq (tgt := 31) dX12_term_19 (by decide) (fun c19_1 => ?_) (fun c19_1 => ?_)
    · refine v_aload_n dX12_term_31 rfl ?_
      refine v_callv (M' := mX12_look) (d' := d - 1) (mc' := 0) (ms' := 0) (ci := 12) (c := 116) (As := []) dX12_term_32 k_1755 cm_X12_look rfl (by omega) (by decide) kk_116 (Nat.le_of_ble_eq_true rfl) rfl ⟨Nat.le_refl _, Nat.le_refl _⟩ ?_
      refine s_look2 (by omega) hT0 (by omega) (by omega) ?_
      dsimp only [Option.toList, List.cons_append, List.nil_append, Nat.add_zero]
      refine v_bipush dX12_term_35 (c32 rfl) (by decide) ?_
      refine v_icmp_ne_f (tgt := 44) dX12_term_37 (by decide) (by omega) ?_
      refine v_iconst dX12_term_40 (c32 rfl) ?_
      refine v_goto (tgt := 45) dX12_term_41 (by decide) ?_
      refine v_istore_n_2 dX12_term_45 (by decide) rfl ?_
      refine v_aload_n dX12_term_46 rfl ?_
      refine v_dup dX12_term_47 rfl ?_
      refine v_getv (ci := 12) (j := 20) (ji := 20) (tg := 0) dX12_term_48 k_1436 (by decide) kk_116 (by decide) rfl rfl (by decide) (pst_r20) ?_
      refine v_iconst dX12_term_51 (c32 rfl) ?_
      refine v_iaddE dX12_term_52 (by omega) ?_
      refine v_puti (ci := 12) (j := 20) (ji := 20) dX12_term_53 k_1436 (by decide) kk_116 (by decide) rfl rfl rfl ?_
      rw [pst_w20]
      refine v_aload_n dX12_term_56 rfl ?_
      refine v_callv (M' := mX12_atom) (d' := d - 1) (mc' := 0) (ms' := 0) (ci := 12) (c := 116) (As := []) dX12_term_57 k_1789 cm_X12_atom rfl (by omega) (by decide) kk_116 (Nat.le_of_ble_eq_true rfl) rfl ⟨Nat.le_refl _, Nat.le_refl _⟩ ?_
      refine hI (by omega) (by omega) (by omega) (fun xe_5 xv_5 xa_5 xd_5 c57_2 c57_3 c57_4 c57_5 => ?_) (fun xa_11 xk_11 xv_11 c57_6 c57_7 c57_8 c57_9 c57_10 c57_11 => ?_)
      · dsimp only [Option.toList, List.cons_append, List.nil_append, Nat.add_zero]
        refine v_i2l dX12_term_60 ?_
        refine v_lstore_n_3 dX12_term_61 (by decide) rfl ?_
        refine v_iload_n dX12_term_62 rfl ?_
        refine v_if_eq_f (tgt := 73) dX12_term_63 (by decide) (by decide) ?_
        refine v_iload_n dX12_term_66 rfl ?_
        refine v_i2l dX12_term_67 ?_
        refine v_lload_n dX12_term_68 rfl ?_
        refine v_lmul dX12_term_69 ?_
        refine v_goto (tgt := 87) dX12_term_70 (by decide) ?_
        refine v_calls (M' := mX12_bound) (d' := d - 1) (mc' := 0) (ms' := 0) (As := [_]) dX12_term_87 k_1802 cm_X12_bound (by omega) (Nat.le_of_ble_eq_true rfl) rfl ⟨Nat.le_refl _, Nat.le_refl _⟩ ?_
        refine s_bd (by omega) ?_
        dsimp only [Option.toList, List.cons_append, List.nil_append, Nat.add_zero]
        refine v_istore_n_1 dX12_term_90 (by decide) rfl ?_
        refine v_goto (tgt := 5) dX12_term_91 (by decide) ?_
        refine v_aload_n dX12_term_5 rfl ?_
        refine v_getv (ci := 12) (j := 21) (ji := 21) (tg := 0) dX12_term_6 k_1437 (by decide) kk_116 (by decide) rfl rfl (by decide) (pst_r21) ?_
        refine v_iconst dX12_term_9 (c32 rfl) ?_
        refine v_icmp_ne_t (tgt := 94) dX12_term_10 (by decide) (by omega) ?_
        refine v_iload_n dX12_term_94 rfl ?_
        refine v_ireti dX12_term_95 rfl (Nat.le_refl _) (Nat.le_refl _) ?_
        exact hf _ _ _ _ (pLoop_f (by rw [c19_1]; rfl) c57_2) (by omega) (by omega) (by omega)
      · dsimp only [Option.toList, List.cons_append, List.nil_append, Nat.add_zero]
        refine v_i2l dX12_term_60 ?_
        refine v_lstore_n_3 dX12_term_61 (by decide) rfl ?_
        refine v_iload_n dX12_term_62 rfl ?_
        refine v_if_eq_f (tgt := 73) dX12_term_63 (by decide) (by decide) ?_
        refine v_iload_n dX12_term_66 rfl ?_
        refine v_i2l dX12_term_67 ?_
        refine v_lload_n dX12_term_68 rfl ?_
        refine v_lmul dX12_term_69 ?_
        refine v_goto (tgt := 87) dX12_term_70 (by decide) ?_
        refine v_calls (M' := mX12_bound) (d' := d - 1) (mc' := 0) (ms' := 0) (As := [_]) dX12_term_87 k_1802 cm_X12_bound (by omega) (Nat.le_of_ble_eq_true rfl) rfl ⟨Nat.le_refl _, Nat.le_refl _⟩ ?_
        refine s_bd (by omega) ?_
        dsimp only [Option.toList, List.cons_append, List.nil_append, Nat.add_zero]
        refine v_istore_n_1 dX12_term_90 (by decide) rfl ?_
        refine v_goto (tgt := 5) dX12_term_91 (by decide) ?_
        have ej : ((bd (lmul v xv_11)) : Int) = bd (jn 42 v xv_11) := congrArg bd (lmul_bd (by omega) (by omega) (by omega) (by omega))
        have hbj := @bd_rng (jn 42 v xv_11)
        have hvj : VH (ltr h) (k ++ xk_11 ++ [-(pk u n a)]) (bd (jn 42 v xv_11)) mm := by rw [c19_1]; exact VH_bin hk c57_9 (Nat.le_refl _) hm (by decide)
        have el : pLoop u n oMul P (m + 1) a k = pLoop u n oMul P m xa_11 (k ++ xk_11 ++ [-(pk u n a)]) := pLoop_s (by rw [c19_1]; rfl) c57_6
        rw [el] at hf hsu
        refine v_loc (lo_k (lo_k (lo_d (lo_d (lo_d lo_nil))))) ?_
        have ih9 := ih (by omega) (by omega) (by omega) hvj hbj.1 hbj.2 hf (fun a9 k9 v9 q1 q2 q3 q4 q5 q6 => hsu a9 k9 v9 q1 (by omega) q3 q4 q5 q6)
        rw [← ej] at ih9
        exact ih9
    · refine v_aload_n dX12_term_22 rfl ?_
      refine v_callv (M' := mX12_look) (d' := d - 1) (mc' := 0) (ms' := 0) (ci := 12) (c := 116) (As := []) dX12_term_23 k_1755 cm_X12_look rfl (by omega) (by decide) kk_116 (Nat.le_of_ble_eq_true rfl) rfl ⟨Nat.le_refl _, Nat.le_refl _⟩ ?_
      refine s_look2 (by omega) hT0 (by omega) (by omega) ?_
      dsimp only [Option.toList, List.cons_append, List.nil_append, Nat.add_zero]
      refine v_bipush dX12_term_26 (c32 rfl) (by decide) ?_
      refine v_icmp_ne (tgt := 94) dX12_term_28 (by decide) (fun c28_12 => ?_) (fun c28_12 => ?_)
      · refine v_iload_n dX12_term_94 rfl ?_
        refine v_ireti dX12_term_95 rfl (Nat.le_refl _) (Nat.le_refl _) ?_
        exact hsu _ _ _ (pLoop_no (oMul_f c19_1 c28_12)) hsg (hsl) hk hb1 hb2
      · refine v_aload_n dX12_term_31 rfl ?_
        refine v_callv (M' := mX12_look) (d' := d - 1) (mc' := 0) (ms' := 0) (ci := 12) (c := 116) (As := []) dX12_term_32 k_1755 cm_X12_look rfl (by omega) (by decide) kk_116 (Nat.le_of_ble_eq_true rfl) rfl ⟨Nat.le_refl _, Nat.le_refl _⟩ ?_
        refine s_look2 (by omega) hT0 (by omega) (by omega) ?_
        dsimp only [Option.toList, List.cons_append, List.nil_append, Nat.add_zero]
        refine v_bipush dX12_term_35 (c32 rfl) (by decide) ?_
        refine v_icmp_ne_t (tgt := 44) dX12_term_37 (by decide) (by omega) ?_
        refine v_iconst dX12_term_44 (c32 rfl) ?_
        refine v_istore_n_2 dX12_term_45 (by decide) rfl ?_
        refine v_aload_n dX12_term_46 rfl ?_
        refine v_dup dX12_term_47 rfl ?_
        refine v_getv (ci := 12) (j := 20) (ji := 20) (tg := 0) dX12_term_48 k_1436 (by decide) kk_116 (by decide) rfl rfl (by decide) (pst_r20) ?_
        refine v_iconst dX12_term_51 (c32 rfl) ?_
        refine v_iaddE dX12_term_52 (by omega) ?_
        refine v_puti (ci := 12) (j := 20) (ji := 20) dX12_term_53 k_1436 (by decide) kk_116 (by decide) rfl rfl rfl ?_
        rw [pst_w20]
        refine v_aload_n dX12_term_56 rfl ?_
        refine v_callv (M' := mX12_atom) (d' := d - 1) (mc' := 0) (ms' := 0) (ci := 12) (c := 116) (As := []) dX12_term_57 k_1789 cm_X12_atom rfl (by omega) (by decide) kk_116 (Nat.le_of_ble_eq_true rfl) rfl ⟨Nat.le_refl _, Nat.le_refl _⟩ ?_
        refine hI (by omega) (by omega) (by omega) (fun xe_16 xv_16 xa_16 xd_16 c57_13 c57_14 c57_15 c57_16 => ?_) (fun xa_22 xk_22 xv_22 c57_17 c57_18 c57_19 c57_20 c57_21 c57_22 => ?_)
        · dsimp only [Option.toList, List.cons_append, List.nil_append, Nat.add_zero]
          refine v_i2l dX12_term_60 ?_
          refine v_lstore_n_3 dX12_term_61 (by decide) rfl ?_
          refine v_iload_n dX12_term_62 rfl ?_
          refine v_if_eq_t (tgt := 73) dX12_term_63 (by decide) (by decide) ?_
          refine v_lload_n dX12_term_73 rfl ?_
          refine v_lconst (z := 0) dX12_term_74 (c64 rfl) (by decide) ?_
          refine v_lcmp_ne (tgt := 83) dX12_term_75 dX12_term_76 (by decide) (fun c75_23 => ?_) (fun c75_23 => ?_)
          · refine v_iload_n dX12_term_83 rfl ?_
            refine v_i2l dX12_term_84 ?_
            refine v_lload_n dX12_term_85 rfl ?_
            refine v_ldiv dX12_term_86 (by omega) ?_
            refine v_calls (M' := mX12_bound) (d' := d - 1) (mc' := 0) (ms' := 0) (As := [_]) dX12_term_87 k_1802 cm_X12_bound (by omega) (Nat.le_of_ble_eq_true rfl) rfl ⟨Nat.le_refl _, Nat.le_refl _⟩ ?_
            refine s_bd (by omega) ?_
            dsimp only [Option.toList, List.cons_append, List.nil_append, Nat.add_zero]
            refine v_istore_n_1 dX12_term_90 (by decide) rfl ?_
            refine v_goto (tgt := 5) dX12_term_91 (by decide) ?_
            refine v_aload_n dX12_term_5 rfl ?_
            refine v_getv (ci := 12) (j := 21) (ji := 21) (tg := 0) dX12_term_6 k_1437 (by decide) kk_116 (by decide) rfl rfl (by decide) (pst_r21) ?_
            refine v_iconst dX12_term_9 (c32 rfl) ?_
            refine v_icmp_ne_t (tgt := 94) dX12_term_10 (by decide) (by omega) ?_
            refine v_iload_n dX12_term_94 rfl ?_
            refine v_ireti dX12_term_95 rfl (Nat.le_refl _) (Nat.le_refl _) ?_
            exact hf _ _ _ _ (pLoop_f (by rw [c28_12]; rfl) c57_13) (by omega) (by omega) (by omega)
          · refine v_lconst (z := 0) dX12_term_79 (c64 rfl) (by decide) ?_
            refine v_goto (tgt := 87) dX12_term_80 (by decide) ?_
            refine v_calls (M' := mX12_bound) (d' := d - 1) (mc' := 0) (ms' := 0) (As := [_]) dX12_term_87 k_1802 cm_X12_bound (by omega) (Nat.le_of_ble_eq_true rfl) rfl ⟨Nat.le_refl _, Nat.le_refl _⟩ ?_
            refine s_bd (by omega) ?_
            dsimp only [Option.toList, List.cons_append, List.nil_append, Nat.add_zero]
            refine v_istore_n_1 dX12_term_90 (by decide) rfl ?_
            refine v_goto (tgt := 5) dX12_term_91 (by decide) ?_
            refine v_aload_n dX12_term_5 rfl ?_
            refine v_getv (ci := 12) (j := 21) (ji := 21) (tg := 0) dX12_term_6 k_1437 (by decide) kk_116 (by decide) rfl rfl (by decide) (pst_r21) ?_
            refine v_iconst dX12_term_9 (c32 rfl) ?_
            refine v_icmp_ne_t (tgt := 94) dX12_term_10 (by decide) (by omega) ?_
            refine v_iload_n dX12_term_94 rfl ?_
            refine v_ireti dX12_term_95 rfl (Nat.le_refl _) (Nat.le_refl _) ?_
            exact hf _ _ _ _ (pLoop_f (by rw [c28_12]; rfl) c57_13) (by omega) (by omega) (by omega)
        · dsimp only [Option.toList, List.cons_append, List.nil_append, Nat.add_zero]
          refine v_i2l dX12_term_60 ?_
          refine v_lstore_n_3 dX12_term_61 (by decide) rfl ?_
          refine v_iload_n dX12_term_62 rfl ?_
          refine v_if_eq_t (tgt := 73) dX12_term_63 (by decide) (by decide) ?_
          refine v_lload_n dX12_term_73 rfl ?_
          refine v_lconst (z := 0) dX12_term_74 (c64 rfl) (by decide) ?_
          refine v_lcmp_ne (tgt := 83) dX12_term_75 dX12_term_76 (by decide) (fun c75_24 => ?_) (fun c75_24 => ?_)
          · refine v_iload_n dX12_term_83 rfl ?_
            refine v_i2l dX12_term_84 ?_
            refine v_lload_n dX12_term_85 rfl ?_
            refine v_ldiv dX12_term_86 (by omega) ?_
            refine v_calls (M' := mX12_bound) (d' := d - 1) (mc' := 0) (ms' := 0) (As := [_]) dX12_term_87 k_1802 cm_X12_bound (by omega) (Nat.le_of_ble_eq_true rfl) rfl ⟨Nat.le_refl _, Nat.le_refl _⟩ ?_
            refine s_bd (by omega) ?_
            dsimp only [Option.toList, List.cons_append, List.nil_append, Nat.add_zero]
            refine v_istore_n_1 dX12_term_90 (by decide) rfl ?_
            refine v_goto (tgt := 5) dX12_term_91 (by decide) ?_
            have ej : ((bd (ldiv v xv_22)) : Int) = bd (jn 47 v xv_22) := congrArg bd (ldiv_bd (by omega))
            have hbj := @bd_rng (jn 47 v xv_22)
            have hvj : VH (ltr h) (k ++ xk_22 ++ [-(pk u n a)]) (bd (jn 47 v xv_22)) mm := by rw [c28_12]; exact VH_bin hk c57_20 (Nat.le_refl _) hm (by decide)
            have el : pLoop u n oMul P (m + 1) a k = pLoop u n oMul P m xa_22 (k ++ xk_22 ++ [-(pk u n a)]) := pLoop_s (by rw [c28_12]; rfl) c57_17
            rw [el] at hf hsu
            refine v_loc (lo_k (lo_k (lo_d (lo_d (lo_d lo_nil))))) ?_
            have ih9 := ih (by omega) (by omega) (by omega) hvj hbj.1 hbj.2 hf (fun a9 k9 v9 q1 q2 q3 q4 q5 q6 => hsu a9 k9 v9 q1 (by omega) q3 q4 q5 q6)
            rw [← ej] at ih9
            exact ih9
          · refine v_lconst (z := 0) dX12_term_79 (c64 rfl) (by decide) ?_
            refine v_goto (tgt := 87) dX12_term_80 (by decide) ?_
            refine v_calls (M' := mX12_bound) (d' := d - 1) (mc' := 0) (ms' := 0) (As := [_]) dX12_term_87 k_1802 cm_X12_bound (by omega) (Nat.le_of_ble_eq_true rfl) rfl ⟨Nat.le_refl _, Nat.le_refl _⟩ ?_
            refine s_bd (by omega) ?_
            dsimp only [Option.toList, List.cons_append, List.nil_append, Nat.add_zero]
            refine v_istore_n_1 dX12_term_90 (by decide) rfl ?_
            refine v_goto (tgt := 5) dX12_term_91 (by decide) ?_
            have ej : ((bd 0) : Int) = bd (jn 47 v xv_22) := congrArg bd (zdiv_bd (by omega))
            have hbj := @bd_rng (jn 47 v xv_22)
            have hvj : VH (ltr h) (k ++ xk_22 ++ [-(pk u n a)]) (bd (jn 47 v xv_22)) mm := by rw [c28_12]; exact VH_bin hk c57_20 (Nat.le_refl _) hm (by decide)
            have el : pLoop u n oMul P (m + 1) a k = pLoop u n oMul P m xa_22 (k ++ xk_22 ++ [-(pk u n a)]) := pLoop_s (by rw [c28_12]; rfl) c57_17
            rw [el] at hf hsu
            refine v_loc (lo_k (lo_k (lo_d (lo_d (lo_d lo_nil))))) ?_
            have ih9 := ih (by omega) (by omega) (by omega) hvj hbj.1 hbj.2 hf (fun a9 k9 v9 q1 q2 q3 q4 q5 q6 => hsu a9 k9 v9 q1 (by omega) q3 q4 q5 q6)
            rw [← ej] at ih9
            exact ih9

set_option maxHeartbeats 4000000 in
set_option maxRecDepth 100000 in
theorem r_term {l : Launch} {G : GG} {h : AH} {t b n : Int} {u : Int → Int} {tn : Nat} {dp : Int} {N mI mm : Nat} {P : Int → PR} (hdp : 0 ≤ dp ∧ dp ≤ 8) (hT : MT h t b n u tn) (hI : RdS l G h u n dp N mI mX12_atom P) (hm : mI + 1 ≤ mm) (hmi : mI ≤ mm) (hN : 4 ≤ N) : RdS l G h u n dp (N + 1) mm mX12_term (fun a => pThen (P a) (pLoop u n oMul P 201)) := by
  intro d a Q hd h0 h1 hf hsu
  have hT0 := hT
  obtain ⟨htt, hkt, hbn, htx, hbg, hen, hb0, hb1, hn0, hn1, hur, hu⟩ := hT
  have hpk := @pk_rng u n a hur h0
  have hsg := @sk_ge u n a
  have hsl := @sk_le u n a h1
  refine sp_of (L := [(2, 116), (9, 0), (9, 0), (9, 0), (9, 0)]) pl_X12 (Nat.le_of_ble_eq_true rfl) (tg_c (by decide) tg_0) rfl ?_
  refine v_aload_n dX12_term_0 rfl ?_
  refine v_callv (M' := mX12_atom) (d' := d - 1) (mc' := 0) (ms' := 0) (ci := 12) (c := 116) (As := []) dX12_term_1 k_1789 cm_X12_atom rfl (by omega) (by decide) kk_116 (Nat.le_of_ble_eq_true rfl) rfl ⟨Nat.le_refl _, Nat.le_refl _⟩ ?_
  refine hI (by omega) (by omega) (by omega) (fun xe_4 xv_4 xa_4 xd_4 c1_1 c1_2 c1_3 c1_4 => ?_) (fun xa_10 xk_10 xv_10 c1_5 c1_6 c1_7 c1_8 c1_9 c1_10 => ?_)
  · dsimp only [Option.toList, List.cons_append, List.nil_append, Nat.add_zero]
    refine v_istore_n_1 dX12_term_4 (by decide) rfl ?_
    refine v_aload_n dX12_term_5 rfl ?_
    refine v_getv (ci := 12) (j := 21) (ji := 21) (tg := 0) dX12_term_6 k_1437 (by decide) kk_116 (by decide) rfl rfl (by decide) (pst_r21) ?_
    refine v_iconst dX12_term_9 (c32 rfl) ?_
    refine v_icmp_ne_t (tgt := 94) dX12_term_10 (by decide) (by omega) ?_
    refine v_iload_n dX12_term_94 rfl ?_
    refine v_ireti dX12_term_95 rfl (Nat.le_refl _) (Nat.le_refl _) ?_
    exact hf _ _ _ _ (pThen_l c1_1) (by omega) (by omega) (by omega)
  · dsimp only [Option.toList, List.cons_append, List.nil_append, Nat.add_zero]
    refine v_istore_n_1 dX12_term_4 (by decide) rfl ?_
    refine lp_term (by omega) ⟨by omega, by omega⟩ hT0 hI hm hN (m := 201) (by omega) (by omega) (by omega) (c1_8.mono hmi) (by omega) (by omega) (fun e9 v9 a9 d9 q1 => hf e9 v9 a9 d9 ((pThen_r c1_5).trans q1)) (fun a9 k9 v9 q1 q2 => hsu a9 k9 v9 ((pThen_r c1_5).trans q1) (by omega))

set_option maxHeartbeats 4000000 in
set_option maxRecDepth 100000 in
theorem lp_sum {l : Launch} {G : GG} {h : AH} {t b n : Int} {u : Int → Int} {tn : Nat} {dp : Int} {N mI mm d : Nat} {P : Int → PR} {Q : Option AV → List Kd → AH → Prop} (hd : N + 1 ≤ d) (hdp : 0 ≤ dp ∧ dp ≤ 8) (hT : MT h t b n u tn) (hI : RdS l G h u n dp N mI mX12_term P) (hm : mI + 1 ≤ mm) (hN : 4 ≤ N) : ∀ {m : Nat} {a v : Int} {k : List Int}, n - a < m → 0 ≤ a → a ≤ n → VH (ltr h) k v mm → -10000000 ≤ v → v ≤ 10000000 →
    (∀ e v a' dp', pLoop u n oAdd P m a k = .inl e → 0 ≤ e → dp ≤ dp' → dp' ≤ 8 → Q (some (0, v)) K0 (pst h a' e dp')) →
    (∀ a' k' v, pLoop u n oAdd P m a k = .inr (a', k') → a ≤ a' → a' ≤ n → VH (ltr h) k' v mm → -10000000 ≤ v → v ≤ 10000000 → Q (some (0, v)) K0 (pst h a' (-1) dp)) →
    V l G mX12_sum d 0 0 0 0 K0 5 [(2, 116), (0, v), (9, 0), (9, 0), (9, 0)] [] (pst h a (-1) dp) Q := by
  have hT0 := hT
  obtain ⟨htt, hkt, hbn, htx, hbg, hen, hb0, hb1, hn0, hn1, hur, hu⟩ := hT
  intro m
  induction m with
  | zero => intro a v k hm0; omega
  | succ m ih =>
    intro a v k hmm h0 h1 hk hb1 hb2 hf hsu
    have hpk := @pk_rng u n a hur h0
    have hsg := @sk_ge u n a
    have hsl := @sk_le u n a h1
    refine v_aload_n dX12_sum_5 rfl ?_
    refine v_getv (ci := 12) (j := 21) (ji := 21) (tg := 0) dX12_sum_6 k_1437 (by decide) kk_116 (by decide) rfl rfl (by decide) (pst_r21) ?_
    refine v_iconst dX12_sum_9 (c32 rfl) ?_
    refine v_icmp_ne_f (tgt := 84) dX12_sum_10 (by decide) (by decide) ?_
    refine v_aload_n dX12_sum_13 rfl ?_
    refine v_callv (M' := mX12_look) (d' := d - 1) (mc' := 0) (ms' := 0) (ci := 12) (c := 116) (As := []) dX12_sum_14 k_1755 cm_X12_look rfl (by omega) (by decide) kk_116 (Nat.le_of_ble_eq_true rfl) rfl ⟨Nat.le_refl _, Nat.le_refl _⟩ ?_
    refine s_look (by omega) hT0 (by omega) (by omega) ?_
    dsimp only [Option.toList, List.cons_append, List.nil_append, Nat.add_zero]
    refine v_bipush dX12_sum_17 (c32 rfl) (by decide) ?_
    refine v_icmp_eq (tgt := 31) dX12_sum_19 (by decide) (fun c19_1 => ?_) (fun c19_1 => ?_)
    · refine v_aload_n dX12_sum_31 rfl ?_
      refine v_callv (M' := mX12_look) (d' := d - 1) (mc' := 0) (ms' := 0) (ci := 12) (c := 116) (As := []) dX12_sum_32 k_1755 cm_X12_look rfl (by omega) (by decide) kk_116 (Nat.le_of_ble_eq_true rfl) rfl ⟨Nat.le_refl _, Nat.le_refl _⟩ ?_
      refine s_look2 (by omega) hT0 (by omega) (by omega) ?_
      dsimp only [Option.toList, List.cons_append, List.nil_append, Nat.add_zero]
      refine v_bipush dX12_sum_35 (c32 rfl) (by decide) ?_
      refine v_icmp_ne_f (tgt := 44) dX12_sum_37 (by decide) (by omega) ?_
      refine v_iconst dX12_sum_40 (c32 rfl) ?_
      refine v_goto (tgt := 45) dX12_sum_41 (by decide) ?_
      refine v_istore_n_2 dX12_sum_45 (by decide) rfl ?_
      refine v_aload_n dX12_sum_46 rfl ?_
      refine v_dup dX12_sum_47 rfl ?_
      refine v_getv (ci := 12) (j := 20) (ji := 20) (tg := 0) dX12_sum_48 k_1436 (by decide) kk_116 (by decide) rfl rfl (by decide) (pst_r20) ?_
      refine v_iconst dX12_sum_51 (c32 rfl) ?_
      refine v_iaddE dX12_sum_52 (by omega) ?_
      refine v_puti (ci := 12) (j := 20) (ji := 20) dX12_sum_53 k_1436 (by decide) kk_116 (by decide) rfl rfl rfl ?_
      rw [pst_w20]
      refine v_aload_n dX12_sum_56 rfl ?_
      refine v_callv (M' := mX12_term) (d' := d - 1) (mc' := 0) (ms' := 0) (ci := 12) (c := 116) (As := []) dX12_sum_57 k_1785 cm_X12_term rfl (by omega) (by decide) kk_116 (Nat.le_of_ble_eq_true rfl) rfl ⟨Nat.le_refl _, Nat.le_refl _⟩ ?_
      refine hI (by omega) (by omega) (by omega) (fun xe_5 xv_5 xa_5 xd_5 c57_2 c57_3 c57_4 c57_5 => ?_) (fun xa_11 xk_11 xv_11 c57_6 c57_7 c57_8 c57_9 c57_10 c57_11 => ?_)
      · dsimp only [Option.toList, List.cons_append, List.nil_append, Nat.add_zero]
        refine v_i2l dX12_sum_60 ?_
        refine v_lstore_n_3 dX12_sum_61 (by decide) rfl ?_
        refine v_iload_n dX12_sum_62 rfl ?_
        refine v_if_eq_f (tgt := 73) dX12_sum_63 (by decide) (by decide) ?_
        refine v_iload_n dX12_sum_66 rfl ?_
        refine v_i2l dX12_sum_67 ?_
        refine v_lload_n dX12_sum_68 rfl ?_
        refine v_ladd dX12_sum_69 ?_
        refine v_goto (tgt := 77) dX12_sum_70 (by decide) ?_
        refine v_calls (M' := mX12_bound) (d' := d - 1) (mc' := 0) (ms' := 0) (As := [_]) dX12_sum_77 k_1802 cm_X12_bound (by omega) (Nat.le_of_ble_eq_true rfl) rfl ⟨Nat.le_refl _, Nat.le_refl _⟩ ?_
        refine s_bd (by omega) ?_
        dsimp only [Option.toList, List.cons_append, List.nil_append, Nat.add_zero]
        refine v_istore_n_1 dX12_sum_80 (by decide) rfl ?_
        refine v_goto (tgt := 5) dX12_sum_81 (by decide) ?_
        refine v_aload_n dX12_sum_5 rfl ?_
        refine v_getv (ci := 12) (j := 21) (ji := 21) (tg := 0) dX12_sum_6 k_1437 (by decide) kk_116 (by decide) rfl rfl (by decide) (pst_r21) ?_
        refine v_iconst dX12_sum_9 (c32 rfl) ?_
        refine v_icmp_ne_t (tgt := 84) dX12_sum_10 (by decide) (by omega) ?_
        refine v_iload_n dX12_sum_84 rfl ?_
        refine v_ireti dX12_sum_85 rfl (Nat.le_refl _) (Nat.le_refl _) ?_
        exact hf _ _ _ _ (pLoop_f (by rw [c19_1]; rfl) c57_2) (by omega) (by omega) (by omega)
      · dsimp only [Option.toList, List.cons_append, List.nil_append, Nat.add_zero]
        refine v_i2l dX12_sum_60 ?_
        refine v_lstore_n_3 dX12_sum_61 (by decide) rfl ?_
        refine v_iload_n dX12_sum_62 rfl ?_
        refine v_if_eq_f (tgt := 73) dX12_sum_63 (by decide) (by decide) ?_
        refine v_iload_n dX12_sum_66 rfl ?_
        refine v_i2l dX12_sum_67 ?_
        refine v_lload_n dX12_sum_68 rfl ?_
        refine v_ladd dX12_sum_69 ?_
        refine v_goto (tgt := 77) dX12_sum_70 (by decide) ?_
        refine v_calls (M' := mX12_bound) (d' := d - 1) (mc' := 0) (ms' := 0) (As := [_]) dX12_sum_77 k_1802 cm_X12_bound (by omega) (Nat.le_of_ble_eq_true rfl) rfl ⟨Nat.le_refl _, Nat.le_refl _⟩ ?_
        refine s_bd (by omega) ?_
        dsimp only [Option.toList, List.cons_append, List.nil_append, Nat.add_zero]
        refine v_istore_n_1 dX12_sum_80 (by decide) rfl ?_
        refine v_goto (tgt := 5) dX12_sum_81 (by decide) ?_
        have ej : ((bd (ladd v xv_11)) : Int) = bd (jn 43 v xv_11) := congrArg bd (ladd_bd (by omega) (by omega) (by omega) (by omega))
        have hbj := @bd_rng (jn 43 v xv_11)
        have hvj : VH (ltr h) (k ++ xk_11 ++ [-(pk u n a)]) (bd (jn 43 v xv_11)) mm := by rw [c19_1]; exact VH_bin hk c57_9 (Nat.le_refl _) hm (by decide)
        have el : pLoop u n oAdd P (m + 1) a k = pLoop u n oAdd P m xa_11 (k ++ xk_11 ++ [-(pk u n a)]) := pLoop_s (by rw [c19_1]; rfl) c57_6
        rw [el] at hf hsu
        refine v_loc (lo_k (lo_k (lo_d (lo_d (lo_d lo_nil))))) ?_
        have ih9 := ih (by omega) (by omega) (by omega) hvj hbj.1 hbj.2 hf (fun a9 k9 v9 q1 q2 q3 q4 q5 q6 => hsu a9 k9 v9 q1 (by omega) q3 q4 q5 q6)
        rw [← ej] at ih9
        exact ih9
    · refine v_aload_n dX12_sum_22 rfl ?_
      refine v_callv (M' := mX12_look) (d' := d - 1) (mc' := 0) (ms' := 0) (ci := 12) (c := 116) (As := []) dX12_sum_23 k_1755 cm_X12_look rfl (by omega) (by decide) kk_116 (Nat.le_of_ble_eq_true rfl) rfl ⟨Nat.le_refl _, Nat.le_refl _⟩ ?_
      refine s_look2 (by omega) hT0 (by omega) (by omega) ?_
      dsimp only [Option.toList, List.cons_append, List.nil_append, Nat.add_zero]
      refine v_bipush dX12_sum_26 (c32 rfl) (by decide) ?_
      refine v_icmp_ne (tgt := 84) dX12_sum_28 (by decide) (fun c28_12 => ?_) (fun c28_12 => ?_)
      · refine v_iload_n dX12_sum_84 rfl ?_
        refine v_ireti dX12_sum_85 rfl (Nat.le_refl _) (Nat.le_refl _) ?_
        exact hsu _ _ _ (pLoop_no (oAdd_f c19_1 c28_12)) hsg (hsl) hk hb1 hb2
      · refine v_aload_n dX12_sum_31 rfl ?_
        refine v_callv (M' := mX12_look) (d' := d - 1) (mc' := 0) (ms' := 0) (ci := 12) (c := 116) (As := []) dX12_sum_32 k_1755 cm_X12_look rfl (by omega) (by decide) kk_116 (Nat.le_of_ble_eq_true rfl) rfl ⟨Nat.le_refl _, Nat.le_refl _⟩ ?_
        refine s_look2 (by omega) hT0 (by omega) (by omega) ?_
        dsimp only [Option.toList, List.cons_append, List.nil_append, Nat.add_zero]
        refine v_bipush dX12_sum_35 (c32 rfl) (by decide) ?_
        refine v_icmp_ne_t (tgt := 44) dX12_sum_37 (by decide) (by omega) ?_
        refine v_iconst dX12_sum_44 (c32 rfl) ?_
        refine v_istore_n_2 dX12_sum_45 (by decide) rfl ?_
        refine v_aload_n dX12_sum_46 rfl ?_
        refine v_dup dX12_sum_47 rfl ?_
        refine v_getv (ci := 12) (j := 20) (ji := 20) (tg := 0) dX12_sum_48 k_1436 (by decide) kk_116 (by decide) rfl rfl (by decide) (pst_r20) ?_
        refine v_iconst dX12_sum_51 (c32 rfl) ?_
        refine v_iaddE dX12_sum_52 (by omega) ?_
        refine v_puti (ci := 12) (j := 20) (ji := 20) dX12_sum_53 k_1436 (by decide) kk_116 (by decide) rfl rfl rfl ?_
        rw [pst_w20]
        refine v_aload_n dX12_sum_56 rfl ?_
        refine v_callv (M' := mX12_term) (d' := d - 1) (mc' := 0) (ms' := 0) (ci := 12) (c := 116) (As := []) dX12_sum_57 k_1785 cm_X12_term rfl (by omega) (by decide) kk_116 (Nat.le_of_ble_eq_true rfl) rfl ⟨Nat.le_refl _, Nat.le_refl _⟩ ?_
        refine hI (by omega) (by omega) (by omega) (fun xe_16 xv_16 xa_16 xd_16 c57_13 c57_14 c57_15 c57_16 => ?_) (fun xa_22 xk_22 xv_22 c57_17 c57_18 c57_19 c57_20 c57_21 c57_22 => ?_)
        · dsimp only [Option.toList, List.cons_append, List.nil_append, Nat.add_zero]
          refine v_i2l dX12_sum_60 ?_
          refine v_lstore_n_3 dX12_sum_61 (by decide) rfl ?_
          refine v_iload_n dX12_sum_62 rfl ?_
          refine v_if_eq_t (tgt := 73) dX12_sum_63 (by decide) (by decide) ?_
          refine v_iload_n dX12_sum_73 rfl ?_
          refine v_i2l dX12_sum_74 ?_
          refine v_lload_n dX12_sum_75 rfl ?_
          refine v_lsub dX12_sum_76 ?_
          refine v_calls (M' := mX12_bound) (d' := d - 1) (mc' := 0) (ms' := 0) (As := [_]) dX12_sum_77 k_1802 cm_X12_bound (by omega) (Nat.le_of_ble_eq_true rfl) rfl ⟨Nat.le_refl _, Nat.le_refl _⟩ ?_
          refine s_bd (by omega) ?_
          dsimp only [Option.toList, List.cons_append, List.nil_append, Nat.add_zero]
          refine v_istore_n_1 dX12_sum_80 (by decide) rfl ?_
          refine v_goto (tgt := 5) dX12_sum_81 (by decide) ?_
          refine v_aload_n dX12_sum_5 rfl ?_
          refine v_getv (ci := 12) (j := 21) (ji := 21) (tg := 0) dX12_sum_6 k_1437 (by decide) kk_116 (by decide) rfl rfl (by decide) (pst_r21) ?_
          refine v_iconst dX12_sum_9 (c32 rfl) ?_
          refine v_icmp_ne_t (tgt := 84) dX12_sum_10 (by decide) (by omega) ?_
          refine v_iload_n dX12_sum_84 rfl ?_
          refine v_ireti dX12_sum_85 rfl (Nat.le_refl _) (Nat.le_refl _) ?_
          exact hf _ _ _ _ (pLoop_f (by rw [c28_12]; rfl) c57_13) (by omega) (by omega) (by omega)
        · dsimp only [Option.toList, List.cons_append, List.nil_append, Nat.add_zero]
          refine v_i2l dX12_sum_60 ?_
          refine v_lstore_n_3 dX12_sum_61 (by decide) rfl ?_
          refine v_iload_n dX12_sum_62 rfl ?_
          refine v_if_eq_t (tgt := 73) dX12_sum_63 (by decide) (by decide) ?_
          refine v_iload_n dX12_sum_73 rfl ?_
          refine v_i2l dX12_sum_74 ?_
          refine v_lload_n dX12_sum_75 rfl ?_
          refine v_lsub dX12_sum_76 ?_
          refine v_calls (M' := mX12_bound) (d' := d - 1) (mc' := 0) (ms' := 0) (As := [_]) dX12_sum_77 k_1802 cm_X12_bound (by omega) (Nat.le_of_ble_eq_true rfl) rfl ⟨Nat.le_refl _, Nat.le_refl _⟩ ?_
          refine s_bd (by omega) ?_
          dsimp only [Option.toList, List.cons_append, List.nil_append, Nat.add_zero]
          refine v_istore_n_1 dX12_sum_80 (by decide) rfl ?_
          refine v_goto (tgt := 5) dX12_sum_81 (by decide) ?_
          have ej : ((bd (lsub v xv_22)) : Int) = bd (jn 45 v xv_22) := congrArg bd (lsub_bd (by omega) (by omega) (by omega) (by omega))
          have hbj := @bd_rng (jn 45 v xv_22)
          have hvj : VH (ltr h) (k ++ xk_22 ++ [-(pk u n a)]) (bd (jn 45 v xv_22)) mm := by rw [c28_12]; exact VH_bin hk c57_20 (Nat.le_refl _) hm (by decide)
          have el : pLoop u n oAdd P (m + 1) a k = pLoop u n oAdd P m xa_22 (k ++ xk_22 ++ [-(pk u n a)]) := pLoop_s (by rw [c28_12]; rfl) c57_17
          rw [el] at hf hsu
          refine v_loc (lo_k (lo_k (lo_d (lo_d (lo_d lo_nil))))) ?_
          have ih9 := ih (by omega) (by omega) (by omega) hvj hbj.1 hbj.2 hf (fun a9 k9 v9 q1 q2 q3 q4 q5 q6 => hsu a9 k9 v9 q1 (by omega) q3 q4 q5 q6)
          rw [← ej] at ih9
          exact ih9

set_option maxHeartbeats 4000000 in
set_option maxRecDepth 100000 in
theorem r_sum {l : Launch} {G : GG} {h : AH} {t b n : Int} {u : Int → Int} {tn : Nat} {dp : Int} {N mI mm : Nat} {P : Int → PR} (hdp : 0 ≤ dp ∧ dp ≤ 8) (hT : MT h t b n u tn) (hI : RdS l G h u n dp N mI mX12_term P) (hm : mI + 1 ≤ mm) (hmi : mI ≤ mm) (hN : 4 ≤ N) : RdS l G h u n dp (N + 1) mm mX12_sum (fun a => pThen (P a) (pLoop u n oAdd P 201)) := by
  intro d a Q hd h0 h1 hf hsu
  have hT0 := hT
  obtain ⟨htt, hkt, hbn, htx, hbg, hen, hb0, hb1, hn0, hn1, hur, hu⟩ := hT
  have hpk := @pk_rng u n a hur h0
  have hsg := @sk_ge u n a
  have hsl := @sk_le u n a h1
  refine sp_of (L := [(2, 116), (9, 0), (9, 0), (9, 0), (9, 0)]) pl_X12 (Nat.le_of_ble_eq_true rfl) (tg_c (by decide) tg_0) rfl ?_
  refine v_aload_n dX12_sum_0 rfl ?_
  refine v_callv (M' := mX12_term) (d' := d - 1) (mc' := 0) (ms' := 0) (ci := 12) (c := 116) (As := []) dX12_sum_1 k_1785 cm_X12_term rfl (by omega) (by decide) kk_116 (Nat.le_of_ble_eq_true rfl) rfl ⟨Nat.le_refl _, Nat.le_refl _⟩ ?_
  refine hI (by omega) (by omega) (by omega) (fun xe_4 xv_4 xa_4 xd_4 c1_1 c1_2 c1_3 c1_4 => ?_) (fun xa_10 xk_10 xv_10 c1_5 c1_6 c1_7 c1_8 c1_9 c1_10 => ?_)
  · dsimp only [Option.toList, List.cons_append, List.nil_append, Nat.add_zero]
    refine v_istore_n_1 dX12_sum_4 (by decide) rfl ?_
    refine v_aload_n dX12_sum_5 rfl ?_
    refine v_getv (ci := 12) (j := 21) (ji := 21) (tg := 0) dX12_sum_6 k_1437 (by decide) kk_116 (by decide) rfl rfl (by decide) (pst_r21) ?_
    refine v_iconst dX12_sum_9 (c32 rfl) ?_
    refine v_icmp_ne_t (tgt := 84) dX12_sum_10 (by decide) (by omega) ?_
    refine v_iload_n dX12_sum_84 rfl ?_
    refine v_ireti dX12_sum_85 rfl (Nat.le_refl _) (Nat.le_refl _) ?_
    exact hf _ _ _ _ (pThen_l c1_1) (by omega) (by omega) (by omega)
  · dsimp only [Option.toList, List.cons_append, List.nil_append, Nat.add_zero]
    refine v_istore_n_1 dX12_sum_4 (by decide) rfl ?_
    refine lp_sum (by omega) ⟨by omega, by omega⟩ hT0 hI hm hN (m := 201) (by omega) (by omega) (by omega) (c1_8.mono hmi) (by omega) (by omega) (fun e9 v9 a9 d9 q1 => hf e9 v9 a9 d9 ((pThen_r c1_5).trans q1)) (fun a9 k9 v9 q1 q2 => hsu a9 k9 v9 ((pThen_r c1_5).trans q1) (by omega))

theorem r_sumL {l : Launch} {G : GG} {h : AH} {t b n : Int} {u : Int → Int} {tn : Nat} (hT : MT h t b n u tn) (hL : LTB h) : ∀ {D : Nat} {dp : Int}, dp + D = 8 → 0 ≤ dp → RdS l G h u n dp (7 + 3 * D) (3 + 2 * D) mX12_sum (sumL u n D) := by
  intro D
  induction D with
  | zero =>
    intro dp hD hdp
    have a1 := r_atom (l := l) (G := G) (D := 0) hD hdp hT hL (fun D' e => by omega)
    have a2 := r_term (mm := 2) ⟨hdp, by omega⟩ hT a1 (by omega) (by omega) (by omega)
    exact r_sum (mm := 3) ⟨hdp, by omega⟩ hT a2 (by omega) (by omega) (by omega)
  | succ D ih =>
    intro dp hD hdp
    have a1 := r_atom (l := l) (G := G) (D := D + 1) (dp := dp) hD hdp hT hL (fun D' e => by
      obtain rfl : D' = D := by omega
      exact ih (by omega) (by omega))
    have a2 := r_term (mm := 2 + 2 * (D + 1)) ⟨hdp, by omega⟩ hT a1 (by omega) (by omega) (by omega)
    have a3 := r_sum (mm := 3 + 2 * (D + 1)) ⟨hdp, by omega⟩ hT a2 (by omega) (by omega) (by omega)
    rw [show 5 + 3 * (D + 1) + 1 + 1 = 7 + 3 * (D + 1) by omega] at a3
    exact a3

set_option maxHeartbeats 4000000 in
set_option maxRecDepth 100000 in
theorem lp_part {l : Launch} {G : GG} {h : AH} {t b n : Int} {u : Int → Int} {tn : Nat} {dp : Int} {N mI mm d : Nat} {P : Int → PR} {Q : Option AV → List Kd → AH → Prop} (hd : N + 1 ≤ d) (hdp : 0 ≤ dp ∧ dp ≤ 8) (hT : MT h t b n u tn) (hI : RdB l G h u n dp N mI mX12_unit [] P) (hm : mI + 1 ≤ mm) (hN : 4 ≤ N) : ∀ {m : Nat} {a v : Int} {k : List Int}, n - a < m → 0 ≤ a → a ≤ n → VH (ltr h) k v mm → 0 ≤ v → v < 2 →
    (∀ e v a' dp', pLoop u n oAnd P m a k = .inl e → 0 ≤ e → 0 ≤ v → v < 2 → dp ≤ dp' → dp' ≤ 8 → Q (some (0, v)) K0 (pst h a' e dp')) →
    (∀ a' k' v, pLoop u n oAnd P m a k = .inr (a', k') → a ≤ a' → a' ≤ n → VH (ltr h) k' v mm → 0 ≤ v → v < 2 → Q (some (0, v)) K0 (pst h a' (-1) dp)) →
    V l G mX12_part d 0 0 0 0 K0 18 [(2, 116), (9, 0), (9, 0), (0, v), (9, 0)] [] (pst h a (-1) dp) Q := by
  have hT0 := hT
  obtain ⟨htt, hkt, hbn, htx, hbg, hen, hb0, hb1, hn0, hn1, hur, hu⟩ := hT
  intro m
  induction m with
  | zero => intro a v k hm0; omega
  | succ m ih =>
    intro a v k hmm h0 h1 hk hb1 hb2 hf hsu
    have hpk := @pk_rng u n a hur h0
    have hsg := @sk_ge u n a
    have hsl := @sk_le u n a h1
    refine v_aload_n dX12_part_18 rfl ?_
    refine v_getv (ci := 12) (j := 21) (ji := 21) (tg := 0) dX12_part_19 k_1437 (by decide) kk_116 (by decide) rfl rfl (by decide) (pst_r21) ?_
    refine v_iconst dX12_part_22 (c32 rfl) ?_
    refine v_icmp_ne_f (tgt := 69) dX12_part_23 (by decide) (by decide) ?_
    refine v_aload_n dX12_part_26 rfl ?_
    refine v_callv (M' := mX12_look) (d' := d - 1) (mc' := 0) (ms' := 0) (ci := 12) (c := 116) (As := []) dX12_part_27 k_1755 cm_X12_look rfl (by omega) (by decide) kk_116 (Nat.le_of_ble_eq_true rfl) rfl ⟨Nat.le_refl _, Nat.le_refl _⟩ ?_
    refine s_look (by omega) hT0 (by omega) (by omega) ?_
    dsimp only [Option.toList, List.cons_append, List.nil_append, Nat.add_zero]
    refine v_bipush dX12_part_30 (c32 rfl) (by decide) ?_
    refine v_icmp_ne (tgt := 69) dX12_part_32 (by decide) (fun c32_1 => ?_) (fun c32_1 => ?_)
    · refine v_iload_n dX12_part_69 rfl ?_
      refine v_iretz dX12_part_70 rfl (by omega) (Nat.le_refl _) (Nat.le_refl _) ?_
      exact hsu _ _ _ (pLoop_no (oAnd_f c32_1)) hsg (hsl) hk hb1 hb2
    · refine v_aload_n dX12_part_35 rfl ?_
      refine v_dup dX12_part_36 rfl ?_
      refine v_getv (ci := 12) (j := 20) (ji := 20) (tg := 0) dX12_part_37 k_1436 (by decide) kk_116 (by decide) rfl rfl (by decide) (pst_r20) ?_
      refine v_iconst dX12_part_40 (c32 rfl) ?_
      refine v_iaddE dX12_part_41 (by omega) ?_
      refine v_puti (ci := 12) (j := 20) (ji := 20) dX12_part_42 k_1436 (by decide) kk_116 (by decide) rfl rfl rfl ?_
      rw [pst_w20]
      refine v_aload_n dX12_part_45 rfl ?_
      refine v_callv (M' := mX12_unit) (d' := d - 1) (mc' := 0) (ms' := 0) (ci := 12) (c := 116) (As := []) dX12_part_46 k_1812 cm_X12_unit rfl (by omega) (by decide) kk_116 (Nat.le_of_ble_eq_true rfl) rfl ⟨Nat.le_refl _, Nat.le_refl _⟩ ?_
      refine hI (by omega) (by omega) (by omega) (fun xe_7 xv_7 xa_7 xd_7 c46_2 c46_3 c46_4 c46_5 c46_6 c46_7 => ?_) (fun xa_13 xk_13 xv_13 c46_8 c46_9 c46_10 c46_11 c46_12 c46_13 => ?_)
      · dsimp only [Option.toList, List.cons_append, List.nil_append, Nat.add_zero]
        refine v_istore_4 dX12_part_49 (by decide) rfl ?_
        refine v_iload_n dX12_part_51 rfl ?_
        refine v_if_eq (tgt := 64) dX12_part_52 (by decide) (fun c52_14 => ?_) (fun c52_14 => ?_)
        · refine v_iconst dX12_part_64 (c32 rfl) ?_
          refine v_istore_n_3 dX12_part_65 (by decide) rfl ?_
          refine v_goto (tgt := 18) dX12_part_66 (by decide) ?_
          refine v_aload_n dX12_part_18 rfl ?_
          refine v_getv (ci := 12) (j := 21) (ji := 21) (tg := 0) dX12_part_19 k_1437 (by decide) kk_116 (by decide) rfl rfl (by decide) (pst_r21) ?_
          refine v_iconst dX12_part_22 (c32 rfl) ?_
          refine v_icmp_ne_t (tgt := 69) dX12_part_23 (by decide) (by omega) ?_
          refine v_iload_n dX12_part_69 rfl ?_
          refine v_iretz dX12_part_70 rfl (by decide) (Nat.le_refl _) (Nat.le_refl _) ?_
          exact hf _ _ _ _ (pLoop_f (by rw [c32_1]; rfl) c46_2) (by omega) (by omega) (by omega) (by omega) (by omega)
        · refine v_iload dX12_part_55 rfl ?_
          refine v_if_eq (tgt := 64) dX12_part_57 (by decide) (fun c57_15 => ?_) (fun c57_15 => ?_)
          · refine v_iconst dX12_part_64 (c32 rfl) ?_
            refine v_istore_n_3 dX12_part_65 (by decide) rfl ?_
            refine v_goto (tgt := 18) dX12_part_66 (by decide) ?_
            refine v_aload_n dX12_part_18 rfl ?_
            refine v_getv (ci := 12) (j := 21) (ji := 21) (tg := 0) dX12_part_19 k_1437 (by decide) kk_116 (by decide) rfl rfl (by decide) (pst_r21) ?_
            refine v_iconst dX12_part_22 (c32 rfl) ?_
            refine v_icmp_ne_t (tgt := 69) dX12_part_23 (by decide) (by omega) ?_
            refine v_iload_n dX12_part_69 rfl ?_
            refine v_iretz dX12_part_70 rfl (by decide) (Nat.le_refl _) (Nat.le_refl _) ?_
            exact hf _ _ _ _ (pLoop_f (by rw [c32_1]; rfl) c46_2) (by omega) (by omega) (by omega) (by omega) (by omega)
          · refine v_iconst dX12_part_60 (c32 rfl) ?_
            refine v_goto (tgt := 65) dX12_part_61 (by decide) ?_
            refine v_istore_n_3 dX12_part_65 (by decide) rfl ?_
            refine v_goto (tgt := 18) dX12_part_66 (by decide) ?_
            refine v_aload_n dX12_part_18 rfl ?_
            refine v_getv (ci := 12) (j := 21) (ji := 21) (tg := 0) dX12_part_19 k_1437 (by decide) kk_116 (by decide) rfl rfl (by decide) (pst_r21) ?_
            refine v_iconst dX12_part_22 (c32 rfl) ?_
            refine v_icmp_ne_t (tgt := 69) dX12_part_23 (by decide) (by omega) ?_
            refine v_iload_n dX12_part_69 rfl ?_
            refine v_iretz dX12_part_70 rfl (by decide) (Nat.le_refl _) (Nat.le_refl _) ?_
            exact hf _ _ _ _ (pLoop_f (by rw [c32_1]; rfl) c46_2) (by omega) (by omega) (by omega) (by omega) (by omega)
      · dsimp only [Option.toList, List.cons_append, List.nil_append, Nat.add_zero]
        refine v_istore_4 dX12_part_49 (by decide) rfl ?_
        refine v_iload_n dX12_part_51 rfl ?_
        refine v_if_eq (tgt := 64) dX12_part_52 (by decide) (fun c52_16 => ?_) (fun c52_16 => ?_)
        · refine v_iconst dX12_part_64 (c32 rfl) ?_
          refine v_istore_n_3 dX12_part_65 (by decide) rfl ?_
          refine v_goto (tgt := 18) dX12_part_66 (by decide) ?_
          have ej : (0 : Int) = bd (jn 38 v xv_13) := by rw [bAnd (by omega) (by omega) (by omega) (by omega)]; rw [if_pos c52_16]
          have hbj : 0 ≤ bd (jn 38 v xv_13) ∧ bd (jn 38 v xv_13) < 2 := by rw [← ej]; decide
          have hvj : VH (ltr h) (k ++ xk_13 ++ [-(pk u n a)]) (bd (jn 38 v xv_13)) mm := by rw [c32_1]; exact VH_bin hk c46_11 (Nat.le_refl _) hm (by decide)
          have el : pLoop u n oAnd P (m + 1) a k = pLoop u n oAnd P m xa_13 (k ++ xk_13 ++ [-(pk u n a)]) := pLoop_s (by rw [c32_1]; rfl) c46_8
          rw [el] at hf hsu
          refine v_loc (lo_k (lo_d (lo_d (lo_k (lo_d lo_nil))))) ?_
          have ih9 := ih (by omega) (by omega) (by omega) hvj hbj.1 hbj.2 hf (fun a9 k9 v9 q1 q2 q3 q4 q5 q6 => hsu a9 k9 v9 q1 (by omega) q3 q4 q5 q6)
          rw [← ej] at ih9
          exact ih9
        · refine v_iload dX12_part_55 rfl ?_
          refine v_if_eq (tgt := 64) dX12_part_57 (by decide) (fun c57_17 => ?_) (fun c57_17 => ?_)
          · refine v_iconst dX12_part_64 (c32 rfl) ?_
            refine v_istore_n_3 dX12_part_65 (by decide) rfl ?_
            refine v_goto (tgt := 18) dX12_part_66 (by decide) ?_
            have ej : (0 : Int) = bd (jn 38 v xv_13) := by rw [bAnd (by omega) (by omega) (by omega) (by omega)]; rw [if_neg c52_16, if_pos c57_17]
            have hbj : 0 ≤ bd (jn 38 v xv_13) ∧ bd (jn 38 v xv_13) < 2 := by rw [← ej]; decide
            have hvj : VH (ltr h) (k ++ xk_13 ++ [-(pk u n a)]) (bd (jn 38 v xv_13)) mm := by rw [c32_1]; exact VH_bin hk c46_11 (Nat.le_refl _) hm (by decide)
            have el : pLoop u n oAnd P (m + 1) a k = pLoop u n oAnd P m xa_13 (k ++ xk_13 ++ [-(pk u n a)]) := pLoop_s (by rw [c32_1]; rfl) c46_8
            rw [el] at hf hsu
            refine v_loc (lo_k (lo_d (lo_d (lo_k (lo_d lo_nil))))) ?_
            have ih9 := ih (by omega) (by omega) (by omega) hvj hbj.1 hbj.2 hf (fun a9 k9 v9 q1 q2 q3 q4 q5 q6 => hsu a9 k9 v9 q1 (by omega) q3 q4 q5 q6)
            rw [← ej] at ih9
            exact ih9
          · refine v_iconst dX12_part_60 (c32 rfl) ?_
            refine v_goto (tgt := 65) dX12_part_61 (by decide) ?_
            refine v_istore_n_3 dX12_part_65 (by decide) rfl ?_
            refine v_goto (tgt := 18) dX12_part_66 (by decide) ?_
            have ej : (1 : Int) = bd (jn 38 v xv_13) := by rw [bAnd (by omega) (by omega) (by omega) (by omega)]; rw [if_neg c52_16, if_neg c57_17]
            have hbj : 0 ≤ bd (jn 38 v xv_13) ∧ bd (jn 38 v xv_13) < 2 := by rw [← ej]; decide
            have hvj : VH (ltr h) (k ++ xk_13 ++ [-(pk u n a)]) (bd (jn 38 v xv_13)) mm := by rw [c32_1]; exact VH_bin hk c46_11 (Nat.le_refl _) hm (by decide)
            have el : pLoop u n oAnd P (m + 1) a k = pLoop u n oAnd P m xa_13 (k ++ xk_13 ++ [-(pk u n a)]) := pLoop_s (by rw [c32_1]; rfl) c46_8
            rw [el] at hf hsu
            refine v_loc (lo_k (lo_d (lo_d (lo_k (lo_d lo_nil))))) ?_
            have ih9 := ih (by omega) (by omega) (by omega) hvj hbj.1 hbj.2 hf (fun a9 k9 v9 q1 q2 q3 q4 q5 q6 => hsu a9 k9 v9 q1 (by omega) q3 q4 q5 q6)
            rw [← ej] at ih9
            exact ih9

set_option maxHeartbeats 4000000 in
set_option maxRecDepth 100000 in
theorem r_part {l : Launch} {G : GG} {h : AH} {t b n : Int} {u : Int → Int} {tn : Nat} {dp : Int} {N mI mm : Nat} {P : Int → PR} (hdp : 0 ≤ dp ∧ dp ≤ 8) (hT : MT h t b n u tn) (hI : RdB l G h u n dp N mI mX12_unit [] P) (hm : mI + 1 ≤ mm) (hmi : mI ≤ mm) (hN : 4 ≤ N) : RdB l G h u n dp (N + 1) mm mX12_part [(0, 0), (0, 0)] (fun a => pThen (P a) (pLoop u n oAnd P 201)) := by
  intro d a Q hd h0 h1 hf hsu
  have hT0 := hT
  obtain ⟨htt, hkt, hbn, htx, hbg, hen, hb0, hb1, hn0, hn1, hur, hu⟩ := hT
  have hpk := @pk_rng u n a hur h0
  have hsg := @sk_ge u n a
  have hsl := @sk_le u n a h1
  refine sp_of (L := [(2, 116), (0, 0), (0, 0), (9, 0), (9, 0)]) pl_X12 (Nat.le_of_ble_eq_true rfl) (tg_c (by decide) (tg_c (by decide) (tg_c (by decide) tg_0))) rfl ?_
  refine v_iload_n dX12_part_0 rfl ?_
  refine v_if_eq_t (tgt := 13) dX12_part_1 (by decide) (by decide) ?_
  refine v_aload_n dX12_part_13 rfl ?_
  refine v_callv (M' := mX12_unit) (d' := d - 1) (mc' := 0) (ms' := 0) (ci := 12) (c := 116) (As := []) dX12_part_14 k_1812 cm_X12_unit rfl (by omega) (by decide) kk_116 (Nat.le_of_ble_eq_true rfl) rfl ⟨Nat.le_refl _, Nat.le_refl _⟩ ?_
  refine hI (by omega) (by omega) (by omega) (fun xe_6 xv_6 xa_6 xd_6 c14_1 c14_2 c14_3 c14_4 c14_5 c14_6 => ?_) (fun xa_12 xk_12 xv_12 c14_7 c14_8 c14_9 c14_10 c14_11 c14_12 => ?_)
  · dsimp only [Option.toList, List.cons_append, List.nil_append, Nat.add_zero]
    refine v_istore_n_3 dX12_part_17 (by decide) rfl ?_
    refine v_aload_n dX12_part_18 rfl ?_
    refine v_getv (ci := 12) (j := 21) (ji := 21) (tg := 0) dX12_part_19 k_1437 (by decide) kk_116 (by decide) rfl rfl (by decide) (pst_r21) ?_
    refine v_iconst dX12_part_22 (c32 rfl) ?_
    refine v_icmp_ne_t (tgt := 69) dX12_part_23 (by decide) (by omega) ?_
    refine v_iload_n dX12_part_69 rfl ?_
    refine v_iretz dX12_part_70 rfl (by omega) (Nat.le_refl _) (Nat.le_refl _) ?_
    exact hf _ _ _ _ (pThen_l c14_1) (by omega) (by omega) (by omega) (by omega) (by omega)
  · dsimp only [Option.toList, List.cons_append, List.nil_append, Nat.add_zero]
    refine v_istore_n_3 dX12_part_17 (by decide) rfl ?_
    refine v_loc (lo_k (lo_d (lo_d (lo_k (lo_d lo_nil))))) ?_
    refine lp_part (by omega) ⟨by omega, by omega⟩ hT0 hI hm hN (m := 201) (by omega) (by omega) (by omega) (c14_10.mono hmi) (by omega) (by omega) (fun e9 v9 a9 d9 q1 => hf e9 v9 a9 d9 ((pThen_r c14_7).trans q1)) (fun a9 k9 v9 q1 q2 => hsu a9 k9 v9 ((pThen_r c14_7).trans q1) (by omega))

set_option maxHeartbeats 4000000 in
set_option maxRecDepth 100000 in
theorem lp_cond {l : Launch} {G : GG} {h : AH} {t b n : Int} {u : Int → Int} {tn : Nat} {dp : Int} {N mI mm d : Nat} {P : Int → PR} {Q : Option AV → List Kd → AH → Prop} (hd : N + 1 ≤ d) (hdp : 0 ≤ dp ∧ dp ≤ 8) (hT : MT h t b n u tn) (hI : RdB l G h u n dp N mI mX12_part [(0, 0), (0, 0)] P) (hm : mI + 1 ≤ mm) (hN : 4 ≤ N) : ∀ {m : Nat} {a v : Int} {k : List Int}, n - a < m → 0 ≤ a → a ≤ n → VH (ltr h) k v mm → 0 ≤ v → v < 2 →
    (∀ e v a' dp', pLoop u n oOr P m a k = .inl e → 0 ≤ e → 0 ≤ v → v < 2 → dp ≤ dp' → dp' ≤ 8 → Q (some (0, v)) K0 (pst h a' e dp')) →
    (∀ a' k' v, pLoop u n oOr P m a k = .inr (a', k') → a ≤ a' → a' ≤ n → VH (ltr h) k' v mm → 0 ≤ v → v < 2 → Q (some (0, v)) K0 (pst h a' (-1) dp)) →
    V l G mX12_condition d 0 0 0 0 K0 7 [(2, 116), (9, 0), (9, 0), (0, v), (9, 0)] [] (pst h a (-1) dp) Q := by
  have hT0 := hT
  obtain ⟨htt, hkt, hbn, htx, hbg, hen, hb0, hb1, hn0, hn1, hur, hu⟩ := hT
  intro m
  induction m with
  | zero => intro a v k hm0; omega
  | succ m ih =>
    intro a v k hmm h0 h1 hk hb1 hb2 hf hsu
    have hpk := @pk_rng u n a hur h0
    have hsg := @sk_ge u n a
    have hsl := @sk_le u n a h1
    refine v_aload_n dX12_condition_7 rfl ?_
    refine v_getv (ci := 12) (j := 21) (ji := 21) (tg := 0) dX12_condition_8 k_1437 (by decide) kk_116 (by decide) rfl rfl (by decide) (pst_r21) ?_
    refine v_iconst dX12_condition_11 (c32 rfl) ?_
    refine v_icmp_ne_f (tgt := 60) dX12_condition_12 (by decide) (by decide) ?_
    refine v_aload_n dX12_condition_15 rfl ?_
    refine v_callv (M' := mX12_look) (d' := d - 1) (mc' := 0) (ms' := 0) (ci := 12) (c := 116) (As := []) dX12_condition_16 k_1755 cm_X12_look rfl (by omega) (by decide) kk_116 (Nat.le_of_ble_eq_true rfl) rfl ⟨Nat.le_refl _, Nat.le_refl _⟩ ?_
    refine s_look (by omega) hT0 (by omega) (by omega) ?_
    dsimp only [Option.toList, List.cons_append, List.nil_append, Nat.add_zero]
    refine v_bipush dX12_condition_19 (c32 rfl) (by decide) ?_
    refine v_icmp_ne (tgt := 60) dX12_condition_21 (by decide) (fun c21_1 => ?_) (fun c21_1 => ?_)
    · refine v_iload_n dX12_condition_60 rfl ?_
      refine v_iretz dX12_condition_61 rfl (by omega) (Nat.le_refl _) (Nat.le_refl _) ?_
      exact hsu _ _ _ (pLoop_no (oOr_f c21_1)) hsg (hsl) hk hb1 hb2
    · refine v_aload_n dX12_condition_24 rfl ?_
      refine v_dup dX12_condition_25 rfl ?_
      refine v_getv (ci := 12) (j := 20) (ji := 20) (tg := 0) dX12_condition_26 k_1436 (by decide) kk_116 (by decide) rfl rfl (by decide) (pst_r20) ?_
      refine v_iconst dX12_condition_29 (c32 rfl) ?_
      refine v_iaddE dX12_condition_30 (by omega) ?_
      refine v_puti (ci := 12) (j := 20) (ji := 20) dX12_condition_31 k_1436 (by decide) kk_116 (by decide) rfl rfl rfl ?_
      rw [pst_w20]
      refine v_aload_n dX12_condition_34 rfl ?_
      refine v_iconst dX12_condition_35 (c32 rfl) ?_
      refine v_iconst dX12_condition_36 (c32 rfl) ?_
      refine v_callv (M' := mX12_part) (d' := d - 1) (mc' := 0) (ms' := 0) (ci := 12) (c := 116) (As := [_, _]) dX12_condition_37 k_1773 cm_X12_part rfl (by omega) (by decide) kk_116 (Nat.le_of_ble_eq_true rfl) rfl ⟨Nat.le_refl _, Nat.le_refl _⟩ ?_
      refine hI (by omega) (by omega) (by omega) (fun xe_7 xv_7 xa_7 xd_7 c37_2 c37_3 c37_4 c37_5 c37_6 c37_7 => ?_) (fun xa_13 xk_13 xv_13 c37_8 c37_9 c37_10 c37_11 c37_12 c37_13 => ?_)
      · dsimp only [Option.toList, List.cons_append, List.nil_append, Nat.add_zero]
        refine v_istore_4 dX12_condition_40 (by decide) rfl ?_
        refine v_iload_n dX12_condition_42 rfl ?_
        refine v_if_ne (tgt := 51) dX12_condition_43 (by decide) (fun c43_14 => ?_) (fun c43_14 => ?_)
        · refine v_iconst dX12_condition_51 (c32 rfl) ?_
          refine v_goto (tgt := 56) dX12_condition_52 (by decide) ?_
          refine v_istore_n_3 dX12_condition_56 (by decide) rfl ?_
          refine v_goto (tgt := 7) dX12_condition_57 (by decide) ?_
          refine v_aload_n dX12_condition_7 rfl ?_
          refine v_getv (ci := 12) (j := 21) (ji := 21) (tg := 0) dX12_condition_8 k_1437 (by decide) kk_116 (by decide) rfl rfl (by decide) (pst_r21) ?_
          refine v_iconst dX12_condition_11 (c32 rfl) ?_
          refine v_icmp_ne_t (tgt := 60) dX12_condition_12 (by decide) (by omega) ?_
          refine v_iload_n dX12_condition_60 rfl ?_
          refine v_iretz dX12_condition_61 rfl (by decide) (Nat.le_refl _) (Nat.le_refl _) ?_
          exact hf _ _ _ _ (pLoop_f (by rw [c21_1]; rfl) c37_2) (by omega) (by omega) (by omega) (by omega) (by omega)
        · refine v_iload dX12_condition_46 rfl ?_
          refine v_if_eq (tgt := 55) dX12_condition_48 (by decide) (fun c48_15 => ?_) (fun c48_15 => ?_)
          · refine v_iconst dX12_condition_55 (c32 rfl) ?_
            refine v_istore_n_3 dX12_condition_56 (by decide) rfl ?_
            refine v_goto (tgt := 7) dX12_condition_57 (by decide) ?_
            refine v_aload_n dX12_condition_7 rfl ?_
            refine v_getv (ci := 12) (j := 21) (ji := 21) (tg := 0) dX12_condition_8 k_1437 (by decide) kk_116 (by decide) rfl rfl (by decide) (pst_r21) ?_
            refine v_iconst dX12_condition_11 (c32 rfl) ?_
            refine v_icmp_ne_t (tgt := 60) dX12_condition_12 (by decide) (by omega) ?_
            refine v_iload_n dX12_condition_60 rfl ?_
            refine v_iretz dX12_condition_61 rfl (by decide) (Nat.le_refl _) (Nat.le_refl _) ?_
            exact hf _ _ _ _ (pLoop_f (by rw [c21_1]; rfl) c37_2) (by omega) (by omega) (by omega) (by omega) (by omega)
          · refine v_iconst dX12_condition_51 (c32 rfl) ?_
            refine v_goto (tgt := 56) dX12_condition_52 (by decide) ?_
            refine v_istore_n_3 dX12_condition_56 (by decide) rfl ?_
            refine v_goto (tgt := 7) dX12_condition_57 (by decide) ?_
            refine v_aload_n dX12_condition_7 rfl ?_
            refine v_getv (ci := 12) (j := 21) (ji := 21) (tg := 0) dX12_condition_8 k_1437 (by decide) kk_116 (by decide) rfl rfl (by decide) (pst_r21) ?_
            refine v_iconst dX12_condition_11 (c32 rfl) ?_
            refine v_icmp_ne_t (tgt := 60) dX12_condition_12 (by decide) (by omega) ?_
            refine v_iload_n dX12_condition_60 rfl ?_
            refine v_iretz dX12_condition_61 rfl (by decide) (Nat.le_refl _) (Nat.le_refl _) ?_
            exact hf _ _ _ _ (pLoop_f (by rw [c21_1]; rfl) c37_2) (by omega) (by omega) (by omega) (by omega) (by omega)
      · dsimp only [Option.toList, List.cons_append, List.nil_append, Nat.add_zero]
        refine v_istore_4 dX12_condition_40 (by decide) rfl ?_
        refine v_iload_n dX12_condition_42 rfl ?_
        refine v_if_ne (tgt := 51) dX12_condition_43 (by decide) (fun c43_16 => ?_) (fun c43_16 => ?_)
        · refine v_iconst dX12_condition_51 (c32 rfl) ?_
          refine v_goto (tgt := 56) dX12_condition_52 (by decide) ?_
          refine v_istore_n_3 dX12_condition_56 (by decide) rfl ?_
          refine v_goto (tgt := 7) dX12_condition_57 (by decide) ?_
          have ej : (1 : Int) = bd (jn 124 v xv_13) := by rw [bOr (by omega) (by omega) (by omega) (by omega)]; rw [if_neg c43_16]
          have hbj : 0 ≤ bd (jn 124 v xv_13) ∧ bd (jn 124 v xv_13) < 2 := by rw [← ej]; decide
          have hvj : VH (ltr h) (k ++ xk_13 ++ [-(pk u n a)]) (bd (jn 124 v xv_13)) mm := by rw [c21_1]; exact VH_bin hk c37_11 (Nat.le_refl _) hm (by decide)
          have el : pLoop u n oOr P (m + 1) a k = pLoop u n oOr P m xa_13 (k ++ xk_13 ++ [-(pk u n a)]) := pLoop_s (by rw [c21_1]; rfl) c37_8
          rw [el] at hf hsu
          refine v_loc (lo_k (lo_d (lo_d (lo_k (lo_d lo_nil))))) ?_
          have ih9 := ih (by omega) (by omega) (by omega) hvj hbj.1 hbj.2 hf (fun a9 k9 v9 q1 q2 q3 q4 q5 q6 => hsu a9 k9 v9 q1 (by omega) q3 q4 q5 q6)
          rw [← ej] at ih9
          exact ih9
        · refine v_iload dX12_condition_46 rfl ?_
          refine v_if_eq (tgt := 55) dX12_condition_48 (by decide) (fun c48_17 => ?_) (fun c48_17 => ?_)
          · refine v_iconst dX12_condition_55 (c32 rfl) ?_
            refine v_istore_n_3 dX12_condition_56 (by decide) rfl ?_
            refine v_goto (tgt := 7) dX12_condition_57 (by decide) ?_
            have ej : (0 : Int) = bd (jn 124 v xv_13) := by rw [bOr (by omega) (by omega) (by omega) (by omega)]; rw [if_pos c43_16, if_pos c48_17]
            have hbj : 0 ≤ bd (jn 124 v xv_13) ∧ bd (jn 124 v xv_13) < 2 := by rw [← ej]; decide
            have hvj : VH (ltr h) (k ++ xk_13 ++ [-(pk u n a)]) (bd (jn 124 v xv_13)) mm := by rw [c21_1]; exact VH_bin hk c37_11 (Nat.le_refl _) hm (by decide)
            have el : pLoop u n oOr P (m + 1) a k = pLoop u n oOr P m xa_13 (k ++ xk_13 ++ [-(pk u n a)]) := pLoop_s (by rw [c21_1]; rfl) c37_8
            rw [el] at hf hsu
            refine v_loc (lo_k (lo_d (lo_d (lo_k (lo_d lo_nil))))) ?_
            have ih9 := ih (by omega) (by omega) (by omega) hvj hbj.1 hbj.2 hf (fun a9 k9 v9 q1 q2 q3 q4 q5 q6 => hsu a9 k9 v9 q1 (by omega) q3 q4 q5 q6)
            rw [← ej] at ih9
            exact ih9
          · refine v_iconst dX12_condition_51 (c32 rfl) ?_
            refine v_goto (tgt := 56) dX12_condition_52 (by decide) ?_
            refine v_istore_n_3 dX12_condition_56 (by decide) rfl ?_
            refine v_goto (tgt := 7) dX12_condition_57 (by decide) ?_
            have ej : (1 : Int) = bd (jn 124 v xv_13) := by rw [bOr (by omega) (by omega) (by omega) (by omega)]; rw [if_pos c43_16, if_neg c48_17]
            have hbj : 0 ≤ bd (jn 124 v xv_13) ∧ bd (jn 124 v xv_13) < 2 := by rw [← ej]; decide
            have hvj : VH (ltr h) (k ++ xk_13 ++ [-(pk u n a)]) (bd (jn 124 v xv_13)) mm := by rw [c21_1]; exact VH_bin hk c37_11 (Nat.le_refl _) hm (by decide)
            have el : pLoop u n oOr P (m + 1) a k = pLoop u n oOr P m xa_13 (k ++ xk_13 ++ [-(pk u n a)]) := pLoop_s (by rw [c21_1]; rfl) c37_8
            rw [el] at hf hsu
            refine v_loc (lo_k (lo_d (lo_d (lo_k (lo_d lo_nil))))) ?_
            have ih9 := ih (by omega) (by omega) (by omega) hvj hbj.1 hbj.2 hf (fun a9 k9 v9 q1 q2 q3 q4 q5 q6 => hsu a9 k9 v9 q1 (by omega) q3 q4 q5 q6)
            rw [← ej] at ih9
            exact ih9

set_option maxHeartbeats 4000000 in
set_option maxRecDepth 100000 in
theorem r_cond {l : Launch} {G : GG} {h : AH} {t b n : Int} {u : Int → Int} {tn : Nat} {dp : Int} {N mI mm : Nat} {P : Int → PR} (hdp : 0 ≤ dp ∧ dp ≤ 8) (hT : MT h t b n u tn) (hI : RdB l G h u n dp N mI mX12_part [(0, 0), (0, 0)] P) (hm : mI + 1 ≤ mm) (hmi : mI ≤ mm) (hN : 4 ≤ N) : RdB l G h u n dp (N + 1) mm mX12_condition [(0, 0), (0, 0)] (fun a => pThen (P a) (pLoop u n oOr P 201)) := by
  intro d a Q hd h0 h1 hf hsu
  have hT0 := hT
  obtain ⟨htt, hkt, hbn, htx, hbg, hen, hb0, hb1, hn0, hn1, hur, hu⟩ := hT
  have hpk := @pk_rng u n a hur h0
  have hsg := @sk_ge u n a
  have hsl := @sk_le u n a h1
  refine sp_of (L := [(2, 116), (0, 0), (0, 0), (9, 0), (9, 0)]) pl_X12 (Nat.le_of_ble_eq_true rfl) (tg_c (by decide) (tg_c (by decide) (tg_c (by decide) tg_0))) rfl ?_
  refine v_aload_n dX12_condition_0 rfl ?_
  refine v_iload_n dX12_condition_1 rfl ?_
  refine v_iload_n dX12_condition_2 rfl ?_
  refine v_callv (M' := mX12_part) (d' := d - 1) (mc' := 0) (ms' := 0) (ci := 12) (c := 116) (As := [_, _]) dX12_condition_3 k_1773 cm_X12_part rfl (by omega) (by decide) kk_116 (Nat.le_of_ble_eq_true rfl) rfl ⟨Nat.le_refl _, Nat.le_refl _⟩ ?_
  refine hI (by omega) (by omega) (by omega) (fun xe_6 xv_6 xa_6 xd_6 c3_1 c3_2 c3_3 c3_4 c3_5 c3_6 => ?_) (fun xa_12 xk_12 xv_12 c3_7 c3_8 c3_9 c3_10 c3_11 c3_12 => ?_)
  · dsimp only [Option.toList, List.cons_append, List.nil_append, Nat.add_zero]
    refine v_istore_n_3 dX12_condition_6 (by decide) rfl ?_
    refine v_aload_n dX12_condition_7 rfl ?_
    refine v_getv (ci := 12) (j := 21) (ji := 21) (tg := 0) dX12_condition_8 k_1437 (by decide) kk_116 (by decide) rfl rfl (by decide) (pst_r21) ?_
    refine v_iconst dX12_condition_11 (c32 rfl) ?_
    refine v_icmp_ne_t (tgt := 60) dX12_condition_12 (by decide) (by omega) ?_
    refine v_iload_n dX12_condition_60 rfl ?_
    refine v_iretz dX12_condition_61 rfl (by omega) (Nat.le_refl _) (Nat.le_refl _) ?_
    exact hf _ _ _ _ (pThen_l c3_1) (by omega) (by omega) (by omega) (by omega) (by omega)
  · dsimp only [Option.toList, List.cons_append, List.nil_append, Nat.add_zero]
    refine v_istore_n_3 dX12_condition_6 (by decide) rfl ?_
    refine v_loc (lo_k (lo_d (lo_d (lo_k (lo_d lo_nil))))) ?_
    refine lp_cond (by omega) ⟨by omega, by omega⟩ hT0 hI hm hN (m := 201) (by omega) (by omega) (by omega) (c3_10.mono hmi) (by omega) (by omega) (fun e9 v9 a9 d9 q1 => hf e9 v9 a9 d9 ((pThen_r c3_7).trans q1)) (fun a9 k9 v9 q1 q2 => hsu a9 k9 v9 ((pThen_r c3_7).trans q1) (by omega))

