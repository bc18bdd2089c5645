/-! ===== the reference's reader: conditions (written by wip/whole/p22.py) ===== -/
section SKL
variable {u : Int → Int} {n a : Int} {D : Nat} {nest : Option (Int → PR)}
theorem pAtom_sk : pAtom u n nest (sk u n a) = pAtom u n nest a := by unfold pAtom; rw [pk_sk, sk_sk]
theorem pTerm_sk : pTerm u n nest (sk u n a) = pTerm u n nest a := by unfold pTerm; rw [pAtom_sk]
theorem pSum_sk : pSum u n nest (sk u n a) = pSum u n nest a := by unfold pSum; rw [pTerm_sk]
theorem sumL_sk : sumL u n D (sk u n a) = sumL u n D a := by rw [sumL_eq, pSum_sk]
theorem unitL_sk : unitL u n D (sk u n a) = unitL u n D a := by
  cases D with
  | zero => unfold unitL; rw [pk_sk, sk_sk, sumL_sk]
  | succ D => unfold unitL; rw [pk_sk, sk_sk, sumL_sk]
theorem pPart_sk : pPart u n (unitL u n D) (sk u n a) = pPart u n (unitL u n D) a := by unfold pPart; rw [unitL_sk]
theorem pCond_sk : pCond u n (unitL u n D) (sk u n a) = pCond u n (unitL u n D) a := by unfold pCond; rw [pPart_sk]
end SKL
section CL
variable {l r : Int}
theorem cE1 (h : l = r) : 1 = bd (jn 61 l r) := by rw [show jn 61 l r = if l = r then 1 else 0 from rfl, if_pos h]; rfl
theorem cE0 (h : l ≠ r) : 0 = bd (jn 61 l r) := by rw [show jn 61 l r = if l = r then 1 else 0 from rfl, if_neg h]; rfl
theorem cL1 (h : l < r) : 1 = bd (jn 60 l r) := by rw [show jn 60 l r = if l < r then 1 else 0 from rfl, if_pos h]; rfl
theorem cL0 (h : r ≤ l) : 0 = bd (jn 60 l r) := by rw [show jn 60 l r = if l < r then 1 else 0 from rfl, if_neg (by omega)]; rfl
theorem cG1 (h : r < l) : 1 = bd (jn 62 l r) := by rw [show jn 62 l r = if r < l then 1 else 0 from rfl, if_pos h]; rfl
theorem cG0 (h : l ≤ r) : 0 = bd (jn 62 l r) := by rw [show jn 62 l r = if r < l then 1 else 0 from rfl, if_neg (by omega)]; rfl
theorem cN1 {v : Int} (h : v = 0) : 1 = bd (1 - v) := by rw [h]; rfl
theorem cN0 {v : Int} (h : v ≠ 0) (h0 : 0 ≤ v) (h2 : v < 2) : 0 = bd (1 - v) := by rw [show v = 1 by omega]; rfl
end CL
section PU
variable {u : Int → Int} {n a e : Int} {D : Nat} {r : Int × List Int} {k1 : List Int}
theorem pCmp_no (h : oCmp (pk u n a) = false) : pCmp u n D a k1 = .inl (sk u n a) := by unfold pCmp; rw [if_neg (by rw [h]; decide)]
theorem pCmp_f (h : oCmp (pk u n a) = true) (hf : sumL u n D (sk u n a + 1) = .inl e) : pCmp u n D a k1 = .inl e := by unfold pCmp; rw [if_pos h, hf]; rfl
theorem pCmp_s (h : oCmp (pk u n a) = true) (hf : sumL u n D (sk u n a + 1) = .inr r) : pCmp u n D a k1 = .inr (r.1, k1 ++ r.2 ++ [-(pk u n a)]) := by unfold pCmp; rw [if_pos h, hf]; rfl
theorem unit0 (h : pk u n a = 33 ∨ pk u n a = 40) : unitL u n 0 a = .inl (sk u n a) := by unfold unitL; rw [if_pos h]
theorem unit_33 (h : pk u n a = 33) : unitL u n (D + 1) a = pThen (unitL u n D (sk u n a + 1)) (fun a2 k2 => .inr (a2, k2 ++ [-33])) := by rw [unitL, if_pos h]
theorem unit_40 (h : pk u n a = 40) : unitL u n (D + 1) a = pNeed u n 41 (pCond u n (unitL u n D) (sk u n a + 1)) := by rw [unitL, if_neg (by omega), if_pos h]
theorem unit_c (h1 : pk u n a ≠ 33) (h2 : pk u n a ≠ 40) : unitL u n D a = pThen (sumL u n D (sk u n a)) (pCmp u n D) := by
  rw [sumL_sk]
  cases D with
  | zero => unfold unitL; rw [if_neg (by omega)]
  | succ D => rw [unitL, if_neg h1, if_neg h2]
theorem pNeed_l {c : Int} {x : PR} (h : x = .inl e) : pNeed u n c x = .inl e := by rw [h]; rfl
theorem pNeed_no {c : Int} {x : PR} (h : x = .inr r) (h2 : pk u n r.1 ≠ c) : pNeed u n c x = .inl (sk u n r.1) := by
  rw [h]
  show (if pk u n r.1 = c then (.inr (sk u n r.1 + 1, r.2) : PR) else .inl (sk u n r.1)) = _
  rw [if_neg h2]
theorem pNeed_s {c : Int} {x : PR} (h : x = .inr r) (h2 : pk u n r.1 = c) : pNeed u n c x = .inr (sk u n r.1 + 1, r.2) := by
  rw [h]
  show (if pk u n r.1 = c then (.inr (sk u n r.1 + 1, r.2) : PR) else .inl (sk u n r.1)) = _
  rw [if_pos h2]
end PU

set_option maxHeartbeats 4000000 in
set_option maxRecDepth 100000 in
theorem lp_cmp {l : Launch} {G : GG} {h : AH} {t b n : Int} {u : Int → Int} {tn : Nat} {dp : Int} {D d : Nat} {Q : Option AV → List Kd → AH → Prop} (hd : 8 + 3 * D ≤ d) (hdp : 0 ≤ dp ∧ dp ≤ 8) (hT : MT h t b n u tn) (hS : RdS l G h u n dp (7 + 3 * D) (3 + 2 * D) mX12_sum (sumL u n D)) {a v : Int} {k1 : List Int} (h0 : 0 ≤ a) (h1 : a ≤ n) (hk1 : VH (ltr h) k1 v (3 + 2 * D))
    (hf : ∀ e v a' dp', pCmp u n D a k1 = .inl e → 0 ≤ e → 0 ≤ v → v < 2 → dp ≤ dp' → dp' ≤ 8 → Q (some (0, v)) K0 (pst h a' e dp'))
    (hsu : ∀ a' k' v, pCmp u n D a k1 = .inr (a', k') → a ≤ a' → a' ≤ n → VH (ltr h) k' v (4 + 2 * D) → 0 ≤ v → v < 2 → Q (some (0, v)) K0 (pst h a' (-1) dp)) :
    V l G mX12_compares d 0 0 0 0 K0 13 [(2, 116), (9, 0), (9, 0), (0, v), (9, 0), (9, 0)] [] (pst h a (-1) dp) Q := by
  have hT0 := hT
  obtain ⟨htt, hkt, hbn, htx, hbg, hen, hb0, hb1, hn0, hn1, hur, hu⟩ := hT
  have hpk := @pk_rng u n a hur h0
  have hsg := @sk_ge u n a
  have hsl := @sk_le u n a h1
  refine v_aload_n dX12_compares_13 rfl ?_
  refine v_getv (ci := 12) (j := 21) (ji := 21) (tg := 0) dX12_compares_14 k_1437 (by decide) kk_116 (by decide) rfl rfl (by decide) (pst_r21) ?_
  refine v_iconst dX12_compares_17 (c32 rfl) ?_
  refine v_icmp_eq_t (tgt := 23) dX12_compares_18 (by decide) (by decide) ?_
  refine v_aload_n dX12_compares_23 rfl ?_
  refine v_callv (M' := mX12_look) (d' := d - 1) (mc' := 0) (ms' := 0) (ci := 12) (c := 116) (As := []) dX12_compares_24 k_1755 cm_X12_look rfl (by omega) (by decide) kk_116 (Nat.le_of_ble_eq_true rfl) rfl ⟨Nat.le_refl _, Nat.le_refl _⟩ ?_
  refine s_look (by omega) hT0 (by omega) (by omega) ?_
  dsimp only [Option.toList, List.cons_append, List.nil_append, Nat.add_zero]
  refine v_istore_4 dX12_compares_27 (by decide) rfl ?_
  refine v_iload dX12_compares_29 rfl ?_
  refine v_calls (M' := mX12_isSign) (d' := d - 1) (mc' := 0) (ms' := 0) (As := [_]) dX12_compares_31 k_1809 cm_X12_isSign (by omega) (Nat.le_of_ble_eq_true rfl) rfl ⟨Nat.le_refl _, Nat.le_refl _⟩ ?_
  refine s_X12_isSign (by omega) (fun c31_1 => ?_) (fun c31_2 c31_3 => ?_) (fun c31_4 c31_5 c31_6 => ?_) (fun c31_7 c31_8 c31_9 => ?_)
  · dsimp only [Option.toList, List.cons_append, List.nil_append, Nat.add_zero]
    refine v_if_ne_t (tgt := 42) dX12_compares_34 (by decide) (by decide) ?_
    refine v_aload_n dX12_compares_42 rfl ?_
    refine v_dup dX12_compares_43 rfl ?_
    refine v_getv (ci := 12) (j := 20) (ji := 20) (tg := 0) dX12_compares_44 k_1436 (by decide) kk_116 (by decide) rfl rfl (by decide) (pst_r20) ?_
    refine v_iconst dX12_compares_47 (c32 rfl) ?_
    refine v_iaddE dX12_compares_48 (by omega) ?_
    refine v_puti (ci := 12) (j := 20) (ji := 20) dX12_compares_49 k_1436 (by decide) kk_116 (by decide) rfl rfl rfl ?_
    rw [pst_w20]
    refine v_aload_n dX12_compares_52 rfl ?_
    refine v_callv (M' := mX12_sum) (d' := d - 1) (mc' := 0) (ms' := 0) (ci := 12) (c := 116) (As := []) dX12_compares_53 k_1781 cm_X12_sum rfl (by omega) (by decide) kk_116 (Nat.le_of_ble_eq_true rfl) rfl ⟨Nat.le_refl _, Nat.le_refl _⟩ ?_
    refine hS (by omega) (by omega) (by omega) (fun xe_13 xv_13 xa_13 xd_13 c53_10 c53_11 c53_12 c53_13 => ?_) (fun xa_19 xk_19 xv_19 c53_14 c53_15 c53_16 c53_17 c53_18 c53_19 => ?_)
    · dsimp only [Option.toList, List.cons_append, List.nil_append, Nat.add_zero]
      refine v_istore_5 dX12_compares_56 (by decide) rfl ?_
      refine v_iload dX12_compares_58 rfl ?_
      refine v_bipush dX12_compares_60 (c32 rfl) (by decide) ?_
      refine v_icmp_ne_f (tgt := 79) dX12_compares_62 (by decide) (by omega) ?_
      refine v_iload_n dX12_compares_65 rfl ?_
      refine v_iload dX12_compares_66 rfl ?_
      refine v_icmp_ne (tgt := 75) dX12_compares_68 (by decide) (fun c68_20 => ?_) (fun c68_20 => ?_)
      · refine v_iconst dX12_compares_75 (c32 rfl) ?_
        refine v_goto (tgt := 111) dX12_compares_76 (by decide) ?_
        refine v_iretz dX12_compares_111 rfl (by decide) (Nat.le_refl _) (Nat.le_refl _) ?_
        exact hf _ _ _ _ (pCmp_f (by rw [c31_1]; rfl) c53_10) (by omega) (by decide) (by decide) (by omega) (by omega)
      · refine v_iconst dX12_compares_71 (c32 rfl) ?_
        refine v_goto (tgt := 111) dX12_compares_72 (by decide) ?_
        refine v_iretz dX12_compares_111 rfl (by decide) (Nat.le_refl _) (Nat.le_refl _) ?_
        exact hf _ _ _ _ (pCmp_f (by rw [c31_1]; rfl) c53_10) (by omega) (by decide) (by decide) (by omega) (by omega)
    · dsimp only [Option.toList, List.cons_append, List.nil_append, Nat.add_zero]
      refine v_istore_5 dX12_compares_56 (by decide) rfl ?_
      refine v_iload dX12_compares_58 rfl ?_
      refine v_bipush dX12_compares_60 (c32 rfl) (by decide) ?_
      refine v_icmp_ne_f (tgt := 79) dX12_compares_62 (by decide) (by omega) ?_
      refine v_iload_n dX12_compares_65 rfl ?_
      refine v_iload dX12_compares_66 rfl ?_
      refine v_icmp_ne (tgt := 75) dX12_compares_68 (by decide) (fun c68_21 => ?_) (fun c68_21 => ?_)
      · refine v_iconst dX12_compares_75 (c32 rfl) ?_
        refine v_goto (tgt := 111) dX12_compares_76 (by decide) ?_
        refine v_iretz dX12_compares_111 rfl (by decide) (Nat.le_refl _) (Nat.le_refl _) ?_
        have ej : (0 : Int) = bd (jn 61 v xv_19) := cE0 c68_21
        have hvj : VH (ltr h) (k1 ++ xk_19 ++ [-(pk u n a)]) (bd (jn 61 v xv_19)) (4 + 2 * D) := by rw [c31_1]; exact VH_bin hk1 c53_17 (by omega) (by omega) (by decide)
        rw [← ej] at hvj
        exact hsu _ _ _ (pCmp_s (by rw [c31_1]; rfl) c53_14) (by omega) (by omega) hvj (by decide) (by decide)
      · refine v_iconst dX12_compares_71 (c32 rfl) ?_
        refine v_goto (tgt := 111) dX12_compares_72 (by decide) ?_
        refine v_iretz dX12_compares_111 rfl (by decide) (Nat.le_refl _) (Nat.le_refl _) ?_
        have ej : (1 : Int) = bd (jn 61 v xv_19) := cE1 c68_21
        have hvj : VH (ltr h) (k1 ++ xk_19 ++ [-(pk u n a)]) (bd (jn 61 v xv_19)) (4 + 2 * D) := by rw [c31_1]; exact VH_bin hk1 c53_17 (by omega) (by omega) (by decide)
        rw [← ej] at hvj
        exact hsu _ _ _ (pCmp_s (by rw [c31_1]; rfl) c53_14) (by omega) (by omega) hvj (by decide) (by decide)
  · dsimp only [Option.toList, List.cons_append, List.nil_append, Nat.add_zero]
    refine v_if_ne_t (tgt := 42) dX12_compares_34 (by decide) (by decide) ?_
    refine v_aload_n dX12_compares_42 rfl ?_
    refine v_dup dX12_compares_43 rfl ?_
    refine v_getv (ci := 12) (j := 20) (ji := 20) (tg := 0) dX12_compares_44 k_1436 (by decide) kk_116 (by decide) rfl rfl (by decide) (pst_r20) ?_
    refine v_iconst dX12_compares_47 (c32 rfl) ?_
    refine v_iaddE dX12_compares_48 (by omega) ?_
    refine v_puti (ci := 12) (j := 20) (ji := 20) dX12_compares_49 k_1436 (by decide) kk_116 (by decide) rfl rfl rfl ?_
    rw [pst_w20]
    refine v_aload_n dX12_compares_52 rfl ?_
    refine v_callv (M' := mX12_sum) (d' := d - 1) (mc' := 0) (ms' := 0) (ci := 12) (c := 116) (As := []) dX12_compares_53 k_1781 cm_X12_sum rfl (by omega) (by decide) kk_116 (Nat.le_of_ble_eq_true rfl) rfl ⟨Nat.le_refl _, Nat.le_refl _⟩ ?_
    refine hS (by omega) (by omega) (by omega) (fun xe_25 xv_25 xa_25 xd_25 c53_22 c53_23 c53_24 c53_25 => ?_) (fun xa_31 xk_31 xv_31 c53_26 c53_27 c53_28 c53_29 c53_30 c53_31 => ?_)
    · dsimp only [Option.toList, List.cons_append, List.nil_append, Nat.add_zero]
      refine v_istore_5 dX12_compares_56 (by decide) rfl ?_
      refine v_iload dX12_compares_58 rfl ?_
      refine v_bipush dX12_compares_60 (c32 rfl) (by decide) ?_
      refine v_icmp_ne_t (tgt := 79) dX12_compares_62 (by decide) (by omega) ?_
      refine v_iload dX12_compares_79 rfl ?_
      refine v_bipush dX12_compares_81 (c32 rfl) (by decide) ?_
      refine v_icmp_ne_f (tgt := 100) dX12_compares_83 (by decide) (by omega) ?_
      refine v_iload_n dX12_compares_86 rfl ?_
      refine v_iload dX12_compares_87 rfl ?_
      refine v_icmp_ge (tgt := 96) dX12_compares_89 (by decide) (fun c89_32 => ?_) (fun c89_32 => ?_)
      · refine v_iconst dX12_compares_96 (c32 rfl) ?_
        refine v_goto (tgt := 111) dX12_compares_97 (by decide) ?_
        refine v_iretz dX12_compares_111 rfl (by decide) (Nat.le_refl _) (Nat.le_refl _) ?_
        exact hf _ _ _ _ (pCmp_f (by rw [c31_3]; rfl) c53_22) (by omega) (by decide) (by decide) (by omega) (by omega)
      · refine v_iconst dX12_compares_92 (c32 rfl) ?_
        refine v_goto (tgt := 111) dX12_compares_93 (by decide) ?_
        refine v_iretz dX12_compares_111 rfl (by decide) (Nat.le_refl _) (Nat.le_refl _) ?_
        exact hf _ _ _ _ (pCmp_f (by rw [c31_3]; rfl) c53_22) (by omega) (by decide) (by decide) (by omega) (by omega)
    · dsimp only [Option.toList, List.cons_append, List.nil_append, Nat.add_zero]
      refine v_istore_5 dX12_compares_56 (by decide) rfl ?_
      refine v_iload dX12_compares_58 rfl ?_
      refine v_bipush dX12_compares_60 (c32 rfl) (by decide) ?_
      refine v_icmp_ne_t (tgt := 79) dX12_compares_62 (by decide) (by omega) ?_
      refine v_iload dX12_compares_79 rfl ?_
      refine v_bipush dX12_compares_81 (c32 rfl) (by decide) ?_
      refine v_icmp_ne_f (tgt := 100) dX12_compares_83 (by decide) (by omega) ?_
      refine v_iload_n dX12_compares_86 rfl ?_
      refine v_iload dX12_compares_87 rfl ?_
      refine v_icmp_ge (tgt := 96) dX12_compares_89 (by decide) (fun c89_33 => ?_) (fun c89_33 => ?_)
      · refine v_iconst dX12_compares_96 (c32 rfl) ?_
        refine v_goto (tgt := 111) dX12_compares_97 (by decide) ?_
        refine v_iretz dX12_compares_111 rfl (by decide) (Nat.le_refl _) (Nat.le_refl _) ?_
        have ej : (0 : Int) = bd (jn 60 v xv_31) := cL0 c89_33
        have hvj : VH (ltr h) (k1 ++ xk_31 ++ [-(pk u n a)]) (bd (jn 60 v xv_31)) (4 + 2 * D) := by rw [c31_3]; exact VH_bin hk1 c53_29 (by omega) (by omega) (by decide)
        rw [← ej] at hvj
        exact hsu _ _ _ (pCmp_s (by rw [c31_3]; rfl) c53_26) (by omega) (by omega) hvj (by decide) (by decide)
      · refine v_iconst dX12_compares_92 (c32 rfl) ?_
        refine v_goto (tgt := 111) dX12_compares_93 (by decide) ?_
        refine v_iretz dX12_compares_111 rfl (by decide) (Nat.le_refl _) (Nat.le_refl _) ?_
        have ej : (1 : Int) = bd (jn 60 v xv_31) := cL1 c89_33
        have hvj : VH (ltr h) (k1 ++ xk_31 ++ [-(pk u n a)]) (bd (jn 60 v xv_31)) (4 + 2 * D) := by rw [c31_3]; exact VH_bin hk1 c53_29 (by omega) (by omega) (by decide)
        rw [← ej] at hvj
        exact hsu _ _ _ (pCmp_s (by rw [c31_3]; rfl) c53_26) (by omega) (by omega) hvj (by decide) (by decide)
  · dsimp only [Option.toList, List.cons_append, List.nil_append, Nat.add_zero]
    refine v_if_ne_f (tgt := 42) dX12_compares_34 (by decide) (by decide) ?_
    refine v_aload_n dX12_compares_37 rfl ?_
    refine v_callv (M' := mX12_stop) (d' := d - 1) (mc' := 0) (ms' := 0) (ci := 12) (c := 116) (As := []) dX12_compares_38 k_1761 cm_X12_stop rfl (by omega) (by decide) kk_116 (Nat.le_of_ble_eq_true rfl) rfl ⟨Nat.le_refl _, Nat.le_refl _⟩ ?_
    refine s_stop0 (by omega) ?_
    dsimp only [Option.toList, List.cons_append, List.nil_append, Nat.add_zero]
    refine v_iretz dX12_compares_41 rfl (by decide) (Nat.le_refl _) (Nat.le_refl _) ?_
    exact hf _ _ _ _ (pCmp_no (oCmp_f c31_4 c31_5 c31_6)) (by omega) (by omega) (by omega) (by omega) (by omega)
  · dsimp only [Option.toList, List.cons_append, List.nil_append, Nat.add_zero]
    refine v_if_ne_t (tgt := 42) dX12_compares_34 (by decide) (by decide) ?_
    refine v_aload_n dX12_compares_42 rfl ?_
    refine v_dup dX12_compares_43 rfl ?_
    refine v_getv (ci := 12) (j := 20) (ji := 20) (tg := 0) dX12_compares_44 k_1436 (by decide) kk_116 (by decide) rfl rfl (by decide) (pst_r20) ?_
    refine v_iconst dX12_compares_47 (c32 rfl) ?_
    refine v_iaddE dX12_compares_48 (by omega) ?_
    refine v_puti (ci := 12) (j := 20) (ji := 20) dX12_compares_49 k_1436 (by decide) kk_116 (by decide) rfl rfl rfl ?_
    rw [pst_w20]
    refine v_aload_n dX12_compares_52 rfl ?_
    refine v_callv (M' := mX12_sum) (d' := d - 1) (mc' := 0) (ms' := 0) (ci := 12) (c := 116) (As := []) dX12_compares_53 k_1781 cm_X12_sum rfl (by omega) (by decide) kk_116 (Nat.le_of_ble_eq_true rfl) rfl ⟨Nat.le_refl _, Nat.le_refl _⟩ ?_
    refine hS (by omega) (by omega) (by omega) (fun xe_37 xv_37 xa_37 xd_37 c53_34 c53_35 c53_36 c53_37 => ?_) (fun xa_43 xk_43 xv_43 c53_38 c53_39 c53_40 c53_41 c53_42 c53_43 => ?_)
    · dsimp only [Option.toList, List.cons_append, List.nil_append, Nat.add_zero]
      refine v_istore_5 dX12_compares_56 (by decide) rfl ?_
      refine v_iload dX12_compares_58 rfl ?_
      refine v_bipush dX12_compares_60 (c32 rfl) (by decide) ?_
      refine v_icmp_ne_t (tgt := 79) dX12_compares_62 (by decide) (by omega) ?_
      refine v_iload dX12_compares_79 rfl ?_
      refine v_bipush dX12_compares_81 (c32 rfl) (by decide) ?_
      refine v_icmp_ne_t (tgt := 100) dX12_compares_83 (by decide) (by omega) ?_
      refine v_iload_n dX12_compares_100 rfl ?_
      refine v_iload dX12_compares_101 rfl ?_
      refine v_icmp_le (tgt := 110) dX12_compares_103 (by decide) (fun c103_44 => ?_) (fun c103_44 => ?_)
      · refine v_iconst dX12_compares_110 (c32 rfl) ?_
        refine v_iretz dX12_compares_111 rfl (by decide) (Nat.le_refl _) (Nat.le_refl _) ?_
        exact hf _ _ _ _ (pCmp_f (by rw [c31_9]; rfl) c53_34) (by omega) (by decide) (by decide) (by omega) (by omega)
      · refine v_iconst dX12_compares_106 (c32 rfl) ?_
        refine v_goto (tgt := 111) dX12_compares_107 (by decide) ?_
        refine v_iretz dX12_compares_111 rfl (by decide) (Nat.le_refl _) (Nat.le_refl _) ?_
        exact hf _ _ _ _ (pCmp_f (by rw [c31_9]; rfl) c53_34) (by omega) (by decide) (by decide) (by omega) (by omega)
    · dsimp only [Option.toList, List.cons_append, List.nil_append, Nat.add_zero]
      refine v_istore_5 dX12_compares_56 (by decide) rfl ?_
      refine v_iload dX12_compares_58 rfl ?_
      refine v_bipush dX12_compares_60 (c32 rfl) (by decide) ?_
      refine v_icmp_ne_t (tgt := 79) dX12_compares_62 (by decide) (by omega) ?_
      refine v_iload dX12_compares_79 rfl ?_
      refine v_bipush dX12_compares_81 (c32 rfl) (by decide) ?_
      refine v_icmp_ne_t (tgt := 100) dX12_compares_83 (by decide) (by omega) ?_
      refine v_iload_n dX12_compares_100 rfl ?_
      refine v_iload dX12_compares_101 rfl ?_
      refine v_icmp_le (tgt := 110) dX12_compares_103 (by decide) (fun c103_45 => ?_) (fun c103_45 => ?_)
      · refine v_iconst dX12_compares_110 (c32 rfl) ?_
        refine v_iretz dX12_compares_111 rfl (by decide) (Nat.le_refl _) (Nat.le_refl _) ?_
        have ej : (0 : Int) = bd (jn 62 v xv_43) := cG0 c103_45
        have hvj : VH (ltr h) (k1 ++ xk_43 ++ [-(pk u n a)]) (bd (jn 62 v xv_43)) (4 + 2 * D) := by rw [c31_9]; exact VH_bin hk1 c53_41 (by omega) (by omega) (by decide)
        rw [← ej] at hvj
        exact hsu _ _ _ (pCmp_s (by rw [c31_9]; rfl) c53_38) (by omega) (by omega) hvj (by decide) (by decide)
      · refine v_iconst dX12_compares_106 (c32 rfl) ?_
        refine v_goto (tgt := 111) dX12_compares_107 (by decide) ?_
        refine v_iretz dX12_compares_111 rfl (by decide) (Nat.le_refl _) (Nat.le_refl _) ?_
        have ej : (1 : Int) = bd (jn 62 v xv_43) := cG1 c103_45
        have hvj : VH (ltr h) (k1 ++ xk_43 ++ [-(pk u n a)]) (bd (jn 62 v xv_43)) (4 + 2 * D) := by rw [c31_9]; exact VH_bin hk1 c53_41 (by omega) (by omega) (by decide)
        rw [← ej] at hvj
        exact hsu _ _ _ (pCmp_s (by rw [c31_9]; rfl) c53_38) (by omega) (by omega) hvj (by decide) (by decide)

set_option maxHeartbeats 4000000 in
set_option maxRecDepth 100000 in
theorem r_cmp0 {l : Launch} {G : GG} {h : AH} {t b n : Int} {u : Int → Int} {tn : Nat} {dp : Int} {D : Nat} (hdp : 0 ≤ dp ∧ dp ≤ 8) (hT : MT h t b n u tn) (hS : RdS l G h u n dp (7 + 3 * D) (3 + 2 * D) mX12_sum (sumL u n D)) : RdB l G h u n dp (8 + 3 * D) (4 + 2 * D) mX12_compares [(0, 0), (0, 0)] (fun a => pThen (sumL u n D a) (pCmp u n D)) := by
  intro d a Q hd h0 h1 hf hsu
  have hT0 := hT
  obtain ⟨htt, hkt, hbn, htx, hbg, hen, hb0, hb1, hn0, hn1, hur, hu⟩ := hT
  have hpk := @pk_rng u n a hur h0
  have hsg := @sk_ge u n a
  have hsl := @sk_le u n a h1
  refine sp_of (L := [(2, 116), (0, 0), (0, 0), (9, 0), (9, 0), (9, 0)]) pl_X12 (Nat.le_of_ble_eq_true rfl) (tg_c (by decide) (tg_c (by decide) (tg_c (by decide) tg_0))) rfl ?_
  refine v_iload_n dX12_compares_0 rfl ?_
  refine v_if_eq_t (tgt := 8) dX12_compares_1 (by decide) (by decide) ?_
  refine v_aload_n dX12_compares_8 rfl ?_
  refine v_callv (M' := mX12_sum) (d' := d - 1) (mc' := 0) (ms' := 0) (ci := 12) (c := 116) (As := []) dX12_compares_9 k_1781 cm_X12_sum rfl (by omega) (by decide) kk_116 (Nat.le_of_ble_eq_true rfl) rfl ⟨Nat.le_refl _, Nat.le_refl _⟩ ?_
  refine hS (by omega) (by omega) (by omega) (fun xe_4 xv_4 xa_4 xd_4 c9_1 c9_2 c9_3 c9_4 => ?_) (fun xa_10 xk_10 xv_10 c9_5 c9_6 c9_7 c9_8 c9_9 c9_10 => ?_)
  · dsimp only [Option.toList, List.cons_append, List.nil_append, Nat.add_zero]
    refine v_istore_n_3 dX12_compares_12 (by decide) rfl ?_
    refine v_aload_n dX12_compares_13 rfl ?_
    refine v_getv (ci := 12) (j := 21) (ji := 21) (tg := 0) dX12_compares_14 k_1437 (by decide) kk_116 (by decide) rfl rfl (by decide) (pst_r21) ?_
    refine v_iconst dX12_compares_17 (c32 rfl) ?_
    refine v_icmp_eq_f (tgt := 23) dX12_compares_18 (by decide) (by omega) ?_
    refine v_iconst dX12_compares_21 (c32 rfl) ?_
    refine v_iretz dX12_compares_22 rfl (by decide) (Nat.le_refl _) (Nat.le_refl _) ?_
    exact hf _ _ _ _ (pThen_l c9_1) (by omega) (by decide) (by decide) (by omega) (by omega)
  · dsimp only [Option.toList, List.cons_append, List.nil_append, Nat.add_zero]
    refine v_istore_n_3 dX12_compares_12 (by decide) rfl ?_
    refine v_loc (lo_k (lo_d (lo_d (lo_k (lo_d (lo_d lo_nil)))))) ?_
    refine lp_cmp (by omega) ⟨by omega, by omega⟩ hT0 hS (by omega) (by omega) c9_8 (fun e9 v9 a9 d9 q1 => hf e9 v9 a9 d9 ((pThen_r c9_5).trans q1)) (fun a9 k9 v9 q1 q2 => hsu a9 k9 v9 ((pThen_r c9_5).trans q1) (by omega))

set_option maxHeartbeats 4000000 in
set_option maxRecDepth 100000 in
theorem r_cmp1 {l : Launch} {G : GG} {h : AH} {t b n : Int} {u : Int → Int} {tn : Nat} {dp v : Int} {D : Nat} {k1 : List Int} (hdp : 0 ≤ dp ∧ dp ≤ 8) (hT : MT h t b n u tn) (hS : RdS l G h u n dp (7 + 3 * D) (3 + 2 * D) mX12_sum (sumL u n D)) (hk1 : VH (ltr h) k1 v (3 + 2 * D)) : RdB l G h u n dp (8 + 3 * D) (4 + 2 * D) mX12_compares [(0, 1), (0, v)] (fun a => pCmp u n D a k1) := by
  intro d a Q hd h0 h1 hf hsu
  have hT0 := hT
  obtain ⟨htt, hkt, hbn, htx, hbg, hen, hb0, hb1, hn0, hn1, hur, hu⟩ := hT
  have hpk := @pk_rng u n a hur h0
  have hsg := @sk_ge u n a
  have hsl := @sk_le u n a h1
  refine sp_of (L := [(2, 116), (0, 1), (0, v), (9, 0), (9, 0), (9, 0)]) pl_X12 (Nat.le_of_ble_eq_true rfl) (tg_c (by decide) (tg_c (by decide) (tg_c (by decide) tg_0))) rfl ?_
  refine v_iload_n dX12_compares_0 rfl ?_
  refine v_if_eq_f (tgt := 8) dX12_compares_1 (by decide) (by decide) ?_
  refine v_iload_n dX12_compares_4 rfl ?_
  refine v_goto (tgt := 12) dX12_compares_5 (by decide) ?_
  refine v_istore_n_3 dX12_compares_12 (by decide) rfl ?_
  refine v_loc (lo_k (lo_d (lo_d (lo_k (lo_d (lo_d lo_nil)))))) ?_
  exact lp_cmp (by omega) ⟨by omega, by omega⟩ hT0 hS h0 h1 hk1 hf hsu

set_option maxHeartbeats 4000000 in
set_option maxRecDepth 100000 in
theorem r_unit {l : Launch} {G : GG} {h : AH} {t b n : Int} {u : Int → Int} {tn : Nat} {dp : Int} {D : Nat} (hD : dp + D = 8) (hdp : 0 ≤ dp ∧ dp ≤ 8) (hT : MT h t b n u tn) (hcmp : RdB l G h u n dp (8 + 3 * D) (4 + 2 * D) mX12_compares [(0, 0), (0, 0)] (fun a => pThen (sumL u n D a) (pCmp u n D))) (hu1 : ∀ D', D = D' + 1 → RdB l G h u n (dp + 1) (9 + 3 * D') (4 + 2 * D') mX12_unit [] (unitL u n D')) (hc1 : ∀ D', D = D' + 1 → RdB l G h u n (dp + 1) (11 + 3 * D') (6 + 2 * D') mX12_condition [(0, 0), (0, 0)] (pCond u n (unitL u n D'))) : RdB l G h u n dp (9 + 3 * D) (4 + 2 * D) mX12_unit [] (unitL u n D) := by
  intro d a Q hd h0 h1 hf hsu
  have hT0 := hT
  obtain ⟨htt, hkt, hbn, htx, hbg, hen, hb0, hb1, hn0, hn1, hur, hu⟩ := hT
  have hpk := @pk_rng u n a hur h0
  have hsg := @sk_ge u n a
  have hsl := @sk_le u n a h1
  refine sp_of (L := [(2, 116), (9, 0), (9, 0)]) pl_X12 (Nat.le_of_ble_eq_true rfl) (tg_c (by decide) tg_0) rfl ?_
  refine v_aload_n dX12_unit_0 rfl ?_
  refine v_callv (M' := mX12_look) (d' := d - 1) (mc' := 0) (ms' := 0) (ci := 12) (c := 116) (As := []) dX12_unit_1 k_1755 cm_X12_look rfl (by omega) (by decide) kk_116 (Nat.le_of_ble_eq_true rfl) rfl ⟨Nat.le_refl _, Nat.le_refl _⟩ ?_
  refine s_look (by omega) hT0 (by omega) (by omega) ?_
  dsimp only [Option.toList, List.cons_append, List.nil_append, Nat.add_zero]
  refine v_istore_n_1 dX12_unit_4 (by decide) rfl ?_
  refine v_iload_n dX12_unit_5 rfl ?_
  refine v_bipush dX12_unit_6 (c32 rfl) (by decide) ?_
  refine v_icmp_ne (tgt := 45) dX12_unit_8 (by decide) (fun c8_1 => ?_) (fun c8_1 => ?_)
  · refine v_iload_n dX12_unit_45 rfl ?_
    refine v_bipush dX12_unit_46 (c32 rfl) (by decide) ?_
    refine v_icmp_ne (tgt := 90) dX12_unit_48 (by decide) (fun c48_2 => ?_) (fun c48_2 => ?_)
    · refine v_aload_n dX12_unit_90 rfl ?_
      refine v_iconst dX12_unit_91 (c32 rfl) ?_
      refine v_iconst dX12_unit_92 (c32 rfl) ?_
      refine v_callv (M' := mX12_compares) (d' := d - 1) (mc' := 0) (ms' := 0) (ci := 12) (c := 116) (As := [_, _]) dX12_unit_93 k_1777 cm_X12_compares rfl (by omega) (by decide) kk_116 (Nat.le_of_ble_eq_true rfl) rfl ⟨Nat.le_refl _, Nat.le_refl _⟩ ?_
      refine hcmp (by omega) (by omega) (by omega) (fun xe_8 xv_8 xa_8 xd_8 c93_3 c93_4 c93_5 c93_6 c93_7 c93_8 => ?_) (fun xa_14 xk_14 xv_14 c93_9 c93_10 c93_11 c93_12 c93_13 c93_14 => ?_)
      · dsimp only [Option.toList, List.cons_append, List.nil_append, Nat.add_zero]
        refine v_iretz dX12_unit_96 rfl (by omega) (Nat.le_refl _) (Nat.le_refl _) ?_
        exact hf _ _ _ _ ((unit_c c8_1 c48_2).trans c93_3) (by omega) (by omega) (by omega) (by omega) (by omega)
      · dsimp only [Option.toList, List.cons_append, List.nil_append, Nat.add_zero]
        refine v_iretz dX12_unit_96 rfl (by omega) (Nat.le_refl _) (Nat.le_refl _) ?_
        exact hsu _ _ _ ((unit_c c8_1 c48_2).trans c93_9) (by omega) (by omega) c93_12 (by omega) (by omega)
    · refine v_aload_n dX12_unit_51 rfl ?_
      refine v_callv (M' := mX12_goesIn) (d' := d - 1) (mc' := 0) (ms' := 0) (ci := 12) (c := 116) (As := []) dX12_unit_52 k_1794 cm_X12_goesIn rfl (by omega) (by decide) kk_116 (Nat.le_of_ble_eq_true rfl) rfl ⟨Nat.le_refl _, Nat.le_refl _⟩ ?_
      refine s_goesIn (by omega) hT0 (by omega) (by omega) (by omega) (fun c52_15 => ?_) (fun c52_16 => ?_)
      · dsimp only [Option.toList, List.cons_append, List.nil_append, Nat.add_zero]
        refine v_if_ne_t (tgt := 60) dX12_unit_55 (by decide) (by decide) ?_
        obtain ⟨D', rfl⟩ : ∃ D', D = D' + 1 := ⟨D - 1, by omega⟩
        have huu := hu1 D' rfl
        have hcc := hc1 D' rfl
        refine v_aload_n dX12_unit_60 rfl ?_
        refine v_iconst dX12_unit_61 (c32 rfl) ?_
        refine v_iconst dX12_unit_62 (c32 rfl) ?_
        refine v_callv (M' := mX12_condition) (d' := d - 1) (mc' := 0) (ms' := 0) (ci := 12) (c := 116) (As := [_, _]) dX12_unit_63 k_1769 cm_X12_condition rfl (by omega) (by decide) kk_116 (Nat.le_of_ble_eq_true rfl) rfl ⟨Nat.le_refl _, Nat.le_refl _⟩ ?_
        refine hcc (by omega) (by omega) (by omega) (fun xe_22 xv_22 xa_22 xd_22 c63_17 c63_18 c63_19 c63_20 c63_21 c63_22 => ?_) (fun xa_28 xk_28 xv_28 c63_23 c63_24 c63_25 c63_26 c63_27 c63_28 => ?_)
        · dsimp only [Option.toList, List.cons_append, List.nil_append, Nat.add_zero]
          refine v_istore_n_2 dX12_unit_66 (by decide) rfl ?_
          refine v_aload_n dX12_unit_67 rfl ?_
          refine v_bipush dX12_unit_68 (c32 rfl) (by decide) ?_
          refine v_callv (M' := mX12_takes) (d' := d - 1) (mc' := 0) (ms' := 0) (ci := 12) (c := 116) (As := [_]) dX12_unit_70 k_1765 cm_X12_takes rfl (by omega) (by decide) kk_116 (Nat.le_of_ble_eq_true rfl) rfl ⟨Nat.le_refl _, Nat.le_refl _⟩ ?_
          refine s_takes1 (by omega) (by omega) ?_
          dsimp only [Option.toList, List.cons_append, List.nil_append, Nat.add_zero]
          refine v_if_ne_f (tgt := 78) dX12_unit_73 (by decide) (by decide) ?_
          refine v_iconst dX12_unit_76 (c32 rfl) ?_
          refine v_iretz dX12_unit_77 rfl (by decide) (Nat.le_refl _) (Nat.le_refl _) ?_
          exact hf _ _ _ _ ((unit_40 c48_2).trans (pNeed_l c63_17)) (by omega) (by decide) (by decide) (by omega) (by omega)
        · dsimp only [Option.toList, List.cons_append, List.nil_append, Nat.add_zero]
          refine v_istore_n_2 dX12_unit_66 (by decide) rfl ?_
          refine v_aload_n dX12_unit_67 rfl ?_
          refine v_bipush dX12_unit_68 (c32 rfl) (by decide) ?_
          refine v_callv (M' := mX12_takes) (d' := d - 1) (mc' := 0) (ms' := 0) (ci := 12) (c := 116) (As := [_]) dX12_unit_70 k_1765 cm_X12_takes rfl (by omega) (by decide) kk_116 (Nat.le_of_ble_eq_true rfl) rfl ⟨Nat.le_refl _, Nat.le_refl _⟩ ?_
          refine s_takes (by omega) hT0 (by omega) (by omega) (fun c70_29 => ?_) (fun c70_30 => ?_)
          · dsimp only [Option.toList, List.cons_append, List.nil_append, Nat.add_zero]
            refine v_if_ne_t (tgt := 78) dX12_unit_73 (by decide) (by decide) ?_
            refine v_aload_n dX12_unit_78 rfl ?_
            refine v_dup dX12_unit_79 rfl ?_
            refine v_getv (ci := 12) (j := 22) (ji := 22) (tg := 0) dX12_unit_80 k_1438 (by decide) kk_116 (by decide) rfl rfl (by decide) (pst_r22) ?_
            refine v_iconst dX12_unit_83 (c32 rfl) ?_
            refine v_isubE dX12_unit_84 (by omega) ?_
            refine v_puti (ci := 12) (j := 22) (ji := 22) dX12_unit_85 k_1438 (by decide) kk_116 (by decide) rfl rfl rfl ?_
            rw [pst_w22]
            refine v_iload_n dX12_unit_88 rfl ?_
            refine v_iretz dX12_unit_89 rfl (by omega) (Nat.le_refl _) (Nat.le_refl _) ?_
            rw [show dp + 1 - 1 = dp by omega]
            exact hsu _ _ _ ((unit_40 c48_2).trans (pNeed_s c63_23 c70_29)) (by have := @sk_ge u n xa_28; omega) (by have := @pk_rng u n xa_28 hur (by omega); omega) (c63_26.mono (by omega)) (by omega) (by omega)
          · dsimp only [Option.toList, List.cons_append, List.nil_append, Nat.add_zero]
            refine v_if_ne_f (tgt := 78) dX12_unit_73 (by decide) (by decide) ?_
            refine v_iconst dX12_unit_76 (c32 rfl) ?_
            refine v_iretz dX12_unit_77 rfl (by decide) (Nat.le_refl _) (Nat.le_refl _) ?_
            exact hf _ _ _ _ ((unit_40 c48_2).trans (pNeed_no c63_23 c70_30)) (by have := @sk_ge u n xa_28; omega) (by decide) (by decide) (by omega) (by omega)
      · dsimp only [Option.toList, List.cons_append, List.nil_append, Nat.add_zero]
        refine v_if_ne_f (tgt := 60) dX12_unit_55 (by decide) (by decide) ?_
        refine v_iconst dX12_unit_58 (c32 rfl) ?_
        refine v_iretz dX12_unit_59 rfl (by decide) (Nat.le_refl _) (Nat.le_refl _) ?_
        obtain rfl : D = 0 := by omega
        exact hf _ _ _ _ (unit0 (by omega)) (by omega) (by decide) (by decide) (by omega) (by omega)
  · refine v_aload_n dX12_unit_11 rfl ?_
    refine v_callv (M' := mX12_goesIn) (d' := d - 1) (mc' := 0) (ms' := 0) (ci := 12) (c := 116) (As := []) dX12_unit_12 k_1794 cm_X12_goesIn rfl (by omega) (by decide) kk_116 (Nat.le_of_ble_eq_true rfl) rfl ⟨Nat.le_refl _, Nat.le_refl _⟩ ?_
    refine s_goesIn (by omega) hT0 (by omega) (by omega) (by omega) (fun c12_31 => ?_) (fun c12_32 => ?_)
    · dsimp only [Option.toList, List.cons_append, List.nil_append, Nat.add_zero]
      refine v_if_ne_t (tgt := 20) dX12_unit_15 (by decide) (by decide) ?_
      obtain ⟨D', rfl⟩ : ∃ D', D = D' + 1 := ⟨D - 1, by omega⟩
      have huu := hu1 D' rfl
      have hcc := hc1 D' rfl
      refine v_aload_n dX12_unit_20 rfl ?_
      refine v_callv (M' := mX12_unit) (d' := d - 1) (mc' := 0) (ms' := 0) (ci := 12) (c := 116) (As := []) dX12_unit_21 k_1812 cm_X12_unit rfl (by omega) (by decide) kk_116 (Nat.le_of_ble_eq_true rfl) rfl ⟨Nat.le_refl _, Nat.le_refl _⟩ ?_
      refine huu (by omega) (by omega) (by omega) (fun xe_38 xv_38 xa_38 xd_38 c21_33 c21_34 c21_35 c21_36 c21_37 c21_38 => ?_) (fun xa_44 xk_44 xv_44 c21_39 c21_40 c21_41 c21_42 c21_43 c21_44 => ?_)
      · dsimp only [Option.toList, List.cons_append, List.nil_append, Nat.add_zero]
        refine v_istore_n_2 dX12_unit_24 (by decide) rfl ?_
        refine v_aload_n dX12_unit_25 rfl ?_
        refine v_dup dX12_unit_26 rfl ?_
        refine v_getv (ci := 12) (j := 22) (ji := 22) (tg := 0) dX12_unit_27 k_1438 (by decide) kk_116 (by decide) rfl rfl (by decide) (pst_r22) ?_
        refine v_iconst dX12_unit_30 (c32 rfl) ?_
        refine v_isubE dX12_unit_31 (by omega) ?_
        refine v_puti (ci := 12) (j := 22) (ji := 22) dX12_unit_32 k_1438 (by decide) kk_116 (by decide) rfl rfl rfl ?_
        rw [pst_w22]
        refine v_iload_n dX12_unit_35 rfl ?_
        refine v_if_ne (tgt := 43) dX12_unit_36 (by decide) (fun c36_45 => ?_) (fun c36_45 => ?_)
        · refine v_iconst dX12_unit_43 (c32 rfl) ?_
          refine v_iretz dX12_unit_44 rfl (by decide) (Nat.le_refl _) (Nat.le_refl _) ?_
          exact hf _ _ _ _ ((unit_33 c8_1).trans (pThen_l c21_33)) (by omega) (by decide) (by decide) (by omega) (by omega)
        · refine v_iconst dX12_unit_39 (c32 rfl) ?_
          refine v_goto (tgt := 44) dX12_unit_40 (by decide) ?_
          refine v_iretz dX12_unit_44 rfl (by decide) (Nat.le_refl _) (Nat.le_refl _) ?_
          exact hf _ _ _ _ ((unit_33 c8_1).trans (pThen_l c21_33)) (by omega) (by decide) (by decide) (by omega) (by omega)
      · dsimp only [Option.toList, List.cons_append, List.nil_append, Nat.add_zero]
        refine v_istore_n_2 dX12_unit_24 (by decide) rfl ?_
        refine v_aload_n dX12_unit_25 rfl ?_
        refine v_dup dX12_unit_26 rfl ?_
        refine v_getv (ci := 12) (j := 22) (ji := 22) (tg := 0) dX12_unit_27 k_1438 (by decide) kk_116 (by decide) rfl rfl (by decide) (pst_r22) ?_
        refine v_iconst dX12_unit_30 (c32 rfl) ?_
        refine v_isubE dX12_unit_31 (by omega) ?_
        refine v_puti (ci := 12) (j := 22) (ji := 22) dX12_unit_32 k_1438 (by decide) kk_116 (by decide) rfl rfl rfl ?_
        rw [pst_w22]
        refine v_iload_n dX12_unit_35 rfl ?_
        refine v_if_ne (tgt := 43) dX12_unit_36 (by decide) (fun c36_46 => ?_) (fun c36_46 => ?_)
        · refine v_iconst dX12_unit_43 (c32 rfl) ?_
          refine v_iretz dX12_unit_44 rfl (by decide) (Nat.le_refl _) (Nat.le_refl _) ?_
          rw [show dp + 1 - 1 = dp by omega]
          have ej : (0 : Int) = bd (1 - xv_44) := cN0 c36_46 (by omega) (by omega)
          have hvj := VH_not c21_42 (by omega)
          rw [← ej] at hvj
          exact hsu _ _ _ ((unit_33 c8_1).trans (pThen_r c21_39)) (by omega) (by omega) (hvj.mono (by omega)) (by decide) (by decide)
        · refine v_iconst dX12_unit_39 (c32 rfl) ?_
          refine v_goto (tgt := 44) dX12_unit_40 (by decide) ?_
          refine v_iretz dX12_unit_44 rfl (by decide) (Nat.le_refl _) (Nat.le_refl _) ?_
          rw [show dp + 1 - 1 = dp by omega]
          have ej : (1 : Int) = bd (1 - xv_44) := cN1 c36_46
          have hvj := VH_not c21_42 (by omega)
          rw [← ej] at hvj
          exact hsu _ _ _ ((unit_33 c8_1).trans (pThen_r c21_39)) (by omega) (by omega) (hvj.mono (by omega)) (by decide) (by decide)
    · dsimp only [Option.toList, List.cons_append, List.nil_append, Nat.add_zero]
      refine v_if_ne_f (tgt := 20) dX12_unit_15 (by decide) (by decide) ?_
      refine v_iconst dX12_unit_18 (c32 rfl) ?_
      refine v_iretz dX12_unit_19 rfl (by decide) (Nat.le_refl _) (Nat.le_refl _) ?_
      obtain rfl : D = 0 := by omega
      exact hf _ _ _ _ (unit0 (by omega)) (by omega) (by decide) (by decide) (by omega) (by omega)

theorem r_unitL {l : Launch} {G : GG} {h : AH} {t b n : Int} {u : Int → Int} {tn : Nat} (hT : MT h t b n u tn) (hL : LTB h) : ∀ {D : Nat} {dp : Int}, dp + D = 8 → 0 ≤ dp → RdB l G h u n dp (9 + 3 * D) (4 + 2 * D) mX12_unit [] (unitL u n D) ∧ RdB l G h u n dp (10 + 3 * D) (5 + 2 * D) mX12_part [(0, 0), (0, 0)] (pPart u n (unitL u n D)) ∧ RdB l G h u n dp (11 + 3 * D) (6 + 2 * D) mX12_condition [(0, 0), (0, 0)] (pCond u n (unitL u n D)) := by
  intro D
  induction D with
  | zero =>
    intro dp hD hdp
    have hd2 : 0 ≤ dp ∧ dp ≤ 8 := ⟨hdp, by omega⟩
    have a1 := r_unit (l := l) (G := G) (D := 0) hD hd2 hT (r_cmp0 hd2 hT (r_sumL hT hL hD hdp)) (fun D' e => by omega) (fun D' e => by omega)
    have a2 := r_part (mm := 5) hd2 hT a1 (by omega) (by omega) (by omega)
    exact ⟨a1, a2, r_cond (mm := 6) hd2 hT a2 (by omega) (by omega) (by omega)⟩
  | succ D ih =>
    intro dp hD hdp
    have hd2 : 0 ≤ dp ∧ dp ≤ 8 := ⟨hdp, by omega⟩
    have a1 := r_unit (l := l) (G := G) (D := D + 1) (dp := dp) hD hd2 hT (r_cmp0 hd2 hT (r_sumL hT hL hD hdp)) (fun D' e => by
      obtain rfl : D' = D := by omega
      exact (ih (dp := dp + 1) (by omega) (by omega)).1) (fun D' e => by
      obtain rfl : D' = D := by omega
      exact (ih (dp := dp + 1) (by omega) (by omega)).2.2)
    have a2 := r_part (mm := 5 + 2 * (D + 1)) hd2 hT a1 (by omega) (by omega) (by omega)
    have a3 := r_cond (mm := 6 + 2 * (D + 1)) hd2 hT a2 (by omega) (by omega) (by omega)
    rw [show 9 + 3 * (D + 1) + 1 = 10 + 3 * (D + 1) by omega] at a2 a3
    rw [show 10 + 3 * (D + 1) + 1 = 11 + 3 * (D + 1) by omega] at a3
    exact ⟨a1, a2, a3⟩

set_option maxHeartbeats 4000000 in
set_option maxRecDepth 100000 in
theorem r_part1 {l : Launch} {G : GG} {h : AH} {t b n : Int} {u : Int → Int} {tn : Nat} {dp r : Int} {N mI mF NF mm : Nat} {P P0 : Int → PR} (hdp : 0 ≤ dp ∧ dp ≤ 8) (hT : MT h t b n u tn) (hF : RdB l G h u n dp NF mF mX12_compares [(0, 1), (0, r)] P0) (hI : RdB l G h u n dp N mI mX12_unit [] P) (hm : mI + 1 ≤ mm) (hmi : mF ≤ mm) (hN : 4 ≤ N) (hNF : NF ≤ N) : RdB l G h u n dp (N + 1) mm mX12_part [(0, 1), (0, r)] (fun a => pThen (P0 a) (pLoop u n oAnd P 201)) := by
  intro d a Q hd h0 h1 hf hsu
  have hT0 := hT
  obtain ⟨htt, hkt, hbn, htx, hbg, hen, hb0, hb1, hn0, hn1, hur, hu⟩ := hT
  have hpk := @pk_rng u n a hur h0
  have hsg := @sk_ge u n a
  have hsl := @sk_le u n a h1
  refine sp_of (L := [(2, 116), (0, 1), (0, r), (9, 0), (9, 0)]) pl_X12 (Nat.le_of_ble_eq_true rfl) (tg_c (by decide) (tg_c (by decide) (tg_c (by decide) tg_0))) rfl ?_
  refine v_iload_n dX12_part_0 rfl ?_
  refine v_if_eq_f (tgt := 13) dX12_part_1 (by decide) (by decide) ?_
  refine v_aload_n dX12_part_4 rfl ?_
  refine v_iconst dX12_part_5 (c32 rfl) ?_
  refine v_iload_n dX12_part_6 rfl ?_
  refine v_callv (M' := mX12_compares) (d' := d - 1) (mc' := 0) (ms' := 0) (ci := 12) (c := 116) (As := [_, _]) dX12_part_7 k_1777 cm_X12_compares rfl (by omega) (by decide) kk_116 (Nat.le_of_ble_eq_true rfl) rfl ⟨Nat.le_refl _, Nat.le_refl _⟩ ?_
  refine hF (by omega) (by omega) (by omega) (fun xe_6 xv_6 xa_6 xd_6 c7_1 c7_2 c7_3 c7_4 c7_5 c7_6 => ?_) (fun xa_12 xk_12 xv_12 c7_7 c7_8 c7_9 c7_10 c7_11 c7_12 => ?_)
  · dsimp only [Option.toList, List.cons_append, List.nil_append, Nat.add_zero]
    refine v_goto (tgt := 17) dX12_part_10 (by decide) ?_
    refine v_istore_n_3 dX12_part_17 (by decide) rfl ?_
    refine v_aload_n dX12_part_18 rfl ?_
    refine v_getv (ci := 12) (j := 21) (ji := 21) (tg := 0) dX12_part_19 k_1437 (by decide) kk_116 (by decide) rfl rfl (by decide) (pst_r21) ?_
    refine v_iconst dX12_part_22 (c32 rfl) ?_
    refine v_icmp_ne_t (tgt := 69) dX12_part_23 (by decide) (by omega) ?_
    refine v_iload_n dX12_part_69 rfl ?_
    refine v_iretz dX12_part_70 rfl (by omega) (Nat.le_refl _) (Nat.le_refl _) ?_
    exact hf _ _ _ _ (pThen_l c7_1) (by omega) (by omega) (by omega) (by omega) (by omega)
  · dsimp only [Option.toList, List.cons_append, List.nil_append, Nat.add_zero]
    refine v_goto (tgt := 17) dX12_part_10 (by decide) ?_
    refine v_istore_n_3 dX12_part_17 (by decide) rfl ?_
    refine v_loc (lo_k (lo_d (lo_d (lo_k (lo_d lo_nil))))) ?_
    refine lp_part (by omega) ⟨by omega, by omega⟩ hT0 hI hm hN (m := 201) (by omega) (by omega) (by omega) (c7_10.mono hmi) (by omega) (by omega) (fun e9 v9 a9 d9 q1 => hf e9 v9 a9 d9 ((pThen_r c7_7).trans q1)) (fun a9 k9 v9 q1 q2 => hsu a9 k9 v9 ((pThen_r c7_7).trans q1) (by omega))

set_option maxHeartbeats 4000000 in
set_option maxRecDepth 100000 in
theorem r_cond1 {l : Launch} {G : GG} {h : AH} {t b n : Int} {u : Int → Int} {tn : Nat} {dp r : Int} {N mI mF NF mm : Nat} {P P0 : Int → PR} (hdp : 0 ≤ dp ∧ dp ≤ 8) (hT : MT h t b n u tn) (hF : RdB l G h u n dp NF mF mX12_part [(0, 1), (0, r)] P0) (hI : RdB l G h u n dp N mI mX12_part [(0, 0), (0, 0)] P) (hm : mI + 1 ≤ mm) (hmi : mF ≤ mm) (hN : 4 ≤ N) (hNF : NF ≤ N) : RdB l G h u n dp (N + 1) mm mX12_condition [(0, 1), (0, r)] (fun a => pThen (P0 a) (pLoop u n oOr P 201)) := by
  intro d a Q hd h0 h1 hf hsu
  have hT0 := hT
  obtain ⟨htt, hkt, hbn, htx, hbg, hen, hb0, hb1, hn0, hn1, hur, hu⟩ := hT
  have hpk := @pk_rng u n a hur h0
  have hsg := @sk_ge u n a
  have hsl := @sk_le u n a h1
  refine sp_of (L := [(2, 116), (0, 1), (0, r), (9, 0), (9, 0)]) pl_X12 (Nat.le_of_ble_eq_true rfl) (tg_c (by decide) (tg_c (by decide) (tg_c (by decide) tg_0))) rfl ?_
  refine v_aload_n dX12_condition_0 rfl ?_
  refine v_iload_n dX12_condition_1 rfl ?_
  refine v_iload_n dX12_condition_2 rfl ?_
  refine v_callv (M' := mX12_part) (d' := d - 1) (mc' := 0) (ms' := 0) (ci := 12) (c := 116) (As := [_, _]) dX12_condition_3 k_1773 cm_X12_part rfl (by omega) (by decide) kk_116 (Nat.le_of_ble_eq_true rfl) rfl ⟨Nat.le_refl _, Nat.le_refl _⟩ ?_
  refine hF (by omega) (by omega) (by omega) (fun xe_6 xv_6 xa_6 xd_6 c3_1 c3_2 c3_3 c3_4 c3_5 c3_6 => ?_) (fun xa_12 xk_12 xv_12 c3_7 c3_8 c3_9 c3_10 c3_11 c3_12 => ?_)
  · dsimp only [Option.toList, List.cons_append, List.nil_append, Nat.add_zero]
    refine v_istore_n_3 dX12_condition_6 (by decide) rfl ?_
    refine v_aload_n dX12_condition_7 rfl ?_
    refine v_getv (ci := 12) (j := 21) (ji := 21) (tg := 0) dX12_condition_8 k_1437 (by decide) kk_116 (by decide) rfl rfl (by decide) (pst_r21) ?_
    refine v_iconst dX12_condition_11 (c32 rfl) ?_
    refine v_icmp_ne_t (tgt := 60) dX12_condition_12 (by decide) (by omega) ?_
    refine v_iload_n dX12_condition_60 rfl ?_
    refine v_iretz dX12_condition_61 rfl (by omega) (Nat.le_refl _) (Nat.le_refl _) ?_
    exact hf _ _ _ _ (pThen_l c3_1) (by omega) (by omega) (by omega) (by omega) (by omega)
  · dsimp only [Option.toList, List.cons_append, List.nil_append, Nat.add_zero]
    refine v_istore_n_3 dX12_condition_6 (by decide) rfl ?_
    refine v_loc (lo_k (lo_d (lo_d (lo_k (lo_d lo_nil))))) ?_
    refine lp_cond (by omega) ⟨by omega, by omega⟩ hT0 hI hm hN (m := 201) (by omega) (by omega) (by omega) (c3_10.mono hmi) (by omega) (by omega) (fun e9 v9 a9 d9 q1 => hf e9 v9 a9 d9 ((pThen_r c3_7).trans q1)) (fun a9 k9 v9 q1 q2 => hsu a9 k9 v9 ((pThen_r c3_7).trans q1) (by omega))

theorem r_condS {l : Launch} {G : GG} {h : AH} {t b n : Int} {u : Int → Int} {tn : Nat} (hT : MT h t b n u tn) (hL : LTB h) {D : Nat} {dp v : Int} {k1 : List Int} (hD : dp + D = 8) (hdp : 0 ≤ dp) (hk1 : VH (ltr h) k1 v (3 + 2 * D)) : RdB l G h u n dp (11 + 3 * D) (6 + 2 * D) mX12_condition [(0, 1), (0, v)] (fun a => pCondS u n D a k1) := by
  have hd2 : 0 ≤ dp ∧ dp ≤ 8 := ⟨hdp, by omega⟩
  have hU := r_unitL (l := l) (G := G) hT hL hD hdp
  have a1 := r_part1 (mm := 5 + 2 * D) hd2 hT (r_cmp1 hd2 hT (r_sumL hT hL hD hdp) hk1) hU.1 (by omega) (by omega) (by omega) (by omega)
  have a2 := r_cond1 (mm := 6 + 2 * D) hd2 hT a1 hU.2.1 (by omega) (by omega) (by omega) (by omega)
  rw [show 10 + 3 * D + 1 = 11 + 3 * D by omega] at a2
  exact a2

