/-! ===== the reference's reader: clauses, the whole text (written by wip/whole/p23.py) ===== -/
def gst (h : AH) (g w : Int) : AH := hset (hset h 116 25 g) 116 24 w
section GST
variable {h : AH} {g w a f dp c j v : Int}
theorem gst_r25 : gst h g w 116 25 = g := by unfold gst; rw [hset_j (by decide), hset_same]
theorem gst_r24 : gst h g w 116 24 = w := by unfold gst; rw [hset_same]
theorem gst_c (q : c ≠ 116) : gst h g w c j = h c j := by unfold gst; rw [hset_c q, hset_c q]
theorem gst_j (q : j ≠ 25 ∧ j ≠ 24) : gst h g w 116 j = h 116 j := by unfold gst; rw [hset_j q.2, hset_j q.1]
theorem gst_w (q : c ≠ 116) : gst h g w c = h c := funext fun _ => gst_c q
theorem gst_w25 : hset (gst h g w) 116 25 v = gst h v w := by unfold gst; rw [hset_dj (b := 24) (j := 25) (by decide), hset_tw]
theorem gst_w24 : hset (gst h g w) 116 24 v = gst h g v := by unfold gst; rw [hset_tw]
theorem pst_v (q : j ≠ 20 ∧ j ≠ 21 ∧ j ≠ 22) : hset (pst h a f dp) 116 j v = pst (hset h 116 j v) a f dp := by
  unfold pst
  rw [hset_dj (b := 22) (j := j) (Ne.symm q.2.2), hset_dj (b := 21) (j := j) (Ne.symm q.2.1), hset_dj (b := 20) (j := j) (Ne.symm q.1)]
theorem ltr_gst : ltr (gst h g w) = ltr h := funext fun i => by unfold ltr; rw [gst_c (by decide)]
theorem LTB_gst (q : LTB h) : LTB (gst h g w) := by unfold LTB; rw [ltr_gst]; exact q
theorem MT_gst {t b n : Int} {u : Int → Int} {tn : Nat} (q : MT h t b n u tn) : MT (gst h g w) t b n u tn := by
  obtain ⟨htt, hkt, hbn, htx, hbg, hen, hb0, hb1, hn0, hn1, hur, hu⟩ := q
  exact ⟨htt, hkt, hbn, by rw [gst_j (by decide)]; exact htx, by rw [gst_j (by decide)]; exact hbg, by rw [gst_j (by decide)]; exact hen, hb0, hb1, hn0, hn1, hur, fun i h0 h1 => by rw [gst_c (by omega)]; exact hu i h0 h1⟩
end GST
theorem ix0_cases {c : Int} : (ix0 c < 0 ∧ isLab c = false) ∨ (0 ≤ ix0 c ∧ isLab c = true ∧ 0 ≤ c) := by
  by_cases e0 : c = 114
  · subst e0; exact Or.inr (by decide)
  by_cases e1 : c = 100
  · subst e1; exact Or.inr (by decide)
  by_cases e2 : c = 115
  · subst e2; exact Or.inr (by decide)
  by_cases e3 : c = 103
  · subst e3; exact Or.inr (by decide)
  by_cases e4 : c = 122
  · subst e4; exact Or.inr (by decide)
  refine Or.inl ⟨?_, ?_⟩
  · unfold ix0; rw [if_neg e0, if_neg e1, if_neg e2, if_neg e3, if_neg e4]; decide
  · unfold isLab; rw [beq_false_of_ne e0, beq_false_of_ne e1, beq_false_of_ne e2, beq_false_of_ne e3, beq_false_of_ne e4]; rfl
section PCL
variable {u : Int → Int} {n a e : Int} {D : Nat} {r r2 : Int × List Int} {x : PR} {k1 : List Int}
theorem pCondS_sk : pCondS u n D (sk u n a) k1 = pCondS u n D a k1 := by unfold pCondS pCmp; rw [pk_sk, sk_sk]
theorem rest_l (h : x = .inl e) : pRest u n x = .inl e := by unfold pRest; rw [pNeed_l h]; rfl
theorem rest_no (h : x = .inr r) (h2 : pk u n r.1 ≠ 63) : pRest u n x = .inl (sk u n r.1) := by unfold pRest; rw [pNeed_no h h2]; rfl
theorem rest_f (h : x = .inr r) (h2 : pk u n r.1 = 63) (h3 : sumL u n 8 (sk u n r.1 + 1) = .inl e) : pRest u n x = .inl e := by unfold pRest; rw [pNeed_s h h2, pThen_r rfl]; exact pThen_l h3
theorem rest_s (h : x = .inr r) (h2 : pk u n r.1 = 63) (h3 : sumL u n 8 (sk u n r.1 + 1) = .inr r2) : pRest u n x = .inr (r2.1, r.2 ++ [-63] ++ r2.2) := by unfold pRest; rw [pNeed_s h h2, pThen_r rfl]; exact pThen_r h3
theorem body_c (h : pk u n a = 33 ∨ pk u n a = 40) : pBody u n a = pRest u n (pCond u n (unitL u n 8) a) := by unfold pBody; rw [if_pos h]
theorem body_f (h : pk u n a ≠ 33) (h9 : pk u n a ≠ 40) (h2 : sumL u n 8 a = .inl e) : pBody u n a = .inl e := by unfold pBody; rw [if_neg (by omega)]; exact pThen_l h2
theorem body_n (h : pk u n a ≠ 33) (h9 : pk u n a ≠ 40) (h2 : sumL u n 8 a = .inr r) (h3 : oCmp (pk u n r.1) = false) : pBody u n a = .inr (sk u n r.1, r.2) := by
  unfold pBody; rw [if_neg (by omega), pThen_r h2, if_neg (by rw [h3]; decide)]
theorem body_q (h : pk u n a ≠ 33) (h9 : pk u n a ≠ 40) (h2 : sumL u n 8 a = .inr r) (h3 : oCmp (pk u n r.1) = true) : pBody u n a = pRest u n (pCondS u n 8 r.1 r.2) := by
  unfold pBody; rw [if_neg (by omega), pThen_r h2, if_pos h3]
theorem cl_1 (h : isLab (pk u n a) = false) : pClause u n a = .inl (sk u n a) := by unfold pClause; rw [if_neg (by rw [h]; decide)]
theorem cl_2 (h : isLab (pk u n a) = true) (h2 : pk u n (sk u n a + 1) ≠ 58) : pClause u n a = .inl (sk u n (sk u n a + 1)) := by unfold pClause; rw [if_pos h, if_neg h2]
theorem cl_f (h : isLab (pk u n a) = true) (h2 : pk u n (sk u n a + 1) = 58) (h3 : pBody u n (sk u n (sk u n a + 1) + 1) = .inl e) : pClause u n a = .inl e := by unfold pClause; rw [if_pos h, if_pos h2, h3]
theorem cl_s (h : isLab (pk u n a) = true) (h2 : pk u n (sk u n a + 1) = 58) (h3 : pBody u n (sk u n (sk u n a + 1) + 1) = .inr r) : pClause u n a = .inr (r.1, pk u n a, r.2) := by unfold pClause; rw [if_pos h, if_pos h2, h3]
end PCL

set_option maxHeartbeats 4000000 in
set_option maxRecDepth 100000 in
theorem r_clause {l : Launch} {G : GG} {h : AH} {t b n : Int} {u : Int → Int} {tn : Nat} {g w a : Int} {d : Nat} {Q : Option AV → List Kd → AH → Prop} (hd : 36 ≤ d) (hT : MT h t b n u tn) (hL : LTB h) (h0 : 0 ≤ a) (h1 : a ≤ n)
    (hf : ∀ e a' dp', pClause u n a = .inl e → 0 ≤ e → Q none K0 (pst (gst h g w) a' e dp'))
    (hs1 : ∀ a' lb k, pClause u n a = .inr (a', lb, k) → a < a' → a' ≤ n → (g ≠ 0 ∨ lb ≠ h 116 23 ∨ exC (ltr h) k [] = none) → Q none K0 (pst (gst h g w) a' (-1) 0))
    (hs2 : ∀ a' lb k v, pClause u n a = .inr (a', lb, k) → a < a' → a' ≤ n → g = 0 → lb = h 116 23 → exC (ltr h) k [] = some [v] → Q none K0 (pst (gst h 1 v) a' (-1) 0)) :
    Sp l G mX12_clause d 0 0 K0 [(2, 116)] (pst (gst h g w) a (-1) 0) Q := by
  have hT0 : MT (gst h g w) t b n u tn := MT_gst hT
  have hL0 : LTB (gst h g w) := LTB_gst hL
  have hS := r_sumL (l := l) (G := G) hT0 hL0 (D := 8) (dp := 0) (by decide) (by decide)
  have hC := (r_unitL (l := l) (G := G) hT0 hL0 (D := 8) (dp := 0) (by decide) (by decide)).2.2
  obtain ⟨htt, hkt, hbn, htx, hbg, hen, hb0, hb1, hn0, hn1, hur, hu⟩ := hT
  have hpk := @pk_rng u n a hur h0
  have hsg := @sk_ge u n a
  have hsl := @sk_le u n a h1
  have hix := @ix0_cases (pk u n a)
  refine sp_of (L := [(2, 116), (9, 0), (9, 0), (9, 0), (9, 0)]) pl_X12 (Nat.le_of_ble_eq_true rfl) (tg_c (by decide) tg_0) rfl ?_
  refine v_aload_n dX12_clause_0 rfl ?_
  refine v_callv (M' := mX12_look) (d' := d - 1) (mc' := 0) (ms' := 0) (ci := 12) (c := 116) (As := []) dX12_clause_1 k_1755 cm_X12_look rfl (by omega) (by decide) kk_116 (Nat.le_of_ble_eq_true rfl) rfl ⟨Nat.le_refl _, Nat.le_refl _⟩ ?_
  refine s_look (by omega) hT0 (by omega) (by omega) ?_
  dsimp only [Option.toList, List.cons_append, List.nil_append, Nat.add_zero]
  refine v_istore_n_1 dX12_clause_4 (by decide) rfl ?_
  refine v_iload_n dX12_clause_5 rfl ?_
  refine v_iconst dX12_clause_6 (c32 rfl) ?_
  refine v_icmp_eq (tgt := 20) dX12_clause_7 (by decide) (fun c7_1 => ?_) (fun c7_1 => ?_)
  · refine v_aload_n dX12_clause_20 rfl ?_
    refine v_callv (M' := mX12_stop) (d' := d - 1) (mc' := 0) (ms' := 0) (ci := 12) (c := 116) (As := []) dX12_clause_21 k_1761 cm_X12_stop rfl (by omega) (by decide) kk_116 (Nat.le_of_ble_eq_true rfl) rfl ⟨Nat.le_refl _, Nat.le_refl _⟩ ?_
    refine s_stop0 (by omega) ?_
    dsimp only [Option.toList, List.cons_append, List.nil_append, Nat.add_zero]
    refine v_pop dX12_clause_24 rfl ?_
    refine v_vret dX12_clause_25 rfl (Nat.le_refl _) (Nat.le_refl _) ?_
    exact hf _ _ _ (cl_1 (by rw [c7_1]; decide)) (by omega)
  · refine v_ldcwS (i := 0) dX12_clause_10 (fun _ q => q.2.2.2.2.1) ?_
    refine v_iload_n dX12_clause_13 rfl ?_
    refine v_callvS (M' := mJ0_indexOf_0f7a4) (d' := d - 1) (i := 0) (As := [_]) dX12_clause_14 k_1760 cm_J0_indexOf_0f7a4 rfl (by omega) (by decide) (Nat.le_of_ble_eq_true rfl) rfl ⟨Nat.le_refl _, Nat.le_refl _⟩ ?_
    refine s_indexOf_0 (by omega) ?_
    dsimp only [Option.toList, List.cons_append, List.nil_append, Nat.add_zero]
    refine v_if_ge (tgt := 26) dX12_clause_17 (by decide) (fun c17_2 => ?_) (fun c17_2 => ?_)
    · refine v_aload_n dX12_clause_26 rfl ?_
      refine v_dup dX12_clause_27 rfl ?_
      refine v_getv (ci := 12) (j := 20) (ji := 20) (tg := 0) dX12_clause_28 k_1436 (by decide) kk_116 (by decide) rfl rfl (by decide) (pst_r20) ?_
      refine v_iconst dX12_clause_31 (c32 rfl) ?_
      refine v_iaddE dX12_clause_32 (by omega) ?_
      refine v_puti (ci := 12) (j := 20) (ji := 20) dX12_clause_33 k_1436 (by decide) kk_116 (by decide) rfl rfl rfl ?_
      rw [pst_w20]
      have hpq := @pk_rng u n ((sk u n a) + 1) hur (by omega)
      have hpg := @sk_ge u n ((sk u n a) + 1)
      have hpl := @sk_le u n ((sk u n a) + 1) (by omega)
      refine v_aload_n dX12_clause_36 rfl ?_
      refine v_bipush dX12_clause_37 (c32 rfl) (by decide) ?_
      refine v_callv (M' := mX12_takes) (d' := d - 1) (mc' := 0) (ms' := 0) (ci := 12) (c := 116) (As := [_]) dX12_clause_39 k_1765 cm_X12_takes rfl (by omega) (by decide) kk_116 (Nat.le_of_ble_eq_true rfl) rfl ⟨Nat.le_refl _, Nat.le_refl _⟩ ?_
      refine s_takes (by omega) hT0 (by omega) (by omega) (fun c39_3 => ?_) (fun c39_4 => ?_)
      · dsimp only [Option.toList, List.cons_append, List.nil_append, Nat.add_zero]
        refine v_if_ne_t (tgt := 46) dX12_clause_42 (by decide) (by decide) ?_
        refine v_iconst dX12_clause_46 (c32 rfl) ?_
        refine v_istore_n_2 dX12_clause_47 (by decide) rfl ?_
        refine v_iconst dX12_clause_48 (c32 rfl) ?_
        refine v_istore_n_3 dX12_clause_49 (by decide) rfl ?_
        have hpq := @pk_rng u n ((sk u n ((sk u n a) + 1)) + 1) hur (by omega)
        have hpg := @sk_ge u n ((sk u n ((sk u n a) + 1)) + 1)
        have hpl := @sk_le u n ((sk u n ((sk u n a) + 1)) + 1) (by omega)
        refine v_aload_n dX12_clause_50 rfl ?_
        refine v_callv (M' := mX12_look) (d' := d - 1) (mc' := 0) (ms' := 0) (ci := 12) (c := 116) (As := []) dX12_clause_51 k_1755 cm_X12_look rfl (by omega) (by decide) kk_116 (Nat.le_of_ble_eq_true rfl) rfl ⟨Nat.le_refl _, Nat.le_refl _⟩ ?_
        refine s_look (by omega) hT0 (by omega) (by omega) ?_
        dsimp only [Option.toList, List.cons_append, List.nil_append, Nat.add_zero]
        refine v_istore_4 dX12_clause_54 (by decide) rfl ?_
        refine v_iload dX12_clause_56 rfl ?_
        refine v_bipush dX12_clause_58 (c32 rfl) (by decide) ?_
        refine v_icmp_eq (tgt := 70) dX12_clause_60 (by decide) (fun c60_5 => ?_) (fun c60_5 => ?_)
        · refine v_aload_n dX12_clause_70 rfl ?_
          refine v_iconst dX12_clause_71 (c32 rfl) ?_
          refine v_iconst dX12_clause_72 (c32 rfl) ?_
          refine v_callv (M' := mX12_condition) (d' := d - 1) (mc' := 0) (ms' := 0) (ci := 12) (c := 116) (As := [_, _]) dX12_clause_73 k_1769 cm_X12_condition rfl (by omega) (by decide) kk_116 (Nat.le_of_ble_eq_true rfl) rfl ⟨Nat.le_refl _, Nat.le_refl _⟩ ?_
          refine hC (by omega) (by omega) (by omega) (fun xe_11 xv_11 xa_11 xd_11 c73_6 c73_7 c73_8 c73_9 c73_10 c73_11 => ?_) (fun xa_17 xk_17 xv_17 c73_12 c73_13 c73_14 c73_15 c73_16 c73_17 => ?_)
          · dsimp only [Option.toList, List.cons_append, List.nil_append, Nat.add_zero]
            refine v_istore_n_2 dX12_clause_76 (by decide) rfl ?_
            refine v_aload_n dX12_clause_77 rfl ?_
            refine v_bipush dX12_clause_78 (c32 rfl) (by decide) ?_
            refine v_callv (M' := mX12_takes) (d' := d - 1) (mc' := 0) (ms' := 0) (ci := 12) (c := 116) (As := [_]) dX12_clause_80 k_1765 cm_X12_takes rfl (by omega) (by decide) kk_116 (Nat.le_of_ble_eq_true rfl) rfl ⟨Nat.le_refl _, Nat.le_refl _⟩ ?_
            refine s_takes1 (by omega) (by omega) ?_
            dsimp only [Option.toList, List.cons_append, List.nil_append, Nat.add_zero]
            refine v_if_ne_f (tgt := 87) dX12_clause_83 (by decide) (by decide) ?_
            refine v_vret dX12_clause_86 rfl (Nat.le_refl _) (Nat.le_refl _) ?_
            exact hf _ _ _ (cl_f (by rcases @ix0_cases (pk u n a) with q | q; omega; exact q.2.1) c39_3 ((body_c (Or.inl c60_5)).trans (rest_l (pCond_sk.symm.trans c73_6)))) (by omega)
          · dsimp only [Option.toList, List.cons_append, List.nil_append, Nat.add_zero]
            have hpq := @pk_rng u n xa_17 hur (by omega)
            have hpg := @sk_ge u n xa_17
            have hpl := @sk_le u n xa_17 (by omega)
            refine v_istore_n_2 dX12_clause_76 (by decide) rfl ?_
            have hpq := @pk_rng u n xa_17 hur (by omega)
            have hpg := @sk_ge u n xa_17
            have hpl := @sk_le u n xa_17 (by omega)
            refine v_aload_n dX12_clause_77 rfl ?_
            refine v_bipush dX12_clause_78 (c32 rfl) (by decide) ?_
            refine v_callv (M' := mX12_takes) (d' := d - 1) (mc' := 0) (ms' := 0) (ci := 12) (c := 116) (As := [_]) dX12_clause_80 k_1765 cm_X12_takes rfl (by omega) (by decide) kk_116 (Nat.le_of_ble_eq_true rfl) rfl ⟨Nat.le_refl _, Nat.le_refl _⟩ ?_
            refine s_takes (by omega) hT0 (by omega) (by omega) (fun c80_18 => ?_) (fun c80_19 => ?_)
            · dsimp only [Option.toList, List.cons_append, List.nil_append, Nat.add_zero]
              refine v_if_ne_t (tgt := 87) dX12_clause_83 (by decide) (by decide) ?_
              have hpq := @pk_rng u n ((sk u n xa_17) + 1) hur (by omega)
              have hpg := @sk_ge u n ((sk u n xa_17) + 1)
              have hpl := @sk_le u n ((sk u n xa_17) + 1) (by omega)
              refine v_aload_n dX12_clause_87 rfl ?_
              refine v_callv (M' := mX12_sum) (d' := d - 1) (mc' := 0) (ms' := 0) (ci := 12) (c := 116) (As := []) dX12_clause_88 k_1781 cm_X12_sum rfl (by omega) (by decide) kk_116 (Nat.le_of_ble_eq_true rfl) rfl ⟨Nat.le_refl _, Nat.le_refl _⟩ ?_
              refine hS (by omega) (by omega) (by omega) (fun xe_23 xv_23 xa_23 xd_23 c88_20 c88_21 c88_22 c88_23 => ?_) (fun xa_29 xk_29 xv_29 c88_24 c88_25 c88_26 c88_27 c88_28 c88_29 => ?_)
              · dsimp only [Option.toList, List.cons_append, List.nil_append, Nat.add_zero]
                refine v_istore_n_3 dX12_clause_91 (by decide) rfl ?_
                refine v_goto (tgt := 140) dX12_clause_92 (by decide) ?_
                refine v_aload_n dX12_clause_140 rfl ?_
                refine v_getv (ci := 12) (j := 21) (ji := 21) (tg := 0) dX12_clause_141 k_1437 (by decide) kk_116 (by decide) rfl rfl (by decide) (pst_r21) ?_
                refine v_iconst dX12_clause_144 (c32 rfl) ?_
                refine v_icmp_ne_t (tgt := 167) dX12_clause_145 (by decide) (by omega) ?_
                refine v_vret dX12_clause_167 rfl (Nat.le_refl _) (Nat.le_refl _) ?_
                exact hf _ _ _ (cl_f (by rcases @ix0_cases (pk u n a) with q | q; omega; exact q.2.1) c39_3 ((body_c (Or.inl c60_5)).trans (rest_f (pCond_sk.symm.trans c73_12) c80_18 c88_20))) (by omega)
              · dsimp only [Option.toList, List.cons_append, List.nil_append, Nat.add_zero]
                refine v_istore_n_3 dX12_clause_91 (by decide) rfl ?_
                refine v_goto (tgt := 140) dX12_clause_92 (by decide) ?_
                have hpq := @pk_rng u n xa_29 hur (by omega)
                have hpg := @sk_ge u n xa_29
                have hpl := @sk_le u n xa_29 (by omega)
                refine v_aload_n dX12_clause_140 rfl ?_
                refine v_getv (ci := 12) (j := 21) (ji := 21) (tg := 0) dX12_clause_141 k_1437 (by decide) kk_116 (by decide) rfl rfl (by decide) (pst_r21) ?_
                refine v_iconst dX12_clause_144 (c32 rfl) ?_
                refine v_icmp_ne_f (tgt := 167) dX12_clause_145 (by decide) (by decide) ?_
                refine v_aload_n dX12_clause_148 rfl ?_
                refine v_getv (ci := 12) (j := 25) (ji := 25) (tg := 0) dX12_clause_149 k_1441 (by decide) kk_116 (by decide) rfl rfl (by decide) ((pst_j (by decide)).trans (gst_r25)) ?_
                refine v_if_ne (tgt := 167) dX12_clause_152 (by decide) (fun c152_30 => ?_) (fun c152_30 => ?_)
                · refine v_vret dX12_clause_167 rfl (Nat.le_refl _) (Nat.le_refl _) ?_
                  have vh2 := c88_27
                  rw [ltr_gst] at vh2
                  have vh1 := c73_15
                  rw [ltr_gst] at vh1
                  have hx9 := VH_if vh1 vh2 (by omega) (by omega)
                  have hc9 := cl_s (by rcases @ix0_cases (pk u n a) with q | q; omega; exact q.2.1) c39_3 ((body_c (Or.inl c60_5)).trans (rest_s (pCond_sk.symm.trans c73_12) c80_18 c88_24))
                  exact hs1 _ _ _ hc9 (by omega) (by omega) (Or.inl c152_30)
                · refine v_iload_n dX12_clause_155 rfl ?_
                  refine v_aload_n dX12_clause_156 rfl ?_
                  refine v_getv (ci := 12) (j := 23) (ji := 23) (tg := 0) dX12_clause_157 k_1439 (by decide) kk_116 (by decide) rfl rfl (by decide) ((pst_j (by decide)).trans (gst_j (by decide))) ?_
                  refine v_icmp_ne (tgt := 167) dX12_clause_160 (by decide) (fun c160_31 => ?_) (fun c160_31 => ?_)
                  · refine v_vret dX12_clause_167 rfl (Nat.le_refl _) (Nat.le_refl _) ?_
                    have vh2 := c88_27
                    rw [ltr_gst] at vh2
                    have vh1 := c73_15
                    rw [ltr_gst] at vh1
                    have hx9 := VH_if vh1 vh2 (by omega) (by omega)
                    have hc9 := cl_s (by rcases @ix0_cases (pk u n a) with q | q; omega; exact q.2.1) c39_3 ((body_c (Or.inl c60_5)).trans (rest_s (pCond_sk.symm.trans c73_12) c80_18 c88_24))
                    exact hs1 _ _ _ hc9 (by omega) (by omega) (Or.inr (Or.inl c160_31))
                  · refine v_iload_n dX12_clause_163 rfl ?_
                    refine v_if_ne (tgt := 168) dX12_clause_164 (by decide) (fun c164_32 => ?_) (fun c164_32 => ?_)
                    · refine v_aload_n dX12_clause_168 rfl ?_
                      refine v_iconst dX12_clause_169 (c32 rfl) ?_
                      refine v_putz (ci := 12) (j := 25) (ji := 25) dX12_clause_170 k_1441 (by decide) kk_116 (by decide) rfl rfl rfl (by omega) ?_
                      rw [pst_v (by decide)]
                      rw [gst_w25]
                      refine v_aload_n dX12_clause_173 rfl ?_
                      refine v_iload_n dX12_clause_174 rfl ?_
                      refine v_puti (ci := 12) (j := 24) (ji := 24) dX12_clause_175 k_1440 (by decide) kk_116 (by decide) rfl rfl rfl ?_
                      rw [pst_v (by decide)]
                      rw [gst_w24]
                      refine v_vret dX12_clause_178 rfl (Nat.le_refl _) (Nat.le_refl _) ?_
                      have vh2 := c88_27
                      rw [ltr_gst] at vh2
                      have vh1 := c73_15
                      rw [ltr_gst] at vh1
                      have hx9 := VH_if vh1 vh2 (by omega) (by omega)
                      have hc9 := cl_s (by rcases @ix0_cases (pk u n a) with q | q; omega; exact q.2.1) c39_3 ((body_c (Or.inl c60_5)).trans (rest_s (pCond_sk.symm.trans c73_12) c80_18 c88_24))
                      rw [if_neg c164_32] at hx9
                      exact hs2 _ _ _ _ hc9 (by omega) (by omega) (by omega) (by omega) hx9
                    · refine v_vret dX12_clause_167 rfl (Nat.le_refl _) (Nat.le_refl _) ?_
                      have vh2 := c88_27
                      rw [ltr_gst] at vh2
                      have vh1 := c73_15
                      rw [ltr_gst] at vh1
                      have hx9 := VH_if vh1 vh2 (by omega) (by omega)
                      have hc9 := cl_s (by rcases @ix0_cases (pk u n a) with q | q; omega; exact q.2.1) c39_3 ((body_c (Or.inl c60_5)).trans (rest_s (pCond_sk.symm.trans c73_12) c80_18 c88_24))
                      rw [if_pos c164_32] at hx9
                      exact hs1 _ _ _ hc9 (by omega) (by omega) (Or.inr (Or.inr hx9))
            · dsimp only [Option.toList, List.cons_append, List.nil_append, Nat.add_zero]
              refine v_if_ne_f (tgt := 87) dX12_clause_83 (by decide) (by decide) ?_
              refine v_vret dX12_clause_86 rfl (Nat.le_refl _) (Nat.le_refl _) ?_
              have hpz := @sk_ge u n xa_17
              exact hf _ _ _ (cl_f (by rcases @ix0_cases (pk u n a) with q | q; omega; exact q.2.1) c39_3 ((body_c (Or.inl c60_5)).trans (rest_no (pCond_sk.symm.trans c73_12) c80_19))) (by omega)
        · refine v_iload dX12_clause_63 rfl ?_
          refine v_bipush dX12_clause_65 (c32 rfl) (by decide) ?_
          refine v_icmp_ne (tgt := 95) dX12_clause_67 (by decide) (fun c67_33 => ?_) (fun c67_33 => ?_)
          · refine v_aload_n dX12_clause_95 rfl ?_
            refine v_callv (M' := mX12_sum) (d' := d - 1) (mc' := 0) (ms' := 0) (ci := 12) (c := 116) (As := []) dX12_clause_96 k_1781 cm_X12_sum rfl (by omega) (by decide) kk_116 (Nat.le_of_ble_eq_true rfl) rfl ⟨Nat.le_refl _, Nat.le_refl _⟩ ?_
            refine hS (by omega) (by omega) (by omega) (fun xe_37 xv_37 xa_37 xd_37 c96_34 c96_35 c96_36 c96_37 => ?_) (fun xa_43 xk_43 xv_43 c96_38 c96_39 c96_40 c96_41 c96_42 c96_43 => ?_)
            · dsimp only [Option.toList, List.cons_append, List.nil_append, Nat.add_zero]
              refine v_istore_n_3 dX12_clause_99 (by decide) rfl ?_
              refine v_aload_n dX12_clause_100 rfl ?_
              refine v_getv (ci := 12) (j := 21) (ji := 21) (tg := 0) dX12_clause_101 k_1437 (by decide) kk_116 (by decide) rfl rfl (by decide) (pst_r21) ?_
              refine v_iconst dX12_clause_104 (c32 rfl) ?_
              refine v_icmp_ne_t (tgt := 140) dX12_clause_105 (by decide) (by omega) ?_
              refine v_aload_n dX12_clause_140 rfl ?_
              refine v_getv (ci := 12) (j := 21) (ji := 21) (tg := 0) dX12_clause_141 k_1437 (by decide) kk_116 (by decide) rfl rfl (by decide) (pst_r21) ?_
              refine v_iconst dX12_clause_144 (c32 rfl) ?_
              refine v_icmp_ne_t (tgt := 167) dX12_clause_145 (by decide) (by omega) ?_
              refine v_vret dX12_clause_167 rfl (Nat.le_refl _) (Nat.le_refl _) ?_
              exact hf _ _ _ (cl_f (by rcases @ix0_cases (pk u n a) with q | q; omega; exact q.2.1) c39_3 (body_f c60_5 c67_33 (sumL_sk.symm.trans c96_34))) (by omega)
            · dsimp only [Option.toList, List.cons_append, List.nil_append, Nat.add_zero]
              refine v_istore_n_3 dX12_clause_99 (by decide) rfl ?_
              refine v_aload_n dX12_clause_100 rfl ?_
              refine v_getv (ci := 12) (j := 21) (ji := 21) (tg := 0) dX12_clause_101 k_1437 (by decide) kk_116 (by decide) rfl rfl (by decide) (pst_r21) ?_
              refine v_iconst dX12_clause_104 (c32 rfl) ?_
              refine v_icmp_ne_f (tgt := 140) dX12_clause_105 (by decide) (by decide) ?_
              have hpq := @pk_rng u n xa_43 hur (by omega)
              have hpg := @sk_ge u n xa_43
              have hpl := @sk_le u n xa_43 (by omega)
              refine v_aload_n dX12_clause_108 rfl ?_
              refine v_callv (M' := mX12_look) (d' := d - 1) (mc' := 0) (ms' := 0) (ci := 12) (c := 116) (As := []) dX12_clause_109 k_1755 cm_X12_look rfl (by omega) (by decide) kk_116 (Nat.le_of_ble_eq_true rfl) rfl ⟨Nat.le_refl _, Nat.le_refl _⟩ ?_
              refine s_look (by omega) hT0 (by omega) (by omega) ?_
              dsimp only [Option.toList, List.cons_append, List.nil_append, Nat.add_zero]
              refine v_calls (M' := mX12_isSign) (d' := d - 1) (mc' := 0) (ms' := 0) (As := [_]) dX12_clause_112 k_1809 cm_X12_isSign (by omega) (Nat.le_of_ble_eq_true rfl) rfl ⟨Nat.le_refl _, Nat.le_refl _⟩ ?_
              refine s_X12_isSign (by omega) (fun c112_44 => ?_) (fun c112_45 c112_46 => ?_) (fun c112_47 c112_48 c112_49 => ?_) (fun c112_50 c112_51 c112_52 => ?_)
              · dsimp only [Option.toList, List.cons_append, List.nil_append, Nat.add_zero]
                refine v_if_eq_f (tgt := 140) dX12_clause_115 (by decide) (by decide) ?_
                refine v_aload_n dX12_clause_118 rfl ?_
                refine v_iconst dX12_clause_119 (c32 rfl) ?_
                refine v_iload_n dX12_clause_120 rfl ?_
                refine v_callv (M' := mX12_condition) (d' := d - 1) (mc' := 0) (ms' := 0) (ci := 12) (c := 116) (As := [_, _]) dX12_clause_121 k_1769 cm_X12_condition rfl (by omega) (by decide) kk_116 (Nat.le_of_ble_eq_true rfl) rfl ⟨Nat.le_refl _, Nat.le_refl _⟩ ?_
                refine (r_condS hT0 hL0 (D := 8) (dp := 0) (by decide) (by decide) (VH.mono c96_41 (by omega))) (by omega) (by omega) (by omega) (fun xe_58 xv_58 xa_58 xd_58 c121_53 c121_54 c121_55 c121_56 c121_57 c121_58 => ?_) (fun xa_64 xk_64 xv_64 c121_59 c121_60 c121_61 c121_62 c121_63 c121_64 => ?_)
                · dsimp only [Option.toList, List.cons_append, List.nil_append, Nat.add_zero]
                  refine v_istore_n_2 dX12_clause_124 (by decide) rfl ?_
                  refine v_aload_n dX12_clause_125 rfl ?_
                  refine v_bipush dX12_clause_126 (c32 rfl) (by decide) ?_
                  refine v_callv (M' := mX12_takes) (d' := d - 1) (mc' := 0) (ms' := 0) (ci := 12) (c := 116) (As := [_]) dX12_clause_128 k_1765 cm_X12_takes rfl (by omega) (by decide) kk_116 (Nat.le_of_ble_eq_true rfl) rfl ⟨Nat.le_refl _, Nat.le_refl _⟩ ?_
                  refine s_takes1 (by omega) (by omega) ?_
                  dsimp only [Option.toList, List.cons_append, List.nil_append, Nat.add_zero]
                  refine v_if_ne_f (tgt := 135) dX12_clause_131 (by decide) (by decide) ?_
                  refine v_vret dX12_clause_134 rfl (Nat.le_refl _) (Nat.le_refl _) ?_
                  exact hf _ _ _ (cl_f (by rcases @ix0_cases (pk u n a) with q | q; omega; exact q.2.1) c39_3 ((body_q c60_5 c67_33 (sumL_sk.symm.trans c96_38) (by rw [c112_44]; rfl)).trans (rest_l (pCondS_sk.symm.trans c121_53)))) (by omega)
                · dsimp only [Option.toList, List.cons_append, List.nil_append, Nat.add_zero]
                  have hpq := @pk_rng u n xa_64 hur (by omega)
                  have hpg := @sk_ge u n xa_64
                  have hpl := @sk_le u n xa_64 (by omega)
                  refine v_istore_n_2 dX12_clause_124 (by decide) rfl ?_
                  have hpq := @pk_rng u n xa_64 hur (by omega)
                  have hpg := @sk_ge u n xa_64
                  have hpl := @sk_le u n xa_64 (by omega)
                  refine v_aload_n dX12_clause_125 rfl ?_
                  refine v_bipush dX12_clause_126 (c32 rfl) (by decide) ?_
                  refine v_callv (M' := mX12_takes) (d' := d - 1) (mc' := 0) (ms' := 0) (ci := 12) (c := 116) (As := [_]) dX12_clause_128 k_1765 cm_X12_takes rfl (by omega) (by decide) kk_116 (Nat.le_of_ble_eq_true rfl) rfl ⟨Nat.le_refl _, Nat.le_refl _⟩ ?_
                  refine s_takes (by omega) hT0 (by omega) (by omega) (fun c128_65 => ?_) (fun c128_66 => ?_)
                  · dsimp only [Option.toList, List.cons_append, List.nil_append, Nat.add_zero]
                    refine v_if_ne_t (tgt := 135) dX12_clause_131 (by decide) (by decide) ?_
                    have hpq := @pk_rng u n ((sk u n xa_64) + 1) hur (by omega)
                    have hpg := @sk_ge u n ((sk u n xa_64) + 1)
                    have hpl := @sk_le u n ((sk u n xa_64) + 1) (by omega)
                    refine v_aload_n dX12_clause_135 rfl ?_
                    refine v_callv (M' := mX12_sum) (d' := d - 1) (mc' := 0) (ms' := 0) (ci := 12) (c := 116) (As := []) dX12_clause_136 k_1781 cm_X12_sum rfl (by omega) (by decide) kk_116 (Nat.le_of_ble_eq_true rfl) rfl ⟨Nat.le_refl _, Nat.le_refl _⟩ ?_
                    refine hS (by omega) (by omega) (by omega) (fun xe_70 xv_70 xa_70 xd_70 c136_67 c136_68 c136_69 c136_70 => ?_) (fun xa_76 xk_76 xv_76 c136_71 c136_72 c136_73 c136_74 c136_75 c136_76 => ?_)
                    · dsimp only [Option.toList, List.cons_append, List.nil_append, Nat.add_zero]
                      refine v_istore_n_3 dX12_clause_139 (by decide) rfl ?_
                      refine v_aload_n dX12_clause_140 rfl ?_
                      refine v_getv (ci := 12) (j := 21) (ji := 21) (tg := 0) dX12_clause_141 k_1437 (by decide) kk_116 (by decide) rfl rfl (by decide) (pst_r21) ?_
                      refine v_iconst dX12_clause_144 (c32 rfl) ?_
                      refine v_icmp_ne_t (tgt := 167) dX12_clause_145 (by decide) (by omega) ?_
                      refine v_vret dX12_clause_167 rfl (Nat.le_refl _) (Nat.le_refl _) ?_
                      exact hf _ _ _ (cl_f (by rcases @ix0_cases (pk u n a) with q | q; omega; exact q.2.1) c39_3 ((body_q c60_5 c67_33 (sumL_sk.symm.trans c96_38) (by rw [c112_44]; rfl)).trans (rest_f (pCondS_sk.symm.trans c121_59) c128_65 c136_67))) (by omega)
                    · dsimp only [Option.toList, List.cons_append, List.nil_append, Nat.add_zero]
                      refine v_istore_n_3 dX12_clause_139 (by decide) rfl ?_
                      have hpq := @pk_rng u n xa_76 hur (by omega)
                      have hpg := @sk_ge u n xa_76
                      have hpl := @sk_le u n xa_76 (by omega)
                      refine v_aload_n dX12_clause_140 rfl ?_
                      refine v_getv (ci := 12) (j := 21) (ji := 21) (tg := 0) dX12_clause_141 k_1437 (by decide) kk_116 (by decide) rfl rfl (by decide) (pst_r21) ?_
                      refine v_iconst dX12_clause_144 (c32 rfl) ?_
                      refine v_icmp_ne_f (tgt := 167) dX12_clause_145 (by decide) (by decide) ?_
                      refine v_aload_n dX12_clause_148 rfl ?_
                      refine v_getv (ci := 12) (j := 25) (ji := 25) (tg := 0) dX12_clause_149 k_1441 (by decide) kk_116 (by decide) rfl rfl (by decide) ((pst_j (by decide)).trans (gst_r25)) ?_
                      refine v_if_ne (tgt := 167) dX12_clause_152 (by decide) (fun c152_77 => ?_) (fun c152_77 => ?_)
                      · refine v_vret dX12_clause_167 rfl (Nat.le_refl _) (Nat.le_refl _) ?_
                        have vh2 := c136_74
                        rw [ltr_gst] at vh2
                        have vh1 := c121_62
                        rw [ltr_gst] at vh1
                        have hx9 := VH_if vh1 vh2 (by omega) (by omega)
                        have hc9 := cl_s (by rcases @ix0_cases (pk u n a) with q | q; omega; exact q.2.1) c39_3 ((body_q c60_5 c67_33 (sumL_sk.symm.trans c96_38) (by rw [c112_44]; rfl)).trans (rest_s (pCondS_sk.symm.trans c121_59) c128_65 c136_71))
                        exact hs1 _ _ _ hc9 (by omega) (by omega) (Or.inl c152_77)
                      · refine v_iload_n dX12_clause_155 rfl ?_
                        refine v_aload_n dX12_clause_156 rfl ?_
                        refine v_getv (ci := 12) (j := 23) (ji := 23) (tg := 0) dX12_clause_157 k_1439 (by decide) kk_116 (by decide) rfl rfl (by decide) ((pst_j (by decide)).trans (gst_j (by decide))) ?_
                        refine v_icmp_ne (tgt := 167) dX12_clause_160 (by decide) (fun c160_78 => ?_) (fun c160_78 => ?_)
                        · refine v_vret dX12_clause_167 rfl (Nat.le_refl _) (Nat.le_refl _) ?_
                          have vh2 := c136_74
                          rw [ltr_gst] at vh2
                          have vh1 := c121_62
                          rw [ltr_gst] at vh1
                          have hx9 := VH_if vh1 vh2 (by omega) (by omega)
                          have hc9 := cl_s (by rcases @ix0_cases (pk u n a) with q | q; omega; exact q.2.1) c39_3 ((body_q c60_5 c67_33 (sumL_sk.symm.trans c96_38) (by rw [c112_44]; rfl)).trans (rest_s (pCondS_sk.symm.trans c121_59) c128_65 c136_71))
                          exact hs1 _ _ _ hc9 (by omega) (by omega) (Or.inr (Or.inl c160_78))
                        · refine v_iload_n dX12_clause_163 rfl ?_
                          refine v_if_ne (tgt := 168) dX12_clause_164 (by decide) (fun c164_79 => ?_) (fun c164_79 => ?_)
                          · refine v_aload_n dX12_clause_168 rfl ?_
                            refine v_iconst dX12_clause_169 (c32 rfl) ?_
                            refine v_putz (ci := 12) (j := 25) (ji := 25) dX12_clause_170 k_1441 (by decide) kk_116 (by decide) rfl rfl rfl (by omega) ?_
                            rw [pst_v (by decide)]
                            rw [gst_w25]
                            refine v_aload_n dX12_clause_173 rfl ?_
                            refine v_iload_n dX12_clause_174 rfl ?_
                            refine v_puti (ci := 12) (j := 24) (ji := 24) dX12_clause_175 k_1440 (by decide) kk_116 (by decide) rfl rfl rfl ?_
                            rw [pst_v (by decide)]
                            rw [gst_w24]
                            refine v_vret dX12_clause_178 rfl (Nat.le_refl _) (Nat.le_refl _) ?_
                            have vh2 := c136_74
                            rw [ltr_gst] at vh2
                            have vh1 := c121_62
                            rw [ltr_gst] at vh1
                            have hx9 := VH_if vh1 vh2 (by omega) (by omega)
                            have hc9 := cl_s (by rcases @ix0_cases (pk u n a) with q | q; omega; exact q.2.1) c39_3 ((body_q c60_5 c67_33 (sumL_sk.symm.trans c96_38) (by rw [c112_44]; rfl)).trans (rest_s (pCondS_sk.symm.trans c121_59) c128_65 c136_71))
                            rw [if_neg c164_79] at hx9
                            exact hs2 _ _ _ _ hc9 (by omega) (by omega) (by omega) (by omega) hx9
                          · refine v_vret dX12_clause_167 rfl (Nat.le_refl _) (Nat.le_refl _) ?_
                            have vh2 := c136_74
                            rw [ltr_gst] at vh2
                            have vh1 := c121_62
                            rw [ltr_gst] at vh1
                            have hx9 := VH_if vh1 vh2 (by omega) (by omega)
                            have hc9 := cl_s (by rcases @ix0_cases (pk u n a) with q | q; omega; exact q.2.1) c39_3 ((body_q c60_5 c67_33 (sumL_sk.symm.trans c96_38) (by rw [c112_44]; rfl)).trans (rest_s (pCondS_sk.symm.trans c121_59) c128_65 c136_71))
                            rw [if_pos c164_79] at hx9
                            exact hs1 _ _ _ hc9 (by omega) (by omega) (Or.inr (Or.inr hx9))
                  · dsimp only [Option.toList, List.cons_append, List.nil_append, Nat.add_zero]
                    refine v_if_ne_f (tgt := 135) dX12_clause_131 (by decide) (by decide) ?_
                    refine v_vret dX12_clause_134 rfl (Nat.le_refl _) (Nat.le_refl _) ?_
                    have hpz := @sk_ge u n xa_64
                    exact hf _ _ _ (cl_f (by rcases @ix0_cases (pk u n a) with q | q; omega; exact q.2.1) c39_3 ((body_q c60_5 c67_33 (sumL_sk.symm.trans c96_38) (by rw [c112_44]; rfl)).trans (rest_no (pCondS_sk.symm.trans c121_59) c128_66))) (by omega)
              · dsimp only [Option.toList, List.cons_append, List.nil_append, Nat.add_zero]
                refine v_if_eq_f (tgt := 140) dX12_clause_115 (by decide) (by decide) ?_
                refine v_aload_n dX12_clause_118 rfl ?_
                refine v_iconst dX12_clause_119 (c32 rfl) ?_
                refine v_iload_n dX12_clause_120 rfl ?_
                refine v_callv (M' := mX12_condition) (d' := d - 1) (mc' := 0) (ms' := 0) (ci := 12) (c := 116) (As := [_, _]) dX12_clause_121 k_1769 cm_X12_condition rfl (by omega) (by decide) kk_116 (Nat.le_of_ble_eq_true rfl) rfl ⟨Nat.le_refl _, Nat.le_refl _⟩ ?_
                refine (r_condS hT0 hL0 (D := 8) (dp := 0) (by decide) (by decide) (VH.mono c96_41 (by omega))) (by omega) (by omega) (by omega) (fun xe_85 xv_85 xa_85 xd_85 c121_80 c121_81 c121_82 c121_83 c121_84 c121_85 => ?_) (fun xa_91 xk_91 xv_91 c121_86 c121_87 c121_88 c121_89 c121_90 c121_91 => ?_)
                · dsimp only [Option.toList, List.cons_append, List.nil_append, Nat.add_zero]
                  refine v_istore_n_2 dX12_clause_124 (by decide) rfl ?_
                  refine v_aload_n dX12_clause_125 rfl ?_
                  refine v_bipush dX12_clause_126 (c32 rfl) (by decide) ?_
                  refine v_callv (M' := mX12_takes) (d' := d - 1) (mc' := 0) (ms' := 0) (ci := 12) (c := 116) (As := [_]) dX12_clause_128 k_1765 cm_X12_takes rfl (by omega) (by decide) kk_116 (Nat.le_of_ble_eq_true rfl) rfl ⟨Nat.le_refl _, Nat.le_refl _⟩ ?_
                  refine s_takes1 (by omega) (by omega) ?_
                  dsimp only [Option.toList, List.cons_append, List.nil_append, Nat.add_zero]
                  refine v_if_ne_f (tgt := 135) dX12_clause_131 (by decide) (by decide) ?_
                  refine v_vret dX12_clause_134 rfl (Nat.le_refl _) (Nat.le_refl _) ?_
                  exact hf _ _ _ (cl_f (by rcases @ix0_cases (pk u n a) with q | q; omega; exact q.2.1) c39_3 ((body_q c60_5 c67_33 (sumL_sk.symm.trans c96_38) (by rw [c112_46]; rfl)).trans (rest_l (pCondS_sk.symm.trans c121_80)))) (by omega)
                · dsimp only [Option.toList, List.cons_append, List.nil_append, Nat.add_zero]
                  have hpq := @pk_rng u n xa_91 hur (by omega)
                  have hpg := @sk_ge u n xa_91
                  have hpl := @sk_le u n xa_91 (by omega)
                  refine v_istore_n_2 dX12_clause_124 (by decide) rfl ?_
                  have hpq := @pk_rng u n xa_91 hur (by omega)
                  have hpg := @sk_ge u n xa_91
                  have hpl := @sk_le u n xa_91 (by omega)
                  refine v_aload_n dX12_clause_125 rfl ?_
                  refine v_bipush dX12_clause_126 (c32 rfl) (by decide) ?_
                  refine v_callv (M' := mX12_takes) (d' := d - 1) (mc' := 0) (ms' := 0) (ci := 12) (c := 116) (As := [_]) dX12_clause_128 k_1765 cm_X12_takes rfl (by omega) (by decide) kk_116 (Nat.le_of_ble_eq_true rfl) rfl ⟨Nat.le_refl _, Nat.le_refl _⟩ ?_
                  refine s_takes (by omega) hT0 (by omega) (by omega) (fun c128_92 => ?_) (fun c128_93 => ?_)
                  · dsimp only [Option.toList, List.cons_append, List.nil_append, Nat.add_zero]
                    refine v_if_ne_t (tgt := 135) dX12_clause_131 (by decide) (by decide) ?_
                    have hpq := @pk_rng u n ((sk u n xa_91) + 1) hur (by omega)
                    have hpg := @sk_ge u n ((sk u n xa_91) + 1)
                    have hpl := @sk_le u n ((sk u n xa_91) + 1) (by omega)
                    refine v_aload_n dX12_clause_135 rfl ?_
                    refine v_callv (M' := mX12_sum) (d' := d - 1) (mc' := 0) (ms' := 0) (ci := 12) (c := 116) (As := []) dX12_clause_136 k_1781 cm_X12_sum rfl (by omega) (by decide) kk_116 (Nat.le_of_ble_eq_true rfl) rfl ⟨Nat.le_refl _, Nat.le_refl _⟩ ?_
                    refine hS (by omega) (by omega) (by omega) (fun xe_97 xv_97 xa_97 xd_97 c136_94 c136_95 c136_96 c136_97 => ?_) (fun xa_103 xk_103 xv_103 c136_98 c136_99 c136_100 c136_101 c136_102 c136_103 => ?_)
                    · dsimp only [Option.toList, List.cons_append, List.nil_append, Nat.add_zero]
                      refine v_istore_n_3 dX12_clause_139 (by decide) rfl ?_
                      refine v_aload_n dX12_clause_140 rfl ?_
                      refine v_getv (ci := 12) (j := 21) (ji := 21) (tg := 0) dX12_clause_141 k_1437 (by decide) kk_116 (by decide) rfl rfl (by decide) (pst_r21) ?_
                      refine v_iconst dX12_clause_144 (c32 rfl) ?_
                      refine v_icmp_ne_t (tgt := 167) dX12_clause_145 (by decide) (by omega) ?_
                      refine v_vret dX12_clause_167 rfl (Nat.le_refl _) (Nat.le_refl _) ?_
                      exact hf _ _ _ (cl_f (by rcases @ix0_cases (pk u n a) with q | q; omega; exact q.2.1) c39_3 ((body_q c60_5 c67_33 (sumL_sk.symm.trans c96_38) (by rw [c112_46]; rfl)).trans (rest_f (pCondS_sk.symm.trans c121_86) c128_92 c136_94))) (by omega)
                    · dsimp only [Option.toList, List.cons_append, List.nil_append, Nat.add_zero]
                      refine v_istore_n_3 dX12_clause_139 (by decide) rfl ?_
                      have hpq := @pk_rng u n xa_103 hur (by omega)
                      have hpg := @sk_ge u n xa_103
                      have hpl := @sk_le u n xa_103 (by omega)
                      refine v_aload_n dX12_clause_140 rfl ?_
                      refine v_getv (ci := 12) (j := 21) (ji := 21) (tg := 0) dX12_clause_141 k_1437 (by decide) kk_116 (by decide) rfl rfl (by decide) (pst_r21) ?_
                      refine v_iconst dX12_clause_144 (c32 rfl) ?_
                      refine v_icmp_ne_f (tgt := 167) dX12_clause_145 (by decide) (by decide) ?_
                      refine v_aload_n dX12_clause_148 rfl ?_
                      refine v_getv (ci := 12) (j := 25) (ji := 25) (tg := 0) dX12_clause_149 k_1441 (by decide) kk_116 (by decide) rfl rfl (by decide) ((pst_j (by decide)).trans (gst_r25)) ?_
                      refine v_if_ne (tgt := 167) dX12_clause_152 (by decide) (fun c152_104 => ?_) (fun c152_104 => ?_)
                      · refine v_vret dX12_clause_167 rfl (Nat.le_refl _) (Nat.le_refl _) ?_
                        have vh2 := c136_101
                        rw [ltr_gst] at vh2
                        have vh1 := c121_89
                        rw [ltr_gst] at vh1
                        have hx9 := VH_if vh1 vh2 (by omega) (by omega)
                        have hc9 := cl_s (by rcases @ix0_cases (pk u n a) with q | q; omega; exact q.2.1) c39_3 ((body_q c60_5 c67_33 (sumL_sk.symm.trans c96_38) (by rw [c112_46]; rfl)).trans (rest_s (pCondS_sk.symm.trans c121_86) c128_92 c136_98))
                        exact hs1 _ _ _ hc9 (by omega) (by omega) (Or.inl c152_104)
                      · refine v_iload_n dX12_clause_155 rfl ?_
                        refine v_aload_n dX12_clause_156 rfl ?_
                        refine v_getv (ci := 12) (j := 23) (ji := 23) (tg := 0) dX12_clause_157 k_1439 (by decide) kk_116 (by decide) rfl rfl (by decide) ((pst_j (by decide)).trans (gst_j (by decide))) ?_
                        refine v_icmp_ne (tgt := 167) dX12_clause_160 (by decide) (fun c160_105 => ?_) (fun c160_105 => ?_)
                        · refine v_vret dX12_clause_167 rfl (Nat.le_refl _) (Nat.le_refl _) ?_
                          have vh2 := c136_101
                          rw [ltr_gst] at vh2
                          have vh1 := c121_89
                          rw [ltr_gst] at vh1
                          have hx9 := VH_if vh1 vh2 (by omega) (by omega)
                          have hc9 := cl_s (by rcases @ix0_cases (pk u n a) with q | q; omega; exact q.2.1) c39_3 ((body_q c60_5 c67_33 (sumL_sk.symm.trans c96_38) (by rw [c112_46]; rfl)).trans (rest_s (pCondS_sk.symm.trans c121_86) c128_92 c136_98))
                          exact hs1 _ _ _ hc9 (by omega) (by omega) (Or.inr (Or.inl c160_105))
                        · refine v_iload_n dX12_clause_163 rfl ?_
                          refine v_if_ne (tgt := 168) dX12_clause_164 (by decide) (fun c164_106 => ?_) (fun c164_106 => ?_)
                          · refine v_aload_n dX12_clause_168 rfl ?_
                            refine v_iconst dX12_clause_169 (c32 rfl) ?_
                            refine v_putz (ci := 12) (j := 25) (ji := 25) dX12_clause_170 k_1441 (by decide) kk_116 (by decide) rfl rfl rfl (by omega) ?_
                            rw [pst_v (by decide)]
                            rw [gst_w25]
                            refine v_aload_n dX12_clause_173 rfl ?_
                            refine v_iload_n dX12_clause_174 rfl ?_
                            refine v_puti (ci := 12) (j := 24) (ji := 24) dX12_clause_175 k_1440 (by decide) kk_116 (by decide) rfl rfl rfl ?_
                            rw [pst_v (by decide)]
                            rw [gst_w24]
                            refine v_vret dX12_clause_178 rfl (Nat.le_refl _) (Nat.le_refl _) ?_
                            have vh2 := c136_101
                            rw [ltr_gst] at vh2
                            have vh1 := c121_89
                            rw [ltr_gst] at vh1
                            have hx9 := VH_if vh1 vh2 (by omega) (by omega)
                            have hc9 := cl_s (by rcases @ix0_cases (pk u n a) with q | q; omega; exact q.2.1) c39_3 ((body_q c60_5 c67_33 (sumL_sk.symm.trans c96_38) (by rw [c112_46]; rfl)).trans (rest_s (pCondS_sk.symm.trans c121_86) c128_92 c136_98))
                            rw [if_neg c164_106] at hx9
                            exact hs2 _ _ _ _ hc9 (by omega) (by omega) (by omega) (by omega) hx9
                          · refine v_vret dX12_clause_167 rfl (Nat.le_refl _) (Nat.le_refl _) ?_
                            have vh2 := c136_101
                            rw [ltr_gst] at vh2
                            have vh1 := c121_89
                            rw [ltr_gst] at vh1
                            have hx9 := VH_if vh1 vh2 (by omega) (by omega)
                            have hc9 := cl_s (by rcases @ix0_cases (pk u n a) with q | q; omega; exact q.2.1) c39_3 ((body_q c60_5 c67_33 (sumL_sk.symm.trans c96_38) (by rw [c112_46]; rfl)).trans (rest_s (pCondS_sk.symm.trans c121_86) c128_92 c136_98))
                            rw [if_pos c164_106] at hx9
                            exact hs1 _ _ _ hc9 (by omega) (by omega) (Or.inr (Or.inr hx9))
                  · dsimp only [Option.toList, List.cons_append, List.nil_append, Nat.add_zero]
                    refine v_if_ne_f (tgt := 135) dX12_clause_131 (by decide) (by decide) ?_
                    refine v_vret dX12_clause_134 rfl (Nat.le_refl _) (Nat.le_refl _) ?_
                    have hpz := @sk_ge u n xa_91
                    exact hf _ _ _ (cl_f (by rcases @ix0_cases (pk u n a) with q | q; omega; exact q.2.1) c39_3 ((body_q c60_5 c67_33 (sumL_sk.symm.trans c96_38) (by rw [c112_46]; rfl)).trans (rest_no (pCondS_sk.symm.trans c121_86) c128_93))) (by omega)
              · dsimp only [Option.toList, List.cons_append, List.nil_append, Nat.add_zero]
                refine v_if_eq_t (tgt := 140) dX12_clause_115 (by decide) (by decide) ?_
                have hpq := @pk_rng u n (sk u n xa_43) hur (by omega)
                have hpg := @sk_ge u n (sk u n xa_43)
                have hpl := @sk_le u n (sk u n xa_43) (by omega)
                refine v_aload_n dX12_clause_140 rfl ?_
                refine v_getv (ci := 12) (j := 21) (ji := 21) (tg := 0) dX12_clause_141 k_1437 (by decide) kk_116 (by decide) rfl rfl (by decide) (pst_r21) ?_
                refine v_iconst dX12_clause_144 (c32 rfl) ?_
                refine v_icmp_ne_f (tgt := 167) dX12_clause_145 (by decide) (by decide) ?_
                refine v_aload_n dX12_clause_148 rfl ?_
                refine v_getv (ci := 12) (j := 25) (ji := 25) (tg := 0) dX12_clause_149 k_1441 (by decide) kk_116 (by decide) rfl rfl (by decide) ((pst_j (by decide)).trans (gst_r25)) ?_
                refine v_if_ne (tgt := 167) dX12_clause_152 (by decide) (fun c152_107 => ?_) (fun c152_107 => ?_)
                · refine v_vret dX12_clause_167 rfl (Nat.le_refl _) (Nat.le_refl _) ?_
                  have vh2 := c96_41
                  rw [ltr_gst] at vh2
                  have hx9 := vh2.run (by omega)
                  have hc9 := cl_s (by rcases @ix0_cases (pk u n a) with q | q; omega; exact q.2.1) c39_3 (body_n c60_5 c67_33 (sumL_sk.symm.trans c96_38) (oCmp_f c112_47 c112_48 c112_49))
                  exact hs1 _ _ _ hc9 (by omega) (by omega) (Or.inl c152_107)
                · refine v_iload_n dX12_clause_155 rfl ?_
                  refine v_aload_n dX12_clause_156 rfl ?_
                  refine v_getv (ci := 12) (j := 23) (ji := 23) (tg := 0) dX12_clause_157 k_1439 (by decide) kk_116 (by decide) rfl rfl (by decide) ((pst_j (by decide)).trans (gst_j (by decide))) ?_
                  refine v_icmp_ne (tgt := 167) dX12_clause_160 (by decide) (fun c160_108 => ?_) (fun c160_108 => ?_)
                  · refine v_vret dX12_clause_167 rfl (Nat.le_refl _) (Nat.le_refl _) ?_
                    have vh2 := c96_41
                    rw [ltr_gst] at vh2
                    have hx9 := vh2.run (by omega)
                    have hc9 := cl_s (by rcases @ix0_cases (pk u n a) with q | q; omega; exact q.2.1) c39_3 (body_n c60_5 c67_33 (sumL_sk.symm.trans c96_38) (oCmp_f c112_47 c112_48 c112_49))
                    exact hs1 _ _ _ hc9 (by omega) (by omega) (Or.inr (Or.inl c160_108))
                  · refine v_iload_n dX12_clause_163 rfl ?_
                    refine v_if_ne_t (tgt := 168) dX12_clause_164 (by decide) (by decide) ?_
                    refine v_aload_n dX12_clause_168 rfl ?_
                    refine v_iconst dX12_clause_169 (c32 rfl) ?_
                    refine v_putz (ci := 12) (j := 25) (ji := 25) dX12_clause_170 k_1441 (by decide) kk_116 (by decide) rfl rfl rfl (by omega) ?_
                    rw [pst_v (by decide)]
                    rw [gst_w25]
                    refine v_aload_n dX12_clause_173 rfl ?_
                    refine v_iload_n dX12_clause_174 rfl ?_
                    refine v_puti (ci := 12) (j := 24) (ji := 24) dX12_clause_175 k_1440 (by decide) kk_116 (by decide) rfl rfl rfl ?_
                    rw [pst_v (by decide)]
                    rw [gst_w24]
                    refine v_vret dX12_clause_178 rfl (Nat.le_refl _) (Nat.le_refl _) ?_
                    have vh2 := c96_41
                    rw [ltr_gst] at vh2
                    have hx9 := vh2.run (by omega)
                    have hc9 := cl_s (by rcases @ix0_cases (pk u n a) with q | q; omega; exact q.2.1) c39_3 (body_n c60_5 c67_33 (sumL_sk.symm.trans c96_38) (oCmp_f c112_47 c112_48 c112_49))
                    exact hs2 _ _ _ _ hc9 (by omega) (by omega) (by omega) (by omega) hx9
              · dsimp only [Option.toList, List.cons_append, List.nil_append, Nat.add_zero]
                refine v_if_eq_f (tgt := 140) dX12_clause_115 (by decide) (by decide) ?_
                refine v_aload_n dX12_clause_118 rfl ?_
                refine v_iconst dX12_clause_119 (c32 rfl) ?_
                refine v_iload_n dX12_clause_120 rfl ?_
                refine v_callv (M' := mX12_condition) (d' := d - 1) (mc' := 0) (ms' := 0) (ci := 12) (c := 116) (As := [_, _]) dX12_clause_121 k_1769 cm_X12_condition rfl (by omega) (by decide) kk_116 (Nat.le_of_ble_eq_true rfl) rfl ⟨Nat.le_refl _, Nat.le_refl _⟩ ?_
                refine (r_condS hT0 hL0 (D := 8) (dp := 0) (by decide) (by decide) (VH.mono c96_41 (by omega))) (by omega) (by omega) (by omega) (fun xe_114 xv_114 xa_114 xd_114 c121_109 c121_110 c121_111 c121_112 c121_113 c121_114 => ?_) (fun xa_120 xk_120 xv_120 c121_115 c121_116 c121_117 c121_118 c121_119 c121_120 => ?_)
                · dsimp only [Option.toList, List.cons_append, List.nil_append, Nat.add_zero]
                  refine v_istore_n_2 dX12_clause_124 (by decide) rfl ?_
                  refine v_aload_n dX12_clause_125 rfl ?_
                  refine v_bipush dX12_clause_126 (c32 rfl) (by decide) ?_
                  refine v_callv (M' := mX12_takes) (d' := d - 1) (mc' := 0) (ms' := 0) (ci := 12) (c := 116) (As := [_]) dX12_clause_128 k_1765 cm_X12_takes rfl (by omega) (by decide) kk_116 (Nat.le_of_ble_eq_true rfl) rfl ⟨Nat.le_refl _, Nat.le_refl _⟩ ?_
                  refine s_takes1 (by omega) (by omega) ?_
                  dsimp only [Option.toList, List.cons_append, List.nil_append, Nat.add_zero]
                  refine v_if_ne_f (tgt := 135) dX12_clause_131 (by decide) (by decide) ?_
                  refine v_vret dX12_clause_134 rfl (Nat.le_refl _) (Nat.le_refl _) ?_
                  exact hf _ _ _ (cl_f (by rcases @ix0_cases (pk u n a) with q | q; omega; exact q.2.1) c39_3 ((body_q c60_5 c67_33 (sumL_sk.symm.trans c96_38) (by rw [c112_52]; rfl)).trans (rest_l (pCondS_sk.symm.trans c121_109)))) (by omega)
                · dsimp only [Option.toList, List.cons_append, List.nil_append, Nat.add_zero]
                  have hpq := @pk_rng u n xa_120 hur (by omega)
                  have hpg := @sk_ge u n xa_120
                  have hpl := @sk_le u n xa_120 (by omega)
                  refine v_istore_n_2 dX12_clause_124 (by decide) rfl ?_
                  have hpq := @pk_rng u n xa_120 hur (by omega)
                  have hpg := @sk_ge u n xa_120
                  have hpl := @sk_le u n xa_120 (by omega)
                  refine v_aload_n dX12_clause_125 rfl ?_
                  refine v_bipush dX12_clause_126 (c32 rfl) (by decide) ?_
                  refine v_callv (M' := mX12_takes) (d' := d - 1) (mc' := 0) (ms' := 0) (ci := 12) (c := 116) (As := [_]) dX12_clause_128 k_1765 cm_X12_takes rfl (by omega) (by decide) kk_116 (Nat.le_of_ble_eq_true rfl) rfl ⟨Nat.le_refl _, Nat.le_refl _⟩ ?_
                  refine s_takes (by omega) hT0 (by omega) (by omega) (fun c128_121 => ?_) (fun c128_122 => ?_)
                  · dsimp only [Option.toList, List.cons_append, List.nil_append, Nat.add_zero]
                    refine v_if_ne_t (tgt := 135) dX12_clause_131 (by decide) (by decide) ?_
                    have hpq := @pk_rng u n ((sk u n xa_120) + 1) hur (by omega)
                    have hpg := @sk_ge u n ((sk u n xa_120) + 1)
                    have hpl := @sk_le u n ((sk u n xa_120) + 1) (by omega)
                    refine v_aload_n dX12_clause_135 rfl ?_
                    refine v_callv (M' := mX12_sum) (d' := d - 1) (mc' := 0) (ms' := 0) (ci := 12) (c := 116) (As := []) dX12_clause_136 k_1781 cm_X12_sum rfl (by omega) (by decide) kk_116 (Nat.le_of_ble_eq_true rfl) rfl ⟨Nat.le_refl _, Nat.le_refl _⟩ ?_
                    refine hS (by omega) (by omega) (by omega) (fun xe_126 xv_126 xa_126 xd_126 c136_123 c136_124 c136_125 c136_126 => ?_) (fun xa_132 xk_132 xv_132 c136_127 c136_128 c136_129 c136_130 c136_131 c136_132 => ?_)
                    · dsimp only [Option.toList, List.cons_append, List.nil_append, Nat.add_zero]
                      refine v_istore_n_3 dX12_clause_139 (by decide) rfl ?_
                      refine v_aload_n dX12_clause_140 rfl ?_
                      refine v_getv (ci := 12) (j := 21) (ji := 21) (tg := 0) dX12_clause_141 k_1437 (by decide) kk_116 (by decide) rfl rfl (by decide) (pst_r21) ?_
                      refine v_iconst dX12_clause_144 (c32 rfl) ?_
                      refine v_icmp_ne_t (tgt := 167) dX12_clause_145 (by decide) (by omega) ?_
                      refine v_vret dX12_clause_167 rfl (Nat.le_refl _) (Nat.le_refl _) ?_
                      exact hf _ _ _ (cl_f (by rcases @ix0_cases (pk u n a) with q | q; omega; exact q.2.1) c39_3 ((body_q c60_5 c67_33 (sumL_sk.symm.trans c96_38) (by rw [c112_52]; rfl)).trans (rest_f (pCondS_sk.symm.trans c121_115) c128_121 c136_123))) (by omega)
                    · dsimp only [Option.toList, List.cons_append, List.nil_append, Nat.add_zero]
                      refine v_istore_n_3 dX12_clause_139 (by decide) rfl ?_
                      have hpq := @pk_rng u n xa_132 hur (by omega)
                      have hpg := @sk_ge u n xa_132
                      have hpl := @sk_le u n xa_132 (by omega)
                      refine v_aload_n dX12_clause_140 rfl ?_
                      refine v_getv (ci := 12) (j := 21) (ji := 21) (tg := 0) dX12_clause_141 k_1437 (by decide) kk_116 (by decide) rfl rfl (by decide) (pst_r21) ?_
                      refine v_iconst dX12_clause_144 (c32 rfl) ?_
                      refine v_icmp_ne_f (tgt := 167) dX12_clause_145 (by decide) (by decide) ?_
                      refine v_aload_n dX12_clause_148 rfl ?_
                      refine v_getv (ci := 12) (j := 25) (ji := 25) (tg := 0) dX12_clause_149 k_1441 (by decide) kk_116 (by decide) rfl rfl (by decide) ((pst_j (by decide)).trans (gst_r25)) ?_
                      refine v_if_ne (tgt := 167) dX12_clause_152 (by decide) (fun c152_133 => ?_) (fun c152_133 => ?_)
                      · refine v_vret dX12_clause_167 rfl (Nat.le_refl _) (Nat.le_refl _) ?_
                        have vh2 := c136_130
                        rw [ltr_gst] at vh2
                        have vh1 := c121_118
                        rw [ltr_gst] at vh1
                        have hx9 := VH_if vh1 vh2 (by omega) (by omega)
                        have hc9 := cl_s (by rcases @ix0_cases (pk u n a) with q | q; omega; exact q.2.1) c39_3 ((body_q c60_5 c67_33 (sumL_sk.symm.trans c96_38) (by rw [c112_52]; rfl)).trans (rest_s (pCondS_sk.symm.trans c121_115) c128_121 c136_127))
                        exact hs1 _ _ _ hc9 (by omega) (by omega) (Or.inl c152_133)
                      · refine v_iload_n dX12_clause_155 rfl ?_
                        refine v_aload_n dX12_clause_156 rfl ?_
                        refine v_getv (ci := 12) (j := 23) (ji := 23) (tg := 0) dX12_clause_157 k_1439 (by decide) kk_116 (by decide) rfl rfl (by decide) ((pst_j (by decide)).trans (gst_j (by decide))) ?_
                        refine v_icmp_ne (tgt := 167) dX12_clause_160 (by decide) (fun c160_134 => ?_) (fun c160_134 => ?_)
                        · refine v_vret dX12_clause_167 rfl (Nat.le_refl _) (Nat.le_refl _) ?_
                          have vh2 := c136_130
                          rw [ltr_gst] at vh2
                          have vh1 := c121_118
                          rw [ltr_gst] at vh1
                          have hx9 := VH_if vh1 vh2 (by omega) (by omega)
                          have hc9 := cl_s (by rcases @ix0_cases (pk u n a) with q | q; omega; exact q.2.1) c39_3 ((body_q c60_5 c67_33 (sumL_sk.symm.trans c96_38) (by rw [c112_52]; rfl)).trans (rest_s (pCondS_sk.symm.trans c121_115) c128_121 c136_127))
                          exact hs1 _ _ _ hc9 (by omega) (by omega) (Or.inr (Or.inl c160_134))
                        · refine v_iload_n dX12_clause_163 rfl ?_
                          refine v_if_ne (tgt := 168) dX12_clause_164 (by decide) (fun c164_135 => ?_) (fun c164_135 => ?_)
                          · refine v_aload_n dX12_clause_168 rfl ?_
                            refine v_iconst dX12_clause_169 (c32 rfl) ?_
                            refine v_putz (ci := 12) (j := 25) (ji := 25) dX12_clause_170 k_1441 (by decide) kk_116 (by decide) rfl rfl rfl (by omega) ?_
                            rw [pst_v (by decide)]
                            rw [gst_w25]
                            refine v_aload_n dX12_clause_173 rfl ?_
                            refine v_iload_n dX12_clause_174 rfl ?_
                            refine v_puti (ci := 12) (j := 24) (ji := 24) dX12_clause_175 k_1440 (by decide) kk_116 (by decide) rfl rfl rfl ?_
                            rw [pst_v (by decide)]
                            rw [gst_w24]
                            refine v_vret dX12_clause_178 rfl (Nat.le_refl _) (Nat.le_refl _) ?_
                            have vh2 := c136_130
                            rw [ltr_gst] at vh2
                            have vh1 := c121_118
                            rw [ltr_gst] at vh1
                            have hx9 := VH_if vh1 vh2 (by omega) (by omega)
                            have hc9 := cl_s (by rcases @ix0_cases (pk u n a) with q | q; omega; exact q.2.1) c39_3 ((body_q c60_5 c67_33 (sumL_sk.symm.trans c96_38) (by rw [c112_52]; rfl)).trans (rest_s (pCondS_sk.symm.trans c121_115) c128_121 c136_127))
                            rw [if_neg c164_135] at hx9
                            exact hs2 _ _ _ _ hc9 (by omega) (by omega) (by omega) (by omega) hx9
                          · refine v_vret dX12_clause_167 rfl (Nat.le_refl _) (Nat.le_refl _) ?_
                            have vh2 := c136_130
                            rw [ltr_gst] at vh2
                            have vh1 := c121_118
                            rw [ltr_gst] at vh1
                            have hx9 := VH_if vh1 vh2 (by omega) (by omega)
                            have hc9 := cl_s (by rcases @ix0_cases (pk u n a) with q | q; omega; exact q.2.1) c39_3 ((body_q c60_5 c67_33 (sumL_sk.symm.trans c96_38) (by rw [c112_52]; rfl)).trans (rest_s (pCondS_sk.symm.trans c121_115) c128_121 c136_127))
                            rw [if_pos c164_135] at hx9
                            exact hs1 _ _ _ hc9 (by omega) (by omega) (Or.inr (Or.inr hx9))
                  · dsimp only [Option.toList, List.cons_append, List.nil_append, Nat.add_zero]
                    refine v_if_ne_f (tgt := 135) dX12_clause_131 (by decide) (by decide) ?_
                    refine v_vret dX12_clause_134 rfl (Nat.le_refl _) (Nat.le_refl _) ?_
                    have hpz := @sk_ge u n xa_120
                    exact hf _ _ _ (cl_f (by rcases @ix0_cases (pk u n a) with q | q; omega; exact q.2.1) c39_3 ((body_q c60_5 c67_33 (sumL_sk.symm.trans c96_38) (by rw [c112_52]; rfl)).trans (rest_no (pCondS_sk.symm.trans c121_115) c128_122))) (by omega)
          · refine v_aload_n dX12_clause_70 rfl ?_
            refine v_iconst dX12_clause_71 (c32 rfl) ?_
            refine v_iconst dX12_clause_72 (c32 rfl) ?_
            refine v_callv (M' := mX12_condition) (d' := d - 1) (mc' := 0) (ms' := 0) (ci := 12) (c := 116) (As := [_, _]) dX12_clause_73 k_1769 cm_X12_condition rfl (by omega) (by decide) kk_116 (Nat.le_of_ble_eq_true rfl) rfl ⟨Nat.le_refl _, Nat.le_refl _⟩ ?_
            refine hC (by omega) (by omega) (by omega) (fun xe_141 xv_141 xa_141 xd_141 c73_136 c73_137 c73_138 c73_139 c73_140 c73_141 => ?_) (fun xa_147 xk_147 xv_147 c73_142 c73_143 c73_144 c73_145 c73_146 c73_147 => ?_)
            · dsimp only [Option.toList, List.cons_append, List.nil_append, Nat.add_zero]
              refine v_istore_n_2 dX12_clause_76 (by decide) rfl ?_
              refine v_aload_n dX12_clause_77 rfl ?_
              refine v_bipush dX12_clause_78 (c32 rfl) (by decide) ?_
              refine v_callv (M' := mX12_takes) (d' := d - 1) (mc' := 0) (ms' := 0) (ci := 12) (c := 116) (As := [_]) dX12_clause_80 k_1765 cm_X12_takes rfl (by omega) (by decide) kk_116 (Nat.le_of_ble_eq_true rfl) rfl ⟨Nat.le_refl _, Nat.le_refl _⟩ ?_
              refine s_takes1 (by omega) (by omega) ?_
              dsimp only [Option.toList, List.cons_append, List.nil_append, Nat.add_zero]
              refine v_if_ne_f (tgt := 87) dX12_clause_83 (by decide) (by decide) ?_
              refine v_vret dX12_clause_86 rfl (Nat.le_refl _) (Nat.le_refl _) ?_
              exact hf _ _ _ (cl_f (by rcases @ix0_cases (pk u n a) with q | q; omega; exact q.2.1) c39_3 ((body_c (Or.inr c67_33)).trans (rest_l (pCond_sk.symm.trans c73_136)))) (by omega)
            · dsimp only [Option.toList, List.cons_append, List.nil_append, Nat.add_zero]
              have hpq := @pk_rng u n xa_147 hur (by omega)
              have hpg := @sk_ge u n xa_147
              have hpl := @sk_le u n xa_147 (by omega)
              refine v_istore_n_2 dX12_clause_76 (by decide) rfl ?_
              have hpq := @pk_rng u n xa_147 hur (by omega)
              have hpg := @sk_ge u n xa_147
              have hpl := @sk_le u n xa_147 (by omega)
              refine v_aload_n dX12_clause_77 rfl ?_
              refine v_bipush dX12_clause_78 (c32 rfl) (by decide) ?_
              refine v_callv (M' := mX12_takes) (d' := d - 1) (mc' := 0) (ms' := 0) (ci := 12) (c := 116) (As := [_]) dX12_clause_80 k_1765 cm_X12_takes rfl (by omega) (by decide) kk_116 (Nat.le_of_ble_eq_true rfl) rfl ⟨Nat.le_refl _, Nat.le_refl _⟩ ?_
              refine s_takes (by omega) hT0 (by omega) (by omega) (fun c80_148 => ?_) (fun c80_149 => ?_)
              · dsimp only [Option.toList, List.cons_append, List.nil_append, Nat.add_zero]
                refine v_if_ne_t (tgt := 87) dX12_clause_83 (by decide) (by decide) ?_
                have hpq := @pk_rng u n ((sk u n xa_147) + 1) hur (by omega)
                have hpg := @sk_ge u n ((sk u n xa_147) + 1)
                have hpl := @sk_le u n ((sk u n xa_147) + 1) (by omega)
                refine v_aload_n dX12_clause_87 rfl ?_
                refine v_callv (M' := mX12_sum) (d' := d - 1) (mc' := 0) (ms' := 0) (ci := 12) (c := 116) (As := []) dX12_clause_88 k_1781 cm_X12_sum rfl (by omega) (by decide) kk_116 (Nat.le_of_ble_eq_true rfl) rfl ⟨Nat.le_refl _, Nat.le_refl _⟩ ?_
                refine hS (by omega) (by omega) (by omega) (fun xe_153 xv_153 xa_153 xd_153 c88_150 c88_151 c88_152 c88_153 => ?_) (fun xa_159 xk_159 xv_159 c88_154 c88_155 c88_156 c88_157 c88_158 c88_159 => ?_)
                · dsimp only [Option.toList, List.cons_append, List.nil_append, Nat.add_zero]
                  refine v_istore_n_3 dX12_clause_91 (by decide) rfl ?_
                  refine v_goto (tgt := 140) dX12_clause_92 (by decide) ?_
                  refine v_aload_n dX12_clause_140 rfl ?_
                  refine v_getv (ci := 12) (j := 21) (ji := 21) (tg := 0) dX12_clause_141 k_1437 (by decide) kk_116 (by decide) rfl rfl (by decide) (pst_r21) ?_
                  refine v_iconst dX12_clause_144 (c32 rfl) ?_
                  refine v_icmp_ne_t (tgt := 167) dX12_clause_145 (by decide) (by omega) ?_
                  refine v_vret dX12_clause_167 rfl (Nat.le_refl _) (Nat.le_refl _) ?_
                  exact hf _ _ _ (cl_f (by rcases @ix0_cases (pk u n a) with q | q; omega; exact q.2.1) c39_3 ((body_c (Or.inr c67_33)).trans (rest_f (pCond_sk.symm.trans c73_142) c80_148 c88_150))) (by omega)
                · dsimp only [Option.toList, List.cons_append, List.nil_append, Nat.add_zero]
                  refine v_istore_n_3 dX12_clause_91 (by decide) rfl ?_
                  refine v_goto (tgt := 140) dX12_clause_92 (by decide) ?_
                  have hpq := @pk_rng u n xa_159 hur (by omega)
                  have hpg := @sk_ge u n xa_159
                  have hpl := @sk_le u n xa_159 (by omega)
                  refine v_aload_n dX12_clause_140 rfl ?_
                  refine v_getv (ci := 12) (j := 21) (ji := 21) (tg := 0) dX12_clause_141 k_1437 (by decide) kk_116 (by decide) rfl rfl (by decide) (pst_r21) ?_
                  refine v_iconst dX12_clause_144 (c32 rfl) ?_
                  refine v_icmp_ne_f (tgt := 167) dX12_clause_145 (by decide) (by decide) ?_
                  refine v_aload_n dX12_clause_148 rfl ?_
                  refine v_getv (ci := 12) (j := 25) (ji := 25) (tg := 0) dX12_clause_149 k_1441 (by decide) kk_116 (by decide) rfl rfl (by decide) ((pst_j (by decide)).trans (gst_r25)) ?_
                  refine v_if_ne (tgt := 167) dX12_clause_152 (by decide) (fun c152_160 => ?_) (fun c152_160 => ?_)
                  · refine v_vret dX12_clause_167 rfl (Nat.le_refl _) (Nat.le_refl _) ?_
                    have vh2 := c88_157
                    rw [ltr_gst] at vh2
                    have vh1 := c73_145
                    rw [ltr_gst] at vh1
                    have hx9 := VH_if vh1 vh2 (by omega) (by omega)
                    have hc9 := cl_s (by rcases @ix0_cases (pk u n a) with q | q; omega; exact q.2.1) c39_3 ((body_c (Or.inr c67_33)).trans (rest_s (pCond_sk.symm.trans c73_142) c80_148 c88_154))
                    exact hs1 _ _ _ hc9 (by omega) (by omega) (Or.inl c152_160)
                  · refine v_iload_n dX12_clause_155 rfl ?_
                    refine v_aload_n dX12_clause_156 rfl ?_
                    refine v_getv (ci := 12) (j := 23) (ji := 23) (tg := 0) dX12_clause_157 k_1439 (by decide) kk_116 (by decide) rfl rfl (by decide) ((pst_j (by decide)).trans (gst_j (by decide))) ?_
                    refine v_icmp_ne (tgt := 167) dX12_clause_160 (by decide) (fun c160_161 => ?_) (fun c160_161 => ?_)
                    · refine v_vret dX12_clause_167 rfl (Nat.le_refl _) (Nat.le_refl _) ?_
                      have vh2 := c88_157
                      rw [ltr_gst] at vh2
                      have vh1 := c73_145
                      rw [ltr_gst] at vh1
                      have hx9 := VH_if vh1 vh2 (by omega) (by omega)
                      have hc9 := cl_s (by rcases @ix0_cases (pk u n a) with q | q; omega; exact q.2.1) c39_3 ((body_c (Or.inr c67_33)).trans (rest_s (pCond_sk.symm.trans c73_142) c80_148 c88_154))
                      exact hs1 _ _ _ hc9 (by omega) (by omega) (Or.inr (Or.inl c160_161))
                    · refine v_iload_n dX12_clause_163 rfl ?_
                      refine v_if_ne (tgt := 168) dX12_clause_164 (by decide) (fun c164_162 => ?_) (fun c164_162 => ?_)
                      · refine v_aload_n dX12_clause_168 rfl ?_
                        refine v_iconst dX12_clause_169 (c32 rfl) ?_
                        refine v_putz (ci := 12) (j := 25) (ji := 25) dX12_clause_170 k_1441 (by decide) kk_116 (by decide) rfl rfl rfl (by omega) ?_
                        rw [pst_v (by decide)]
                        rw [gst_w25]
                        refine v_aload_n dX12_clause_173 rfl ?_
                        refine v_iload_n dX12_clause_174 rfl ?_
                        refine v_puti (ci := 12) (j := 24) (ji := 24) dX12_clause_175 k_1440 (by decide) kk_116 (by decide) rfl rfl rfl ?_
                        rw [pst_v (by decide)]
                        rw [gst_w24]
                        refine v_vret dX12_clause_178 rfl (Nat.le_refl _) (Nat.le_refl _) ?_
                        have vh2 := c88_157
                        rw [ltr_gst] at vh2
                        have vh1 := c73_145
                        rw [ltr_gst] at vh1
                        have hx9 := VH_if vh1 vh2 (by omega) (by omega)
                        have hc9 := cl_s (by rcases @ix0_cases (pk u n a) with q | q; omega; exact q.2.1) c39_3 ((body_c (Or.inr c67_33)).trans (rest_s (pCond_sk.symm.trans c73_142) c80_148 c88_154))
                        rw [if_neg c164_162] at hx9
                        exact hs2 _ _ _ _ hc9 (by omega) (by omega) (by omega) (by omega) hx9
                      · refine v_vret dX12_clause_167 rfl (Nat.le_refl _) (Nat.le_refl _) ?_
                        have vh2 := c88_157
                        rw [ltr_gst] at vh2
                        have vh1 := c73_145
                        rw [ltr_gst] at vh1
                        have hx9 := VH_if vh1 vh2 (by omega) (by omega)
                        have hc9 := cl_s (by rcases @ix0_cases (pk u n a) with q | q; omega; exact q.2.1) c39_3 ((body_c (Or.inr c67_33)).trans (rest_s (pCond_sk.symm.trans c73_142) c80_148 c88_154))
                        rw [if_pos c164_162] at hx9
                        exact hs1 _ _ _ hc9 (by omega) (by omega) (Or.inr (Or.inr hx9))
              · dsimp only [Option.toList, List.cons_append, List.nil_append, Nat.add_zero]
                refine v_if_ne_f (tgt := 87) dX12_clause_83 (by decide) (by decide) ?_
                refine v_vret dX12_clause_86 rfl (Nat.le_refl _) (Nat.le_refl _) ?_
                have hpz := @sk_ge u n xa_147
                exact hf _ _ _ (cl_f (by rcases @ix0_cases (pk u n a) with q | q; omega; exact q.2.1) c39_3 ((body_c (Or.inr c67_33)).trans (rest_no (pCond_sk.symm.trans c73_142) c80_149))) (by omega)
      · dsimp only [Option.toList, List.cons_append, List.nil_append, Nat.add_zero]
        refine v_if_ne_f (tgt := 46) dX12_clause_42 (by decide) (by decide) ?_
        refine v_vret dX12_clause_45 rfl (Nat.le_refl _) (Nat.le_refl _) ?_
        exact hf _ _ _ (cl_2 (by rcases @ix0_cases (pk u n a) with q | q; omega; exact q.2.1) c39_4) (by omega)
    · refine v_aload_n dX12_clause_20 rfl ?_
      refine v_callv (M' := mX12_stop) (d' := d - 1) (mc' := 0) (ms' := 0) (ci := 12) (c := 116) (As := []) dX12_clause_21 k_1761 cm_X12_stop rfl (by omega) (by decide) kk_116 (Nat.le_of_ble_eq_true rfl) rfl ⟨Nat.le_refl _, Nat.le_refl _⟩ ?_
      refine s_stop0 (by omega) ?_
      dsimp only [Option.toList, List.cons_append, List.nil_append, Nat.add_zero]
      refine v_pop dX12_clause_24 rfl ?_
      refine v_vret dX12_clause_25 rfl (Nat.le_refl _) (Nat.le_refl _) ?_
      exact hf _ _ _ (cl_1 (by rcases @ix0_cases (pk u n a) with q | q; exact q.2; omega)) (by omega)

/-- what a clause gives, where it is the label's and its condition holds -/
def fnd1 (lt : Int → Int) (lab : Int) (c : Int × List Int) : Option Int := if c.1 = lab then (match exC lt c.2 [] with | some (v :: _) => some v | _ => none) else none
def fndL (lt : Int → Int) (lab : Int) : List (Int × List Int) → Option Int
  | [] => none
  | c :: cs => match fnd1 lt lab c with | some v => some v | none => fndL lt lab cs
theorem fndL_app {lt : Int → Int} {lab : Int} {c : Int × List Int} : ∀ {cs : List (Int × List Int)}, fndL lt lab (cs ++ [c]) = match fndL lt lab cs with | some v => some v | none => fnd1 lt lab c := by
  intro cs
  induction cs with
  | nil =>
    show (match fnd1 lt lab c with | some v => some v | none => fndL lt lab []) = fnd1 lt lab c
    cases fnd1 lt lab c with
    | none => rfl
    | some v => rfl
  | cons x cs ih =>
    show (match fnd1 lt lab x with | some v => some v | none => fndL lt lab (cs ++ [c])) = match (match fnd1 lt lab x with | some v => some v | none => fndL lt lab cs) with | some v => some v | none => fnd1 lt lab c
    cases fnd1 lt lab x with
    | none => exact ih
    | some v => rfl
def FS (lt : Int → Int) (lab g w : Int) (cs : List (Int × List Int)) : Prop := (fndL lt lab cs = none ∧ g = 0 ∧ w = 0) ∨ (∃ v, fndL lt lab cs = some v ∧ g = 1 ∧ w = v)
theorem FS_0 {lt : Int → Int} {lab : Int} : FS lt lab 0 0 [] := Or.inl ⟨rfl, rfl, rfl⟩
theorem FS_1 {lt : Int → Int} {lab g w lb : Int} {k : List Int} {cs : List (Int × List Int)} (h : FS lt lab g w cs) (q : g ≠ 0 ∨ lb ≠ lab ∨ exC lt k [] = none) : FS lt lab g w (cs ++ [(lb, k)]) := by
  rcases h with ⟨h1, h2, h3⟩ | ⟨v, h1, h2, h3⟩
  · refine Or.inl ⟨?_, h2, h3⟩
    rw [fndL_app, h1]
    show fnd1 lt lab (lb, k) = none
    unfold fnd1
    rcases q with q | q | q
    · exact absurd h2 q
    · rw [if_neg q]
    · split
      · rw [show exC lt (lb, k).2 [] = none from q]
      · rfl
  · refine Or.inr ⟨v, ?_, h2, h3⟩
    rw [fndL_app, h1]
theorem FS_2 {lt : Int → Int} {lab g w lb v : Int} {k : List Int} {cs : List (Int × List Int)} (h : FS lt lab g w cs) (q : g = 0) (q2 : lb = lab) (q3 : exC lt k [] = some [v]) : FS lt lab 1 v (cs ++ [(lb, k)]) := by
  rcases h with ⟨h1, h2, h3⟩ | ⟨v2, h1, h2, h3⟩
  · refine Or.inr ⟨v, ?_, rfl, rfl⟩
    rw [fndL_app, h1]
    show fnd1 lt lab (lb, k) = some v
    unfold fnd1
    rw [if_pos q2, show exC lt (lb, k).2 [] = some [v] from q3]
  · omega
theorem FS_w {lt : Int → Int} {lab g w : Int} {cs : List (Int × List Int)} (h : FS lt lab g w cs) : w = (fndL lt lab cs).getD 0 := by
  rcases h with ⟨h1, h2, h3⟩ | ⟨v, h1, h2, h3⟩
  · rw [h1]; exact h3
  · rw [h1]; exact h3
/-- behind a clause -/
def pNext (u : Int → Int) (n : Int) (m : Nat) (a : Int) (cs : List (Int × List Int)) : Int ⊕ List (Int × List Int) :=
  if pk u n a = 59 then pText u n m (sk u n a + 1) cs else if pk u n a = -1 then .inr cs else .inl (sk u n a)
theorem pText_f {u : Int → Int} {n a e : Int} {m : Nat} {cs : List (Int × List Int)} (h : pClause u n a = .inl e) : pText u n (m + 1) a cs = .inl e := by rw [pText, h]
theorem pText_s {u : Int → Int} {n a : Int} {m : Nat} {cs : List (Int × List Int)} {r : Int × Int × List Int} (h : pClause u n a = .inr r) : pText u n (m + 1) a cs = pNext u n m r.1 (cs ++ [r.2]) := by rw [pText, h]; rfl
/-- the reading's end: its fault, or what it found -/
def TxE (lt : Int → Int) (lab f w : Int) (x : Int ⊕ List (Int × List Int)) : Prop := match x with
  | .inl e => f = e ∧ 0 ≤ e
  | .inr cs => f = -1 ∧ w = (fndL lt lab cs).getD 0

set_option maxHeartbeats 4000000 in
set_option maxRecDepth 100000 in
theorem lp_text {l : Launch} {G : GG} {h : AH} {t b n : Int} {u : Int → Int} {tn : Nat} {d : Nat} {lb : Int} {Q : Option AV → List Kd → AH → Prop} (hd : 37 ≤ d) (hT : MT h t b n u tn) (hL : LTB h) : ∀ {m : Nat} {g w a : Int} {cs : List (Int × List Int)}, n - a < m → 0 ≤ a → a ≤ n → FS (ltr h) (h 116 23) g w cs →
    (∀ f g w a9 dp, TxE (ltr h) (h 116 23) f w (pNext u n m a cs) → Q none K0 (pst (gst h g w) a9 f dp)) →
    V l G mX12_goThrough d 0 0 0 0 K0 50 [(2, 116), (2, t), (0, b), (0, n), (0, lb)] [] (pst (gst h g w) a (-1) 0) Q := by
  have hT9 := hT
  obtain ⟨htt, hkt, hbn, htx, hbg, hen, hb0, hb1, hn0, hn1, hur, hu⟩ := hT9
  intro m
  induction m with
  | zero => intro g w a cs hm0; omega
  | succ m ih =>
    intro g w a cs hmm h0 h1 hfs hq
    have hT0 : MT (gst h g w) t b n u tn := MT_gst hT
    have hpk := @pk_rng u n a hur h0
    have hsg := @sk_ge u n a
    have hsl := @sk_le u n a h1
    refine v_aload_n dX12_goThrough_50 rfl ?_
    refine v_getv (ci := 12) (j := 21) (ji := 21) (tg := 0) dX12_goThrough_51 k_1437 (by decide) kk_116 (by decide) rfl rfl (by decide) (pst_r21) ?_
    refine v_iconst dX12_goThrough_54 (c32 rfl) ?_
    refine v_icmp_ne_f (tgt := 84) dX12_goThrough_55 (by decide) (by decide) ?_
    refine v_aload_n dX12_goThrough_58 rfl ?_
    refine v_callv (M' := mX12_look) (d' := d - 1) (mc' := 0) (ms' := 0) (ci := 12) (c := 116) (As := []) dX12_goThrough_59 k_1755 cm_X12_look rfl (by omega) (by decide) kk_116 (Nat.le_of_ble_eq_true rfl) rfl ⟨Nat.le_refl _, Nat.le_refl _⟩ ?_
    refine s_look (by omega) hT0 (by omega) (by omega) ?_
    dsimp only [Option.toList, List.cons_append, List.nil_append, Nat.add_zero]
    refine v_bipush dX12_goThrough_62 (c32 rfl) (by decide) ?_
    refine v_icmp_ne (tgt := 84) dX12_goThrough_64 (by decide) (fun c64_1 => ?_) (fun c64_1 => ?_)
    · refine v_aload_n dX12_goThrough_84 rfl ?_
      refine v_getv (ci := 12) (j := 21) (ji := 21) (tg := 0) dX12_goThrough_85 k_1437 (by decide) kk_116 (by decide) rfl rfl (by decide) (pst_r21) ?_
      refine v_iconst dX12_goThrough_88 (c32 rfl) ?_
      refine v_icmp_ne_f (tgt := 105) dX12_goThrough_89 (by decide) (by decide) ?_
      refine v_aload_n dX12_goThrough_92 rfl ?_
      refine v_callv (M' := mX12_look) (d' := d - 1) (mc' := 0) (ms' := 0) (ci := 12) (c := 116) (As := []) dX12_goThrough_93 k_1755 cm_X12_look rfl (by omega) (by decide) kk_116 (Nat.le_of_ble_eq_true rfl) rfl ⟨Nat.le_refl _, Nat.le_refl _⟩ ?_
      refine s_look2 (by omega) hT0 (by omega) (by omega) ?_
      dsimp only [Option.toList, List.cons_append, List.nil_append, Nat.add_zero]
      refine v_iconst dX12_goThrough_96 (c32 rfl) ?_
      refine v_icmp_eq (tgt := 105) dX12_goThrough_97 (by decide) (fun c97_2 => ?_) (fun c97_2 => ?_)
      · refine v_vret dX12_goThrough_105 rfl (Nat.le_refl _) (Nat.le_refl _) ?_
        refine hq _ _ _ _ _ ?_
        unfold pNext
        rw [if_neg c64_1, if_pos c97_2]
        exact ⟨rfl, FS_w hfs⟩
      · refine v_aload_n dX12_goThrough_100 rfl ?_
        refine v_callv (M' := mX12_stop) (d' := d - 1) (mc' := 0) (ms' := 0) (ci := 12) (c := 116) (As := []) dX12_goThrough_101 k_1761 cm_X12_stop rfl (by omega) (by decide) kk_116 (Nat.le_of_ble_eq_true rfl) rfl ⟨Nat.le_refl _, Nat.le_refl _⟩ ?_
        refine s_stop0 (by omega) ?_
        dsimp only [Option.toList, List.cons_append, List.nil_append, Nat.add_zero]
        refine v_pop dX12_goThrough_104 rfl ?_
        refine v_vret dX12_goThrough_105 rfl (Nat.le_refl _) (Nat.le_refl _) ?_
        refine hq _ _ _ _ _ ?_
        unfold pNext
        rw [if_neg c64_1, if_neg c97_2]
        exact ⟨rfl, by omega⟩
    · refine v_aload_n dX12_goThrough_67 rfl ?_
      refine v_dup dX12_goThrough_68 rfl ?_
      refine v_getv (ci := 12) (j := 20) (ji := 20) (tg := 0) dX12_goThrough_69 k_1436 (by decide) kk_116 (by decide) rfl rfl (by decide) (pst_r20) ?_
      refine v_iconst dX12_goThrough_72 (c32 rfl) ?_
      refine v_iaddE dX12_goThrough_73 (by omega) ?_
      refine v_puti (ci := 12) (j := 20) (ji := 20) dX12_goThrough_74 k_1436 (by decide) kk_116 (by decide) rfl rfl rfl ?_
      rw [pst_w20]
      refine v_aload_n dX12_goThrough_77 rfl ?_
      refine v_callv (M' := mX12_clause) (d' := d - 1) (mc' := 0) (ms' := 0) (ci := 12) (c := 116) (As := []) dX12_goThrough_78 k_1751 cm_X12_clause rfl (by omega) (by decide) kk_116 (Nat.le_of_ble_eq_true rfl) rfl ⟨Nat.le_refl _, Nat.le_refl _⟩ ?_
      refine r_clause (by omega) hT hL (by omega) (by omega) (fun xe_4 xa_4 xd_4 c78_3 c78_4 => ?_) (fun xa_8 xl_8 xk_8 c78_5 c78_6 c78_7 c78_8 => ?_) (fun xa_14 xl_14 xk_14 xv_14 c78_9 c78_10 c78_11 c78_12 c78_13 c78_14 => ?_)
      · dsimp only [Option.toList, List.cons_append, List.nil_append, Nat.add_zero]
        refine v_goto (tgt := 50) dX12_goThrough_81 (by decide) ?_
        refine v_aload_n dX12_goThrough_50 rfl ?_
        refine v_getv (ci := 12) (j := 21) (ji := 21) (tg := 0) dX12_goThrough_51 k_1437 (by decide) kk_116 (by decide) rfl rfl (by decide) (pst_r21) ?_
        refine v_iconst dX12_goThrough_54 (c32 rfl) ?_
        refine v_icmp_ne_t (tgt := 84) dX12_goThrough_55 (by decide) (by omega) ?_
        refine v_aload_n dX12_goThrough_84 rfl ?_
        refine v_getv (ci := 12) (j := 21) (ji := 21) (tg := 0) dX12_goThrough_85 k_1437 (by decide) kk_116 (by decide) rfl rfl (by decide) (pst_r21) ?_
        refine v_iconst dX12_goThrough_88 (c32 rfl) ?_
        refine v_icmp_ne_t (tgt := 105) dX12_goThrough_89 (by decide) (by omega) ?_
        refine v_vret dX12_goThrough_105 rfl (Nat.le_refl _) (Nat.le_refl _) ?_
        refine hq _ _ _ _ _ ?_
        unfold pNext
        rw [if_pos c64_1, pText_f c78_3]
        exact ⟨rfl, c78_4⟩
      · dsimp only [Option.toList, List.cons_append, List.nil_append, Nat.add_zero]
        refine v_goto (tgt := 50) dX12_goThrough_81 (by decide) ?_
        have hfs2 : FS (ltr h) (h 116 23) g w (cs ++ [(xl_8, xk_8)]) := FS_1 hfs c78_8
        have eN : pNext u n (m + 1) a cs = pNext u n m xa_8 (cs ++ [(xl_8, xk_8)]) := by
          show (if pk u n a = 59 then pText u n (m + 1) (sk u n a + 1) cs else if pk u n a = -1 then .inr cs else .inl (sk u n a)) = _
          rw [if_pos c64_1, pText_s c78_5]
        rw [eN] at hq
        exact ih (by omega) (by omega) (by omega) hfs2 hq
      · dsimp only [Option.toList, List.cons_append, List.nil_append, Nat.add_zero]
        refine v_goto (tgt := 50) dX12_goThrough_81 (by decide) ?_
        have hfs2 : FS (ltr h) (h 116 23) 1 xv_14 (cs ++ [(xl_14, xk_14)]) := FS_2 hfs c78_12 c78_13 c78_14
        have eN : pNext u n (m + 1) a cs = pNext u n m xa_14 (cs ++ [(xl_14, xk_14)]) := by
          show (if pk u n a = 59 then pText u n (m + 1) (sk u n a + 1) cs else if pk u n a = -1 then .inr cs else .inl (sk u n a)) = _
          rw [if_pos c64_1, pText_s c78_9]
        rw [eN] at hq
        exact ih (by omega) (by omega) (by omega) hfs2 hq

def tst (h : AH) (t b n lb : Int) : AH := hset (hset (hset (hset h 116 17 t) 116 18 b) 116 19 n) 116 23 lb
theorem tst_c {h : AH} {t b n lb c j : Int} (q : c ≠ 116) : tst h t b n lb c j = h c j := by unfold tst; rw [hset_c q, hset_c q, hset_c q, hset_c q]
theorem tst_j {h : AH} {t b n lb j : Int} (q : j ≠ 17 ∧ j ≠ 18 ∧ j ≠ 19 ∧ j ≠ 23) : tst h t b n lb 116 j = h 116 j := by unfold tst; rw [hset_j q.2.2.2, hset_j q.2.2.1, hset_j q.2.1, hset_j q.1]
theorem tst_lb {h : AH} {t b n lb : Int} : tst h t b n lb 116 23 = lb := by unfold tst; rw [hset_same]
theorem ltr_tst {h : AH} {t b n lb : Int} : ltr (tst h t b n lb) = ltr h := funext fun i => by unfold ltr; rw [tst_c (by decide)]
theorem MT_tst {h : AH} {t b n lb : Int} {u : Int → Int} {tn : Nat} (htt : t = 127 ∨ t = 128) (hkt : K0[t.toNat]? = some (.inr (.byte, tn))) (hbn : b + n ≤ tn) (hb0 : 0 ≤ b) (hb1 : b ≤ 4000) (hn0 : 0 ≤ n) (hn1 : n ≤ 200)
    (hur : ∀ i, 0 ≤ i → i < n → 0 ≤ u i ∧ u i < 256) (hu : ∀ i, 0 ≤ i → i < n → h t (b + i) = s8 (u i)) : MT (tst h t b n lb) t b n u tn :=
  ⟨htt, hkt, hbn, by unfold tst; rw [hset_j (by decide), hset_j (by decide), hset_j (by decide), hset_same], by unfold tst; rw [hset_j (by decide), hset_j (by decide), hset_same], by unfold tst; rw [hset_j (by decide), hset_same], hb0, hb1, hn0, hn1, hur, fun i h0 h1 => by rw [tst_c (by omega)]; exact hu i h0 h1⟩
theorem gst_mk {h : AH} {t b n lb : Int} : hset (hset (hset (hset (hset (hset (hset (hset (hset h 116 17 t) 116 18 b) 116 19 n) 116 23 lb) 116 20 0) 116 21 (-1)) 116 22 0) 116 25 0) 116 24 0 = pst (gst (tst h t b n lb) 0 0) 0 (-1) 0 := by
  show hset (hset (pst (tst h t b n lb) 0 (-1) 0) 116 25 0) 116 24 0 = _
  rw [pst_v (by decide), pst_v (by decide)]
  rfl

set_option maxHeartbeats 4000000 in
set_option maxRecDepth 100000 in
theorem lp_text0 {l : Launch} {G : GG} {h : AH} {t b n : Int} {u : Int → Int} {tn : Nat} {d : Nat} {lb : Int} {Q : Option AV → List Kd → AH → Prop} (hd : 37 ≤ d) (hT : MT h t b n u tn) (hL : LTB h)
    (hq : ∀ f g w a9 dp, TxE (ltr h) (h 116 23) f w (pText u n 201 0 []) → Q none K0 (pst (gst h g w) a9 f dp)) :
    V l G mX12_goThrough d 0 0 0 0 K0 46 [(2, 116), (2, t), (0, b), (0, n), (0, lb)] [] (pst (gst h 0 0) 0 (-1) 0) Q := by
  have hT9 := hT
  obtain ⟨htt, hkt, hbn, htx, hbg, hen, hb0, hb1, hn0, hn1, hur, hu⟩ := hT9
  refine v_aload_n dX12_goThrough_46 rfl ?_
  refine v_callv (M' := mX12_clause) (d' := d - 1) (mc' := 0) (ms' := 0) (ci := 12) (c := 116) (As := []) dX12_goThrough_47 k_1751 cm_X12_clause rfl (by omega) (by decide) kk_116 (Nat.le_of_ble_eq_true rfl) rfl ⟨Nat.le_refl _, Nat.le_refl _⟩ ?_
  refine r_clause (by omega) hT hL (by omega) (by omega) (fun xe_2 xa_2 xd_2 c47_1 c47_2 => ?_) (fun xa_6 xl_6 xk_6 c47_3 c47_4 c47_5 c47_6 => ?_) (fun xa_12 xl_12 xk_12 xv_12 c47_7 c47_8 c47_9 c47_10 c47_11 c47_12 => ?_)
  · dsimp only [Option.toList, List.cons_append, List.nil_append, Nat.add_zero]
    refine v_aload_n dX12_goThrough_50 rfl ?_
    refine v_getv (ci := 12) (j := 21) (ji := 21) (tg := 0) dX12_goThrough_51 k_1437 (by decide) kk_116 (by decide) rfl rfl (by decide) (pst_r21) ?_
    refine v_iconst dX12_goThrough_54 (c32 rfl) ?_
    refine v_icmp_ne_t (tgt := 84) dX12_goThrough_55 (by decide) (by omega) ?_
    refine v_aload_n dX12_goThrough_84 rfl ?_
    refine v_getv (ci := 12) (j := 21) (ji := 21) (tg := 0) dX12_goThrough_85 k_1437 (by decide) kk_116 (by decide) rfl rfl (by decide) (pst_r21) ?_
    refine v_iconst dX12_goThrough_88 (c32 rfl) ?_
    refine v_icmp_ne_t (tgt := 105) dX12_goThrough_89 (by decide) (by omega) ?_
    refine v_vret dX12_goThrough_105 rfl (Nat.le_refl _) (Nat.le_refl _) ?_
    refine hq _ _ _ _ _ ?_
    rw [show pText u n 201 0 [] = .inl _ from pText_f c47_1]
    exact ⟨rfl, c47_2⟩
  · dsimp only [Option.toList, List.cons_append, List.nil_append, Nat.add_zero]
    rw [show pText u n 201 0 [] = pNext u n 200 xa_6 ([] ++ [(xl_6, xk_6)]) from pText_s c47_3] at hq
    exact lp_text hd hT hL (by omega) (by omega) (by omega) (FS_1 FS_0 c47_6) hq
  · dsimp only [Option.toList, List.cons_append, List.nil_append, Nat.add_zero]
    rw [show pText u n 201 0 [] = pNext u n 200 xa_12 ([] ++ [(xl_12, xk_12)]) from pText_s c47_7] at hq
    exact lp_text hd hT hL (by omega) (by omega) (by omega) (FS_2 FS_0 rfl c47_11 c47_12) hq

set_option maxHeartbeats 4000000 in
set_option maxRecDepth 100000 in
theorem s_goThrough_127 {l : Launch} {G : GG} {h : AH} {b n : Int} {u : Int → Int} {tn : Nat} {d : Nat} {lb : Int} {Q : Option AV → List Kd → AH → Prop} (hd : 37 ≤ d) (hT : MT (tst h 127 b n lb) 127 b n u tn) (hL : LTB (tst h 127 b n lb))
    (hq : ∀ f g w a9 dp, TxE (ltr (tst h 127 b n lb)) (tst h 127 b n lb 116 23) f w (pText u n 201 0 []) → Q none K0 (pst (gst (tst h 127 b n lb) g w) a9 f dp)) :
    Sp l G mX12_goThrough d 0 0 K0 [(2, 116), (2, 127), (0, b), (0, n), (0, lb)] h Q := by
  refine sp_of (L := [(2, 116), (2, 127), (0, b), (0, n), (0, lb)]) pl_X12 (Nat.le_of_ble_eq_true rfl) (tg_c (by decide) (tg_c (by decide) (tg_c (by decide) (tg_c (by decide) (tg_c (by decide) tg_0))))) rfl ?_
  refine v_aload_n dX12_goThrough_0 rfl ?_
  refine v_aload_n dX12_goThrough_1 rfl ?_
  refine v_putr (ci := 12) (j := 17) (ji := 17) dX12_goThrough_2 k_1433 (by decide) kk_116 (by decide) rfl rfl (Or.inl rfl) refOK_text ?_
  refine v_aload_n dX12_goThrough_5 rfl ?_
  refine v_iload_n dX12_goThrough_6 rfl ?_
  refine v_puti (ci := 12) (j := 18) (ji := 18) dX12_goThrough_7 k_1434 (by decide) kk_116 (by decide) rfl rfl rfl ?_
  refine v_aload_n dX12_goThrough_10 rfl ?_
  refine v_iload_n dX12_goThrough_11 rfl ?_
  refine v_puti (ci := 12) (j := 19) (ji := 19) dX12_goThrough_12 k_1435 (by decide) kk_116 (by decide) rfl rfl rfl ?_
  refine v_aload_n dX12_goThrough_15 rfl ?_
  refine v_iload dX12_goThrough_16 rfl ?_
  refine v_puti (ci := 12) (j := 23) (ji := 23) dX12_goThrough_18 k_1439 (by decide) kk_116 (by decide) rfl rfl rfl ?_
  refine v_aload_n dX12_goThrough_21 rfl ?_
  refine v_iconst dX12_goThrough_22 (c32 rfl) ?_
  refine v_puti (ci := 12) (j := 20) (ji := 20) dX12_goThrough_23 k_1436 (by decide) kk_116 (by decide) rfl rfl rfl ?_
  refine v_aload_n dX12_goThrough_26 rfl ?_
  refine v_iconst dX12_goThrough_27 (c32 rfl) ?_
  refine v_puti (ci := 12) (j := 21) (ji := 21) dX12_goThrough_28 k_1437 (by decide) kk_116 (by decide) rfl rfl rfl ?_
  refine v_aload_n dX12_goThrough_31 rfl ?_
  refine v_iconst dX12_goThrough_32 (c32 rfl) ?_
  refine v_puti (ci := 12) (j := 22) (ji := 22) dX12_goThrough_33 k_1438 (by decide) kk_116 (by decide) rfl rfl rfl ?_
  refine v_aload_n dX12_goThrough_36 rfl ?_
  refine v_iconst dX12_goThrough_37 (c32 rfl) ?_
  refine v_putz (ci := 12) (j := 25) (ji := 25) dX12_goThrough_38 k_1441 (by decide) kk_116 (by decide) rfl rfl rfl (by omega) ?_
  refine v_aload_n dX12_goThrough_41 rfl ?_
  refine v_iconst dX12_goThrough_42 (c32 rfl) ?_
  refine v_puti (ci := 12) (j := 24) (ji := 24) dX12_goThrough_43 k_1440 (by decide) kk_116 (by decide) rfl rfl rfl ?_
  rw [gst_mk]
  exact lp_text0 hd hT hL hq

set_option maxHeartbeats 4000000 in
set_option maxRecDepth 100000 in
theorem s_goThrough_128 {l : Launch} {G : GG} {h : AH} {b n : Int} {u : Int → Int} {tn : Nat} {d : Nat} {lb : Int} {Q : Option AV → List Kd → AH → Prop} (hd : 37 ≤ d) (hT : MT (tst h 128 b n lb) 128 b n u tn) (hL : LTB (tst h 128 b n lb))
    (hq : ∀ f g w a9 dp, TxE (ltr (tst h 128 b n lb)) (tst h 128 b n lb 116 23) f w (pText u n 201 0 []) → Q none K0 (pst (gst (tst h 128 b n lb) g w) a9 f dp)) :
    Sp l G mX12_goThrough d 0 0 K0 [(2, 116), (2, 128), (0, b), (0, n), (0, lb)] h Q := by
  refine sp_of (L := [(2, 116), (2, 128), (0, b), (0, n), (0, lb)]) pl_X12 (Nat.le_of_ble_eq_true rfl) (tg_c (by decide) (tg_c (by decide) (tg_c (by decide) (tg_c (by decide) (tg_c (by decide) tg_0))))) rfl ?_
  refine v_aload_n dX12_goThrough_0 rfl ?_
  refine v_aload_n dX12_goThrough_1 rfl ?_
  refine v_putr (ci := 12) (j := 17) (ji := 17) dX12_goThrough_2 k_1433 (by decide) kk_116 (by decide) rfl rfl (Or.inl rfl) refOK_text ?_
  refine v_aload_n dX12_goThrough_5 rfl ?_
  refine v_iload_n dX12_goThrough_6 rfl ?_
  refine v_puti (ci := 12) (j := 18) (ji := 18) dX12_goThrough_7 k_1434 (by decide) kk_116 (by decide) rfl rfl rfl ?_
  refine v_aload_n dX12_goThrough_10 rfl ?_
  refine v_iload_n dX12_goThrough_11 rfl ?_
  refine v_puti (ci := 12) (j := 19) (ji := 19) dX12_goThrough_12 k_1435 (by decide) kk_116 (by decide) rfl rfl rfl ?_
  refine v_aload_n dX12_goThrough_15 rfl ?_
  refine v_iload dX12_goThrough_16 rfl ?_
  refine v_puti (ci := 12) (j := 23) (ji := 23) dX12_goThrough_18 k_1439 (by decide) kk_116 (by decide) rfl rfl rfl ?_
  refine v_aload_n dX12_goThrough_21 rfl ?_
  refine v_iconst dX12_goThrough_22 (c32 rfl) ?_
  refine v_puti (ci := 12) (j := 20) (ji := 20) dX12_goThrough_23 k_1436 (by decide) kk_116 (by decide) rfl rfl rfl ?_
  refine v_aload_n dX12_goThrough_26 rfl ?_
  refine v_iconst dX12_goThrough_27 (c32 rfl) ?_
  refine v_puti (ci := 12) (j := 21) (ji := 21) dX12_goThrough_28 k_1437 (by decide) kk_116 (by decide) rfl rfl rfl ?_
  refine v_aload_n dX12_goThrough_31 rfl ?_
  refine v_iconst dX12_goThrough_32 (c32 rfl) ?_
  refine v_puti (ci := 12) (j := 22) (ji := 22) dX12_goThrough_33 k_1438 (by decide) kk_116 (by decide) rfl rfl rfl ?_
  refine v_aload_n dX12_goThrough_36 rfl ?_
  refine v_iconst dX12_goThrough_37 (c32 rfl) ?_
  refine v_putz (ci := 12) (j := 25) (ji := 25) dX12_goThrough_38 k_1441 (by decide) kk_116 (by decide) rfl rfl rfl (by omega) ?_
  refine v_aload_n dX12_goThrough_41 rfl ?_
  refine v_iconst dX12_goThrough_42 (c32 rfl) ?_
  refine v_puti (ci := 12) (j := 24) (ji := 24) dX12_goThrough_43 k_1440 (by decide) kk_116 (by decide) rfl rfl rfl ?_
  rw [gst_mk]
  exact lp_text0 hd hT hL hq

