/-! ===== the reference: fault, protocol (written by wip/whole/p36.py) ===== -/
theorem lch_rng {i : Int} : 0 ≤ lch i ∧ lch i < 128 := by
  unfold lch
  split
  · omega
  · split
    · omega
    · split
      · omega
      · split
        · omega
        · split
          · omega
          · split
            · omega
            · split <;> omega
theorem v_ltb {l : Launch} {G : GG} {M : MI} {d mc ms n1 n2 : Nat} {pc : Nat} {L st : List AV} {h : AH} {Q : Option AV → List Kd → AH → Prop} (k : LTB h → V l G M d mc ms n1 n2 K0 pc L st h Q) : V l G M d mc ms n1 n2 K0 pc L st h Q :=
  v_heap (fun _ r => k (fun i _ _ => (r rfl).2.2 _ lch_rng.1 lch_rng.2))
theorem jst_of2 {X h' : AH} (q : ∀ a b, ¬ (a = 116 ∧ 17 ≤ b ∧ b ≤ 25) → h' a b = X a b) : h' = jst X (h' 116) (X 148) (X 126) :=
  jst_of (z := h' 116) (fun a b e => by
    rw [q a b e]
    unfold jst
    rw [if_neg e]
    by_cases e1 : a = 148
    · rw [if_pos e1, e1]
    · rw [if_neg e1]
      by_cases e2 : a = 126
      · rw [if_pos e2, e2]
      · rw [if_neg e2])

set_option maxHeartbeats 4000000 in
set_option maxRecDepth 100000 in
theorem s_fault {l : Launch} {G : GG} {d : Nat} {h : AH} {Q : Option AV → List Kd → AH → Prop} {u : Int → Int} (hd : 38 ≤ d) (hT : TT h u) (hq : ∀ z9, Q (some (0, pFault u (h 116 16))) K0 (jst (hset h 116 0 0) z9 ((hset h 116 0 0) 148) ((hset h 116 0 0) 126))) : Sp l G mX12_fault d 0 0 K0 [(2, 116)] h Q := by
  have hT1 : MT (tst (hset h 116 0 0) 127 0 (h 116 16) 0) 127 0 (h 116 16) u 200 := MT_tst (Or.inl rfl) (by exact kk_127) (by have := hT.2.1; omega) (by omega) (by omega) hT.1 hT.2.1 hT.2.2.1 (fun i h0 h1 => by rw [hset_c (by decide), Int.zero_add]; exact hT.2.2.2 i h0 h1)
  refine sp_of (L := [(2, 116)]) pl_X12 (Nat.le_of_ble_eq_true rfl) (tg_c (by decide) tg_0) rfl ?_
  refine v_ltb (fun hL0 => ?_)
  have hL2 : LTB (tst (hset h 116 0 0) 127 0 (h 116 16) 0) := by
    unfold LTB
    rw [ltr_tst]
    intro i h0 h1
    show _ ≤ (hset h 116 0 0) 126 (lch i) ∧ (hset h 116 0 0) 126 (lch i) ≤ _
    rw [hset_c (by decide)]
    exact hL0 i h0 h1
  refine v_aload_n dX12_fault_0 rfl ?_
  refine v_iconst dX12_fault_1 (c32 rfl) ?_
  refine v_puti (ci := 12) (j := 0) (ji := 0) dX12_fault_2 k_1416 (by decide) kk_116 (by decide) rfl rfl rfl ?_
  refine v_aload_n dX12_fault_5 rfl ?_
  refine v_aload_n dX12_fault_6 rfl ?_
  refine v_getr (ci := 12) (j := 12) (ji := 12) (z := 127) dX12_fault_7 k_1428 (by decide) kk_116 (by decide) rfl rfl (fun r => rt_116_12 (r rfl)) (by decide) ?_
  refine v_iconst dX12_fault_10 (c32 rfl) ?_
  refine v_aload_n dX12_fault_11 rfl ?_
  refine v_getv (ci := 12) (j := 16) (ji := 16) (tg := 0) dX12_fault_12 k_1432 (by decide) kk_116 (by decide) rfl rfl (by decide) (hset_j (by decide)) ?_
  refine v_iconst dX12_fault_15 (c32 rfl) ?_
  refine v_callv (M' := mX12_goThrough) (d' := d - 1) (mc' := 0) (ms' := 0) (ci := 12) (c := 116) (As := [_, _, _, _]) dX12_fault_16 k_1747 cm_X12_goThrough rfl (by omega) (by decide) kk_116 (Nat.le_of_ble_eq_true rfl) rfl ⟨Nat.le_refl _, Nat.le_refl _⟩ ?_
  refine s_goThrough_127 (by omega) hT1 hL2 (fun xf_1 xg_1 xw_1 xa_1 xd_1 c16_1 => ?_)
  dsimp only [Option.toList, List.cons_append, List.nil_append, Nat.add_zero]
  refine v_aload_n dX12_fault_19 rfl ?_
  refine v_getv (ci := 12) (j := 21) (ji := 21) (tg := 0) dX12_fault_20 k_1437 (by decide) kk_116 (by decide) rfl rfl (by decide) (pst_r21) ?_
  refine v_ireti dX12_fault_23 rfl (Nat.le_refl _) (Nat.le_refl _) ?_
  have ef := TxE_f c16_1
  obtain ⟨z9, eh⟩ : ∃ z9, (pst (gst (tst (hset h 116 0 0) 127 0 (h 116 16) 0) xg_1 xw_1) xa_1 xf_1 xd_1) = (jst (hset h 116 0 0) z9 ((hset h 116 0 0) 148) ((hset h 116 0 0) 126)) := ⟨_, jst_of2 (fun a b e => scr_of e)⟩
  rw [eh, ef]
  exact hq _

set_option maxHeartbeats 4000000 in
set_option maxRecDepth 100000 in
theorem lp_prot {l : Launch} {G : GG} {d : Nat} {h : AH} {Q : Option AV → List Kd → AH → Prop} {u z9 : Int → Int} {w fr : Int} (hd : 1 ≤ d) (hT : TT h u) (ht : 0 ≤ h 116 15 ∧ h 116 15 < 20) (hq : Q (some (0, h 116 15)) K0 (hset (hset (hset (hset (hset (hset (hcpy (jst (hset h 116 0 0) z9 ((hset h 116 0 0) 148) ((hset h 116 0 0) 126)) 127 0 128 (200 * (h 116 15)) (h 116 16)) 124 (h 116 15) (h 116 16)) 121 (h 116 15) w) 122 (h 116 15) fr) 123 (h 116 15) (h 116 1)) 116 15 ((h 116 15) + 1)) 116 16 0)) : ∀ k, 0 ≤ k → k ≤ h 116 16 → V l G mX12_protocol d 0 0 0 0 K0 54 [(2, 116), (0, w), (0, fr), (0, k)] [] (hcpy (jst (hset h 116 0 0) z9 ((hset h 116 0 0) 148) ((hset h 116 0 0) 126)) 127 0 128 (200 * (h 116 15)) k) Q := by
  have hT2 := hT.2.1
  refine loop_m3 (fun k hk hkN ih => ?_)
  refine v_iload_n dX12_protocol_54 rfl ?_
  refine v_aload_n dX12_protocol_55 rfl ?_
  refine v_getv (ci := 12) (j := 16) (ji := 16) (tg := 0) dX12_protocol_56 k_1432 (by decide) kk_116 (by decide) rfl rfl (by decide) ((hcpy_c (by decide)).trans ((jst_j (by decide)).trans (hset_j (by decide)))) ?_
  refine v_icmp_ge (tgt := 89) dX12_protocol_59 (by decide) (fun c59_1 => ?_) (fun c59_1 => ?_)
  · obtain rfl : k = h 116 16 := by omega
    refine v_aload_n dX12_protocol_89 rfl ?_
    refine v_getr (ci := 12) (j := 9) (ji := 9) (z := 124) dX12_protocol_90 k_1425 (by decide) kk_116 (by decide) rfl rfl (fun r => rt_116_9 (r rfl)) (by decide) ?_
    refine v_aload_n dX12_protocol_93 rfl ?_
    refine v_getv (ci := 12) (j := 15) (ji := 15) (tg := 0) dX12_protocol_94 k_1431 (by decide) kk_116 (by decide) rfl rfl (by decide) ((hcpy_c (by decide)).trans ((jst_j (by decide)).trans (hset_j (by decide)))) ?_
    refine v_aload_n dX12_protocol_97 rfl ?_
    refine v_getv (ci := 12) (j := 16) (ji := 16) (tg := 0) dX12_protocol_98 k_1432 (by decide) kk_116 (by decide) rfl rfl (by decide) ((hcpy_c (by decide)).trans ((jst_j (by decide)).trans (hset_j (by decide)))) ?_
    refine v_iastore dX12_protocol_101 (by decide) kk_124 (by omega) (by omega) ?_
    refine v_aload_n dX12_protocol_102 rfl ?_
    refine v_getr (ci := 12) (j := 6) (ji := 6) (z := 121) dX12_protocol_103 k_1422 (by decide) kk_116 (by decide) rfl rfl (fun r => rt_116_6 (r rfl)) (by decide) ?_
    refine v_aload_n dX12_protocol_106 rfl ?_
    refine v_getv (ci := 12) (j := 15) (ji := 15) (tg := 0) dX12_protocol_107 k_1431 (by decide) kk_116 (by decide) rfl rfl (by decide) ((hset_c (by decide)).trans ((hcpy_c (by decide)).trans ((jst_j (by decide)).trans (hset_j (by decide))))) ?_
    refine v_iload_n dX12_protocol_110 rfl ?_
    refine v_iastore dX12_protocol_111 (by decide) kk_121 (by omega) (by omega) ?_
    refine v_aload_n dX12_protocol_112 rfl ?_
    refine v_getr (ci := 12) (j := 7) (ji := 7) (z := 122) dX12_protocol_113 k_1423 (by decide) kk_116 (by decide) rfl rfl (fun r => rt_116_7 (r rfl)) (by decide) ?_
    refine v_aload_n dX12_protocol_116 rfl ?_
    refine v_getv (ci := 12) (j := 15) (ji := 15) (tg := 0) dX12_protocol_117 k_1431 (by decide) kk_116 (by decide) rfl rfl (by decide) ((hset_c (by decide)).trans ((hset_c (by decide)).trans ((hcpy_c (by decide)).trans ((jst_j (by decide)).trans (hset_j (by decide)))))) ?_
    refine v_iload_n dX12_protocol_120 rfl ?_
    refine v_iastore dX12_protocol_121 (by decide) kk_122 (by omega) (by omega) ?_
    refine v_aload_n dX12_protocol_122 rfl ?_
    refine v_getr (ci := 12) (j := 8) (ji := 8) (z := 123) dX12_protocol_123 k_1424 (by decide) kk_116 (by decide) rfl rfl (fun r => rt_116_8 (r rfl)) (by decide) ?_
    refine v_aload_n dX12_protocol_126 rfl ?_
    refine v_getv (ci := 12) (j := 15) (ji := 15) (tg := 0) dX12_protocol_127 k_1431 (by decide) kk_116 (by decide) rfl rfl (by decide) ((hset_c (by decide)).trans ((hset_c (by decide)).trans ((hset_c (by decide)).trans ((hcpy_c (by decide)).trans ((jst_j (by decide)).trans (hset_j (by decide))))))) ?_
    refine v_aload_n dX12_protocol_130 rfl ?_
    refine v_getv (ci := 12) (j := 1) (ji := 1) (tg := 0) dX12_protocol_131 k_1417 (by decide) kk_116 (by decide) rfl rfl (by decide) ((hset_c (by decide)).trans ((hset_c (by decide)).trans ((hset_c (by decide)).trans ((hcpy_c (by decide)).trans ((jst_j (by decide)).trans (hset_j (by decide))))))) ?_
    refine v_iastore dX12_protocol_134 (by decide) kk_123 (by omega) (by omega) ?_
    refine v_aload_n dX12_protocol_135 rfl ?_
    refine v_dup dX12_protocol_136 rfl ?_
    refine v_getv (ci := 12) (j := 15) (ji := 15) (tg := 0) dX12_protocol_137 k_1431 (by decide) kk_116 (by decide) rfl rfl (by decide) ((hset_c (by decide)).trans ((hset_c (by decide)).trans ((hset_c (by decide)).trans ((hset_c (by decide)).trans ((hcpy_c (by decide)).trans ((jst_j (by decide)).trans (hset_j (by decide)))))))) ?_
    refine v_iconst dX12_protocol_140 (c32 rfl) ?_
    refine v_iaddE dX12_protocol_141 (by omega) ?_
    refine v_puti (ci := 12) (j := 15) (ji := 15) dX12_protocol_142 k_1431 (by decide) kk_116 (by decide) rfl rfl rfl ?_
    refine v_aload_n dX12_protocol_145 rfl ?_
    refine v_iconst dX12_protocol_146 (c32 rfl) ?_
    refine v_puti (ci := 12) (j := 16) (ji := 16) dX12_protocol_147 k_1432 (by decide) kk_116 (by decide) rfl rfl rfl ?_
    refine v_aload_n dX12_protocol_150 rfl ?_
    refine v_getv (ci := 12) (j := 15) (ji := 15) (tg := 0) dX12_protocol_151 k_1431 (by decide) kk_116 (by decide) rfl rfl (by decide) ((hset_j (by decide)).trans (hset_same _ _ _ _)) ?_
    refine v_iconst dX12_protocol_154 (c32 rfl) ?_
    refine v_isubE dX12_protocol_155 (by omega) ?_
    refine v_ireti dX12_protocol_156 rfl (Nat.le_refl _) (Nat.le_refl _) ?_
    rw [show (h 116 15 + 1 - 1) = h 116 15 by omega]
    exact hq
  · refine v_aload_n dX12_protocol_62 rfl ?_
    refine v_getr (ci := 12) (j := 13) (ji := 13) (z := 128) dX12_protocol_63 k_1429 (by decide) kk_116 (by decide) rfl rfl (fun r => rt_116_13 (r rfl)) (by decide) ?_
    refine v_sipush dX12_protocol_66 (c32 rfl) (by decide) ?_
    refine v_aload_n dX12_protocol_69 rfl ?_
    refine v_getv (ci := 12) (j := 15) (ji := 15) (tg := 0) dX12_protocol_70 k_1431 (by decide) kk_116 (by decide) rfl rfl (by decide) ((hcpy_c (by decide)).trans ((jst_j (by decide)).trans (hset_j (by decide)))) ?_
    refine v_imulE dX12_protocol_73 (by omega) ?_
    refine v_iload_n dX12_protocol_74 rfl ?_
    refine v_iaddE dX12_protocol_75 (by omega) ?_
    refine v_aload_n dX12_protocol_76 rfl ?_
    refine v_getr (ci := 12) (j := 12) (ji := 12) (z := 127) dX12_protocol_77 k_1428 (by decide) kk_116 (by decide) rfl rfl (fun r => rt_116_12 (r rfl)) (by decide) ?_
    refine v_iload_n dX12_protocol_80 rfl ?_
    refine v_baloadv dX12_protocol_81 (by decide) kk_127 (by omega) (by omega) ((hcpy_c (by decide)).trans ((jst_c (by decide)).trans (hset_c (by decide)))) ?_
    have hv := hT.2.2.2 k hk (by omega)
    have hs := @s8_c (u k)
    have hr := hT.2.2.1 k hk (by omega)
    refine v_bastore dX12_protocol_82 (by decide) kk_128 (by omega) (by omega) (by omega) ?_
    refine v_iinc_3 dX12_protocol_83 (by decide) rfl ?_
    rw [iadd_eq (x := k) (y := 1) (by unfold ok32; omega)]
    refine v_goto (tgt := 54) dX12_protocol_86 (by decide) ?_
    have ih := ih (by omega)
    rw [hcpy_s hk, Int.zero_add, show (jst (hset h 116 0 0) z9 ((hset h 116 0 0) 148) ((hset h 116 0 0) 126)) 127 k = h 127 k from (jst_c (by decide)).trans (hset_c (by decide))] at ih
    exact ih

set_option maxHeartbeats 4000000 in
set_option maxRecDepth 100000 in
theorem s_protocol {l : Launch} {G : GG} {d : Nat} {h : AH} {Q : Option AV → List Kd → AH → Prop} {u : Int → Int} {w fr : Int} (hd : 38 ≤ d) (hT : TT h u) (ht : 0 ≤ h 116 15 ∧ h 116 15 ≤ 20) (q0 : ∀ z9, ¬ (pFault u (h 116 16) = -1 ∧ h 116 15 < 20 ∧ (0 ≤ w ∧ w < 4) ∧ (0 ≤ fr ∧ fr ≤ 2000)) → Q (some (0, -1)) K0 (jst (hset h 116 0 0) z9 ((hset h 116 0 0) 148) ((hset h 116 0 0) 126))) (q1 : ∀ z9, pFault u (h 116 16) = -1 ∧ h 116 15 < 20 ∧ (0 ≤ w ∧ w < 4) ∧ (0 ≤ fr ∧ fr ≤ 2000) → Q (some (0, h 116 15)) K0 (hset (hset (hset (hset (hset (hset (hcpy (jst (hset h 116 0 0) z9 ((hset h 116 0 0) 148) ((hset h 116 0 0) 126)) 127 0 128 (200 * (h 116 15)) (h 116 16)) 124 (h 116 15) (h 116 16)) 121 (h 116 15) w) 122 (h 116 15) fr) 123 (h 116 15) (h 116 1)) 116 15 ((h 116 15) + 1)) 116 16 0)) : Sp l G mX12_protocol d 0 0 K0 [(2, 116), (0, w), (0, fr)] h Q := by
  have hT1 : MT (tst (hset h 116 0 0) 127 0 (h 116 16) 0) 127 0 (h 116 16) u 200 := MT_tst (Or.inl rfl) (by exact kk_127) (by have := hT.2.1; omega) (by omega) (by omega) hT.1 hT.2.1 hT.2.2.1 (fun i h0 h1 => by rw [hset_c (by decide), Int.zero_add]; exact hT.2.2.2 i h0 h1)
  refine sp_of (L := [(2, 116), (0, w), (0, fr), (9, 0)]) pl_X12 (Nat.le_of_ble_eq_true rfl) (tg_c (by decide) (tg_c (by decide) (tg_c (by decide) tg_0))) rfl ?_
  refine v_ltb (fun hL0 => ?_)
  have hL2 : LTB (tst (hset h 116 0 0) 127 0 (h 116 16) 0) := by
    unfold LTB
    rw [ltr_tst]
    intro i h0 h1
    show _ ≤ (hset h 116 0 0) 126 (lch i) ∧ (hset h 116 0 0) 126 (lch i) ≤ _
    rw [hset_c (by decide)]
    exact hL0 i h0 h1
  refine v_aload_n dX12_protocol_0 rfl ?_
  refine v_iconst dX12_protocol_1 (c32 rfl) ?_
  refine v_puti (ci := 12) (j := 0) (ji := 0) dX12_protocol_2 k_1416 (by decide) kk_116 (by decide) rfl rfl rfl ?_
  refine v_aload_n dX12_protocol_5 rfl ?_
  refine v_aload_n dX12_protocol_6 rfl ?_
  refine v_getr (ci := 12) (j := 12) (ji := 12) (z := 127) dX12_protocol_7 k_1428 (by decide) kk_116 (by decide) rfl rfl (fun r => rt_116_12 (r rfl)) (by decide) ?_
  refine v_iconst dX12_protocol_10 (c32 rfl) ?_
  refine v_aload_n dX12_protocol_11 rfl ?_
  refine v_getv (ci := 12) (j := 16) (ji := 16) (tg := 0) dX12_protocol_12 k_1432 (by decide) kk_116 (by decide) rfl rfl (by decide) (hset_j (by decide)) ?_
  refine v_iconst dX12_protocol_15 (c32 rfl) ?_
  refine v_callv (M' := mX12_goThrough) (d' := d - 1) (mc' := 0) (ms' := 0) (ci := 12) (c := 116) (As := [_, _, _, _]) dX12_protocol_16 k_1747 cm_X12_goThrough rfl (by omega) (by decide) kk_116 (Nat.le_of_ble_eq_true rfl) rfl ⟨Nat.le_refl _, Nat.le_refl _⟩ ?_
  refine s_goThrough_127 (by omega) hT1 hL2 (fun xf_1 xg_1 xw_1 xa_1 xd_1 c16_1 => ?_)
  dsimp only [Option.toList, List.cons_append, List.nil_append, Nat.add_zero]
  refine v_aload_n dX12_protocol_19 rfl ?_
  refine v_getv (ci := 12) (j := 21) (ji := 21) (tg := 0) dX12_protocol_20 k_1437 (by decide) kk_116 (by decide) rfl rfl (by decide) (pst_r21) ?_
  refine v_iconst dX12_protocol_23 (c32 rfl) ?_
  refine v_icmp_ne (tgt := 50) dX12_protocol_24 (by decide) (fun c24_2 => ?_) (fun c24_2 => ?_)
  · have ef := TxE_f c16_1
    obtain ⟨z9, eh⟩ : ∃ z9, (pst (gst (tst (hset h 116 0 0) 127 0 (h 116 16) 0) xg_1 xw_1) xa_1 xf_1 xd_1) = (jst (hset h 116 0 0) z9 ((hset h 116 0 0) 148) ((hset h 116 0 0) 126)) := ⟨_, jst_of2 (fun a b e => scr_of e)⟩
    rw [eh]
    refine v_iconst dX12_protocol_50 (c32 rfl) ?_
    refine v_ireti dX12_protocol_51 rfl (Nat.le_refl _) (Nat.le_refl _) ?_
    exact q0 _ (by omega)
  · refine v_aload_n dX12_protocol_27 rfl ?_
    refine v_getv (ci := 12) (j := 15) (ji := 15) (tg := 0) dX12_protocol_28 k_1431 (by decide) kk_116 (by decide) rfl rfl (by decide) ((pst_j (by decide)).trans ((gst_j (by decide)).trans ((tst_j (by decide)).trans (hset_j (by decide))))) ?_
    refine v_bipush dX12_protocol_31 (c32 rfl) (by decide) ?_
    refine v_icmp_eq (tgt := 50) dX12_protocol_33 (by decide) (fun c33_3 => ?_) (fun c33_3 => ?_)
    · have ef := TxE_f c16_1
      obtain ⟨z9, eh⟩ : ∃ z9, (pst (gst (tst (hset h 116 0 0) 127 0 (h 116 16) 0) xg_1 xw_1) xa_1 xf_1 xd_1) = (jst (hset h 116 0 0) z9 ((hset h 116 0 0) 148) ((hset h 116 0 0) 126)) := ⟨_, jst_of2 (fun a b e => scr_of e)⟩
      rw [eh]
      refine v_iconst dX12_protocol_50 (c32 rfl) ?_
      refine v_ireti dX12_protocol_51 rfl (Nat.le_refl _) (Nat.le_refl _) ?_
      exact q0 _ (by omega)
    · refine v_iload_n dX12_protocol_36 rfl ?_
      refine v_calls (M' := mX12_isWeb) (d' := d - 1) (mc' := 0) (ms' := 0) (As := [_]) dX12_protocol_37 k_1707 cm_X12_isWeb (by omega) (Nat.le_of_ble_eq_true rfl) rfl ⟨Nat.le_refl _, Nat.le_refl _⟩ ?_
      refine s_X12_isWeb (by omega) (fun c37_4 => ?_) (fun c37_5 c37_6 => ?_) (fun c37_7 c37_8 => ?_)
      · dsimp only [Option.toList, List.cons_append, List.nil_append, Nat.add_zero]
        refine v_if_eq_t (tgt := 50) dX12_protocol_40 (by decide) (by decide) ?_
        have ef := TxE_f c16_1
        obtain ⟨z9, eh⟩ : ∃ z9, (pst (gst (tst (hset h 116 0 0) 127 0 (h 116 16) 0) xg_1 xw_1) xa_1 xf_1 xd_1) = (jst (hset h 116 0 0) z9 ((hset h 116 0 0) 148) ((hset h 116 0 0) 126)) := ⟨_, jst_of2 (fun a b e => scr_of e)⟩
        rw [eh]
        refine v_iconst dX12_protocol_50 (c32 rfl) ?_
        refine v_ireti dX12_protocol_51 rfl (Nat.le_refl _) (Nat.le_refl _) ?_
        exact q0 _ (by omega)
      · dsimp only [Option.toList, List.cons_append, List.nil_append, Nat.add_zero]
        refine v_if_eq_t (tgt := 50) dX12_protocol_40 (by decide) (by decide) ?_
        have ef := TxE_f c16_1
        obtain ⟨z9, eh⟩ : ∃ z9, (pst (gst (tst (hset h 116 0 0) 127 0 (h 116 16) 0) xg_1 xw_1) xa_1 xf_1 xd_1) = (jst (hset h 116 0 0) z9 ((hset h 116 0 0) 148) ((hset h 116 0 0) 126)) := ⟨_, jst_of2 (fun a b e => scr_of e)⟩
        rw [eh]
        refine v_iconst dX12_protocol_50 (c32 rfl) ?_
        refine v_ireti dX12_protocol_51 rfl (Nat.le_refl _) (Nat.le_refl _) ?_
        exact q0 _ (by omega)
      · dsimp only [Option.toList, List.cons_append, List.nil_append, Nat.add_zero]
        refine v_if_eq_f (tgt := 50) dX12_protocol_40 (by decide) (by decide) ?_
        refine v_iload_n dX12_protocol_43 rfl ?_
        refine v_calls (M' := mX12_isDay) (d' := d - 1) (mc' := 0) (ms' := 0) (As := [_]) dX12_protocol_44 k_1712 cm_X12_isDay (by omega) (Nat.le_of_ble_eq_true rfl) rfl ⟨Nat.le_refl _, Nat.le_refl _⟩ ?_
        refine s_X12_isDay (by omega) (fun c44_9 => ?_) (fun c44_10 c44_11 => ?_) (fun c44_12 c44_13 => ?_)
        · dsimp only [Option.toList, List.cons_append, List.nil_append, Nat.add_zero]
          refine v_if_ne_f (tgt := 52) dX12_protocol_47 (by decide) (by decide) ?_
          have ef := TxE_f c16_1
          obtain ⟨z9, eh⟩ : ∃ z9, (pst (gst (tst (hset h 116 0 0) 127 0 (h 116 16) 0) xg_1 xw_1) xa_1 xf_1 xd_1) = (jst (hset h 116 0 0) z9 ((hset h 116 0 0) 148) ((hset h 116 0 0) 126)) := ⟨_, jst_of2 (fun a b e => scr_of e)⟩
          rw [eh]
          refine v_iconst dX12_protocol_50 (c32 rfl) ?_
          refine v_ireti dX12_protocol_51 rfl (Nat.le_refl _) (Nat.le_refl _) ?_
          exact q0 _ (by omega)
        · dsimp only [Option.toList, List.cons_append, List.nil_append, Nat.add_zero]
          refine v_if_ne_f (tgt := 52) dX12_protocol_47 (by decide) (by decide) ?_
          have ef := TxE_f c16_1
          obtain ⟨z9, eh⟩ : ∃ z9, (pst (gst (tst (hset h 116 0 0) 127 0 (h 116 16) 0) xg_1 xw_1) xa_1 xf_1 xd_1) = (jst (hset h 116 0 0) z9 ((hset h 116 0 0) 148) ((hset h 116 0 0) 126)) := ⟨_, jst_of2 (fun a b e => scr_of e)⟩
          rw [eh]
          refine v_iconst dX12_protocol_50 (c32 rfl) ?_
          refine v_ireti dX12_protocol_51 rfl (Nat.le_refl _) (Nat.le_refl _) ?_
          exact q0 _ (by omega)
        · dsimp only [Option.toList, List.cons_append, List.nil_append, Nat.add_zero]
          refine v_if_ne_t (tgt := 52) dX12_protocol_47 (by decide) (by decide) ?_
          refine v_iconst dX12_protocol_52 (c32 rfl) ?_
          refine v_istore_n_3 dX12_protocol_53 (by decide) rfl ?_
          have ef := TxE_f c16_1
          obtain ⟨z9, eh⟩ : ∃ z9, (pst (gst (tst (hset h 116 0 0) 127 0 (h 116 16) 0) xg_1 xw_1) xa_1 xf_1 xd_1) = (jst (hset h 116 0 0) z9 ((hset h 116 0 0) 148) ((hset h 116 0 0) 126)) := ⟨_, jst_of2 (fun a b e => scr_of e)⟩
          rw [eh]
          have q9 := lp_prot (l := l) (G := G) (d := d) (h := h) (u := u) (z9 := z9) (w := w) (fr := fr) (Q := Q) (by omega) hT ⟨by omega, by omega⟩ (q1 _ (by omega)) 0 (Int.le_refl _) hT.1
          rw [hcpy_0] at q9
          exact q9

