/-! ===== booking: the class's and the reference's methods (written by wip/whole/p52.py) ===== -/
theorem I3_166 {h F : AH} {cs : Int → List (Int × List Int)} {q k i x : Int} (hI : I3 h cs q k F) : I3 h cs q k (hset F 166 i x) :=
  ⟨⟨by rw [hset_c (by decide)]; exact hI.1.1, fun a b a0 a1 b0 b1 => by rw [hset_c (by decide)]; exact hI.1.2 a b a0 a1 b0 b1⟩, fun s s0 s1 => by rw [hset_c (by decide)]; exact hI.2 s s0 s1⟩
theorem sp_cst {l : Launch} {G : GG} {M : MI} {d mc ms : Nat} {K : List Kd} {args : List AV} {h : AH} {Q : Option AV → List Kd → AH → Prop} (k : Sp l G M d mc ms K args (cst h h) Q) : Sp l G M d mc ms K args h Q := by
  rw [cst_mk] at k
  exact k
theorem sp_jst {l : Launch} {G : GG} {M : MI} {d mc ms : Nat} {K : List Kd} {args : List AV} {h : AH} {Q : Option AV → List Kd → AH → Prop} (k : Sp l G M d mc ms K args (jst (kst h h) (h 116) (h 148) (h 126)) Q) : Sp l G M d mc ms K args h Q := by
  rw [kst_mk, jst_mk] at k
  exact k

set_option maxHeartbeats 4000000 in
set_option maxRecDepth 100000 in
theorem s_cbookL {l : Launch} {G : GG} {d : Nat} {h F : AH} {Q : Option AV → List Kd → AH → Prop} {cs : Int → List (Int × List Int)} (hd : 7 ≤ d) (I : CI h cs) (L : CLN h) (hJ : ∀ s, 0 ≤ s → s < h 116 65 → F 75 s = stF h cs s (h 116 1)) (q0 : 400 < h 4 15 + (sm (ubF (fun s => duF h cs s (h 116 1)) (h 160)) (h 116 65)) → ∀ F', Q (some (0, -1)) K0 (cst h F')) (q1 : h 4 15 + (sm (ubF (fun s => duF h cs s (h 116 1)) (h 160)) (h 116 65)) ≤ 400 → ∀ F', Q (some (0, sm (ubF (fun s => duF h cs s (h 116 1)) (h 160)) (h 116 65))) K0 (cst (bkc h (bkF (fun s => duF h cs s (h 116 1)) (h 116 1) (h 4 15, h 76, h 77, h 78, h 79, h 4 16) (h 116 65))) F')) : Sp l G mX0_bookLines d 0 0 K0 [(2, 4), (0, (h 116 1))] (cst h F) Q := by
  refine sp_of (L := [(2, 4), (0, (h 116 1)), (9, 0), (9, 0), (9, 0), (9, 0)]) pl_X0 (Nat.le_of_ble_eq_true rfl) (tg_c (by decide) (tg_c (by decide) tg_0)) rfl ?_
  refine v_aload_n dX0_bookLines_0 rfl ?_
  refine v_getv (ci := 0) (j := 15) (ji := 15) (tg := 0) dX0_bookLines_1 k_392 (by decide) kk_4 (by decide) rfl rfl (by decide) (cst_n (by decide)) ?_
  refine v_istore_n_2 dX0_bookLines_4 (by decide) rfl ?_
  refine v_iload_n dX0_bookLines_5 rfl ?_
  refine v_aload_n dX0_bookLines_6 rfl ?_
  refine v_iload_n dX0_bookLines_7 rfl ?_
  refine v_callv (M' := mX0_countUnbooked) (d' := d - 1) (mc' := 0) (ms' := 0) (ci := 0) (c := 4) (As := [_]) dX0_bookLines_8 k_1152 cm_X0_countUnbooked rfl (by omega) (by decide) kk_4 (Nat.le_of_ble_eq_true rfl) rfl ⟨Nat.le_refl _, Nat.le_refl _⟩ ?_
  refine s_cub (by omega) I L.e76 hJ (fun xf_2 c8_1 c8_2 => ?_)
  dsimp only [Option.toList, List.cons_append, List.nil_append, Nat.add_zero]
  have r9 := sm_rng (ubF_r (du := (fun s => duF h cs s (h 116 1))) (B := h 160) (n := h 116 65)) (h 116 65) I.S.1.1 (Int.le_refl _)
  have ns := I.S.1
  have li := L.li
  have f15 := L.f4_15
  refine v_iaddE dX0_bookLines_11 (by omega) ?_
  refine v_sipush dX0_bookLines_12 (c32 rfl) (by decide) ?_
  refine v_icmp_le (tgt := 20) dX0_bookLines_15 (by decide) (fun c15_3 => ?_) (fun c15_3 => ?_)
  · refine v_iconst dX0_bookLines_20 (c32 rfl) ?_
    refine v_istore_n_3 dX0_bookLines_21 (by decide) rfl ?_
    have q9 := lp_cbook (l := l) (G := G) (d := d) (h := h) (cs := cs) (F0 := xf_2) (n0 := h 4 15) (Q := Q) (by omega) I L.e76 L.bk rfl (by have := L.li; have := L.f4_15; omega) (by rw [L.e76]; omega) (fun F' p hp _ hn => by
      rw [hn, L.e76]
      subst hp
      exact q1 (by omega) F') 0 (Int.le_refl _) I.S.1.1 (h 4 15, h 76, h 77, h 78, h 79, h 4 16) rfl xf_2 Fr_0 c8_2
    change V l G mX0_bookLines d 0 0 0 0 K0 22 [(2, 4), (0, h 116 1), (0, h 4 15), (0, 0), (9, 0), (9, 0)] [] (cst (bkc h (h 4 15, h 76, h 77, h 78, h 79, h 4 16)) xf_2) Q at q9
    rw [bkc_mk] at q9
    exact q9
  · refine v_iconst dX0_bookLines_18 (c32 rfl) ?_
    refine v_ireti dX0_bookLines_19 rfl (Nat.le_refl _) (Nat.le_refl _) ?_
    exact q0 (by omega) _

set_option maxHeartbeats 4000000 in
set_option maxRecDepth 100000 in
theorem s_Fbook {l : Launch} {G : GG} {d : Nat} {h F : AH} {Q : Option AV → List Kd → AH → Prop} {cs : Int → List (Int × List Int)} (hd : 8 ≤ d) (I : CI h cs) (L : CLN h) (q0 : 400 < h 4 15 + (sm (ubF (fun s => duF h cs s (h 116 1)) (h 160)) (h 116 65)) → ∀ F', Q (some (0, -1)) K0 (cst h F')) (q1 : h 4 15 + (sm (ubF (fun s => duF h cs s (h 116 1)) (h 160)) (h 116 65)) ≤ 400 → ∀ F', Q (some (0, sm (ubF (fun s => duF h cs s (h 116 1)) (h 160)) (h 116 65))) K0 (cst (bkc h (bkF (fun s => duF h cs s (h 116 1)) (h 116 1) (h 4 15, h 76, h 77, h 78, h 79, h 4 16) (h 116 65))) F')) : Sp l G mX11_book d 0 0 K0 [(2, 0)] (cst h F) Q := by
  refine sp_of (L := [(2, 0)]) pl_X11 (Nat.le_of_ble_eq_true rfl) (tg_c (by decide) tg_0) rfl ?_
  refine v_aload_n dX11_book_0 rfl ?_
  refine v_getr (ci := 11) (j := 6) (ji := 6) (z := 4) dX11_book_1 k_560 (by decide) kk_0 (by decide) rfl rfl (fun r => rt_0_6 (r rfl)) (by decide) ?_
  refine v_aload_n dX11_book_4 rfl ?_
  refine v_getv (ci := 11) (j := 0) (ji := 0) (tg := 0) dX11_book_5 k_554 (by decide) kk_0 (by decide) rfl rfl (by decide) ((cst_n (by decide)).trans (I.f0_0)) ?_
  refine v_callv (M' := mX0_judge) (d' := d - 1) (mc' := 0) (ms' := 0) (ci := 0) (c := 4) (As := [_]) dX11_book_8 k_1083 cm_X0_judge rfl (by omega) (by decide) kk_4 (Nat.le_of_ble_eq_true rfl) rfl ⟨Nat.le_refl _, Nat.le_refl _⟩ ?_
  refine s_cbjudge (by omega) I (by omega) (fun xf_2 c8_1 c8_2 => ?_)
  dsimp only [Option.toList, List.cons_append, List.nil_append, Nat.add_zero]
  refine v_aload_n dX11_book_11 rfl ?_
  refine v_getr (ci := 11) (j := 6) (ji := 6) (z := 4) dX11_book_12 k_560 (by decide) kk_0 (by decide) rfl rfl (fun r => rt_0_6 (r rfl)) (by decide) ?_
  refine v_aload_n dX11_book_15 rfl ?_
  refine v_getv (ci := 11) (j := 0) (ji := 0) (tg := 0) dX11_book_16 k_554 (by decide) kk_0 (by decide) rfl rfl (by decide) ((cst_n (by decide)).trans (I.f0_0)) ?_
  refine v_callv (M' := mX0_bookLines) (d' := d - 1) (mc' := 0) (ms' := 0) (ci := 0) (c := 4) (As := [_]) dX11_book_19 k_1148 cm_X0_bookLines rfl (by omega) (by decide) kk_4 (Nat.le_of_ble_eq_true rfl) rfl ⟨Nat.le_refl _, Nat.le_refl _⟩ ?_
  refine s_cbookL (by omega) I L (fun s s0 s1 => c8_2.2 s s0 s1 (I.m155.2 s s0 s1).2) (fun c F9 => ?_) (fun c F9 => ?_)
  · dsimp only [Option.toList, List.cons_append, List.nil_append, Nat.add_zero]
    refine v_ireti dX11_book_22 rfl (Nat.le_refl _) (Nat.le_refl _) ?_
    exact q0 c F9
  · dsimp only [Option.toList, List.cons_append, List.nil_append, Nat.add_zero]
    refine v_ireti dX11_book_22 rfl (Nat.le_refl _) (Nat.le_refl _) ?_
    exact q1 c F9
  

set_option maxHeartbeats 4000000 in
set_option maxRecDepth 100000 in
theorem lp_rb1 {l : Launch} {G : GG} {d : Nat} {h : AH} {Q : Option AV → List Kd → AH → Prop} {cs : Int → List (Int × List Int)} (hd : 42 ≤ d) (I : CI h cs) (hq : ∀ F z O Lr, (∀ t, 0 ≤ t → t < h 116 65 → F 166 t = duF h cs t (h 116 1)) → V l G mX12_book d 0 0 0 0 K0 70 [(2, 116), (0, sm (ubF (fun s => duF h cs s (h 116 1)) (h 160)) (h 116 65)), (0, h 116 65)] [] (jst (kst h F) z O Lr) Q) : ∀ k, 0 ≤ k → k ≤ h 116 65 → ∀ F z O Lr, I3 h cs (h 116 1) (h 116 65) F → (∀ t, 0 ≤ t → t < k → F 166 t = duF h cs t (h 116 1)) → V l G mX12_book d 0 0 0 0 K0 17 [(2, 116), (0, sm (ubF (fun s => duF h cs s (h 116 1)) (h 160)) k), (0, k)] [] (jst (kst h F) z O Lr) Q := by
  have ns := I.S.1
  refine loop_m3 (fun k hk hkN ih F z O Lr hI hD => ?_)
  refine v_iload_n dX12_book_17 rfl ?_
  refine v_aload_n dX12_book_18 rfl ?_
  refine v_getv (ci := 12) (j := 65) (ji := 65) (tg := 0) dX12_book_19 k_1481 (by decide) kk_116 (by decide) rfl rfl (by decide) ((jst_j (by decide)).trans (kst_c (by decide))) ?_
  refine v_icmp_ge (tgt := 70) dX12_book_22 (by decide) (fun c22_1 => ?_) (fun c22_1 => ?_)
  · obtain rfl : k = h 116 65 := by omega
    exact hq _ _ _ _ hD
  · have r9 := sm_rng (ubF_r (du := (fun s => duF h cs s (h 116 1))) (B := h 160) (n := h 116 65)) k hk (by omega)
    have ns := I.S.1
    refine v_aload_n dX12_book_25 rfl ?_
    refine v_getr (ci := 12) (j := 71) (ji := 71) (z := 166) dX12_book_26 k_1487 (by decide) kk_116 (by decide) rfl rfl (fun r => rt_116_71 (r rfl)) (by decide) ?_
    refine v_iload_n dX12_book_29 rfl ?_
    refine v_aload_n dX12_book_30 rfl ?_
    refine v_iload_n dX12_book_31 rfl ?_
    refine v_aload_n dX12_book_32 rfl ?_
    refine v_getv (ci := 12) (j := 1) (ji := 1) (tg := 0) dX12_book_33 k_1417 (by decide) kk_116 (by decide) rfl rfl (by decide) ((jst_j (by decide)).trans (kst_c (by decide))) ?_
    refine v_callv (M' := mX12_dutyOf) (d' := d - 1) (mc' := 0) (ms' := 0) (ci := 12) (c := 116) (As := [_, _]) dX12_book_36 k_2003 cm_X12_dutyOf rfl (by omega) (by decide) kk_116 (Nat.le_of_ble_eq_true rfl) rfl ⟨Nat.le_refl _, Nat.le_refl _⟩ ?_
    refine s_dutyOf (cs := cs) (by omega) I.W I.S I.T I.T2 ⟨by omega, by omega⟩ hI (fun xz_1 xl_1 => ?_)
    dsimp only [Option.toList, List.cons_append, List.nil_append, Nat.add_zero]
    refine v_lastore dX12_book_39 (by decide) kk_166 (by omega) (by omega) ?_
    rw [jst_wc (by decide), kst_wm (by decide)]
    refine v_iload_n dX12_book_40 rfl ?_
    refine v_aload_n dX12_book_41 rfl ?_
    refine v_getr (ci := 12) (j := 71) (ji := 71) (z := 166) dX12_book_42 k_1487 (by decide) kk_116 (by decide) rfl rfl (fun r => rt_116_71 (r rfl)) (by decide) ?_
    refine v_iload_n dX12_book_45 rfl ?_
    refine v_laloadv dX12_book_46 (by decide) kk_166 (by omega) (by omega) ((jst_c (by decide)).trans ((kst_m (by decide)).trans (hset_same _ _ _ _))) ?_
    refine v_aload_n dX12_book_47 rfl ?_
    refine v_getr (ci := 12) (j := 61) (ji := 61) (z := 160) dX12_book_48 k_1477 (by decide) kk_116 (by decide) rfl rfl (fun r => rt_116_61 (r rfl)) (by decide) ?_
    refine v_iload_n dX12_book_51 rfl ?_
    refine v_laloadv dX12_book_52 (by decide) kk_160 (by omega) (by omega) ((jst_c (by decide)).trans (kst_n (by decide))) ?_
    refine v_lcmp_eq (tgt := 61) dX12_book_53 dX12_book_54 (by decide) (fun c53_2 => ?_) (fun c53_2 => ?_)
    · refine v_iconst dX12_book_61 (c32 rfl) ?_
      refine v_iaddE dX12_book_62 (by omega) ?_
      refine v_istore_n_1 dX12_book_63 (by decide) rfl ?_
      refine v_iinc_2 dX12_book_64 (by decide) rfl ?_
      rw [iadd_eq (x := k) (y := 1) (by unfold ok32; omega)]
      refine v_goto (tgt := 17) dX12_book_67 (by decide) ?_
      have e8 : ubF (fun s => duF h cs s (h 116 1)) (h 160) k = 0 := if_pos (by omega)
      have e9 : sm (ubF (fun s => duF h cs s (h 116 1)) (h 160)) (k + 1) = ((sm (ubF (fun s => duF h cs s (h 116 1)) (h 160)) k) + 0) := by rw [sm_s hk, e8]
      have ih9 := ih (by omega) _ xz_1 O xl_1 (I3_166 hI) (fun t t0 t1 => by
        by_cases e : t = k
        · subst e; rw [hset_same]
        · rw [hset_j e]; exact hD t t0 (by omega))
      rw [e9] at ih9
      exact ih9
    · refine v_iconst dX12_book_57 (c32 rfl) ?_
      refine v_goto (tgt := 62) dX12_book_58 (by decide) ?_
      refine v_iaddE dX12_book_62 (by omega) ?_
      refine v_istore_n_1 dX12_book_63 (by decide) rfl ?_
      refine v_iinc_2 dX12_book_64 (by decide) rfl ?_
      rw [iadd_eq (x := k) (y := 1) (by unfold ok32; omega)]
      refine v_goto (tgt := 17) dX12_book_67 (by decide) ?_
      have e8 : ubF (fun s => duF h cs s (h 116 1)) (h 160) k = 1 := if_neg (by omega)
      have e9 : sm (ubF (fun s => duF h cs s (h 116 1)) (h 160)) (k + 1) = ((sm (ubF (fun s => duF h cs s (h 116 1)) (h 160)) k) + 1) := by rw [sm_s hk, e8]
      have ih9 := ih (by omega) _ xz_1 O xl_1 (I3_166 hI) (fun t t0 t1 => by
        by_cases e : t = k
        · subst e; rw [hset_same]
        · rw [hset_j e]; exact hD t t0 (by omega))
      rw [e9] at ih9
      exact ih9

set_option maxHeartbeats 4000000 in
set_option maxRecDepth 100000 in
theorem lp_rb2 {l : Launch} {G : GG} {d : Nat} {h : AH} {Q : Option AV → List Kd → AH → Prop} {cs : Int → List (Int × List Int)} {F : AH} {z O Lr : Int → Int} {mo : Int} (hd : 42 ≤ d) (I : CI h cs) (bk : ∀ s, 0 ≤ s → s < 100 → 0 ≤ h 160 s ∧ h 160 s ≤ 100000000) (hl : 0 ≤ h 116 67) (hn : h 116 67 + (sm (ubF (fun s => duF h cs s (h 116 1)) (h 160)) (h 116 65)) ≤ 400) (hD : ∀ t, 0 ≤ t → t < h 116 65 → F 166 t = duF h cs t (h 116 1)) (hq : ∀ p : BKT, p = bkF (fun s => duF h cs s (h 116 1)) (h 116 1) (h 116 67, h 160, h 162, h 161, h 163, h 116 68) (h 116 65) → Q (some (0, mo)) K0 (jst (kst (ov1 (ov1 (ov1 (ov1 (hset (hset h 116 67 p.1) 116 68 p.2.2.2.2.2) 160 p.2.1) 162 p.2.2.1) 161 p.2.2.2.1) 163 p.2.2.2.2.1) F) z O Lr)) : ∀ k, 0 ≤ k → k ≤ h 116 65 → ∀ p : BKT, p = bkF (fun s => duF h cs s (h 116 1)) (h 116 1) (h 116 67, h 160, h 162, h 161, h 163, h 116 68) k → V l G mX12_book d 0 0 0 0 K0 86 [(2, 116), (0, mo), (0, k)] [] (jst (kst (ov1 (ov1 (ov1 (ov1 (hset (hset h 116 67 p.1) 116 68 p.2.2.2.2.2) 160 p.2.1) 162 p.2.2.1) 161 p.2.2.2.1) 163 p.2.2.2.2.1) F) z O Lr) Q := by
  have ns := I.S.1
  refine loop_m3 (fun k hk hkN ih p hp => ?_)
  refine v_iload_n dX12_book_86 rfl ?_
  refine v_aload_n dX12_book_87 rfl ?_
  refine v_getv (ci := 12) (j := 65) (ji := 65) (tg := 0) dX12_book_88 k_1481 (by decide) kk_116 (by decide) rfl rfl (by decide) ((jst_j (by decide)).trans ((kst_c (by decide)).trans ((ov1_c (by decide)).trans ((ov1_c (by decide)).trans ((ov1_c (by decide)).trans ((ov1_c (by decide)).trans ((hset_j (by decide)).trans (hset_j (by decide))))))))) ?_
  refine v_icmp_ge (tgt := 208) dX12_book_91 (by decide) (fun c91_1 => ?_) (fun c91_1 => ?_)
  · refine v_iload_n dX12_book_208 rfl ?_
    refine v_ireti dX12_book_209 rfl (Nat.le_refl _) (Nat.le_refl _) ?_
    obtain rfl : k = h 116 65 := by omega
    exact hq p hp
  · have hPB : p.2.1 k = h 160 k := by rw [hp, bkF_B hk (Int.le_refl _)]
    have hPN : p.1 = h 116 67 + sm (ubF (fun s => duF h cs s (h 116 1)) (h 160)) k := by rw [hp, bkF_n hk]
    have r8 := sm_rng (ubF_r (du := fun s => duF h cs s (h 116 1)) (B := h 160) (n := h 116 65)) k hk (by omega)
    have r7 := sm_up (ubF_r (du := fun s => duF h cs s (h 116 1)) (B := h 160) (n := h 116 65)) (k := k) hk (by omega)
    have hcn : ubF (fun s => duF h cs s (h 116 1)) (h 160) k = if duF h cs k (h 116 1) = h 160 k then 0 else 1 := rfl
    have hdk := duF_rng (q := h 116 1) I (s := k) ⟨hk, by omega⟩
    have hbk := bk k hk (by omega)
    refine v_aload_n dX12_book_94 rfl ?_
    refine v_getr (ci := 12) (j := 71) (ji := 71) (z := 166) dX12_book_95 k_1487 (by decide) kk_116 (by decide) rfl rfl (fun r => rt_116_71 (r rfl)) (by decide) ?_
    refine v_iload_n dX12_book_98 rfl ?_
    refine v_laloadv dX12_book_99 (by decide) kk_166 (by omega) (by omega) ((jst_c (by decide)).trans ((kst_m (by decide)).trans ((hD k hk (by omega))))) ?_
    refine v_aload_n dX12_book_100 rfl ?_
    refine v_getr (ci := 12) (j := 61) (ji := 61) (z := 160) dX12_book_101 k_1477 (by decide) kk_116 (by decide) rfl rfl (fun r => rt_116_61 (r rfl)) (by decide) ?_
    refine v_iload_n dX12_book_104 rfl ?_
    refine v_laloadv dX12_book_105 (by decide) kk_160 (by omega) (by omega) ((jst_c (by decide)).trans ((kst_n (by decide)).trans ((ov1_c (by decide)).trans ((ov1_c (by decide)).trans ((ov1_c (by decide)).trans ((ov1_s).trans (hPB))))))) ?_
    refine v_lcmp_ne (tgt := 113) dX12_book_106 dX12_book_107 (by decide) (fun c106_2 => ?_) (fun c106_2 => ?_)
    · rw [if_neg c106_2] at hcn
      have r6 := r7.2 (by omega)
      refine v_aload_n dX12_book_113 rfl ?_
      refine v_getr (ci := 12) (j := 63) (ji := 63) (z := 162) dX12_book_114 k_1479 (by decide) kk_116 (by decide) rfl rfl (fun r => rt_116_63 (r rfl)) (by decide) ?_
      refine v_aload_n dX12_book_117 rfl ?_
      refine v_getv (ci := 12) (j := 67) (ji := 67) (tg := 0) dX12_book_118 k_1483 (by decide) kk_116 (by decide) rfl rfl (by decide) ((jst_j (by decide)).trans ((kst_c (by decide)).trans ((ov1_c (by decide)).trans ((ov1_c (by decide)).trans ((ov1_c (by decide)).trans ((ov1_c (by decide)).trans ((hset_j (by decide)).trans (hset_same _ _ _ _)))))))) ?_
      refine v_iload_n dX12_book_121 rfl ?_
      refine v_iastore dX12_book_122 (by decide) kk_162 (by omega) (by omega) ?_
      rw [jst_wc (by decide), kst_wn (by unfold kS; omega), ov1_n (by decide), ov1_n (by decide), ov1_w]
      refine v_aload_n dX12_book_123 rfl ?_
      refine v_getr (ci := 12) (j := 62) (ji := 62) (z := 161) dX12_book_124 k_1478 (by decide) kk_116 (by decide) rfl rfl (fun r => rt_116_62 (r rfl)) (by decide) ?_
      refine v_aload_n dX12_book_127 rfl ?_
      refine v_getv (ci := 12) (j := 67) (ji := 67) (tg := 0) dX12_book_128 k_1483 (by decide) kk_116 (by decide) rfl rfl (by decide) ((jst_j (by decide)).trans ((kst_c (by decide)).trans ((ov1_c (by decide)).trans ((ov1_c (by decide)).trans ((ov1_c (by decide)).trans ((ov1_c (by decide)).trans ((hset_j (by decide)).trans (hset_same _ _ _ _)))))))) ?_
      refine v_aload_n dX12_book_131 rfl ?_
      refine v_getr (ci := 12) (j := 71) (ji := 71) (z := 166) dX12_book_132 k_1487 (by decide) kk_116 (by decide) rfl rfl (fun r => rt_116_71 (r rfl)) (by decide) ?_
      refine v_iload_n dX12_book_135 rfl ?_
      refine v_laloadv dX12_book_136 (by decide) kk_166 (by omega) (by omega) ((jst_c (by decide)).trans ((kst_m (by decide)).trans ((hD k hk (by omega))))) ?_
      refine v_aload_n dX12_book_137 rfl ?_
      refine v_getr (ci := 12) (j := 61) (ji := 61) (z := 160) dX12_book_138 k_1477 (by decide) kk_116 (by decide) rfl rfl (fun r => rt_116_61 (r rfl)) (by decide) ?_
      refine v_iload_n dX12_book_141 rfl ?_
      refine v_laloadv dX12_book_142 (by decide) kk_160 (by omega) (by omega) ((jst_c (by decide)).trans ((kst_n (by decide)).trans ((ov1_c (by decide)).trans ((ov1_c (by decide)).trans ((ov1_c (by decide)).trans ((ov1_s).trans (hPB))))))) ?_
      refine v_lsubE dX12_book_143 (by omega) ?_
      refine v_lastore dX12_book_144 (by decide) kk_161 (by omega) (by omega) ?_
      rw [jst_wc (by decide), kst_wn (by unfold kS; omega), ov1_n (by decide), ov1_w]
      refine v_aload_n dX12_book_145 rfl ?_
      refine v_getr (ci := 12) (j := 64) (ji := 64) (z := 163) dX12_book_146 k_1480 (by decide) kk_116 (by decide) rfl rfl (fun r => rt_116_64 (r rfl)) (by decide) ?_
      refine v_aload_n dX12_book_149 rfl ?_
      refine v_getv (ci := 12) (j := 67) (ji := 67) (tg := 0) dX12_book_150 k_1483 (by decide) kk_116 (by decide) rfl rfl (by decide) ((jst_j (by decide)).trans ((kst_c (by decide)).trans ((ov1_c (by decide)).trans ((ov1_c (by decide)).trans ((ov1_c (by decide)).trans ((ov1_c (by decide)).trans ((hset_j (by decide)).trans (hset_same _ _ _ _)))))))) ?_
      refine v_aload_n dX12_book_153 rfl ?_
      refine v_getv (ci := 12) (j := 1) (ji := 1) (tg := 0) dX12_book_154 k_1417 (by decide) kk_116 (by decide) rfl rfl (by decide) ((jst_j (by decide)).trans ((kst_c (by decide)).trans ((ov1_c (by decide)).trans ((ov1_c (by decide)).trans ((ov1_c (by decide)).trans ((ov1_c (by decide)).trans ((hset_j (by decide)).trans (hset_j (by decide))))))))) ?_
      refine v_iastore dX12_book_157 (by decide) kk_163 (by omega) (by omega) ?_
      rw [jst_wc (by decide), kst_wn (by unfold kS; omega), ov1_w]
      refine v_aload_n dX12_book_158 rfl ?_
      refine v_dup dX12_book_159 rfl ?_
      refine v_getv (ci := 12) (j := 67) (ji := 67) (tg := 0) dX12_book_160 k_1483 (by decide) kk_116 (by decide) rfl rfl (by decide) ((jst_j (by decide)).trans ((kst_c (by decide)).trans ((ov1_c (by decide)).trans ((ov1_c (by decide)).trans ((ov1_c (by decide)).trans ((ov1_c (by decide)).trans ((hset_j (by decide)).trans (hset_same _ _ _ _)))))))) ?_
      refine v_iconst dX12_book_163 (c32 rfl) ?_
      refine v_iaddE dX12_book_164 (by omega) ?_
      refine v_puti (ci := 12) (j := 67) (ji := 67) dX12_book_165 k_1483 (by decide) kk_116 (by decide) rfl rfl rfl ?_
      rw [jst_wj (by decide), kst_wn (by decide), ov1_n (by decide), ov1_n (by decide), ov1_n (by decide), ov1_n (by decide), hset_dj (b := 68) (j := 67) (by decide), hset_tw]
      refine v_aload_n dX12_book_168 rfl ?_
      refine v_dup dX12_book_169 rfl ?_
      refine v_getv (ci := 12) (j := 68) (ji := 68) (tg := 1) dX12_book_170 k_1484 (by decide) kk_116 (by decide) rfl rfl (by decide) ((jst_j (by decide)).trans ((kst_c (by decide)).trans ((ov1_c (by decide)).trans ((ov1_c (by decide)).trans ((ov1_c (by decide)).trans ((ov1_c (by decide)).trans (hset_same _ _ _ _))))))) ?_
      refine v_aload_n dX12_book_173 rfl ?_
      refine v_getr (ci := 12) (j := 71) (ji := 71) (z := 166) dX12_book_174 k_1487 (by decide) kk_116 (by decide) rfl rfl (fun r => rt_116_71 (r rfl)) (by decide) ?_
      refine v_iload_n dX12_book_177 rfl ?_
      refine v_laloadv dX12_book_178 (by decide) kk_166 (by omega) (by omega) ((jst_c (by decide)).trans ((kst_m (by decide)).trans ((hD k hk (by omega))))) ?_
      refine v_aload_n dX12_book_179 rfl ?_
      refine v_getr (ci := 12) (j := 61) (ji := 61) (z := 160) dX12_book_180 k_1477 (by decide) kk_116 (by decide) rfl rfl (fun r => rt_116_61 (r rfl)) (by decide) ?_
      refine v_iload_n dX12_book_183 rfl ?_
      refine v_laloadv dX12_book_184 (by decide) kk_160 (by omega) (by omega) ((jst_c (by decide)).trans ((kst_n (by decide)).trans ((ov1_c (by decide)).trans ((ov1_c (by decide)).trans ((ov1_c (by decide)).trans ((ov1_s).trans (hPB))))))) ?_
      refine v_lsubE dX12_book_185 (by omega) ?_
      refine v_ladd dX12_book_186 ?_
      refine v_putl (ci := 12) (j := 68) (ji := 68) dX12_book_187 k_1484 (by decide) kk_116 (by decide) rfl rfl rfl ?_
      rw [jst_wj (by decide), kst_wn (by decide), ov1_n (by decide), ov1_n (by decide), ov1_n (by decide), ov1_n (by decide), hset_tw]
      refine v_aload_n dX12_book_190 rfl ?_
      refine v_getr (ci := 12) (j := 61) (ji := 61) (z := 160) dX12_book_191 k_1477 (by decide) kk_116 (by decide) rfl rfl (fun r => rt_116_61 (r rfl)) (by decide) ?_
      refine v_iload_n dX12_book_194 rfl ?_
      refine v_aload_n dX12_book_195 rfl ?_
      refine v_getr (ci := 12) (j := 71) (ji := 71) (z := 166) dX12_book_196 k_1487 (by decide) kk_116 (by decide) rfl rfl (fun r => rt_116_71 (r rfl)) (by decide) ?_
      refine v_iload_n dX12_book_199 rfl ?_
      refine v_laloadv dX12_book_200 (by decide) kk_166 (by omega) (by omega) ((jst_c (by decide)).trans ((kst_m (by decide)).trans ((hD k hk (by omega))))) ?_
      refine v_lastore dX12_book_201 (by decide) kk_160 (by omega) (by omega) ?_
      rw [jst_wc (by decide), kst_wn (by unfold kS; omega), ov1_n (by decide), ov1_n (by decide), ov1_n (by decide), ov1_w]
      refine v_iinc_2 dX12_book_202 (by decide) rfl ?_
      rw [iadd_eq (x := k) (y := 1) (by unfold ok32; omega)]
      refine v_goto (tgt := 86) dX12_book_205 (by decide) ?_
      have eS := bkS_1 (du := fun s => duF h cs s (h 116 1)) (now := h 116 1) (s := k) (p := p) (by show duF h cs k (h 116 1) ≠ p.2.1 k; rw [hPB]; exact c106_2)
      rw [hPB] at eS
      have ih9 := ih (by omega) (bkS (fun s => duF h cs s (h 116 1)) (h 116 1) k p) (by rw [hp]; exact (bkF_s hk).symm)
      rw [eS] at ih9
      exact ih9
    · refine v_goto (tgt := 202) dX12_book_110 (by decide) ?_
      refine v_iinc_2 dX12_book_202 (by decide) rfl ?_
      rw [iadd_eq (x := k) (y := 1) (by unfold ok32; omega)]
      refine v_goto (tgt := 86) dX12_book_205 (by decide) ?_
      have eS := bkS_0 (du := fun s => duF h cs s (h 116 1)) (now := h 116 1) (s := k) (p := p) (by show duF h cs k (h 116 1) = p.2.1 k; rw [hPB]; omega)
      have ih9 := ih (by omega) (bkS (fun s => duF h cs s (h 116 1)) (h 116 1) k p) (by rw [hp]; exact (bkF_s hk).symm)
      rw [eS] at ih9
      exact ih9

set_option maxHeartbeats 4000000 in
set_option maxRecDepth 100000 in
theorem s_rbook {l : Launch} {G : GG} {d : Nat} {h : AH} {Q : Option AV → List Kd → AH → Prop} {cs : Int → List (Int × List Int)} {F : AH} {z O Lr : Int → Int} (hd : 43 ≤ d) (I : CI h cs) (bk : ∀ s, 0 ≤ s → s < 100 → 0 ≤ h 160 s ∧ h 160 s ≤ 100000000) (hl : 0 ≤ h 116 67 ∧ h 116 67 ≤ 400) (q0 : 400 < h 116 67 + (sm (ubF (fun s => duF h cs s (h 116 1)) (h 160)) (h 116 65)) → ∀ F z O Lr, Q (some (0, -1)) K0 (jst (kst h F) z O Lr)) (q1 : h 116 67 + (sm (ubF (fun s => duF h cs s (h 116 1)) (h 160)) (h 116 65)) ≤ 400 → ∀ F z O Lr, Q (some (0, sm (ubF (fun s => duF h cs s (h 116 1)) (h 160)) (h 116 65))) K0 (jst (kst (bkr h (bkF (fun s => duF h cs s (h 116 1)) (h 116 1) (h 116 67, h 160, h 162, h 161, h 163, h 116 68) (h 116 65))) F) z O Lr)) : Sp l G mX12_book d 0 0 K0 [(2, 116)] (jst (kst h F) z O Lr) Q := by
  have hl := hl.1
  refine sp_of (L := [(2, 116), (9, 0), (9, 0)]) pl_X12 (Nat.le_of_ble_eq_true rfl) (tg_c (by decide) tg_0) rfl ?_
  refine v_aload_n dX12_book_0 rfl ?_
  refine v_iconst dX12_book_1 (c32 rfl) ?_
  refine v_puti (ci := 12) (j := 0) (ji := 0) dX12_book_2 k_1416 (by decide) kk_116 (by decide) rfl rfl rfl ?_
  rw [jst_wj (by decide), kst_w (by decide)]
  refine v_iconst dX12_book_5 (c32 rfl) ?_
  refine v_istore_n_1 dX12_book_6 (by decide) rfl ?_
  refine v_aload_n dX12_book_7 rfl ?_
  refine v_aload_n dX12_book_8 rfl ?_
  refine v_getv (ci := 12) (j := 1) (ji := 1) (tg := 0) dX12_book_9 k_1417 (by decide) kk_116 (by decide) rfl rfl (by decide) ((jst_j (by decide)).trans (kst_c (by decide))) ?_
  refine v_callv (M' := mX12_findFirst) (d' := d - 1) (mc' := 0) (ms' := 0) (ci := 12) (c := 116) (As := [_]) dX12_book_12 k_1975 cm_X12_findFirst rfl (by omega) (by decide) kk_116 (Nat.le_of_ble_eq_true rfl) rfl ⟨Nat.le_refl _, Nat.le_refl _⟩ ?_
  refine s_findFirst (cs := cs) (by omega) I.W I.S I.T (hset_same _ _ _ _) (fun xF_1 xz_1 xo_1 xl_1 c12_1 => ?_)
  dsimp only [Option.toList, List.cons_append, List.nil_append, Nat.add_zero]
  refine v_iconst dX12_book_15 (c32 rfl) ?_
  refine v_istore_n_2 dX12_book_16 (by decide) rfl ?_
  have r9 := sm_rng (ubF_r (du := (fun s => duF h cs s (h 116 1))) (B := h 160) (n := h 116 65)) (h 116 65) I.S.1.1 (Int.le_refl _)
  have ns := I.S.1
  refine lp_rb1 (l := l) (G := G) (d := d) (h := h) (cs := cs) (Q := Q) (by omega) I (fun F9 z9 O9 L9 hD9 => ?_) 0 (Int.le_refl _) I.S.1.1 _ _ _ _ c12_1 (fun t t0 t1 => by omega)
  refine v_aload_n dX12_book_70 rfl ?_
  refine v_getv (ci := 12) (j := 67) (ji := 67) (tg := 0) dX12_book_71 k_1483 (by decide) kk_116 (by decide) rfl rfl (by decide) ((jst_j (by decide)).trans (kst_c (by decide))) ?_
  refine v_iload_n dX12_book_74 rfl ?_
  refine v_iaddE dX12_book_75 (by omega) ?_
  refine v_sipush dX12_book_76 (c32 rfl) (by decide) ?_
  refine v_icmp_le (tgt := 84) dX12_book_79 (by decide) (fun c79_1 => ?_) (fun c79_1 => ?_)
  · refine v_iconst dX12_book_84 (c32 rfl) ?_
    refine v_istore_n_2 dX12_book_85 (by decide) rfl ?_
    have q9 := lp_rb2 (l := l) (G := G) (d := d) (h := h) (cs := cs) (F := F9) (z := z9) (O := O9) (Lr := L9) (mo := (sm (ubF (fun s => duF h cs s (h 116 1)) (h 160)) (h 116 65))) (Q := Q) (by omega) I bk hl (by omega) hD9 (fun p hp => by subst hp; exact q1 (by omega) _ _ _ _) 0 (Int.le_refl _) I.S.1.1 (h 116 67, h 160, h 162, h 161, h 163, h 116 68) rfl
    change V l G mX12_book d 0 0 0 0 K0 86 [(2, 116), (0, sm (ubF (fun s => duF h cs s (h 116 1)) (h 160)) (h 116 65)), (0, 0)] [] (jst (kst (bkr h (h 116 67, h 160, h 162, h 161, h 163, h 116 68)) F9) z9 O9 L9) Q at q9
    rw [bkr_mk] at q9
    exact q9
  · refine v_iconst dX12_book_82 (c32 rfl) ?_
    refine v_ireti dX12_book_83 rfl (Nat.le_refl _) (Nat.le_refl _) ?_
    exact q0 (by omega) _ _ _ _

