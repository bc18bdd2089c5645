/-! ===== the reference's reader (written by wip/whole/p17.py) ===== -/
set_option maxHeartbeats 4000000 in
set_option maxRecDepth 100000 in
theorem s_look {l : Launch} {G : GG} {d : Nat} {h : AH} {Q : Option AV → List Kd → AH → Prop} {t b n : Int} {u : Int → Int} {tn : Nat} {a f dp : Int} (hd : 1 ≤ d) (hT : MT h t b n u tn) (h0 : 0 ≤ a) (h1 : a ≤ n) (hq : Q (some (0, pk u n a)) K0 (pst h (sk u n a) f dp)) : Sp l G mX12_look d 0 0 K0 [(2, 116)] (pst h a f dp) Q := by
  obtain ⟨htt, hkt, hbn, htx, hbg, hen, hb0, hb1, hn0, hn1, hur, hu⟩ := hT
  refine sp_of (L := [(2, 116)]) pl_X12 (Nat.le_of_ble_eq_true rfl) (tg_c (by decide) tg_0) rfl ?_
  have lp : ∀ k, a ≤ k → k ≤ n → Q (some (0, pk u n k)) K0 (pst h (sk u n k) f dp) → V l G mX12_look d 0 0 0 0 K0 0 [(2, 116)] [] (pst h k f dp) Q := by
    refine loop_m3 (fun k hk hkn ih hq => ?_)
    refine v_aload_n dX12_look_0 rfl ?_
    refine v_getv (ci := 12) (j := 20) (ji := 20) (tg := 0) dX12_look_1 k_1436 (by decide) kk_116 (by decide) rfl rfl (by decide) (pst_r20) ?_
    refine v_aload_n dX12_look_4 rfl ?_
    refine v_getv (ci := 12) (j := 19) (ji := 19) (tg := 0) dX12_look_5 k_1435 (by decide) kk_116 (by decide) rfl rfl (by decide) ((pst_j (by decide)).trans (hen)) ?_
    refine v_icmp_ge (tgt := 43) dX12_look_8 (by decide) (fun c8_1 => ?_) (fun c8_1 => ?_)
    · refine v_aload_n dX12_look_43 rfl ?_
      refine v_getv (ci := 12) (j := 20) (ji := 20) (tg := 0) dX12_look_44 k_1436 (by decide) kk_116 (by decide) rfl rfl (by decide) (pst_r20) ?_
      refine v_aload_n dX12_look_47 rfl ?_
      refine v_getv (ci := 12) (j := 19) (ji := 19) (tg := 0) dX12_look_48 k_1435 (by decide) kk_116 (by decide) rfl rfl (by decide) ((pst_j (by decide)).trans (hen)) ?_
      refine v_icmp_ge_t (tgt := 75) dX12_look_51 (by decide) (by omega) ?_
      refine v_iconst dX12_look_75 (c32 rfl) ?_
      refine v_ireti dX12_look_76 rfl (Nat.le_refl _) (Nat.le_refl _) ?_
      rw [pk_n (by omega), sk_f (by omega)] at hq
      exact hq
    · refine v_aload_n dX12_look_11 rfl ?_
      refine v_getr (ci := 12) (j := 17) (ji := 17) (z := t) dX12_look_12 k_1433 (by decide) kk_116 (by decide) rfl rfl (fun _ => ((pst_j (by decide)).trans (htx))) (by omega) ?_
      refine v_aload_n dX12_look_15 rfl ?_
      refine v_getv (ci := 12) (j := 18) (ji := 18) (tg := 0) dX12_look_16 k_1434 (by decide) kk_116 (by decide) rfl rfl (by decide) ((pst_j (by decide)).trans (hbg)) ?_
      refine v_aload_n dX12_look_19 rfl ?_
      refine v_getv (ci := 12) (j := 20) (ji := 20) (tg := 0) dX12_look_20 k_1436 (by decide) kk_116 (by decide) rfl rfl (by decide) (pst_r20) ?_
      refine v_iaddE dX12_look_23 (by omega) ?_
      refine v_baloadv dX12_look_24 (by omega) hkt (by omega) (by omega) ((pst_c (by omega)).trans (hu k (by omega) (by omega))) ?_
      refine v_bipush dX12_look_25 (c32 rfl) (by decide) ?_
      refine v_icmp_ne (tgt := 43) dX12_look_27 (by decide) (fun c27_2 => ?_) (fun c27_2 => ?_)
      · refine v_aload_n dX12_look_43 rfl ?_
        refine v_getv (ci := 12) (j := 20) (ji := 20) (tg := 0) dX12_look_44 k_1436 (by decide) kk_116 (by decide) rfl rfl (by decide) (pst_r20) ?_
        refine v_aload_n dX12_look_47 rfl ?_
        refine v_getv (ci := 12) (j := 19) (ji := 19) (tg := 0) dX12_look_48 k_1435 (by decide) kk_116 (by decide) rfl rfl (by decide) ((pst_j (by decide)).trans (hen)) ?_
        refine v_icmp_ge_f (tgt := 75) dX12_look_51 (by decide) (by omega) ?_
        refine v_aload_n dX12_look_54 rfl ?_
        refine v_getr (ci := 12) (j := 17) (ji := 17) (z := t) dX12_look_55 k_1433 (by decide) kk_116 (by decide) rfl rfl (fun _ => ((pst_j (by decide)).trans (htx))) (by omega) ?_
        refine v_aload_n dX12_look_58 rfl ?_
        refine v_getv (ci := 12) (j := 18) (ji := 18) (tg := 0) dX12_look_59 k_1434 (by decide) kk_116 (by decide) rfl rfl (by decide) ((pst_j (by decide)).trans (hbg)) ?_
        refine v_aload_n dX12_look_62 rfl ?_
        refine v_getv (ci := 12) (j := 20) (ji := 20) (tg := 0) dX12_look_63 k_1436 (by decide) kk_116 (by decide) rfl rfl (by decide) (pst_r20) ?_
        refine v_iaddE dX12_look_66 (by omega) ?_
        refine v_baloadv dX12_look_67 (by omega) hkt (by omega) (by omega) ((pst_c (by omega)).trans (hu k (by omega) (by omega))) ?_
        refine v_sipush dX12_look_68 (c32 rfl) (by decide) ?_
        refine v_iand dX12_look_71 ?_
        refine v_goto (tgt := 76) dX12_look_72 (by decide) ?_
        refine v_ireti dX12_look_76 rfl (Nat.le_refl _) (Nat.le_refl _) ?_
        have hr := hur k (by omega) (by omega)
        have e32 : u k ≠ 32 := by have := @s8_c (u k); omega
        rw [pk_f (by omega) e32, sk_f (fun q => e32 q.2)] at hq
        rw [iand255 hr.1 hr.2]
        exact hq
      · refine v_aload_n dX12_look_30 rfl ?_
        refine v_dup dX12_look_31 rfl ?_
        refine v_getv (ci := 12) (j := 20) (ji := 20) (tg := 0) dX12_look_32 k_1436 (by decide) kk_116 (by decide) rfl rfl (by decide) (pst_r20) ?_
        refine v_iconst dX12_look_35 (c32 rfl) ?_
        refine v_iaddE dX12_look_36 (by omega) ?_
        refine v_puti (ci := 12) (j := 20) (ji := 20) dX12_look_37 k_1436 (by decide) kk_116 (by decide) rfl rfl rfl ?_
        rw [pst_w20]
        refine v_goto (tgt := 0) dX12_look_40 (by decide) ?_
        have e32 : u k = 32 := by have := @s8_c (u k); have := hur k (by omega) (by omega); omega
        rw [pk_t (by omega) e32, sk_t (by omega) e32] at hq
        exact ih (by omega) hq
  exact lp a (by omega) h1 hq

theorem s_look2 {l : Launch} {G : GG} {d : Nat} {h : AH} {Q : Option AV → List Kd → AH → Prop} {t b n : Int} {u : Int → Int} {tn : Nat} {a f dp : Int} (hd : 1 ≤ d) (hT : MT h t b n u tn) (h0 : 0 ≤ a) (h1 : a ≤ n) (hq : Q (some (0, pk u n a)) K0 (pst h (sk u n a) f dp)) : Sp l G mX12_look d 0 0 K0 [(2, 116)] (pst h (sk u n a) f dp) Q :=
  s_look hd hT (by have := @sk_ge u n a; omega) (sk_le h1) (by rw [pk_sk, sk_sk]; exact hq)

set_option maxHeartbeats 4000000 in
set_option maxRecDepth 100000 in
theorem s_stop {l : Launch} {G : GG} {d : Nat} {h : AH} {Q : Option AV → List Kd → AH → Prop} {a f dp : Int} (hd : 1 ≤ d)  (q_1 : f ≠ (-1) → Q (some (0, 0)) K0 (pst h a f dp)) (q_2 : f = (-1) → Q (some (0, 0)) K0 (pst h a a dp)) : Sp l G mX12_stop d 0 0 K0 [(2, 116)] (pst h a f dp) Q := by
  refine sp_of (L := [(2, 116)]) pl_X12 (Nat.le_of_ble_eq_true rfl) (tg_c (by decide) tg_0) rfl ?_
  refine v_aload_n dX12_stop_0 rfl ?_
  refine v_getv (ci := 12) (j := 21) (ji := 21) (tg := 0) dX12_stop_1 k_1437 (by decide) kk_116 (by decide) rfl rfl (by decide) (pst_r21) ?_
  refine v_iconst dX12_stop_4 (c32 rfl) ?_
  refine v_icmp_ne (tgt := 16) dX12_stop_5 (by decide) (fun c5_1 => ?_) (fun c5_1 => ?_)
  · refine v_iconst dX12_stop_16 (c32 rfl) ?_
    refine v_iretz dX12_stop_17 rfl (by decide) (Nat.le_refl _) (Nat.le_refl _) ?_
    exact q_1 c5_1
  · refine v_aload_n dX12_stop_8 rfl ?_
    refine v_aload_n dX12_stop_9 rfl ?_
    refine v_getv (ci := 12) (j := 20) (ji := 20) (tg := 0) dX12_stop_10 k_1436 (by decide) kk_116 (by decide) rfl rfl (by decide) (pst_r20) ?_
    refine v_puti (ci := 12) (j := 21) (ji := 21) dX12_stop_13 k_1437 (by decide) kk_116 (by decide) rfl rfl rfl ?_
    rw [pst_w21]
    refine v_iconst dX12_stop_16 (c32 rfl) ?_
    refine v_iretz dX12_stop_17 rfl (by decide) (Nat.le_refl _) (Nat.le_refl _) ?_
    exact q_2 c5_1

set_option maxHeartbeats 4000000 in
set_option maxRecDepth 100000 in
theorem s_isDigit {l : Launch} {G : GG} {d : Nat} {h : AH} {Q : Option AV → List Kd → AH → Prop} {t b n : Int} {u : Int → Int} {tn : Nat} {a f dp : Int} (hd : 1 ≤ d) (hT : MT h t b n u tn) (h0 : 0 ≤ a) (h1 : a ≤ n) (q_1 : n ≤ a → Q (some (0, 0)) K0 (pst h a f dp)) (q_2 : a < n → (s8 (u a)) < 48 → Q (some (0, 0)) K0 (pst h a f dp)) (q_3 : a < n → 48 ≤ (s8 (u a)) → 57 < (s8 (u a)) → Q (some (0, 0)) K0 (pst h a f dp)) (q_4 : a < n → 48 ≤ (s8 (u a)) → (s8 (u a)) ≤ 57 → Q (some (0, 1)) K0 (pst h a f dp)) : Sp l G mX12_isDigit d 0 0 K0 [(2, 116)] (pst h a f dp) Q := by
  have hT0 := hT
  obtain ⟨htt, hkt, hbn, htx, hbg, hen, hb0, hb1, hn0, hn1, hur, hu⟩ := hT
  refine sp_of (L := [(2, 116)]) pl_X12 (Nat.le_of_ble_eq_true rfl) (tg_c (by decide) tg_0) rfl ?_
  refine v_aload_n dX12_isDigit_0 rfl ?_
  refine v_getv (ci := 12) (j := 20) (ji := 20) (tg := 0) dX12_isDigit_1 k_1436 (by decide) kk_116 (by decide) rfl rfl (by decide) (pst_r20) ?_
  refine v_aload_n dX12_isDigit_4 rfl ?_
  refine v_getv (ci := 12) (j := 19) (ji := 19) (tg := 0) dX12_isDigit_5 k_1435 (by decide) kk_116 (by decide) rfl rfl (by decide) ((pst_j (by decide)).trans (hen)) ?_
  refine v_icmp_ge (tgt := 53) dX12_isDigit_8 (by decide) (fun c8_1 => ?_) (fun c8_1 => ?_)
  · refine v_iconst dX12_isDigit_53 (c32 rfl) ?_
    refine v_iretz dX12_isDigit_54 rfl (by decide) (Nat.le_refl _) (Nat.le_refl _) ?_
    exact q_1 c8_1
  · refine v_aload_n dX12_isDigit_11 rfl ?_
    refine v_getr (ci := 12) (j := 17) (ji := 17) (z := t) dX12_isDigit_12 k_1433 (by decide) kk_116 (by decide) rfl rfl (fun _ => ((pst_j (by decide)).trans (htx))) (by omega) ?_
    refine v_aload_n dX12_isDigit_15 rfl ?_
    refine v_getv (ci := 12) (j := 18) (ji := 18) (tg := 0) dX12_isDigit_16 k_1434 (by decide) kk_116 (by decide) rfl rfl (by decide) ((pst_j (by decide)).trans (hbg)) ?_
    refine v_aload_n dX12_isDigit_19 rfl ?_
    refine v_getv (ci := 12) (j := 20) (ji := 20) (tg := 0) dX12_isDigit_20 k_1436 (by decide) kk_116 (by decide) rfl rfl (by decide) (pst_r20) ?_
    refine v_iaddE dX12_isDigit_23 (by omega) ?_
    refine v_baloadv dX12_isDigit_24 (by omega) hkt (by omega) (by omega) ((pst_c (by omega)).trans (hu a (by omega) (by omega))) ?_
    refine v_bipush dX12_isDigit_25 (c32 rfl) (by decide) ?_
    refine v_icmp_lt (tgt := 53) dX12_isDigit_27 (by decide) (fun c27_2 => ?_) (fun c27_2 => ?_)
    · refine v_iconst dX12_isDigit_53 (c32 rfl) ?_
      refine v_iretz dX12_isDigit_54 rfl (by decide) (Nat.le_refl _) (Nat.le_refl _) ?_
      exact q_2 c8_1 c27_2
    · refine v_aload_n dX12_isDigit_30 rfl ?_
      refine v_getr (ci := 12) (j := 17) (ji := 17) (z := t) dX12_isDigit_31 k_1433 (by decide) kk_116 (by decide) rfl rfl (fun _ => ((pst_j (by decide)).trans (htx))) (by omega) ?_
      refine v_aload_n dX12_isDigit_34 rfl ?_
      refine v_getv (ci := 12) (j := 18) (ji := 18) (tg := 0) dX12_isDigit_35 k_1434 (by decide) kk_116 (by decide) rfl rfl (by decide) ((pst_j (by decide)).trans (hbg)) ?_
      refine v_aload_n dX12_isDigit_38 rfl ?_
      refine v_getv (ci := 12) (j := 20) (ji := 20) (tg := 0) dX12_isDigit_39 k_1436 (by decide) kk_116 (by decide) rfl rfl (by decide) (pst_r20) ?_
      refine v_iaddE dX12_isDigit_42 (by omega) ?_
      refine v_baloadv dX12_isDigit_43 (by omega) hkt (by omega) (by omega) ((pst_c (by omega)).trans (hu a (by omega) (by omega))) ?_
      refine v_bipush dX12_isDigit_44 (c32 rfl) (by decide) ?_
      refine v_icmp_gt (tgt := 53) dX12_isDigit_46 (by decide) (fun c46_3 => ?_) (fun c46_3 => ?_)
      · refine v_iconst dX12_isDigit_53 (c32 rfl) ?_
        refine v_iretz dX12_isDigit_54 rfl (by decide) (Nat.le_refl _) (Nat.le_refl _) ?_
        exact q_3 c8_1 c27_2 c46_3
      · refine v_iconst dX12_isDigit_49 (c32 rfl) ?_
        refine v_goto (tgt := 54) dX12_isDigit_50 (by decide) ?_
        refine v_iretz dX12_isDigit_54 rfl (by decide) (Nat.le_refl _) (Nat.le_refl _) ?_
        exact q_4 c8_1 c27_2 c46_3

