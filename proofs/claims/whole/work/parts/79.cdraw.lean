/-! ===== draws: the class (written by wip/whole/p53.py) ===== -/
theorem pkA_congr {W W' : Int → Int} {n : Int} {m : Nat} : ∀ {j r : Int}, 0 ≤ j → j + m ≤ n → (∀ s, 0 ≤ s → s < n → W s = W' s) → pkA W m j r = pkA W' m j r := by
  induction m with
  | zero => intro j r _ _ _; rfl
  | succ m ih =>
    intro j r hj hn h
    rw [pkA, pkA, h j hj (by omega)]
    rw [ih (j := j + 1) (by omega) (by omega) h]
theorem dpk_congr {W W' : Int → Int} {n r : Int} (hn : 0 ≤ n) (h : ∀ s, 0 ≤ s → s < n → W s = W' s) : dpk W n r = dpk W' n r := pkA_congr (Int.le_refl _) (by omega) h
theorem pkA_1 {W : Int → Int} {n k r : Int} (hk : 0 ≤ k) (h1 : k < n) : pkA W (n - k).toNat k r = if r < W k then k else pkA W (n - (k + 1)).toNat (k + 1) (r - W k) := by
  obtain ⟨m, e⟩ : ∃ m, (n - k).toNat = m + 1 := ⟨(n - k).toNat - 1, by omega⟩
  rw [e, pkA, show (n - (k + 1)).toNat = m by omega]
theorem shr_0 {w : Int} (hw : 0 < w) (hw2 : w ≤ 1000000000000) : shr 0 w = 0 := by
  have h := shr_rng (p := 0) (w := w) (Int.le_refl _) (by decide) hw hw2
  unfold shr at h ⊢
  rw [lmul_eq (by unfold ok64; omega), ldiv_nn (by omega) (by omega) hw (by omega)]
  rw [show (1000 : Int) * 0 = 0 from rfl, Int.zero_ediv]
  decide
theorem SJ_f {h F F' : AH} {cs : Int → List (Int × List Int)} {q : Int} (J : SJ h cs q F) (a : Fr 2 F F') : SJ h cs q F' := ⟨SO_f J.1 (by decide) a, fun s s0 s1 s2 => by rw [a 75 s (Nat.le_of_ble_eq_true rfl)]; exact J.2 s s0 s1 s2⟩
theorem SJ_80 {h F : AH} {cs : Int → List (Int × List Int)} {q i x : Int} (J : SJ h cs q F) : SJ h cs q (hset F 80 i x) := ⟨fun w w0 w1 hc => by
  refine ⟨fun b b0 b1 b2 => ?_, fun e e0 e1 => ?_⟩
  · rw [hset_c (by omega)]; exact (J.1 w w0 w1 hc).1 b b0 b1 b2
  · rw [hset_c (by decide)]; exact (J.1 w w0 w1 hc).2 e e0 e1, fun s s0 s1 s2 => by rw [hset_c (by decide)]; exact J.2 s s0 s1 s2⟩
/-- a weight, as the class finds it -/
theorem wgt_c {h F : AH} {cs : Int → List (Int × List Int)} (I : CI h cs) {s : Int} (hs : 0 ≤ s ∧ s < h 116 65) (J : SJ h cs (h 116 1) F) (hw : h 153 s ≠ -1) : 1 + idiv (mLt h (F (58 + h 153 s)) (h 150 s) (h 116 1) 1) 100 = wgt h cs s (h 116 1) := by
  have sh := I.S.2.2.1 s hs.1 hs.2
  have hO : mLt h (F (58 + h 153 s)) (h 150 s) (h 116 1) = mLt h (fun e => own h cs (h 153 s) (h 116 1) (-1) e) (h 150 s) (h 116 1) := mLt_O I.W sh.1.1 sh.1.2 (fun e e0 e1 => (J.1 (h 153 s) (by omega) (by omega) ⟨s, hs.1, hs.2, rfl⟩).1 e e0 (by omega) (I.m134.2 e e0 (by omega)).2)
  unfold wgt
  by_cases g : h 135 (h 150 s) = -1
  · rw [if_pos g]
    have hp := I.W.pb (q := h 116 1) sh.1.1 sh.1.2
    have e : mLt h (F (58 + h 153 s)) (h 150 s) (h 116 1) 1 = 0 := by
      show shr (sm _ (h 137 (h 150 s))) _ = 0
      rw [I.gr _ sh.1.1 sh.1.2 g, sm_0]
      exact shr_0 (by omega) (by omega)
    rw [e]
    decide
  · rw [if_neg g, hO]

set_option maxHeartbeats 4000000 in
set_option maxRecDepth 100000 in
theorem s_cletterOf {l : Launch} {G : GG} {d : Nat} {h F : AH} {Q : Option AV → List Kd → AH → Prop} {cs : Int → List (Int × List Int)} {w b p q : Int} (hd : 4 ≤ d) (I : CI h cs) (hr : 0 ≤ w ∧ w < 5) (hb : 0 ≤ b ∧ b < h 116 45) (hP : ∀ e, 0 ≤ e → e < h 116 45 → F 63 e = prc h q e) (hp : 0 ≤ p ∧ p < 8) (hq : ∀ F', Fr 2 F F' → Q (some (0, mLt h (F (58 + w)) b q p)) K0 (cst h F')) : Sp l G mX4_letterOf d 0 0 K0 [(2, 5), (0, w), (0, b), (0, p)] (cst h F) Q := by
  refine sp_of (L := [(2, 5), (0, w), (0, b), (0, p)]) pl_X4 (Nat.le_of_ble_eq_true rfl) (tg_c (by decide) (tg_c (by decide) (tg_c (by decide) (tg_c (by decide) tg_0)))) rfl ?_
  refine v_aload_n dX4_letterOf_0 rfl ?_
  refine v_iload_n dX4_letterOf_1 rfl ?_
  refine v_iload_n dX4_letterOf_2 rfl ?_
  refine v_callv (M' := mX4_weigh) (d' := d - 1) (mc' := 0) (ms' := 0) (ci := 4) (c := 5) (As := [_, _]) dX4_letterOf_3 k_974 cm_X4_weigh rfl (by omega) (by decide) kk_5 (Nat.le_of_ble_eq_true rfl) rfl ⟨Nat.le_refl _, Nat.le_refl _⟩ ?_
  refine s_cweigh (q := q) (by omega) I hr hb hP (fun xf_2 c3_1 c3_2 => ?_)
  dsimp only [Option.toList, List.cons_append, List.nil_append, Nat.add_zero]
  refine v_aload_n dX4_letterOf_6 rfl ?_
  refine v_getr (ci := 4) (j := 0) (ji := 0) (z := 6) dX4_letterOf_7 k_353 (by decide) kk_5 (by decide) rfl rfl (fun r => rt_5_0 (r rfl)) (by decide) ?_
  refine v_getrN (ci := 8) (j := 5) (ji := 5) (z := 38) dX4_letterOf_10 k_240 (by decide) kk_6 (by decide) rfl rfl (fun r => rt_6_5 (r rfl)) (by decide) ?_
  refine v_getrN (ci := 2) (j := 0) (ji := 0) (z := 39) dX4_letterOf_13 k_204 (by decide) kk_38 (by decide) rfl rfl (fun r => rt_38_0 (r rfl)) (by decide) ?_
  refine v_iload_n dX4_letterOf_16 rfl ?_
  refine v_ialoadv dX4_letterOf_17 (by decide) kk_39 (by omega) (by omega) (cst_m (by decide)) ?_
  refine v_ireti dX4_letterOf_18 rfl (Nat.le_refl _) (Nat.le_refl _) ?_
  rw [c3_2 p hp.1 hp.2]
  exact hq _ c3_1

set_option maxHeartbeats 4000000 in
set_option maxRecDepth 100000 in
theorem lp_cwp {l : Launch} {G : GG} {d : Nat} {h : AH} {Q : Option AV → List Kd → AH → Prop} {cs : Int → List (Int × List Int)} {F0 : AH} (hd : 5 ≤ d) (I : CI h cs) (hq : ∀ F', Fr 6 F0 F' → SJ h cs (h 116 1) F' → (∀ t, 0 ≤ t → t < h 116 65 → F' 80 t = wF h cs t) → Q (some (0, sm (wF h cs) (h 116 65))) K0 (cst h F')) : ∀ k, 0 ≤ k → k ≤ h 116 65 → ∀ F : AH, Fr 6 F0 F → SJ h cs (h 116 1) F → (∀ t, 0 ≤ t → t < k → F 80 t = wF h cs t) → V l G mX0_weighPreferred d 0 0 0 0 K0 4 [(2, 4), (0, sm (wF h cs) k), (0, k)] [] (cst h F) Q := by
  have nb := I.W.nb
  have ns := I.S.1
  refine loop_m3 (fun k hk hkN ih F hF hJ hW => ?_)
  refine v_iload_n dX0_weighPreferred_4 rfl ?_
  refine v_aload_n dX0_weighPreferred_5 rfl ?_
  refine v_getv (ci := 0) (j := 7) (ji := 7) (tg := 0) dX0_weighPreferred_6 k_381 (by decide) kk_4 (by decide) rfl rfl (by decide) ((cst_n (by decide)).trans (I.f4_7)) ?_
  refine v_icmp_ge (tgt := 75) dX0_weighPreferred_9 (by decide) (fun c9_1 => ?_) (fun c9_1 => ?_)
  · refine v_iload_n dX0_weighPreferred_75 rfl ?_
    refine v_ireti dX0_weighPreferred_76 rfl (Nat.le_refl _) (Nat.le_refl _) ?_
    obtain rfl : k = h 116 65 := by omega
    exact hq _ hF hJ hW
  · have sk9 := I.S.2.2.1 k hk (by omega)
    have r9 := sm_rng (wF_rng I) k hk (by omega)
    have w8 := wF_rng I k hk (by omega)
    refine v_aload_n dX0_weighPreferred_12 rfl ?_
    refine v_getr (ci := 0) (j := 17) (ji := 17) (z := 80) dX0_weighPreferred_13 k_396 (by decide) kk_4 (by decide) rfl rfl (fun r => rt_4_17 (r rfl)) (by decide) ?_
    refine v_iload_n dX0_weighPreferred_16 rfl ?_
    refine v_iconst dX0_weighPreferred_17 (c32 rfl) ?_
    refine v_iastore dX0_weighPreferred_18 (by decide) kk_80 (by omega) (by omega) ?_
    rw [cst_w1 (by decide)]
    refine v_aload_n dX0_weighPreferred_19 rfl ?_
    refine v_getr (ci := 0) (j := 10) (ji := 10) (z := 75) dX0_weighPreferred_20 k_386 (by decide) kk_4 (by decide) rfl rfl (fun r => rt_4_10 (r rfl)) (by decide) ?_
    refine v_iload_n dX0_weighPreferred_23 rfl ?_
    refine v_ialoadv dX0_weighPreferred_24 (by decide) kk_75 (by omega) (by omega) ((cst_m (by decide)).trans ((hset_c (by decide)).trans ((hJ.2 k hk (by omega) (by have := I.m155.2 k hk (by omega); omega))))) ?_
    refine v_iconst dX0_weighPreferred_25 (c32 rfl) ?_
    refine v_icmp_ne (tgt := 60) dX0_weighPreferred_26 (by decide) (fun c26_2 => ?_) (fun c26_2 => ?_)
    · refine v_iload_n dX0_weighPreferred_60 rfl ?_
      refine v_aload_n dX0_weighPreferred_61 rfl ?_
      refine v_getr (ci := 0) (j := 17) (ji := 17) (z := 80) dX0_weighPreferred_62 k_396 (by decide) kk_4 (by decide) rfl rfl (fun r => rt_4_17 (r rfl)) (by decide) ?_
      refine v_iload_n dX0_weighPreferred_65 rfl ?_
      refine v_ialoadv dX0_weighPreferred_66 (by decide) kk_80 (by omega) (by omega) ((cst_m (by decide)).trans (hset_same _ _ _ _)) ?_
      refine v_iaddE dX0_weighPreferred_67 (by omega) ?_
      refine v_istore_n_1 dX0_weighPreferred_68 (by decide) rfl ?_
      refine v_iinc_2 dX0_weighPreferred_69 (by decide) rfl ?_
      rw [iadd_eq (x := k) (y := 1) (by unfold ok32; omega)]
      refine v_goto (tgt := 4) dX0_weighPreferred_72 (by decide) ?_
      have e8 : wF h cs k = 0 := if_neg c26_2
      have e9 : sm (wF h cs) (k + 1) = ((sm (wF h cs) k) + 0) := by rw [sm_s hk, e8]
      have ih9 := ih (by omega) _ (Fr_t hF (Fr_s (Nat.le_of_ble_eq_true rfl))) (SJ_80 hJ) (fun t t0 t1 => by
        by_cases e : t = k
        · subst e; rw [hset_same, e8]
        · rw [hset_j e]; exact hW t t0 (by omega))
      rw [e9] at ih9
      exact ih9
    · have hw9 : h 153 k ≠ -1 := fun z => by
        have e : fI h cs k (h 116 1) = 0 := by
          have e1 : fI h cs k (h 116 1) = fst1 h cs k (h 116 1) := if_pos (by have := I.m155.2 k hk (by omega); omega)
          rw [e1]
          exact if_pos z
        rw [stF_n (by rw [e]; decide), e] at c26_2
        exact absurd c26_2 (by decide)
      refine v_aload_n dX0_weighPreferred_29 rfl ?_
      refine v_getr (ci := 0) (j := 17) (ji := 17) (z := 80) dX0_weighPreferred_30 k_396 (by decide) kk_4 (by decide) rfl rfl (fun r => rt_4_17 (r rfl)) (by decide) ?_
      refine v_iload_n dX0_weighPreferred_33 rfl ?_
      refine v_iconst dX0_weighPreferred_34 (c32 rfl) ?_
      refine v_aload_n dX0_weighPreferred_35 rfl ?_
      refine v_getr (ci := 0) (j := 0) (ji := 0) (z := 5) dX0_weighPreferred_36 k_372 (by decide) kk_4 (by decide) rfl rfl (fun r => rt_4_0 (r rfl)) (by decide) ?_
      refine v_aload_n dX0_weighPreferred_39 rfl ?_
      refine v_getr (ci := 0) (j := 4) (ji := 4) (z := 67) dX0_weighPreferred_40 k_377 (by decide) kk_4 (by decide) rfl rfl (fun r => rt_4_4 (r rfl)) (by decide) ?_
      refine v_iload_n dX0_weighPreferred_43 rfl ?_
      refine v_ialoadv dX0_weighPreferred_44 (by decide) kk_67 (by omega) (by omega) ((cst_n (by decide)).trans ((congrFun I.e67 k))) ?_
      refine v_aload_n dX0_weighPreferred_45 rfl ?_
      refine v_getr (ci := 0) (j := 1) (ji := 1) (z := 64) dX0_weighPreferred_46 k_374 (by decide) kk_4 (by decide) rfl rfl (fun r => rt_4_1 (r rfl)) (by decide) ?_
      refine v_iload_n dX0_weighPreferred_49 rfl ?_
      refine v_ialoadv dX0_weighPreferred_50 (by decide) kk_64 (by omega) (by omega) ((cst_n (by decide)).trans ((congrFun I.e64 k))) ?_
      refine v_iconst dX0_weighPreferred_51 (c32 rfl) ?_
      refine v_callv (M' := mX4_letterOf) (d' := d - 1) (mc' := 0) (ms' := 0) (ci := 4) (c := 5) (As := [_, _, _]) dX0_weighPreferred_52 k_1323 cm_X4_letterOf rfl (by omega) (by decide) kk_5 (Nat.le_of_ble_eq_true rfl) rfl ⟨Nat.le_refl _, Nat.le_refl _⟩ ?_
      refine s_cletterOf (q := h 116 1) (by omega) I ⟨by omega, by omega⟩ sk9.1 ((SJ_80 (i := k) (x := 0) hJ).1 _ (by omega) (by omega) ⟨k, hk, by omega, rfl⟩).2 ⟨by omega, by omega⟩ (fun xf_3 c52_3 => ?_)
      dsimp only [Option.toList, List.cons_append, List.nil_append, Nat.add_zero]
      rw [hset_r (a := 80) (c := 58 + h 153 k) (by omega)]
      refine v_bipush dX0_weighPreferred_55 (c32 rfl) (by decide) ?_
      have ew9 := wgt_c I ⟨hk, by omega⟩ hJ hw9
      have wr9 := wgt_rng (q := h 116 1) I (s := k) ⟨hk, by omega⟩
      refine v_idiv dX0_weighPreferred_57 (by decide) ?_
      refine v_iaddE dX0_weighPreferred_58 (by omega) ?_
      refine v_iastore dX0_weighPreferred_59 (by decide) kk_80 (by omega) (by omega) ?_
      rw [cst_w1 (by decide)]
      refine v_iload_n dX0_weighPreferred_60 rfl ?_
      refine v_aload_n dX0_weighPreferred_61 rfl ?_
      refine v_getr (ci := 0) (j := 17) (ji := 17) (z := 80) dX0_weighPreferred_62 k_396 (by decide) kk_4 (by decide) rfl rfl (fun r => rt_4_17 (r rfl)) (by decide) ?_
      refine v_iload_n dX0_weighPreferred_65 rfl ?_
      refine v_ialoadv dX0_weighPreferred_66 (by decide) kk_80 (by omega) (by omega) ((cst_m (by decide)).trans (hset_same _ _ _ _)) ?_
      refine v_iaddE dX0_weighPreferred_67 (by omega) ?_
      refine v_istore_n_1 dX0_weighPreferred_68 (by decide) rfl ?_
      refine v_iinc_2 dX0_weighPreferred_69 (by decide) rfl ?_
      rw [iadd_eq (x := k) (y := 1) (by unfold ok32; omega)]
      refine v_goto (tgt := 4) dX0_weighPreferred_72 (by decide) ?_
      have e8 : wF h cs k = 1 + idiv (mLt h (F (58 + h 153 k)) (h 150 k) (h 116 1) 1) 100 := by unfold wF; rw [if_pos c26_2]; exact (wgt_c I ⟨hk, by omega⟩ hJ hw9).symm
      have e9 : sm (wF h cs) (k + 1) = ((sm (wF h cs) k) + (1 + (idiv (mLt h (F (58 + (h 153 k))) (h 150 k) (h 116 1) 1) 100))) := by rw [sm_s hk, e8]
      have ih9 := ih (by omega) _ (Fr_t (Fr_t hF (Fr_s (Nat.le_of_ble_eq_true rfl))) (Fr_t (Fr_m (by decide) c52_3) (Fr_s (Nat.le_of_ble_eq_true rfl)))) (SJ_80 (SJ_f (SJ_80 hJ) c52_3)) (fun t t0 t1 => by
        by_cases e : t = k
        · subst e; rw [hset_same, e8]
        · rw [hset_j e, c52_3 80 t (Nat.le_of_ble_eq_true rfl), hset_j e]; exact hW t t0 (by omega))
      rw [e9] at ih9
      exact ih9

set_option maxHeartbeats 4000000 in
set_option maxRecDepth 100000 in
theorem s_cwp {l : Launch} {G : GG} {d : Nat} {h F : AH} {Q : Option AV → List Kd → AH → Prop} {cs : Int → List (Int × List Int)} (hd : 5 ≤ d) (I : CI h cs) (hJ : SJ h cs (h 116 1) F) (hq : ∀ F', Fr 6 F F' → SJ h cs (h 116 1) F' → (∀ t, 0 ≤ t → t < h 116 65 → F' 80 t = wF h cs t) → Q (some (0, sm (wF h cs) (h 116 65))) K0 (cst h F')) : Sp l G mX0_weighPreferred d 0 0 K0 [(2, 4)] (cst h F) Q := by
  refine sp_of (L := [(2, 4), (9, 0), (9, 0)]) pl_X0 (Nat.le_of_ble_eq_true rfl) (tg_c (by decide) tg_0) rfl ?_
  refine v_iconst dX0_weighPreferred_0 (c32 rfl) ?_
  refine v_istore_n_1 dX0_weighPreferred_1 (by decide) rfl ?_
  refine v_iconst dX0_weighPreferred_2 (c32 rfl) ?_
  refine v_istore_n_2 dX0_weighPreferred_3 (by decide) rfl ?_
  exact lp_cwp hd I hq 0 (Int.le_refl _) I.S.1.1 _ Fr_0 hJ (fun t t0 t1 => by omega)

set_option maxHeartbeats 4000000 in
set_option maxRecDepth 100000 in
theorem lp_csa {l : Launch} {G : GG} {d : Nat} {h F : AH} {Q : Option AV → List Kd → AH → Prop} {cs : Int → List (Int × List Int)} {r0 : Int} (hd : 1 ≤ d) (I : CI h cs) (hW : ∀ t, 0 ≤ t → t < h 116 65 → 0 ≤ F 80 t ∧ F 80 t ≤ 200000) : ∀ k, 0 ≤ k → k ≤ h 116 65 → ∀ r, 0 ≤ r → r < 2147483648 → Q (some (0, (pkA (F 80) (h 116 65 - k).toNat k r))) K0 (cst h F) → V l G mX0_shipmentAt d 0 0 0 0 K0 5 [(2, 4), (1, r0), (8, 0), (1, r), (8, 0), (0, k)] [] (cst h F) Q := by
  have ns := I.S.1
  refine loop_m3 (fun k hk hkN ih r hr0 hr1 hq => ?_)
  refine v_iload dX0_shipmentAt_5 rfl ?_
  refine v_aload_n dX0_shipmentAt_7 rfl ?_
  refine v_getv (ci := 0) (j := 7) (ji := 7) (tg := 0) dX0_shipmentAt_8 k_381 (by decide) kk_4 (by decide) rfl rfl (by decide) ((cst_n (by decide)).trans (I.f4_7)) ?_
  refine v_icmp_ge (tgt := 47) dX0_shipmentAt_11 (by decide) (fun c11_1 => ?_) (fun c11_1 => ?_)
  · refine v_iconst dX0_shipmentAt_47 (c32 rfl) ?_
    refine v_ireti dX0_shipmentAt_48 rfl (Nat.le_refl _) (Nat.le_refl _) ?_
    rw [show (h 116 65 - k).toNat = 0 by omega] at hq
    exact hq
  · have w9 := hW k hk (by omega)
    refine v_lload_n dX0_shipmentAt_14 rfl ?_
    refine v_aload_n dX0_shipmentAt_15 rfl ?_
    refine v_getr (ci := 0) (j := 17) (ji := 17) (z := 80) dX0_shipmentAt_16 k_396 (by decide) kk_4 (by decide) rfl rfl (fun r => rt_4_17 (r rfl)) (by decide) ?_
    refine v_iload dX0_shipmentAt_19 rfl ?_
    refine v_ialoadv dX0_shipmentAt_21 (by decide) kk_80 (by omega) (by omega) (cst_m (by decide)) ?_
    refine v_i2l dX0_shipmentAt_22 ?_
    refine v_lcmp_ge (tgt := 30) dX0_shipmentAt_23 dX0_shipmentAt_24 (by decide) (fun c23_2 => ?_) (fun c23_2 => ?_)
    · refine v_lload_n dX0_shipmentAt_30 rfl ?_
      refine v_aload_n dX0_shipmentAt_31 rfl ?_
      refine v_getr (ci := 0) (j := 17) (ji := 17) (z := 80) dX0_shipmentAt_32 k_396 (by decide) kk_4 (by decide) rfl rfl (fun r => rt_4_17 (r rfl)) (by decide) ?_
      refine v_iload dX0_shipmentAt_35 rfl ?_
      refine v_ialoadv dX0_shipmentAt_37 (by decide) kk_80 (by omega) (by omega) (cst_m (by decide)) ?_
      refine v_i2l dX0_shipmentAt_38 ?_
      refine v_lsubE dX0_shipmentAt_39 (by omega) ?_
      refine v_lstore_n_3 dX0_shipmentAt_40 (by decide) rfl ?_
      refine v_iinc_5 dX0_shipmentAt_41 (by decide) rfl ?_
      rw [iadd_eq (x := k) (y := 1) (by unfold ok32; omega)]
      refine v_goto (tgt := 5) dX0_shipmentAt_44 (by decide) ?_
      have e9 : pkA (F 80) (h 116 65 - k).toNat k r = pkA (F 80) (h 116 65 - (k + 1)).toNat (k + 1) (r - F 80 k) := by rw [pkA_1 hk (by omega), if_neg (by omega)]
      rw [e9] at hq
      exact ih (by omega) _ (by omega) (by omega) hq
    · refine v_iload dX0_shipmentAt_27 rfl ?_
      refine v_ireti dX0_shipmentAt_29 rfl (Nat.le_refl _) (Nat.le_refl _) ?_
      rw [pkA_1 hk (by omega), if_pos (by omega)] at hq
      exact hq

set_option maxHeartbeats 4000000 in
set_option maxRecDepth 100000 in
theorem s_csa {l : Launch} {G : GG} {d : Nat} {h F : AH} {Q : Option AV → List Kd → AH → Prop} {cs : Int → List (Int × List Int)} {r : Int} (hd : 1 ≤ d) (I : CI h cs) (hW : ∀ t, 0 ≤ t → t < h 116 65 → 0 ≤ F 80 t ∧ F 80 t ≤ 200000) (hr : 0 ≤ r ∧ r < 2147483648) (hq : Q (some (0, dpk (F 80) (h 116 65) r)) K0 (cst h F)) : Sp l G mX0_shipmentAt d 0 0 K0 [(2, 4), (1, r)] (cst h F) Q := by
  refine sp_of (L := [(2, 4), (1, r), (8, 0), (9, 0), (9, 0), (9, 0)]) pl_X0 (Nat.le_of_ble_eq_true rfl) (tg_c (by decide) (tg_c (by decide) tg_0)) rfl ?_
  refine v_lload_n dX0_shipmentAt_0 rfl ?_
  refine v_lstore_n_3 dX0_shipmentAt_1 (by decide) rfl ?_
  refine v_iconst dX0_shipmentAt_2 (c32 rfl) ?_
  refine v_istore_5 dX0_shipmentAt_3 (by decide) rfl ?_
  have q9 := lp_csa (l := l) (G := G) (d := d) (r0 := r) (Q := Q) hd I hW 0 (Int.le_refl _) I.S.1.1 r hr.1 hr.2 (by rw [Int.sub_zero]; exact hq)
  exact q9

set_option maxHeartbeats 4000000 in
set_option maxRecDepth 100000 in
theorem lp_cdraw {l : Launch} {G : GG} {d : Nat} {h : AH} {Q : Option AV → List Kd → AH → Prop} {cs : Int → List (Int × List Int)} {F0 : AH} {x0 i : Int} (hd : 2 ≤ d) (I : CI h cs) (hi : 0 ≤ i ∧ i < (sm (cP h cs (h 116 1)) (h 116 65))) (hq : ∀ F' (p : DT), p = (dF (h 116 65) (x0, sm (wF h cs) (h 116 65), wF h cs, -1) (i + 1)) → Fr 6 F0 F' → Q (some (0, p.2.2.2)) K0 (cst h F')) : ∀ k, 0 ≤ k → k ≤ i + 1 → ∀ p : DT, p = (dF (h 116 65) (x0, sm (wF h cs) (h 116 65), wF h cs, -1) k) → ∀ F : AH, Fr 6 F0 F → DI (h 116 65) ((sm (cP h cs (h 116 1)) (h 116 65)) - k) p → (∀ t, 0 ≤ t → t < h 116 65 → F 80 t = p.2.2.1 t) → V l G mX0_drawOne d 0 0 0 0 K0 15 [(2, 4), (1, x0), (8, 0), (0, i), (0, p.2.1), (1, p.1), (8, 0), (0, p.2.2.2), (0, k)] [] (cst h F) Q := by
  have ns := I.S.1
  have al9 := sm_rng (cP_r (h := h) (cs := cs) (q := h 116 1) (n := h 116 65)) (h 116 65) ns.1 (Int.le_refl _)
  refine loop_m3 (fun k hk hkN ih p hp F hF D hW => ?_)
  refine v_iload dX0_drawOne_15 rfl ?_
  refine v_iload_n dX0_drawOne_17 rfl ?_
  refine v_icmp_gt (tgt := 79) dX0_drawOne_18 (by decide) (fun c18_1 => ?_) (fun c18_1 => ?_)
  · refine v_iload dX0_drawOne_79 rfl ?_
    refine v_ireti dX0_drawOne_81 rfl (Nat.le_refl _) (Nat.le_refl _) ?_
    obtain rfl : k = i + 1 := by omega
    exact hq _ p hp hF
  · refine v_iload dX0_drawOne_21 rfl ?_
    refine v_if_le (tgt := 79) dX0_drawOne_23 (by decide) (fun c23_2 => ?_) (fun c23_2 => ?_)
    · refine v_iload dX0_drawOne_79 rfl ?_
      refine v_ireti dX0_drawOne_81 rfl (Nat.le_refl _) (Nat.le_refl _) ?_
      exfalso
      have := DI_pos ns D (by omega)
      omega
    · have D9 := D
      have hp9 := DI_pos ns D (by omega)
      have hm9 := mrk_rng hp9.1 hp9.2
      unfold mrk at hm9
      have pk9 := DI_pick ns D (by omega)
      obtain ⟨J9, hJ9⟩ : ∃ J9, J9 = dpk p.2.2.1 (h 116 65) (mrk p) := ⟨_, rfl⟩
      rw [← hJ9] at pk9
      have wj9 := D.2.2 J9 pk9.1 pk9.2.1
      refine v_lload dX0_drawOne_26 rfl ?_
      refine v_ldc2 (n := 6364136223846793005) dX0_drawOne_28 k_1324 (c64 rfl) (by decide) ?_
      refine v_lmul dX0_drawOne_31 ?_
      refine v_ldc2 (n := 1442695040888963407) dX0_drawOne_32 k_1325 (c64 rfl) (by decide) ?_
      refine v_ladd dX0_drawOne_35 ?_
      refine v_lstore_5 dX0_drawOne_36 (by decide) rfl ?_
      refine v_aload_n dX0_drawOne_38 rfl ?_
      refine v_lload dX0_drawOne_39 rfl ?_
      refine v_bipush dX0_drawOne_41 (c32 rfl) (by decide) ?_
      refine v_lushr dX0_drawOne_43 ?_
      refine v_iload dX0_drawOne_44 rfl ?_
      refine v_i2l dX0_drawOne_46 ?_
      refine v_lrem dX0_drawOne_47 (by omega) ?_
      have hd9 : dpk (F 80) (h 116 65) (mrk p) = dpk p.2.2.1 (h 116 65) (mrk p) := dpk_congr ns.1 hW
      refine v_callv (M' := mX0_shipmentAt) (d' := d - 1) (mc' := 0) (ms' := 0) (ci := 0) (c := 4) (As := [_]) dX0_drawOne_48 k_1326 cm_X0_shipmentAt rfl (by omega) (by decide) kk_4 (Nat.le_of_ble_eq_true rfl) rfl ⟨Nat.le_refl _, Nat.le_refl _⟩ ?_
      refine s_csa (by omega) I (fun t t0 t1 => by rw [hW t t0 t1]; exact D9.2.2 t t0 t1) ⟨hm9.1, by omega⟩ ?_
      dsimp only [Option.toList, List.cons_append, List.nil_append, Nat.add_zero]
      rw [show dpk (F 80) (h 116 65) (lrem (lushr (ladd (lmul p.1 6364136223846793005) 1442695040888963407) 33) p.2.1) = J9 from hd9.trans hJ9.symm]
      refine v_istore_7 dX0_drawOne_51 (by decide) rfl ?_
      refine v_iload dX0_drawOne_53 rfl ?_
      refine v_aload_n dX0_drawOne_55 rfl ?_
      refine v_getr (ci := 0) (j := 17) (ji := 17) (z := 80) dX0_drawOne_56 k_396 (by decide) kk_4 (by decide) rfl rfl (fun r => rt_4_17 (r rfl)) (by decide) ?_
      refine v_iload dX0_drawOne_59 rfl ?_
      refine v_ialoadv dX0_drawOne_61 (by decide) kk_80 (by omega) (by omega) ((cst_m (by decide)).trans ((hW J9 (by omega) (by omega)))) ?_
      refine v_isubE dX0_drawOne_62 (by omega) ?_
      refine v_istore_4 dX0_drawOne_63 (by decide) rfl ?_
      refine v_aload_n dX0_drawOne_65 rfl ?_
      refine v_getr (ci := 0) (j := 17) (ji := 17) (z := 80) dX0_drawOne_66 k_396 (by decide) kk_4 (by decide) rfl rfl (fun r => rt_4_17 (r rfl)) (by decide) ?_
      refine v_iload dX0_drawOne_69 rfl ?_
      refine v_iconst dX0_drawOne_71 (c32 rfl) ?_
      refine v_iastore dX0_drawOne_72 (by decide) kk_80 (by omega) (by omega) ?_
      rw [cst_w1 (by decide)]
      refine v_iinc_8 dX0_drawOne_73 (by decide) rfl ?_
      rw [iadd_eq (x := k) (y := 1) (by unfold ok32; omega)]
      refine v_goto (tgt := 15) dX0_drawOne_76 (by decide) ?_
      have eS : dS (h 116 65) p = (ladd (lmul p.1 6364136223846793005) 1442695040888963407, p.2.1 - p.2.2.1 J9, fset p.2.2.1 J9 0, J9) := by unfold dS; rw [← hJ9]
      have ih9 := ih (by omega) (dS (h 116 65) p) (by rw [hp]; exact (dF_s hk).symm) _ (Fr_t hF (Fr_s (Nat.le_of_ble_eq_true rfl))) (by rw [show (sm (cP h cs (h 116 1)) (h 116 65)) - (k + 1) = (sm (cP h cs (h 116 1)) (h 116 65)) - k - 1 by omega]; exact DI_s ns D (by omega)) (fun t t0 t1 => by
        rw [eS]
        show _ = fset p.2.2.1 J9 0 t
        by_cases e : t = J9
        · rw [e, hset_same, fset_same]
        · rw [hset_j e, fset_ne e]; exact hW t t0 t1)
      rw [eS] at ih9
      dsimp only at ih9
      exact ih9

set_option maxHeartbeats 4000000 in
set_option maxRecDepth 100000 in
theorem s_cdraw1 {l : Launch} {G : GG} {d : Nat} {h F : AH} {Q : Option AV → List Kd → AH → Prop} {cs : Int → List (Int × List Int)} {x0 i : Int} (hd : 6 ≤ d) (I : CI h cs) (hJ : SJ h cs (h 116 1) F) (hi : 0 ≤ i ∧ i < (sm (cP h cs (h 116 1)) (h 116 65))) (hq : ∀ F', Q (some (0, (dF (h 116 65) (x0, sm (wF h cs) (h 116 65), wF h cs, -1) (i + 1)).2.2.2)) K0 (cst h F')) : Sp l G mX0_drawOne d 0 0 K0 [(2, 4), (1, x0), (0, i)] (cst h F) Q := by
  refine sp_of (L := [(2, 4), (1, x0), (8, 0), (0, i), (9, 0), (9, 0), (9, 0), (9, 0), (9, 0)]) pl_X0 (Nat.le_of_ble_eq_true rfl) (tg_c (by decide) (tg_c (by decide) (tg_c (by decide) tg_0))) rfl ?_
  refine v_aload_n dX0_drawOne_0 rfl ?_
  refine v_callv (M' := mX0_weighPreferred) (d' := d - 1) (mc' := 0) (ms' := 0) (ci := 0) (c := 4) (As := []) dX0_drawOne_1 k_1319 cm_X0_weighPreferred rfl (by omega) (by decide) kk_4 (Nat.le_of_ble_eq_true rfl) rfl ⟨Nat.le_refl _, Nat.le_refl _⟩ ?_
  refine s_cwp (by omega) I hJ (fun xf_3 c1_1 c1_2 c1_3 => ?_)
  dsimp only [Option.toList, List.cons_append, List.nil_append, Nat.add_zero]
  refine v_istore_4 dX0_drawOne_4 (by decide) rfl ?_
  refine v_lload_n dX0_drawOne_6 rfl ?_
  refine v_lstore_5 dX0_drawOne_7 (by decide) rfl ?_
  refine v_iconst dX0_drawOne_9 (c32 rfl) ?_
  refine v_istore_7 dX0_drawOne_10 (by decide) rfl ?_
  refine v_iconst dX0_drawOne_12 (c32 rfl) ?_
  refine v_istore_8 dX0_drawOne_13 (by decide) rfl ?_
  refine lp_cdraw (l := l) (G := G) (d := d) (x0 := x0) (i := i) (Q := Q) (by omega) I hi (fun F' p hp hF => ?_) 0 (Int.le_refl _) (by omega) (x0, sm (wF h cs) (h 116 65), wF h cs, -1) rfl _ Fr_0 (by rw [Int.sub_zero]; exact DI_0 I) c1_3
  subst hp
  exact hq F'

set_option maxHeartbeats 4000000 in
set_option maxRecDepth 100000 in
theorem s_Fcheck {l : Launch} {G : GG} {d : Nat} {h F : AH} {Q : Option AV → List Kd → AH → Prop} {cs : Int → List (Int × List Int)} {n x0 i : Int} (hd : 8 ≤ d) (I : CI h cs) (q0 : ¬ (1 ≤ n ∧ (0 ≤ i ∧ i ≤ n - 1) ∧ n ≤ (sm (cP h cs (h 116 1)) (h 116 65))) → ∀ F', Q (some (0, -1)) K0 (cst h F')) (q1 : 1 ≤ n ∧ (0 ≤ i ∧ i ≤ n - 1) ∧ n ≤ (sm (cP h cs (h 116 1)) (h 116 65)) → ∀ F', Q (some (0, (dF (h 116 65) (x0, sm (wF h cs) (h 116 65), wF h cs, -1) (i + 1)).2.2.2)) K0 (cst h F')) : Sp l G mX11_check d 0 0 K0 [(2, 0), (0, n), (1, x0), (0, i)] (cst h F) Q := by
  refine sp_of (L := [(2, 0), (0, n), (1, x0), (8, 0), (0, i)]) pl_X11 (Nat.le_of_ble_eq_true rfl) (tg_c (by decide) (tg_c (by decide) (tg_c (by decide) (tg_c (by decide) tg_0)))) rfl ?_
  refine v_iload_n dX11_check_0 rfl ?_
  refine v_iconst dX11_check_1 (c32 rfl) ?_
  refine v_icmp_lt (tgt := 17) dX11_check_2 (by decide) (fun c2_1 => ?_) (fun c2_1 => ?_)
  · refine v_iconst dX11_check_17 (c32 rfl) ?_
    refine v_ireti dX11_check_18 rfl (Nat.le_refl _) (Nat.le_refl _) ?_
    exact q0 (by omega) _
  · refine v_known (fun hL9 _ => ?_)
    have hn32 : ok32 n := (hL9 (0, n) (by simp)).1 rfl
    unfold ok32 at hn32
    refine v_iload dX11_check_5 rfl ?_
    refine v_iconst dX11_check_7 (c32 rfl) ?_
    refine v_iload_n dX11_check_8 rfl ?_
    refine v_iconst dX11_check_9 (c32 rfl) ?_
    refine v_isubE dX11_check_10 (by omega) ?_
    refine v_calls (M' := mX11_within) (d' := d - 1) (mc' := 0) (ms' := 0) (As := [_, _, _]) dX11_check_11 k_586 cm_X11_within (by omega) (Nat.le_of_ble_eq_true rfl) rfl ⟨Nat.le_refl _, Nat.le_refl _⟩ ?_
    refine s_X11_within (by omega) (fun c11_2 => ?_) (fun c11_3 c11_4 => ?_) (fun c11_5 c11_6 => ?_)
    · dsimp only [Option.toList, List.cons_append, List.nil_append, Nat.add_zero]
      refine v_if_ne_f (tgt := 19) dX11_check_14 (by decide) (by decide) ?_
      refine v_iconst dX11_check_17 (c32 rfl) ?_
      refine v_ireti dX11_check_18 rfl (Nat.le_refl _) (Nat.le_refl _) ?_
      exact q0 (by omega) _
    · dsimp only [Option.toList, List.cons_append, List.nil_append, Nat.add_zero]
      refine v_if_ne_f (tgt := 19) dX11_check_14 (by decide) (by decide) ?_
      refine v_iconst dX11_check_17 (c32 rfl) ?_
      refine v_ireti dX11_check_18 rfl (Nat.le_refl _) (Nat.le_refl _) ?_
      exact q0 (by omega) _
    · dsimp only [Option.toList, List.cons_append, List.nil_append, Nat.add_zero]
      refine v_if_ne_t (tgt := 19) dX11_check_14 (by decide) (by decide) ?_
      refine v_aload_n dX11_check_19 rfl ?_
      refine v_getr (ci := 11) (j := 6) (ji := 6) (z := 4) dX11_check_20 k_560 (by decide) kk_0 (by decide) rfl rfl (fun r => rt_0_6 (r rfl)) (by decide) ?_
      refine v_aload_n dX11_check_23 rfl ?_
      refine v_getv (ci := 11) (j := 0) (ji := 0) (tg := 0) dX11_check_24 k_554 (by decide) kk_0 (by decide) rfl rfl (by decide) ((cst_n (by decide)).trans (I.f0_0)) ?_
      refine v_callv (M' := mX0_judge) (d' := d - 1) (mc' := 0) (ms' := 0) (ci := 0) (c := 4) (As := [_]) dX11_check_27 k_1083 cm_X0_judge rfl (by omega) (by decide) kk_4 (Nat.le_of_ble_eq_true rfl) rfl ⟨Nat.le_refl _, Nat.le_refl _⟩ ?_
      refine s_cbjudge (by omega) I (by omega) (fun xf_8 c27_7 c27_8 => ?_)
      dsimp only [Option.toList, List.cons_append, List.nil_append, Nat.add_zero]
      refine v_iload_n dX11_check_30 rfl ?_
      refine v_aload_n dX11_check_31 rfl ?_
      refine v_getr (ci := 11) (j := 6) (ji := 6) (z := 4) dX11_check_32 k_560 (by decide) kk_0 (by decide) rfl rfl (fun r => rt_0_6 (r rfl)) (by decide) ?_
      refine v_callv (M' := mX0_countPreferred) (d' := d - 1) (mc' := 0) (ms' := 0) (ci := 0) (c := 4) (As := []) dX11_check_35 k_1311 cm_X0_countPreferred rfl (by omega) (by decide) kk_4 (Nat.le_of_ble_eq_true rfl) rfl ⟨Nat.le_refl _, Nat.le_refl _⟩ ?_
      refine s_ccp (by omega) I c27_8 ?_
      dsimp only [Option.toList, List.cons_append, List.nil_append, Nat.add_zero]
      refine v_icmp_gt (tgt := 54) dX11_check_38 (by decide) (fun c38_9 => ?_) (fun c38_9 => ?_)
      · refine v_iconst dX11_check_54 (c32 rfl) ?_
        refine v_ireti dX11_check_55 rfl (Nat.le_refl _) (Nat.le_refl _) ?_
        exact q0 (by omega) _
      · refine v_aload_n dX11_check_41 rfl ?_
        refine v_getr (ci := 11) (j := 6) (ji := 6) (z := 4) dX11_check_42 k_560 (by decide) kk_0 (by decide) rfl rfl (fun r => rt_0_6 (r rfl)) (by decide) ?_
        refine v_lload_n dX11_check_45 rfl ?_
        refine v_iload dX11_check_46 rfl ?_
        refine v_callv (M' := mX0_drawOne) (d' := d - 1) (mc' := 0) (ms' := 0) (ci := 0) (c := 4) (As := [_, _]) dX11_check_48 k_1315 cm_X0_drawOne rfl (by omega) (by decide) kk_4 (Nat.le_of_ble_eq_true rfl) rfl ⟨Nat.le_refl _, Nat.le_refl _⟩ ?_
        refine s_cdraw1 (by omega) I c27_8 ⟨by omega, by omega⟩ (fun xf_9 => ?_)
        dsimp only [Option.toList, List.cons_append, List.nil_append, Nat.add_zero]
        refine v_goto (tgt := 55) dX11_check_51 (by decide) ?_
        refine v_ireti dX11_check_55 rfl (Nat.le_refl _) (Nat.le_refl _) ?_
        exact q1 (by omega) _

