/-! ===== sourcing: the class seeks (written by wip/whole/p64.py) ===== -/
theorem hcpy_96 {h F : AH} : hcpy (cst h F) 95 0 96 0 4 = cst h (ov1 F 96 (fun j => if 0 ≤ j ∧ j < 4 then F 95 j else F 96 j)) := by
  funext a b
  by_cases e : a = 96
  · subst e
    rw [cst_m (by decide), ov1_s]
    unfold hcpy
    by_cases e2 : 0 ≤ b ∧ b < 4
    · rw [if_pos ⟨rfl, by omega, by omega⟩, if_pos e2, cst_m (by decide)]
      congr 1
      omega
    · rw [if_neg (fun z => e2 ⟨z.2.1, by omega⟩), if_neg e2, cst_m (by decide)]
  · rw [hcpy_c e]
    unfold cst
    rw [ov1_c e]
/-- the picks, by their number -/
def PK (h : AH) (n : Int) : Int → Int := dgA (h 167) (npF (h 167)).toNat n (fun _ => 0)
def SNk (h : AH) (cs : Int → List (Int × List Int)) (g : GD) (n : Int) : SB := rR (cst4 h cs g) (PK h) 0 n.toNat (-1, fun _ => 0)
theorem SNk_s {h : AH} {cs : Int → List (Int × List Int)} {g : GD} {n : Int} (hn : 0 ≤ n) : SNk h cs g (n + 1) = bsS (cst4 h cs g) (PK h n) (SNk h cs g n) := by
  unfold SNk
  rw [show (n + 1).toNat = n.toNat + 1 by omega]
  show bsS (cst4 h cs g) (PK h (0 + (n.toNat : Int))) _ = _
  rw [show (0 : Int) + (n.toNat : Int) = n by omega]
theorem cst4_r {h : AH} {cs : Int → List (Int × List Int)} {g : GD} {t : Int → Int} (I : CI h cs) (hg : GB g) (ht : ∀ p, 0 ≤ p → p < npF (h 167) → 0 ≤ t p ∧ t p < h 167 p) : (0 ≤ sm (cV h t) (npF (h 167)) ∧ sm (cV h t) (npF (h 167)) ≤ 4000000) ∧ (0 ≤ trf h g ∧ trf h g ≤ 1000) ∧ (0 ≤ cst4 h cs g t ∧ cst4 h cs g t ≤ 5000000) := by
  have np9 := (@npF_r (h 167)).1
  have hv : ∀ i, 0 ≤ i → i < npF (h 167) → 0 ≤ cV h t i ∧ cV h t i ≤ 1000000 := fun i i0 i1 => by have t9 := ht i i0 i1; have k9 := I.ofn i i0 (by omega); exact (I.ofk (4 * i + t i) (by omega) (by omega)).1
  have s1 := sm_rng (f := cV h t) (N := npF (h 167)) (B := 1000000) hv (npF (h 167)) np9.1 (Int.le_refl _)
  have t1 : 0 ≤ trf h g ∧ trf h g ≤ 1000 := I.ta _ (by have := hg.2.1; have := hg.2.2.2.2; omega) (by have := hg.2.1; have := hg.2.2.2.2; omega)
  have r1 := rtF4_r (cs := cs) (t := t) t1 (k := 4) (by decide)
  have m1 := du1000 (x := g.2.2.2.1) ⟨by have := hg.2.2.2.1; omega, hg.2.2.2.1.2⟩ r1.1 (Int.le_refl _) r1.2
  refine ⟨by omega, t1, ?_⟩
  unfold cst4
  omega

set_option maxHeartbeats 4000000 in
set_option maxRecDepth 100000 in
theorem lp_srate2 {l : Launch} {G : GG} {d : Nat} {h : AH} {Q : Option AV → List Kd → AH → Prop} {cs : Int → List (Int × List Int)} {F0 : AH} {g : GD} (hd : 6 ≤ d) (I : CI h cs) (hg : GB g) (ha0 : AR h cs g 4 F0) (hr0 : PRk h F0) (hq : ∀ F', Fr 2 F0 F' → Q (some (0, rtF4 h cs g (F0 95) 4)) K0 (cst h F')) : ∀ k, 0 ≤ k → k ≤ 4 → ∀ F : AH, Fr 2 F0 F → V l G mX5_findRate d 0 0 0 0 K0 7 [(2, 87), (2, 6), (0, rtF4 h cs g (F0 95) k), (0, k)] [] (cst h F) Q := by
  refine loop_m3 (fun k hk hkN ih F hF => ?_)
  have e95 : F 95 = F0 95 := Fr_r hF (fun j => Nat.le_of_ble_eq_true rfl)
  have ha : AR h cs g 4 F := AR_f ha0 (Fr_m (by decide) hF)
  have hr : PRk h F := by unfold PRk; rw [e95]; exact hr0
  have rw9 := @rtW_r h cs g k
  by_cases tw : twoW h g k
  · refine v_iload_n dX5_findRate_7 rfl ?_
    refine v_iconst dX5_findRate_8 (c32 rfl) ?_
    refine v_icmp_ge (tgt := 54) dX5_findRate_9 (by decide) (fun c9_1 => ?_) (fun c9_1 => ?_)
    · refine v_iload_n dX5_findRate_54 rfl ?_
      refine v_ireti dX5_findRate_55 rfl (Nat.le_refl _) (Nat.le_refl _) ?_
      obtain rfl : k = 4 := by omega
      exact hq _ hF
    · refine v_aload_n dX5_findRate_12 rfl ?_
      refine v_getr (ci := 5) (j := 12) (ji := 12) (z := 94) dX5_findRate_13 k_482 (by decide) kk_87 (by decide) rfl rfl (fun r => rt_87_12 (r rfl)) (by decide) ?_
      refine v_iload_n dX5_findRate_16 rfl ?_
      refine v_ialoadv dX5_findRate_17 (by decide) kk_94 (by omega) (by omega) ((cst_m (by decide)).trans (((ha.2.2.2 k hk (by omega)).1 tw).2)) ?_
      refine v_iconst dX5_findRate_18 (c32 rfl) ?_
      refine v_icmp_eq (tgt := 48) dX5_findRate_19 (by decide) (fun c19_2 => ?_) (fun c19_2 => ?_)
      · refine v_iinc_3 dX5_findRate_48 (by decide) rfl ?_
        rw [iadd_eq (x := k) (y := 1) (by unfold ok32; omega)]
        refine v_goto (tgt := 7) dX5_findRate_51 (by decide) ?_
        have ih9 := ih (by omega) _ hF
        have e9 : rS h cs g (F0 95) k (rtF4 h cs g (F0 95) k) = rtF4 h cs g (F0 95) k := by unfold rS; split <;> omega
        rw [rtF4_s hk, e9] at ih9
        exact ih9
      · refine v_aload_n dX5_findRate_22 rfl ?_
        refine v_getr (ci := 5) (j := 12) (ji := 12) (z := 94) dX5_findRate_23 k_482 (by decide) kk_87 (by decide) rfl rfl (fun r => rt_87_12 (r rfl)) (by decide) ?_
        refine v_iload_n dX5_findRate_26 rfl ?_
        refine v_ialoadv dX5_findRate_27 (by decide) kk_94 (by omega) (by omega) ((cst_m (by decide)).trans (((ha.2.2.2 k hk (by omega)).1 tw).2)) ?_
        refine v_iload_n dX5_findRate_28 rfl ?_
        refine v_icmp_ge (tgt := 48) dX5_findRate_29 (by decide) (fun c29_3 => ?_) (fun c29_3 => ?_)
        · refine v_iinc_3 dX5_findRate_48 (by decide) rfl ?_
          rw [iadd_eq (x := k) (y := 1) (by unfold ok32; omega)]
          refine v_goto (tgt := 7) dX5_findRate_51 (by decide) ?_
          have ih9 := ih (by omega) _ hF
          have e9 : rS h cs g (F0 95) k (rtF4 h cs g (F0 95) k) = rtF4 h cs g (F0 95) k := by unfold rS; split <;> omega
          rw [rtF4_s hk, e9] at ih9
          exact ih9
        · refine v_aload_n dX5_findRate_32 rfl ?_
          refine v_aload_n dX5_findRate_33 rfl ?_
          refine v_iload_n dX5_findRate_34 rfl ?_
          refine v_callv (M' := mX5_isOwn) (d' := d - 1) (mc' := 0) (ms' := 0) (ci := 5) (c := 87) (As := [_, _]) dX5_findRate_35 k_1238 cm_X5_isOwn rfl (by omega) (by decide) kk_87 (Nat.le_of_ble_eq_true rfl) rfl ⟨Nat.le_refl _, Nat.le_refl _⟩ ?_
          refine s_sown (g := g) (by omega) I hg ha hr ⟨by omega, by omega⟩ tw (fun xf_5 c35_4 c35_5 => ?_) (fun xf_7 c35_6 c35_7 => ?_)
          · dsimp only [Option.toList, List.cons_append, List.nil_append, Nat.add_zero]
            refine v_if_eq_t (tgt := 48) dX5_findRate_38 (by decide) (by decide) ?_
            refine v_iinc_3 dX5_findRate_48 (by decide) rfl ?_
            rw [iadd_eq (x := k) (y := 1) (by unfold ok32; omega)]
            refine v_goto (tgt := 7) dX5_findRate_51 (by decide) ?_
            rw [e95] at c35_5
            have ih9 := ih (by omega) _ (Fr_t hF c35_4)
            have e9 : rS h cs g (F0 95) k (rtF4 h cs g (F0 95) k) = rtF4 h cs g (F0 95) k := by unfold rS; rw [if_neg (fun z => z.2 c35_5)]
            rw [rtF4_s hk, e9] at ih9
            exact ih9
          · dsimp only [Option.toList, List.cons_append, List.nil_append, Nat.add_zero]
            refine v_if_eq_f (tgt := 48) dX5_findRate_38 (by decide) (by decide) ?_
            have FRX := c35_6
            refine v_aload_n dX5_findRate_41 rfl ?_
            refine v_getr (ci := 5) (j := 12) (ji := 12) (z := 94) dX5_findRate_42 k_482 (by decide) kk_87 (by decide) rfl rfl (fun r => rt_87_12 (r rfl)) (by decide) ?_
            refine v_iload_n dX5_findRate_45 rfl ?_
            refine v_ialoadv dX5_findRate_46 (by decide) kk_94 (by omega) (by omega) ((cst_m (by decide)).trans ((FRX 94 k (Nat.le_of_ble_eq_true rfl)).trans ((ha.2.2.2 k hk (by omega)).1 tw).2)) ?_
            refine v_istore_n_2 dX5_findRate_47 (by decide) rfl ?_
            refine v_iinc_3 dX5_findRate_48 (by decide) rfl ?_
            rw [iadd_eq (x := k) (y := 1) (by unfold ok32; omega)]
            refine v_goto (tgt := 7) dX5_findRate_51 (by decide) ?_
            rw [e95] at c35_7
            have ih9 := ih (by omega) _ (Fr_t hF c35_6)
            have e9 : rS h cs g (F0 95) k (rtF4 h cs g (F0 95) k) = rtW h cs g k := by unfold rS; rw [if_pos ⟨tw, c35_7⟩]; omega
            rw [rtF4_s hk, e9] at ih9
            exact ih9
  · refine v_iload_n dX5_findRate_7 rfl ?_
    refine v_iconst dX5_findRate_8 (c32 rfl) ?_
    refine v_icmp_ge (tgt := 54) dX5_findRate_9 (by decide) (fun c9_1 => ?_) (fun c9_1 => ?_)
    · refine v_iload_n dX5_findRate_54 rfl ?_
      refine v_ireti dX5_findRate_55 rfl (Nat.le_refl _) (Nat.le_refl _) ?_
      obtain rfl : k = 4 := by omega
      exact hq _ hF
    · refine v_aload_n dX5_findRate_12 rfl ?_
      refine v_getr (ci := 5) (j := 12) (ji := 12) (z := 94) dX5_findRate_13 k_482 (by decide) kk_87 (by decide) rfl rfl (fun r => rt_87_12 (r rfl)) (by decide) ?_
      refine v_iload_n dX5_findRate_16 rfl ?_
      refine v_ialoadv dX5_findRate_17 (by decide) kk_94 (by omega) (by omega) ((cst_m (by decide)).trans ((ha.2.2.2 k hk (by omega)).2 tw)) ?_
      refine v_iconst dX5_findRate_18 (c32 rfl) ?_
      refine v_icmp_eq_t (tgt := 48) dX5_findRate_19 (by decide) (by decide) ?_
      refine v_iinc_3 dX5_findRate_48 (by decide) rfl ?_
      rw [iadd_eq (x := k) (y := 1) (by unfold ok32; omega)]
      refine v_goto (tgt := 7) dX5_findRate_51 (by decide) ?_
      have ih9 := ih (by omega) _ hF
      rw [rtF4_s hk] at ih9
      unfold rS okW at ih9
      rw [if_neg (fun z => tw z.1)] at ih9
      exact ih9

set_option maxHeartbeats 4000000 in
set_option maxRecDepth 100000 in
theorem s_srate2 {l : Launch} {G : GG} {d : Nat} {h F : AH} {Q : Option AV → List Kd → AH → Prop} {cs : Int → List (Int × List Int)} {g : GD} (hd : 6 ≤ d) (I : CI h cs) (hg : GB g) (ha : AR h cs g 4 F) (hr : PRk h F) (hq : ∀ F', Fr 2 F F' → Q (some (0, rtF4 h cs g (F 95) 4)) K0 (cst h F')) : Sp l G mX5_findRate d 0 0 K0 [(2, 87), (2, 6)] (cst h F) Q := by
  refine sp_of (L := [(2, 87), (2, 6), (9, 0), (9, 0)]) pl_X5 (Nat.le_of_ble_eq_true rfl) (tg_c (by decide) (tg_c (by decide) tg_0)) rfl ?_
  refine v_aload_n dX5_findRate_0 rfl ?_
  refine v_getv (ci := 5) (j := 10) (ji := 10) (tg := 0) dX5_findRate_1 k_480 (by decide) kk_87 (by decide) rfl rfl (by decide) ((cst_s (by decide)).trans (ha.2.1)) ?_
  refine v_istore_n_2 dX5_findRate_4 (by decide) rfl ?_
  refine v_iconst dX5_findRate_5 (c32 rfl) ?_
  refine v_istore_n_3 dX5_findRate_6 (by decide) rfl ?_
  exact lp_srate2 hd I hg ha hr hq 0 (Int.le_refl _) (by decide) _ Fr_0

theorem s_spick2 {l : Launch} {G : GG} {d : Nat} {h F : AH} {Q : Option AV → List Kd → AH → Prop} {cs : Int → List (Int × List Int)} {n : Int} {g : GD} (hd : 1 ≤ d) (I : CI h cs) (ha : AR h cs g 4 F) (hn : 0 ≤ n ∧ n < 2147483648) (hq : ∀ F', AR h cs g 4 F' → PRk h F' → (∀ j, 0 ≤ j → j < npF (h 167) → F' 95 j = PK h n j) → F' 96 = F 96 → Q none K0 (cst h F')) : Sp l G mX5_setPick d 0 0 K0 [(2, 87), (0, n)] (cst h F) Q := by
  obtain ⟨np9, np8, np7⟩ := @npF_r (h 167)
  refine s_spick hd I ha.1.1 hn (hq _ (AR_o ha (Or.inl rfl)) (fun p p0 p1 => ?_) (fun j j0 j1 => ?_) (ov1_r (by decide)))
  · rw [ov1_s]
    exact dgA_rng (fun q q0 q1 => np8 q q0 (by omega)) p0 (by omega)
  · rw [ov1_s]
    exact dgA_c j0 (by omega)
theorem s_srate3 {l : Launch} {G : GG} {d : Nat} {h F : AH} {Q : Option AV → List Kd → AH → Prop} {cs : Int → List (Int × List Int)} {g : GD} (hd : 6 ≤ d) (I : CI h cs) (hg : GB g) (ha : AR h cs g 4 F) (hr : PRk h F) (hq : ∀ F', AR h cs g 4 F' → F' 95 = F 95 → F' 96 = F 96 → Q (some (0, rtF4 h cs g (F 95) 4)) K0 (cst h F')) : Sp l G mX5_findRate d 0 0 K0 [(2, 87), (2, 6)] (cst h F) Q :=
  s_srate2 hd I hg ha hr (fun F' f => hq F' (AR_f ha (Fr_m (by decide) f)) (Fr_r f (fun j => Nat.le_of_ble_eq_true rfl)) (Fr_r f (fun j => Nat.le_of_ble_eq_true rfl)))
theorem seek_b {h : AH} {cs : Int → List (Int × List Int)} {g : GD} {t : Int → Int} {n : Int} (I : CI h cs) (hg : GB g) (ht : ∀ p, 0 ≤ p → p < npF (h 167) → 0 ≤ t p ∧ t p < h 167 p) (e : ∀ j, 0 ≤ j → j < npF (h 167) → t j = PK h n j) : (0 ≤ sm (cV h t) (npF (h 167)) ∧ sm (cV h t) (npF (h 167)) ≤ 4000000) ∧ (0 ≤ lrF h cs g 4 ∧ lrF h cs g 4 ≤ 1000) ∧ (0 ≤ rtF4 h cs g t 4 ∧ rtF4 h cs g t 4 ≤ 1000) ∧ (0 ≤ ldiv (g.2.2.2.1 * lrF h cs g 4) 1000 ∧ ldiv (g.2.2.2.1 * lrF h cs g 4) 1000 ≤ ldiv (g.2.2.2.1 * rtF4 h cs g t 4) 1000) ∧ ldiv (g.2.2.2.1 * rtF4 h cs g t 4) 1000 ≤ 1000000 ∧ cst4 h cs g (PK h n) = sm (cV h t) (npF (h 167)) + ldiv (g.2.2.2.1 * rtF4 h cs g t 4) 1000 := by
  obtain ⟨b1, b2, b3⟩ := cst4_r I hg ht
  have r1 := rtF4_r (cs := cs) (t := t) b2 (k := 4) (by decide)
  have r2 := lrF_r (cs := cs) b2 (k := 4) (by decide)
  have r3 := lrF_le (h := h) (cs := cs) (g := g) (t := t) (k := 4) (by decide)
  have m1 := du1000 (x := g.2.2.2.1) ⟨by have := hg.2.2.2.1; omega, hg.2.2.2.1.2⟩ r2.1 r3 r1.2
  exact ⟨b1, r2, r1, ⟨m1.1, m1.2.1⟩, m1.2.2.1, (cst4_c e).symm⟩

set_option maxHeartbeats 4000000 in
set_option maxRecDepth 100000 in
theorem lp_sseek {l : Launch} {G : GG} {d : Nat} {h : AH} {Q : Option AV → List Kd → AH → Prop} {cs : Int → List (Int × List Int)} {g : GD} (hd : 7 ≤ d) (I : CI h cs) (hg : GB g) (hq : ∀ F', AR h cs g 4 F' → (∀ j, 0 ≤ j → j < npF (h 167) → F' 96 j = (SNk h cs g (nPk (h 167))).2 j) → Q (some (1, (SNk h cs g (nPk (h 167))).1)) K0 (cst h F')) : ∀ n, 0 ≤ n → n ≤ (nPk (h 167) : Int) → ∀ F : AH, AR h cs g 4 F → (0 < n → ∀ j, 0 ≤ j → j < npF (h 167) → F 96 j = (SNk h cs g n).2 j) → V l G mX5_seekBest d 0 0 0 0 K0 12 [(2, 87), (2, 6), (0, (nPk (h 167) : Int)), (1, (SNk h cs g n).1), (8, 0), (0, n), (9, 0), (9, 0), (9, 0), (9, 0)] [] (cst h F) Q := by
  have pk9 : (nPk (h 167) : Int) ≤ 256 := by
    rw [nPk_pd]
    obtain ⟨a, b, c⟩ := @npF_r (h 167)
    exact (pdF_4 (fun p p0 p1 => ⟨b p p0 p1, (I.ofn p p0 (by omega)).2⟩) a.2 _ a.1 (Int.le_refl _)).1.2
  have pk8 : 0 < (nPk (h 167) : Int) := by
    rw [nPk_pd]
    obtain ⟨a, b, c⟩ := @npF_r (h 167)
    exact (pdF_4 (fun p p0 p1 => ⟨b p p0 p1, (I.ofn p p0 (by omega)).2⟩) a.2 _ a.1 (Int.le_refl _)).1.1
  have np9 := (@npF_r (h 167)).1
  refine loop_m3 (fun n hk hkN ih F ha hb => ?_)
  have z9 : n = 0 → (SNk h cs g n).1 = -1 := fun e => by rw [e]; rfl
  refine v_iload dX5_seekBest_12 rfl ?_
  refine v_iload_n dX5_seekBest_14 rfl ?_
  refine v_icmp_ge (tgt := 106) dX5_seekBest_15 (by decide) (fun c15_1 => ?_) (fun c15_1 => ?_)
  · refine v_lload_n dX5_seekBest_106 rfl ?_
    refine v_lret dX5_seekBest_107 rfl (Nat.le_refl _) (Nat.le_refl _) ?_
    obtain rfl : n = (nPk (h 167) : Int) := by omega
    exact hq _ ha (hb pk8)
  · refine v_aload_n dX5_seekBest_18 rfl ?_
    refine v_iload dX5_seekBest_19 rfl ?_
    refine v_callv (M' := mX5_setPick) (d' := d - 1) (mc' := 0) (ms' := 0) (ci := 5) (c := 87) (As := [_]) dX5_seekBest_21 k_1221 cm_X5_setPick rfl (by omega) (by decide) kk_87 (Nat.le_of_ble_eq_true rfl) rfl ⟨Nat.le_refl _, Nat.le_refl _⟩ ?_
    refine s_spick2 (g := g) (cs := cs) (by omega) I ha ⟨by omega, by omega⟩ (fun x1_5 c21_2 c21_3 c21_4 c21_5 => ?_)
    dsimp only [Option.toList, List.cons_append, List.nil_append, Nat.add_zero]
    have ARX := c21_2
    have BX := seek_b I hg c21_3 c21_4
    refine v_aload_n dX5_seekBest_24 rfl ?_
    refine v_callv (M' := mX5_coinsOfPick) (d' := d - 1) (mc' := 0) (ms' := 0) (ci := 5) (c := 87) (As := []) dX5_seekBest_25 k_1225 cm_X5_coinsOfPick rfl (by omega) (by decide) kk_87 (Nat.le_of_ble_eq_true rfl) rfl ⟨Nat.le_refl _, Nat.le_refl _⟩ ?_
    refine s_scoin (by omega) I c21_2.1.1 c21_3 ?_
    dsimp only [Option.toList, List.cons_append, List.nil_append, Nat.add_zero]
    refine v_lstore_6 dX5_seekBest_28 (by decide) rfl ?_
    refine v_lload_n dX5_seekBest_30 rfl ?_
    refine v_ldc2 (n := -1) dX5_seekBest_31 k_1220 (c64 rfl) (by decide) ?_
    refine v_lcmp_eq (tgt := 54) dX5_seekBest_34 dX5_seekBest_35 (by decide) (fun c34_6 => ?_) (fun c34_6 => ?_)
    · refine v_lload dX5_seekBest_54 rfl ?_
      refine v_aload_n dX5_seekBest_56 rfl ?_
      refine v_aload_n dX5_seekBest_57 rfl ?_
      refine v_aload_n dX5_seekBest_58 rfl ?_
      refine v_callv (M' := mX5_findRate) (d' := d - 1) (mc' := 0) (ms' := 0) (ci := 5) (c := 87) (As := [_]) dX5_seekBest_59 k_1234 cm_X5_findRate rfl (by omega) (by decide) kk_87 (Nat.le_of_ble_eq_true rfl) rfl ⟨Nat.le_refl _, Nat.le_refl _⟩ ?_
      refine s_srate3 (g := g) (by omega) I hg c21_2 c21_3 (fun xf_9 c59_7 c59_8 c59_9 => ?_)
      dsimp only [Option.toList, List.cons_append, List.nil_append, Nat.add_zero]
      refine v_callv (M' := mX5_dutyAt) (d' := d - 1) (mc' := 0) (ms' := 0) (ci := 5) (c := 87) (As := [_]) dX5_seekBest_62 k_1229 cm_X5_dutyAt rfl (by omega) (by decide) kk_87 (Nat.le_of_ble_eq_true rfl) rfl ⟨Nat.le_refl _, Nat.le_refl _⟩ ?_
      refine s_sduty (g := g) (by omega) c59_7.1.2.2.2.2 hg.2.2.2.1 ⟨by omega, by omega⟩ ?_
      dsimp only [Option.toList, List.cons_append, List.nil_append, Nat.add_zero]
      refine v_laddE dX5_seekBest_65 (by omega) ?_
      refine v_lstore_8 dX5_seekBest_66 (by decide) rfl ?_
      refine v_lload_n dX5_seekBest_68 rfl ?_
      refine v_ldc2 (n := -1) dX5_seekBest_69 k_1220 (c64 rfl) (by decide) ?_
      refine v_lcmp_eq (tgt := 83) dX5_seekBest_72 dX5_seekBest_73 (by decide) (fun c72_10 => ?_) (fun c72_10 => ?_)
      · refine v_lload dX5_seekBest_83 rfl ?_
        refine v_lstore_n_3 dX5_seekBest_85 (by decide) rfl ?_
        refine v_aload_n dX5_seekBest_86 rfl ?_
        refine v_getr (ci := 5) (j := 14) (ji := 14) (z := 95) dX5_seekBest_87 k_484 (by decide) kk_87 (by decide) rfl rfl (fun r => rt_87_14 (r rfl)) (by decide) ?_
        refine v_iconst dX5_seekBest_90 (c32 rfl) ?_
        refine v_aload_n dX5_seekBest_91 rfl ?_
        refine v_getr (ci := 5) (j := 15) (ji := 15) (z := 96) dX5_seekBest_92 k_485 (by decide) kk_87 (by decide) rfl rfl (fun r => rt_87_15 (r rfl)) (by decide) ?_
        refine v_iconst dX5_seekBest_95 (c32 rfl) ?_
        refine v_iconst dX5_seekBest_96 (c32 rfl) ?_
        refine v_copyi dX5_seekBest_97 k_1245 (by omega) (Nat.le_of_ble_eq_true rfl) (by decide) kk_95 (by decide) kk_96 (by omega) (by omega) (by omega) (by omega) (by omega) ?_
        rw [hcpy_96]
        refine v_iinc_5 dX5_seekBest_100 (by decide) rfl ?_
        rw [iadd_eq (x := n) (y := 1) (by unfold ok32; omega)]
        refine v_goto (tgt := 12) dX5_seekBest_103 (by decide) ?_
        have e9 : bsS (cst4 h cs g) (PK h n) (SNk h cs g n) = (cst4 h cs g (PK h n), PK h n) := if_pos (by omega)
        rw [BX.2.2.2.2.2] at e9
        have ih9 := ih (by omega) _ (AR_o (T := fun j => if 0 ≤ j ∧ j < 4 then xf_9 95 j else xf_9 96 j) c59_7 (Or.inr rfl)) (fun _ j j0 j1 => by
          rw [SNk_s hk, e9, ov1_s]
          show (if 0 ≤ j ∧ j < 4 then xf_9 95 j else xf_9 96 j) = PK h n j
          rw [if_pos ⟨j0, by omega⟩, c59_8]
          exact c21_4 j j0 j1)
        rw [SNk_s hk, e9] at ih9
        refine v_loc (lo_k (lo_k (lo_k (lo_k (lo_k (lo_k (lo_d (lo_d (lo_d (lo_d lo_nil)))))))))) ?_
        exact ih9
      · refine v_lload dX5_seekBest_76 rfl ?_
        refine v_lload_n dX5_seekBest_78 rfl ?_
        refine v_lcmp_ge (tgt := 100) dX5_seekBest_79 dX5_seekBest_80 (by decide) (fun c79_11 => ?_) (fun c79_11 => ?_)
        · refine v_iinc_5 dX5_seekBest_100 (by decide) rfl ?_
          rw [iadd_eq (x := n) (y := 1) (by unfold ok32; omega)]
          refine v_goto (tgt := 12) dX5_seekBest_103 (by decide) ?_
          have e9 : bsS (cst4 h cs g) (PK h n) (SNk h cs g n) = SNk h cs g n := if_neg (fun z => by rcases z with z | z <;> omega)
          have ih9 := ih (by omega) _ c59_7 (fun _ j j0 j1 => by
            rw [SNk_s hk, e9, c59_9, c21_5]
            exact hb (by omega) j j0 j1)
          rw [SNk_s hk, e9] at ih9
          refine v_loc (lo_k (lo_k (lo_k (lo_k (lo_k (lo_k (lo_d (lo_d (lo_d (lo_d lo_nil)))))))))) ?_
          exact ih9
        · refine v_lload dX5_seekBest_83 rfl ?_
          refine v_lstore_n_3 dX5_seekBest_85 (by decide) rfl ?_
          refine v_aload_n dX5_seekBest_86 rfl ?_
          refine v_getr (ci := 5) (j := 14) (ji := 14) (z := 95) dX5_seekBest_87 k_484 (by decide) kk_87 (by decide) rfl rfl (fun r => rt_87_14 (r rfl)) (by decide) ?_
          refine v_iconst dX5_seekBest_90 (c32 rfl) ?_
          refine v_aload_n dX5_seekBest_91 rfl ?_
          refine v_getr (ci := 5) (j := 15) (ji := 15) (z := 96) dX5_seekBest_92 k_485 (by decide) kk_87 (by decide) rfl rfl (fun r => rt_87_15 (r rfl)) (by decide) ?_
          refine v_iconst dX5_seekBest_95 (c32 rfl) ?_
          refine v_iconst dX5_seekBest_96 (c32 rfl) ?_
          refine v_copyi dX5_seekBest_97 k_1245 (by omega) (Nat.le_of_ble_eq_true rfl) (by decide) kk_95 (by decide) kk_96 (by omega) (by omega) (by omega) (by omega) (by omega) ?_
          rw [hcpy_96]
          refine v_iinc_5 dX5_seekBest_100 (by decide) rfl ?_
          rw [iadd_eq (x := n) (y := 1) (by unfold ok32; omega)]
          refine v_goto (tgt := 12) dX5_seekBest_103 (by decide) ?_
          have e9 : bsS (cst4 h cs g) (PK h n) (SNk h cs g n) = (cst4 h cs g (PK h n), PK h n) := if_pos (by omega)
          rw [BX.2.2.2.2.2] at e9
          have ih9 := ih (by omega) _ (AR_o (T := fun j => if 0 ≤ j ∧ j < 4 then xf_9 95 j else xf_9 96 j) c59_7 (Or.inr rfl)) (fun _ j j0 j1 => by
            rw [SNk_s hk, e9, ov1_s]
            show (if 0 ≤ j ∧ j < 4 then xf_9 95 j else xf_9 96 j) = PK h n j
            rw [if_pos ⟨j0, by omega⟩, c59_8]
            exact c21_4 j j0 j1)
          rw [SNk_s hk, e9] at ih9
          refine v_loc (lo_k (lo_k (lo_k (lo_k (lo_k (lo_k (lo_d (lo_d (lo_d (lo_d lo_nil)))))))))) ?_
          exact ih9
    · refine v_lload dX5_seekBest_38 rfl ?_
      refine v_aload_n dX5_seekBest_40 rfl ?_
      refine v_aload_n dX5_seekBest_41 rfl ?_
      refine v_getv (ci := 5) (j := 13) (ji := 13) (tg := 0) dX5_seekBest_42 k_483 (by decide) kk_87 (by decide) rfl rfl (by decide) ((cst_s (by decide)).trans (ARX.2.2.1)) ?_
      refine v_callv (M' := mX5_dutyAt) (d' := d - 1) (mc' := 0) (ms' := 0) (ci := 5) (c := 87) (As := [_]) dX5_seekBest_45 k_1229 cm_X5_dutyAt rfl (by omega) (by decide) kk_87 (Nat.le_of_ble_eq_true rfl) rfl ⟨Nat.le_refl _, Nat.le_refl _⟩ ?_
      refine s_sduty (g := g) (by omega) c21_2.1.2.2.2.2 hg.2.2.2.1 ⟨by omega, by omega⟩ ?_
      dsimp only [Option.toList, List.cons_append, List.nil_append, Nat.add_zero]
      refine v_laddE dX5_seekBest_48 (by omega) ?_
      refine v_lload_n dX5_seekBest_49 rfl ?_
      refine v_lcmp_ge (tgt := 100) dX5_seekBest_50 dX5_seekBest_51 (by decide) (fun c50_12 => ?_) (fun c50_12 => ?_)
      · refine v_iinc_5 dX5_seekBest_100 (by decide) rfl ?_
        rw [iadd_eq (x := n) (y := 1) (by unfold ok32; omega)]
        refine v_goto (tgt := 12) dX5_seekBest_103 (by decide) ?_
        have e9 : bsS (cst4 h cs g) (PK h n) (SNk h cs g n) = SNk h cs g n := if_neg (fun z => by rcases z with z | z <;> omega)
        have ih9 := ih (by omega) _ c21_2 (fun _ j j0 j1 => by
          rw [SNk_s hk, e9, c21_5]
          exact hb (by omega) j j0 j1)
        rw [SNk_s hk, e9] at ih9
        refine v_loc (lo_k (lo_k (lo_k (lo_k (lo_k (lo_k (lo_d (lo_d (lo_d (lo_d lo_nil)))))))))) ?_
        exact ih9
      · refine v_lload dX5_seekBest_54 rfl ?_
        refine v_aload_n dX5_seekBest_56 rfl ?_
        refine v_aload_n dX5_seekBest_57 rfl ?_
        refine v_aload_n dX5_seekBest_58 rfl ?_
        refine v_callv (M' := mX5_findRate) (d' := d - 1) (mc' := 0) (ms' := 0) (ci := 5) (c := 87) (As := [_]) dX5_seekBest_59 k_1234 cm_X5_findRate rfl (by omega) (by decide) kk_87 (Nat.le_of_ble_eq_true rfl) rfl ⟨Nat.le_refl _, Nat.le_refl _⟩ ?_
        refine s_srate3 (g := g) (by omega) I hg c21_2 c21_3 (fun xf_15 c59_13 c59_14 c59_15 => ?_)
        dsimp only [Option.toList, List.cons_append, List.nil_append, Nat.add_zero]
        refine v_callv (M' := mX5_dutyAt) (d' := d - 1) (mc' := 0) (ms' := 0) (ci := 5) (c := 87) (As := [_]) dX5_seekBest_62 k_1229 cm_X5_dutyAt rfl (by omega) (by decide) kk_87 (Nat.le_of_ble_eq_true rfl) rfl ⟨Nat.le_refl _, Nat.le_refl _⟩ ?_
        refine s_sduty (g := g) (by omega) c59_13.1.2.2.2.2 hg.2.2.2.1 ⟨by omega, by omega⟩ ?_
        dsimp only [Option.toList, List.cons_append, List.nil_append, Nat.add_zero]
        refine v_laddE dX5_seekBest_65 (by omega) ?_
        refine v_lstore_8 dX5_seekBest_66 (by decide) rfl ?_
        refine v_lload_n dX5_seekBest_68 rfl ?_
        refine v_ldc2 (n := -1) dX5_seekBest_69 k_1220 (c64 rfl) (by decide) ?_
        refine v_lcmp_eq (tgt := 83) dX5_seekBest_72 dX5_seekBest_73 (by decide) (fun c72_16 => ?_) (fun c72_16 => ?_)
        · refine v_lload dX5_seekBest_83 rfl ?_
          refine v_lstore_n_3 dX5_seekBest_85 (by decide) rfl ?_
          refine v_aload_n dX5_seekBest_86 rfl ?_
          refine v_getr (ci := 5) (j := 14) (ji := 14) (z := 95) dX5_seekBest_87 k_484 (by decide) kk_87 (by decide) rfl rfl (fun r => rt_87_14 (r rfl)) (by decide) ?_
          refine v_iconst dX5_seekBest_90 (c32 rfl) ?_
          refine v_aload_n dX5_seekBest_91 rfl ?_
          refine v_getr (ci := 5) (j := 15) (ji := 15) (z := 96) dX5_seekBest_92 k_485 (by decide) kk_87 (by decide) rfl rfl (fun r => rt_87_15 (r rfl)) (by decide) ?_
          refine v_iconst dX5_seekBest_95 (c32 rfl) ?_
          refine v_iconst dX5_seekBest_96 (c32 rfl) ?_
          refine v_copyi dX5_seekBest_97 k_1245 (by omega) (Nat.le_of_ble_eq_true rfl) (by decide) kk_95 (by decide) kk_96 (by omega) (by omega) (by omega) (by omega) (by omega) ?_
          rw [hcpy_96]
          refine v_iinc_5 dX5_seekBest_100 (by decide) rfl ?_
          rw [iadd_eq (x := n) (y := 1) (by unfold ok32; omega)]
          refine v_goto (tgt := 12) dX5_seekBest_103 (by decide) ?_
          have e9 : bsS (cst4 h cs g) (PK h n) (SNk h cs g n) = (cst4 h cs g (PK h n), PK h n) := if_pos (by omega)
          rw [BX.2.2.2.2.2] at e9
          have ih9 := ih (by omega) _ (AR_o (T := fun j => if 0 ≤ j ∧ j < 4 then xf_15 95 j else xf_15 96 j) c59_13 (Or.inr rfl)) (fun _ j j0 j1 => by
            rw [SNk_s hk, e9, ov1_s]
            show (if 0 ≤ j ∧ j < 4 then xf_15 95 j else xf_15 96 j) = PK h n j
            rw [if_pos ⟨j0, by omega⟩, c59_14]
            exact c21_4 j j0 j1)
          rw [SNk_s hk, e9] at ih9
          refine v_loc (lo_k (lo_k (lo_k (lo_k (lo_k (lo_k (lo_d (lo_d (lo_d (lo_d lo_nil)))))))))) ?_
          exact ih9
        · refine v_lload dX5_seekBest_76 rfl ?_
          refine v_lload_n dX5_seekBest_78 rfl ?_
          refine v_lcmp_ge (tgt := 100) dX5_seekBest_79 dX5_seekBest_80 (by decide) (fun c79_17 => ?_) (fun c79_17 => ?_)
          · refine v_iinc_5 dX5_seekBest_100 (by decide) rfl ?_
            rw [iadd_eq (x := n) (y := 1) (by unfold ok32; omega)]
            refine v_goto (tgt := 12) dX5_seekBest_103 (by decide) ?_
            have e9 : bsS (cst4 h cs g) (PK h n) (SNk h cs g n) = SNk h cs g n := if_neg (fun z => by rcases z with z | z <;> omega)
            have ih9 := ih (by omega) _ c59_13 (fun _ j j0 j1 => by
              rw [SNk_s hk, e9, c59_15, c21_5]
              exact hb (by omega) j j0 j1)
            rw [SNk_s hk, e9] at ih9
            refine v_loc (lo_k (lo_k (lo_k (lo_k (lo_k (lo_k (lo_d (lo_d (lo_d (lo_d lo_nil)))))))))) ?_
            exact ih9
          · refine v_lload dX5_seekBest_83 rfl ?_
            refine v_lstore_n_3 dX5_seekBest_85 (by decide) rfl ?_
            refine v_aload_n dX5_seekBest_86 rfl ?_
            refine v_getr (ci := 5) (j := 14) (ji := 14) (z := 95) dX5_seekBest_87 k_484 (by decide) kk_87 (by decide) rfl rfl (fun r => rt_87_14 (r rfl)) (by decide) ?_
            refine v_iconst dX5_seekBest_90 (c32 rfl) ?_
            refine v_aload_n dX5_seekBest_91 rfl ?_
            refine v_getr (ci := 5) (j := 15) (ji := 15) (z := 96) dX5_seekBest_92 k_485 (by decide) kk_87 (by decide) rfl rfl (fun r => rt_87_15 (r rfl)) (by decide) ?_
            refine v_iconst dX5_seekBest_95 (c32 rfl) ?_
            refine v_iconst dX5_seekBest_96 (c32 rfl) ?_
            refine v_copyi dX5_seekBest_97 k_1245 (by omega) (Nat.le_of_ble_eq_true rfl) (by decide) kk_95 (by decide) kk_96 (by omega) (by omega) (by omega) (by omega) (by omega) ?_
            rw [hcpy_96]
            refine v_iinc_5 dX5_seekBest_100 (by decide) rfl ?_
            rw [iadd_eq (x := n) (y := 1) (by unfold ok32; omega)]
            refine v_goto (tgt := 12) dX5_seekBest_103 (by decide) ?_
            have e9 : bsS (cst4 h cs g) (PK h n) (SNk h cs g n) = (cst4 h cs g (PK h n), PK h n) := if_pos (by omega)
            rw [BX.2.2.2.2.2] at e9
            have ih9 := ih (by omega) _ (AR_o (T := fun j => if 0 ≤ j ∧ j < 4 then xf_15 95 j else xf_15 96 j) c59_13 (Or.inr rfl)) (fun _ j j0 j1 => by
              rw [SNk_s hk, e9, ov1_s]
              show (if 0 ≤ j ∧ j < 4 then xf_15 95 j else xf_15 96 j) = PK h n j
              rw [if_pos ⟨j0, by omega⟩, c59_14]
              exact c21_4 j j0 j1)
            rw [SNk_s hk, e9] at ih9
            refine v_loc (lo_k (lo_k (lo_k (lo_k (lo_k (lo_k (lo_d (lo_d (lo_d (lo_d lo_nil)))))))))) ?_
            exact ih9

set_option maxHeartbeats 4000000 in
set_option maxRecDepth 100000 in
theorem s_sseek {l : Launch} {G : GG} {d : Nat} {h F : AH} {Q : Option AV → List Kd → AH → Prop} {cs : Int → List (Int × List Int)} {g : GD} (hd : 8 ≤ d) (I : CI h cs) (hg : GB g) (ha : AR h cs g 4 F) (hq : ∀ F', AR h cs g 4 F' → (∀ j, 0 ≤ j → j < npF (h 167) → F' 96 j = (SNk h cs g (nPk (h 167))).2 j) → Q (some (1, (SNk h cs g (nPk (h 167))).1)) K0 (cst h F')) : Sp l G mX5_seekBest d 0 0 K0 [(2, 87), (2, 6)] (cst h F) Q := by
  refine sp_of (L := [(2, 87), (2, 6), (9, 0), (9, 0), (9, 0), (9, 0), (9, 0), (9, 0), (9, 0), (9, 0)]) pl_X5 (Nat.le_of_ble_eq_true rfl) (tg_c (by decide) (tg_c (by decide) tg_0)) rfl ?_
  refine v_aload_n dX5_seekBest_0 rfl ?_
  refine v_callv (M' := mX5_countPicks) (d' := d - 1) (mc' := 0) (ms' := 0) (ci := 5) (c := 87) (As := []) dX5_seekBest_1 k_1216 cm_X5_countPicks rfl (by omega) (by decide) kk_87 (Nat.le_of_ble_eq_true rfl) rfl ⟨Nat.le_refl _, Nat.le_refl _⟩ ?_
  refine s_scnt (by omega) I ha.1.1 ?_
  dsimp only [Option.toList, List.cons_append, List.nil_append, Nat.add_zero]
  refine v_istore_n_2 dX5_seekBest_4 (by decide) rfl ?_
  refine v_ldc2 (n := -1) dX5_seekBest_5 k_1220 (c64 rfl) (by decide) ?_
  refine v_lstore_n_3 dX5_seekBest_8 (by decide) rfl ?_
  refine v_iconst dX5_seekBest_9 (c32 rfl) ?_
  refine v_istore_5 dX5_seekBest_10 (by decide) rfl ?_
  exact lp_sseek (by omega) I hg hq 0 (Int.le_refl _) (by omega) _ ha (fun z => absurd z (by decide))

