/-! ===== sourcing: the reference's best and chosen (written by wip/whole/p69.py) ===== -/
theorem GR_0 {F : AH} {g : GD} : GR g (hset (hset (hset (hset (hset (hset F 116 79 g.1) 116 80 g.2.1) 116 81 g.2.2.1) 116 82 g.2.2.2.1) 116 83 g.2.2.2.2) 116 84 (-1)) := by
  unfold GR
  refine ⟨?_, ?_, ?_, ?_, ?_⟩
  · rw [hset_j (by decide), hset_j (by decide), hset_j (by decide), hset_j (by decide), hset_j (by decide), hset_same]
  · rw [hset_j (by decide), hset_j (by decide), hset_j (by decide), hset_j (by decide), hset_same]
  · rw [hset_j (by decide), hset_j (by decide), hset_j (by decide), hset_same]
  · rw [hset_j (by decide), hset_j (by decide), hset_same]
  · rw [hset_j (by decide), hset_same]
theorem np_0 {h : AH} {cs : Int → List (Int × List Int)} (I : CI h cs) : h 167 0 = 0 ↔ npF (h 167) = 0 := by
  obtain ⟨np9, np8, np7⟩ := @npF_r (h 167)
  have o9 := I.ofn 0 (by omega) (by omega)
  constructor
  · intro e
    by_cases z : npF (h 167) = 0
    · exact z
    · have := np8 0 (by omega) (by omega)
      omega
  · intro e
    have := np7 (by omega)
    rw [e] at this
    omega
theorem tr_SN {h : AH} {cs : Int → List (Int × List Int)} {g : GD} : tr4 (cst4 h cs g) (fun m => PKn h (npF (h 167)).toNat m) (h 167) (npF (h 167)) (npF (h 167)).toNat 0 (-1, fun _ => 0) = SNk h cs g (nPk (h 167)) := by
  obtain ⟨np9, np8, np7⟩ := @npF_r (h 167)
  rw [tr4_rR (fun p p0 p1 => np8 p (by omega) p1)]
  unfold SNk nPk
  rw [Int.zero_mul, Int.toNat_natCast]
  rfl
theorem SNk_p {h : AH} {cs : Int → List (Int × List Int)} {g : GD} (I : CI h cs) (hg : GB g) : ∀ n : Nat, ((SNk h cs g n).1 = -1 ∧ n = 0) ∨ 0 ≤ (SNk h cs g n).1 := by
  obtain ⟨np9, np8, np7⟩ := @npF_r (h 167)
  intro n
  induction n with
  | zero => exact Or.inl ⟨rfl, rfl⟩
  | succ n ih =>
    rw [show ((n + 1 : Nat) : Int) = (n : Int) + 1 by omega, SNk_s (by omega)]
    have c := (cst4_r (cs := cs) (t := PK h n) I hg (fun p p0 p1 => dgA_rng (fun q q0 q1 => np8 q q0 (by omega)) p0 (by omega))).2.2
    refine Or.inr ?_
    unfold bsS
    by_cases z : (SNk h cs g n).1 = -1 ∨ cst4 h cs g (PK h n) < (SNk h cs g n).1
    · rw [if_pos z]; exact c.1
    · rw [if_neg z]; omega
theorem nPk_p {h : AH} {cs : Int → List (Int × List Int)} (I : CI h cs) : 0 < nPk (h 167) := by
  have e := @nPk_pd (h 167)
  obtain ⟨a, b, c⟩ := @npF_r (h 167)
  have := (pdF_4 (fun p p0 p1 => ⟨b p p0 p1, (I.ofn p p0 (by omega)).2⟩) a.2 _ a.1 (Int.le_refl _)).1.1
  omega

set_option maxHeartbeats 4000000 in
set_option maxRecDepth 100000 in
theorem s_rfinds {l : Launch} {G : GG} {d : Nat} {h : AH} {Q : Option AV → List Kd → AH → Prop} {cs : Int → List (Int × List Int)} {F : AH} {z O Lr : Int → Int} {g : GD} (hd : 47 ≤ d) (I : CI h cs) (q0 : ¬ ((0 ≤ g.1 ∧ g.1 ≤ 7) ∧ (0 ≤ g.2.1 ∧ g.2.1 ≤ 99) ∧ (0 ≤ g.2.2.1 ∧ g.2.2.1 ≤ 9) ∧ (1 ≤ g.2.2.2.1 ∧ g.2.2.2.1 ≤ 1000000) ∧ (0 ≤ g.2.2.2.2 ∧ g.2.2.2.2 ≤ 7) ∧ npF (h 167) ≠ 0) → ∀ F z Lr, Q (some (0, 0)) K0 (jst (kst h F) z O Lr)) (q1 : ((0 ≤ g.1 ∧ g.1 ≤ 7) ∧ (0 ≤ g.2.1 ∧ g.2.1 ≤ 99) ∧ (0 ≤ g.2.2.1 ∧ g.2.2.1 ≤ 9) ∧ (1 ≤ g.2.2.2.1 ∧ g.2.2.2.1 ≤ 1000000) ∧ (0 ≤ g.2.2.2.2 ∧ g.2.2.2.2 ≤ 7) ∧ npF (h 167) ≠ 0) → ∀ F z Lr, ST h F (SNk h cs g (nPk (h 167))) → Q (some (0, 1)) K0 (jst (kst h F) z O Lr)) : Sp l G mX12_finds d 0 0 K0 [(2, 116), (0, g.1), (0, g.2.1), (0, g.2.2.1), (0, g.2.2.2.1), (0, g.2.2.2.2)] (jst (kst h F) z O Lr) Q := by
  refine sp_of (L := [(2, 116), (0, g.1), (0, g.2.1), (0, g.2.2.1), (0, g.2.2.2.1), (0, g.2.2.2.2)]) pl_X12 (Nat.le_of_ble_eq_true rfl) (tg_c (by decide) (tg_c (by decide) (tg_c (by decide) (tg_c (by decide) (tg_c (by decide) (tg_c (by decide) tg_0)))))) rfl ?_
  refine v_aload_n dX12_finds_0 rfl ?_
  refine v_iconst dX12_finds_1 (c32 rfl) ?_
  refine v_puti (ci := 12) (j := 0) (ji := 0) dX12_finds_2 k_1416 (by decide) kk_116 (by decide) rfl rfl rfl ?_
  rw [jst_wj (by decide), kst_w (by decide)]
  have np1 := np_0 I
  have np9 := (@npF_r (h 167)).1
  refine v_aload_n dX12_finds_5 rfl ?_
  refine v_getr (ci := 12) (j := 72) (ji := 72) (z := 167) dX12_finds_6 k_1488 (by decide) kk_116 (by decide) rfl rfl (fun r => rt_116_72 (r rfl)) (by decide) ?_
  refine v_iconst dX12_finds_9 (c32 rfl) ?_
  refine v_ialoadv dX12_finds_10 (by decide) kk_167 (by omega) (by omega) ((jst_c (by decide)).trans (kst_n (by decide))) ?_
  refine v_if_eq (tgt := 61) dX12_finds_11 (by decide) (fun c11_1 => ?_) (fun c11_1 => ?_)
  · refine v_iconst dX12_finds_61 (c32 rfl) ?_
    refine v_iretz dX12_finds_62 rfl (by decide) (Nat.le_refl _) (Nat.le_refl _) ?_
    exact q0 (by omega) _ _ _
  · refine v_iload_n dX12_finds_14 rfl ?_
    refine v_calls (M' := mX12_isLand) (d' := d - 1) (mc' := 0) (ms' := 0) (As := [_]) dX12_finds_15 k_1832 cm_X12_isLand (by omega) (Nat.le_of_ble_eq_true rfl) rfl ⟨Nat.le_refl _, Nat.le_refl _⟩ ?_
    refine s_X12_isLand (by omega) (fun c15_2 => ?_) (fun c15_3 c15_4 => ?_) (fun c15_5 c15_6 => ?_)
    · dsimp only [Option.toList, List.cons_append, List.nil_append, Nat.add_zero]
      refine v_if_eq_t (tgt := 61) dX12_finds_18 (by decide) (by decide) ?_
      refine v_iconst dX12_finds_61 (c32 rfl) ?_
      refine v_iretz dX12_finds_62 rfl (by decide) (Nat.le_refl _) (Nat.le_refl _) ?_
      exact q0 (by omega) _ _ _
    · dsimp only [Option.toList, List.cons_append, List.nil_append, Nat.add_zero]
      refine v_if_eq_t (tgt := 61) dX12_finds_18 (by decide) (by decide) ?_
      refine v_iconst dX12_finds_61 (c32 rfl) ?_
      refine v_iretz dX12_finds_62 rfl (by decide) (Nat.le_refl _) (Nat.le_refl _) ?_
      exact q0 (by omega) _ _ _
    · dsimp only [Option.toList, List.cons_append, List.nil_append, Nat.add_zero]
      refine v_if_eq_f (tgt := 61) dX12_finds_18 (by decide) (by decide) ?_
      refine v_iload_n dX12_finds_21 rfl ?_
      refine v_calls (M' := mX12_isHeading) (d' := d - 1) (mc' := 0) (ms' := 0) (As := [_]) dX12_finds_22 k_1836 cm_X12_isHeading (by omega) (Nat.le_of_ble_eq_true rfl) rfl ⟨Nat.le_refl _, Nat.le_refl _⟩ ?_
      refine s_X12_isHeading (by omega) (fun c22_7 => ?_) (fun c22_8 c22_9 => ?_) (fun c22_10 c22_11 => ?_)
      · dsimp only [Option.toList, List.cons_append, List.nil_append, Nat.add_zero]
        refine v_if_eq_t (tgt := 61) dX12_finds_25 (by decide) (by decide) ?_
        refine v_iconst dX12_finds_61 (c32 rfl) ?_
        refine v_iretz dX12_finds_62 rfl (by decide) (Nat.le_refl _) (Nat.le_refl _) ?_
        exact q0 (by omega) _ _ _
      · dsimp only [Option.toList, List.cons_append, List.nil_append, Nat.add_zero]
        refine v_if_eq_t (tgt := 61) dX12_finds_25 (by decide) (by decide) ?_
        refine v_iconst dX12_finds_61 (c32 rfl) ?_
        refine v_iretz dX12_finds_62 rfl (by decide) (Nat.le_refl _) (Nat.le_refl _) ?_
        exact q0 (by omega) _ _ _
      · dsimp only [Option.toList, List.cons_append, List.nil_append, Nat.add_zero]
        refine v_if_eq_f (tgt := 61) dX12_finds_25 (by decide) (by decide) ?_
        refine v_iload_n dX12_finds_28 rfl ?_
        refine v_i2l dX12_finds_29 ?_
        refine v_lconst (z := 0) dX12_finds_30 (c64 rfl) (by decide) ?_
        refine v_ldc2 (n := 9) dX12_finds_31 k_1891 (c64 rfl) (by decide) ?_
        refine v_calls (M' := mX12_isIn) (d' := d - 1) (mc' := 0) (ms' := 0) (As := [_, _, _]) dX12_finds_34 k_1700 cm_X12_isIn (by omega) (Nat.le_of_ble_eq_true rfl) rfl ⟨Nat.le_refl _, Nat.le_refl _⟩ ?_
        refine s_X12_isIn (by omega) (fun c34_12 => ?_) (fun c34_13 c34_14 => ?_) (fun c34_15 c34_16 => ?_)
        · dsimp only [Option.toList, List.cons_append, List.nil_append, Nat.add_zero]
          refine v_if_eq_t (tgt := 61) dX12_finds_37 (by decide) (by decide) ?_
          refine v_iconst dX12_finds_61 (c32 rfl) ?_
          refine v_iretz dX12_finds_62 rfl (by decide) (Nat.le_refl _) (Nat.le_refl _) ?_
          exact q0 (by omega) _ _ _
        · dsimp only [Option.toList, List.cons_append, List.nil_append, Nat.add_zero]
          refine v_if_eq_t (tgt := 61) dX12_finds_37 (by decide) (by decide) ?_
          refine v_iconst dX12_finds_61 (c32 rfl) ?_
          refine v_iretz dX12_finds_62 rfl (by decide) (Nat.le_refl _) (Nat.le_refl _) ?_
          exact q0 (by omega) _ _ _
        · dsimp only [Option.toList, List.cons_append, List.nil_append, Nat.add_zero]
          refine v_if_eq_f (tgt := 61) dX12_finds_37 (by decide) (by decide) ?_
          refine v_iload dX12_finds_40 rfl ?_
          refine v_i2l dX12_finds_42 ?_
          refine v_lconst (z := 1) dX12_finds_43 (c64 rfl) (by decide) ?_
          refine v_ldc2 (n := 1000000) dX12_finds_44 k_2021 (c64 rfl) (by decide) ?_
          refine v_calls (M' := mX12_isIn) (d' := d - 1) (mc' := 0) (ms' := 0) (As := [_, _, _]) dX12_finds_47 k_1700 cm_X12_isIn (by omega) (Nat.le_of_ble_eq_true rfl) rfl ⟨Nat.le_refl _, Nat.le_refl _⟩ ?_
          refine s_X12_isIn (by omega) (fun c47_17 => ?_) (fun c47_18 c47_19 => ?_) (fun c47_20 c47_21 => ?_)
          · dsimp only [Option.toList, List.cons_append, List.nil_append, Nat.add_zero]
            refine v_if_eq_t (tgt := 61) dX12_finds_50 (by decide) (by decide) ?_
            refine v_iconst dX12_finds_61 (c32 rfl) ?_
            refine v_iretz dX12_finds_62 rfl (by decide) (Nat.le_refl _) (Nat.le_refl _) ?_
            exact q0 (by omega) _ _ _
          · dsimp only [Option.toList, List.cons_append, List.nil_append, Nat.add_zero]
            refine v_if_eq_t (tgt := 61) dX12_finds_50 (by decide) (by decide) ?_
            refine v_iconst dX12_finds_61 (c32 rfl) ?_
            refine v_iretz dX12_finds_62 rfl (by decide) (Nat.le_refl _) (Nat.le_refl _) ?_
            exact q0 (by omega) _ _ _
          · dsimp only [Option.toList, List.cons_append, List.nil_append, Nat.add_zero]
            refine v_if_eq_f (tgt := 61) dX12_finds_50 (by decide) (by decide) ?_
            refine v_iload dX12_finds_53 rfl ?_
            refine v_calls (M' := mX12_isLand) (d' := d - 1) (mc' := 0) (ms' := 0) (As := [_]) dX12_finds_55 k_1832 cm_X12_isLand (by omega) (Nat.le_of_ble_eq_true rfl) rfl ⟨Nat.le_refl _, Nat.le_refl _⟩ ?_
            refine s_X12_isLand (by omega) (fun c55_22 => ?_) (fun c55_23 c55_24 => ?_) (fun c55_25 c55_26 => ?_)
            · dsimp only [Option.toList, List.cons_append, List.nil_append, Nat.add_zero]
              refine v_if_ne_f (tgt := 63) dX12_finds_58 (by decide) (by decide) ?_
              refine v_iconst dX12_finds_61 (c32 rfl) ?_
              refine v_iretz dX12_finds_62 rfl (by decide) (Nat.le_refl _) (Nat.le_refl _) ?_
              exact q0 (by omega) _ _ _
            · dsimp only [Option.toList, List.cons_append, List.nil_append, Nat.add_zero]
              refine v_if_ne_f (tgt := 63) dX12_finds_58 (by decide) (by decide) ?_
              refine v_iconst dX12_finds_61 (c32 rfl) ?_
              refine v_iretz dX12_finds_62 rfl (by decide) (Nat.le_refl _) (Nat.le_refl _) ?_
              exact q0 (by omega) _ _ _
            · dsimp only [Option.toList, List.cons_append, List.nil_append, Nat.add_zero]
              refine v_if_ne_t (tgt := 63) dX12_finds_58 (by decide) (by decide) ?_
              refine v_aload_n dX12_finds_63 rfl ?_
              refine v_iload_n dX12_finds_64 rfl ?_
              refine v_puti (ci := 12) (j := 79) (ji := 79) dX12_finds_65 k_1495 (by decide) kk_116 (by decide) rfl rfl rfl ?_
              rw [jst_wj (by decide), kst_w (by decide)]
              refine v_aload_n dX12_finds_68 rfl ?_
              refine v_iload_n dX12_finds_69 rfl ?_
              refine v_puti (ci := 12) (j := 80) (ji := 80) dX12_finds_70 k_1496 (by decide) kk_116 (by decide) rfl rfl rfl ?_
              rw [jst_wj (by decide), kst_w (by decide)]
              refine v_aload_n dX12_finds_73 rfl ?_
              refine v_iload_n dX12_finds_74 rfl ?_
              refine v_puti (ci := 12) (j := 81) (ji := 81) dX12_finds_75 k_1497 (by decide) kk_116 (by decide) rfl rfl rfl ?_
              rw [jst_wj (by decide), kst_w (by decide)]
              refine v_aload_n dX12_finds_78 rfl ?_
              refine v_iload dX12_finds_79 rfl ?_
              refine v_puti (ci := 12) (j := 82) (ji := 82) dX12_finds_81 k_1498 (by decide) kk_116 (by decide) rfl rfl rfl ?_
              rw [jst_wj (by decide), kst_w (by decide)]
              refine v_aload_n dX12_finds_84 rfl ?_
              refine v_iload dX12_finds_85 rfl ?_
              refine v_puti (ci := 12) (j := 83) (ji := 83) dX12_finds_87 k_1499 (by decide) kk_116 (by decide) rfl rfl rfl ?_
              rw [jst_wj (by decide), kst_w (by decide)]
              refine v_aload_n dX12_finds_90 rfl ?_
              refine v_ldc2 (n := -1) dX12_finds_91 k_1957 (c64 rfl) (by decide) ?_
              refine v_putl (ci := 12) (j := 84) (ji := 84) dX12_finds_94 k_1500 (by decide) kk_116 (by decide) rfl rfl rfl ?_
              rw [jst_wj (by decide), kst_w (by decide)]
              refine v_aload_n dX12_finds_97 rfl ?_
              refine v_iconst dX12_finds_98 (c32 rfl) ?_
              refine v_callv (M' := mX12_tryParts) (d' := d - 1) (mc' := 0) (ms' := 0) (ci := 12) (c := 116) (As := [_]) dX12_finds_99 k_2035 cm_X12_tryParts rfl (by omega) (by decide) kk_116 (Nat.le_of_ble_eq_true rfl) rfl ⟨Nat.le_refl _, Nat.le_refl _⟩ ?_
              refine (s_try (g := g) I ⟨⟨by omega, by omega⟩, ⟨by omega, by omega⟩, ⟨by omega, by omega⟩, ⟨by omega, by omega⟩, ⟨by omega, by omega⟩⟩ (npF (h 167)).toNat) 0 0 ((-1 : Int), fun _ => 0) _ _ _ _ _ (by omega) (by have := (@npF_r (h 167)).1; omega) GR_0 (fun j j0 j1 => by omega) ⟨hset_same _ _ _ _, fun z => absurd rfl z⟩ (fun xF_29 xz_29 xl_29 c99_27 c99_28 c99_29 => ?_)
              dsimp only [Option.toList, List.cons_append, List.nil_append, Nat.add_zero]
              refine v_iconst dX12_finds_102 (c32 rfl) ?_
              refine v_iretz dX12_finds_103 rfl (by decide) (Nat.le_refl _) (Nat.le_refl _) ?_
              have e9 := c99_29
              rw [tr_SN] at e9
              exact q1 (by omega) _ _ _ e9

set_option maxHeartbeats 4000000 in
set_option maxRecDepth 100000 in
theorem s_rbest {l : Launch} {G : GG} {d : Nat} {h : AH} {Q : Option AV → List Kd → AH → Prop} {cs : Int → List (Int × List Int)} {F : AH} {z O Lr : Int → Int} {g : GD} (hd : 48 ≤ d) (I : CI h cs) (q0 : ¬ ((0 ≤ g.1 ∧ g.1 ≤ 7) ∧ (0 ≤ g.2.1 ∧ g.2.1 ≤ 99) ∧ (0 ≤ g.2.2.1 ∧ g.2.2.1 ≤ 9) ∧ (1 ≤ g.2.2.2.1 ∧ g.2.2.2.1 ≤ 1000000) ∧ (0 ≤ g.2.2.2.2 ∧ g.2.2.2.2 ≤ 7) ∧ npF (h 167) ≠ 0) → ∀ F z Lr, Q (some (1, -1)) K0 (jst (kst h F) z O Lr)) (q1 : ((0 ≤ g.1 ∧ g.1 ≤ 7) ∧ (0 ≤ g.2.1 ∧ g.2.1 ≤ 99) ∧ (0 ≤ g.2.2.1 ∧ g.2.2.1 ≤ 9) ∧ (1 ≤ g.2.2.2.1 ∧ g.2.2.2.1 ≤ 1000000) ∧ (0 ≤ g.2.2.2.2 ∧ g.2.2.2.2 ≤ 7) ∧ npF (h 167) ≠ 0) → ∀ F z Lr, Q (some (1, (SNk h cs g (nPk (h 167))).1)) K0 (jst (kst h F) z O Lr)) : Sp l G mX12_best d 0 0 K0 [(2, 116), (0, g.1), (0, g.2.1), (0, g.2.2.1), (0, g.2.2.2.1), (0, g.2.2.2.2)] (jst (kst h F) z O Lr) Q := by
  refine sp_of (L := [(2, 116), (0, g.1), (0, g.2.1), (0, g.2.2.1), (0, g.2.2.2.1), (0, g.2.2.2.2)]) pl_X12 (Nat.le_of_ble_eq_true rfl) (tg_c (by decide) (tg_c (by decide) (tg_c (by decide) (tg_c (by decide) (tg_c (by decide) (tg_c (by decide) tg_0)))))) rfl ?_
  refine v_aload_n dX12_best_0 rfl ?_
  refine v_iload_n dX12_best_1 rfl ?_
  refine v_iload_n dX12_best_2 rfl ?_
  refine v_iload_n dX12_best_3 rfl ?_
  refine v_iload dX12_best_4 rfl ?_
  refine v_iload dX12_best_6 rfl ?_
  refine v_callv (M' := mX12_finds) (d' := d - 1) (mc' := 0) (ms' := 0) (ci := 12) (c := 116) (As := [_, _, _, _, _]) dX12_best_8 k_2031 cm_X12_finds rfl (by omega) (by decide) kk_116 (Nat.le_of_ble_eq_true rfl) rfl ⟨Nat.le_refl _, Nat.le_refl _⟩ ?_
  refine s_rfinds (g := g) (by omega) I (fun xF_1 xz_1 xl_1 c8_1 => ?_) (fun xF_3 xz_3 xl_3 c8_2 c8_3 => ?_)
  · dsimp only [Option.toList, List.cons_append, List.nil_append, Nat.add_zero]
    refine v_if_eq_t (tgt := 21) dX12_best_11 (by decide) (by decide) ?_
    refine v_ldc2 (n := -1) dX12_best_21 k_1957 (c64 rfl) (by decide) ?_
    refine v_lret dX12_best_24 rfl (Nat.le_refl _) (Nat.le_refl _) ?_
    exact q0 (by omega) _ _ _
  · dsimp only [Option.toList, List.cons_append, List.nil_append, Nat.add_zero]
    refine v_if_eq_f (tgt := 21) dX12_best_11 (by decide) (by decide) ?_
    have STX := c8_3
    refine v_aload_n dX12_best_14 rfl ?_
    refine v_getv (ci := 12) (j := 84) (ji := 84) (tg := 1) dX12_best_15 k_1500 (by decide) kk_116 (by decide) rfl rfl (by decide) ((jst_j (by decide)).trans ((kst_s (by decide)).trans (STX.1))) ?_
    refine v_goto (tgt := 24) dX12_best_18 (by decide) ?_
    refine v_lret dX12_best_24 rfl (Nat.le_refl _) (Nat.le_refl _) ?_
    exact q1 (by omega) _ _ _

set_option maxHeartbeats 4000000 in
set_option maxRecDepth 100000 in
theorem s_rchosen {l : Launch} {G : GG} {d : Nat} {h : AH} {Q : Option AV → List Kd → AH → Prop} {cs : Int → List (Int × List Int)} {F : AH} {z O Lr : Int → Int} {g : GD} {p : Int} (hd : 48 ≤ d) (I : CI h cs) (q0 : ¬ (((0 ≤ g.1 ∧ g.1 ≤ 7) ∧ (0 ≤ g.2.1 ∧ g.2.1 ≤ 99) ∧ (0 ≤ g.2.2.1 ∧ g.2.2.1 ≤ 9) ∧ (1 ≤ g.2.2.2.1 ∧ g.2.2.2.1 ≤ 1000000) ∧ (0 ≤ g.2.2.2.2 ∧ g.2.2.2.2 ≤ 7) ∧ npF (h 167) ≠ 0) ∧ (0 ≤ p ∧ p < npF (h 167))) → ∀ F z Lr, Q (some (0, -1)) K0 (jst (kst h F) z O Lr)) (q1 : (((0 ≤ g.1 ∧ g.1 ≤ 7) ∧ (0 ≤ g.2.1 ∧ g.2.1 ≤ 99) ∧ (0 ≤ g.2.2.1 ∧ g.2.2.1 ≤ 9) ∧ (1 ≤ g.2.2.2.1 ∧ g.2.2.2.1 ≤ 1000000) ∧ (0 ≤ g.2.2.2.2 ∧ g.2.2.2.2 ≤ 7) ∧ npF (h 167) ≠ 0) ∧ (0 ≤ p ∧ p < npF (h 167))) → ∀ F z Lr, Q (some (0, (SNk h cs g (nPk (h 167))).2 p)) K0 (jst (kst h F) z O Lr)) : Sp l G mX12_chosen d 0 0 K0 [(2, 116), (0, g.1), (0, g.2.1), (0, g.2.2.1), (0, g.2.2.2.1), (0, g.2.2.2.2), (0, p)] (jst (kst h F) z O Lr) Q := by
  refine sp_of (L := [(2, 116), (0, g.1), (0, g.2.1), (0, g.2.2.1), (0, g.2.2.2.1), (0, g.2.2.2.2), (0, p)]) pl_X12 (Nat.le_of_ble_eq_true rfl) (tg_c (by decide) (tg_c (by decide) (tg_c (by decide) (tg_c (by decide) (tg_c (by decide) (tg_c (by decide) (tg_c (by decide) tg_0))))))) rfl ?_
  refine v_aload_n dX12_chosen_0 rfl ?_
  refine v_iload_n dX12_chosen_1 rfl ?_
  refine v_iload_n dX12_chosen_2 rfl ?_
  refine v_iload_n dX12_chosen_3 rfl ?_
  refine v_iload dX12_chosen_4 rfl ?_
  refine v_iload dX12_chosen_6 rfl ?_
  refine v_callv (M' := mX12_finds) (d' := d - 1) (mc' := 0) (ms' := 0) (ci := 12) (c := 116) (As := [_, _, _, _, _]) dX12_chosen_8 k_2031 cm_X12_finds rfl (by omega) (by decide) kk_116 (Nat.le_of_ble_eq_true rfl) rfl ⟨Nat.le_refl _, Nat.le_refl _⟩ ?_
  refine s_rfinds (g := g) (by omega) I (fun xF_1 xz_1 xl_1 c8_1 => ?_) (fun xF_3 xz_3 xl_3 c8_2 c8_3 => ?_)
  · dsimp only [Option.toList, List.cons_append, List.nil_append, Nat.add_zero]
    refine v_if_eq_t (tgt := 37) dX12_chosen_11 (by decide) (by decide) ?_
    refine v_iconst dX12_chosen_37 (c32 rfl) ?_
    refine v_ireti dX12_chosen_38 rfl (Nat.le_refl _) (Nat.le_refl _) ?_
    exact q0 (by omega) _ _ _
  · dsimp only [Option.toList, List.cons_append, List.nil_append, Nat.add_zero]
    refine v_if_eq_f (tgt := 37) dX12_chosen_11 (by decide) (by decide) ?_
    have np9 := (@npF_r (h 167)).1
    refine v_iload dX12_chosen_14 rfl ?_
    refine v_i2l dX12_chosen_16 ?_
    refine v_lconst (z := 0) dX12_chosen_17 (c64 rfl) (by decide) ?_
    refine v_ldc2 (n := 3) dX12_chosen_18 k_1710 (c64 rfl) (by decide) ?_
    refine v_calls (M' := mX12_isIn) (d' := d - 1) (mc' := 0) (ms' := 0) (As := [_, _, _]) dX12_chosen_21 k_1700 cm_X12_isIn (by omega) (Nat.le_of_ble_eq_true rfl) rfl ⟨Nat.le_refl _, Nat.le_refl _⟩ ?_
    refine s_X12_isIn (by omega) (fun c21_4 => ?_) (fun c21_5 c21_6 => ?_) (fun c21_7 c21_8 => ?_)
    · dsimp only [Option.toList, List.cons_append, List.nil_append, Nat.add_zero]
      refine v_if_eq_t (tgt := 37) dX12_chosen_24 (by decide) (by decide) ?_
      refine v_iconst dX12_chosen_37 (c32 rfl) ?_
      refine v_ireti dX12_chosen_38 rfl (Nat.le_refl _) (Nat.le_refl _) ?_
      exact q0 (by omega) _ _ _
    · dsimp only [Option.toList, List.cons_append, List.nil_append, Nat.add_zero]
      refine v_if_eq_t (tgt := 37) dX12_chosen_24 (by decide) (by decide) ?_
      refine v_iconst dX12_chosen_37 (c32 rfl) ?_
      refine v_ireti dX12_chosen_38 rfl (Nat.le_refl _) (Nat.le_refl _) ?_
      exact q0 (by omega) _ _ _
    · dsimp only [Option.toList, List.cons_append, List.nil_append, Nat.add_zero]
      refine v_if_eq_f (tgt := 37) dX12_chosen_24 (by decide) (by decide) ?_
      have STX := c8_3
      have SNX : (SNk h cs g (nPk (h 167))).1 ≠ -1 := by
        have a := SNk_p (cs := cs) (g := g) I ⟨⟨by omega, by omega⟩, ⟨by omega, by omega⟩, ⟨by omega, by omega⟩, ⟨by omega, by omega⟩, ⟨by omega, by omega⟩⟩ (nPk (h 167))
        have b := nPk_p I
        omega
      refine v_aload_n dX12_chosen_27 rfl ?_
      refine v_getr (ci := 12) (j := 78) (ji := 78) (z := 173) dX12_chosen_28 k_1494 (by decide) kk_116 (by decide) rfl rfl (fun r => rt_116_78 (r rfl)) (by decide) ?_
      refine v_iload dX12_chosen_31 rfl ?_
      refine v_ialoadv dX12_chosen_33 (by decide) kk_173 (by omega) (by omega) ((jst_c (by decide)).trans ((kst_m (by decide)).trans ((STX.2 SNX p (by omega) (by omega))))) ?_
      refine v_goto (tgt := 38) dX12_chosen_34 (by decide) ?_
      refine v_ireti dX12_chosen_38 rfl (Nat.le_refl _) (Nat.le_refl _) ?_
      by_cases z9 : p < npF (h 167)
      · rw [if_pos z9]; exact q1 ⟨by omega, by omega, z9⟩ _ _ _
      · rw [if_neg z9]; exact q0 (fun y => z9 y.2.2) _ _ _

