/-! ===== sourcing: the class's picks (written by wip/whole/p62.py) ===== -/
/-- the picks are in range -/
def PRk (h F : AH) : Prop := ∀ p, 0 ≤ p → p < npF (h 167) → 0 ≤ F 95 p ∧ F 95 p < h 167 p
theorem ov1_95 {F : AH} : ov1 F 95 (F 95) = F := ov1_mk
def pdF (f : Int → Int) (k : Int) : Int := fupI (fun i s => s * f i) 1 k
theorem pdF_s {f : Int → Int} {k : Int} (h : 0 ≤ k) : pdF f (k + 1) = pdF f k * f k := fupI_s h
theorem pdF_4 {f : Int → Int} {np : Int} (hf : ∀ p, 0 ≤ p → p < np → 0 < f p ∧ f p ≤ 4) (h4 : np ≤ 4) : ∀ k, 0 ≤ k → k ≤ np → (0 < pdF f k ∧ pdF f k ≤ 256) ∧ (k = 0 → pdF f k = 1) ∧ (k = 1 → pdF f k ≤ 4) ∧ (k = 2 → pdF f k ≤ 16) ∧ (k = 3 → pdF f k ≤ 64) := by
  have st : ∀ k B, 0 ≤ k → k < np → 0 < pdF f k → pdF f k ≤ B → 0 < pdF f (k + 1) ∧ pdF f (k + 1) ≤ B * 4 := fun k B h0 h1 h2 h3 => by
    rw [pdF_s h0]
    have := hf k h0 h1
    exact ⟨Int.mul_pos h2 this.1, Int.mul_le_mul h3 this.2 (by omega) (by omega)⟩
  have e0 : pdF f 0 = 1 := rfl
  intro k h0 h1
  rcases (show k = 0 ∨ k = 1 ∨ k = 2 ∨ k = 3 ∨ k = 4 by omega) with rfl | rfl | rfl | rfl | rfl
  · omega
  · have s1 := st 0 1 (by omega) (by omega) (by omega) (by omega)
    rw [show (0 : Int) + 1 = 1 from rfl] at s1
    omega
  · have s1 := st 0 1 (by omega) (by omega) (by omega) (by omega)
    rw [show (0 : Int) + 1 = 1 from rfl] at s1
    have s2 := st 1 4 (by omega) (by omega) (by omega) (by omega)
    rw [show (1 : Int) + 1 = 2 from rfl] at s2
    omega
  · have s1 := st 0 1 (by omega) (by omega) (by omega) (by omega)
    rw [show (0 : Int) + 1 = 1 from rfl] at s1
    have s2 := st 1 4 (by omega) (by omega) (by omega) (by omega)
    rw [show (1 : Int) + 1 = 2 from rfl] at s2
    have s3 := st 2 16 (by omega) (by omega) (by omega) (by omega)
    rw [show (2 : Int) + 1 = 3 from rfl] at s3
    omega
  · have s1 := st 0 1 (by omega) (by omega) (by omega) (by omega)
    rw [show (0 : Int) + 1 = 1 from rfl] at s1
    have s2 := st 1 4 (by omega) (by omega) (by omega) (by omega)
    rw [show (1 : Int) + 1 = 2 from rfl] at s2
    have s3 := st 2 16 (by omega) (by omega) (by omega) (by omega)
    rw [show (2 : Int) + 1 = 3 from rfl] at s3
    have s4 := st 3 64 (by omega) (by omega) (by omega) (by omega)
    rw [show (3 : Int) + 1 = 4 from rfl] at s4
    omega
theorem pdF_sz {f : Int → Int} {np : Int} (hf : ∀ p, 0 ≤ p → p < np → 0 < f p) : ∀ d : Nat, (d : Int) ≤ np → pdF f (np - d) * (sz4 f np d : Int) = pdF f np := by
  intro d
  induction d with
  | zero => intro _; rw [show np - ((0 : Nat) : Int) = np by omega]; exact Int.mul_one _
  | succ d ih =>
    intro hd
    rw [← ih (by omega)]
    have e : (sz4 f np (d + 1) : Int) = f (np - (d + 1 : Nat)) * (sz4 f np d : Int) := by
      show (((f (np - (d + 1 : Nat))).toNat * sz4 f np d : Nat) : Int) = _
      rw [Int.natCast_mul, Int.toNat_of_nonneg (by have := hf (np - (d + 1 : Nat)) (by omega) (by omega); omega)]
    have e2 : pdF f (np - (d : Int)) = pdF f (np - (d + 1 : Nat)) * f (np - (d + 1 : Nat)) := by
      rw [← pdF_s (by omega)]
      congr 1
      omega
    rw [e, e2, Int.mul_assoc]
/-- how many picks -/
def nPk (f : Int → Int) : Nat := sz4 f (npF f) (npF f).toNat
theorem nPk_pd {f : Int → Int} : (nPk f : Int) = pdF f (npF f) := by
  obtain ⟨a, b, c⟩ := @npF_r f
  have := pdF_sz (f := f) (np := npF f) b (npF f).toNat (by omega)
  rw [← this, show npF f - ((npF f).toNat : Int) = 0 by omega]
  exact (Int.one_mul _).symm

set_option maxHeartbeats 4000000 in
set_option maxRecDepth 100000 in
theorem lp_scnt {l : Launch} {G : GG} {d : Nat} {h F : AH} {Q : Option AV → List Kd → AH → Prop} {cs : Int → List (Int × List Int)} (hd : 1 ≤ d) (I : CI h cs) (hp : F 87 5 = npF (h 167)) (hq : Q (some (0, pdF (h 167) (npF (h 167)))) K0 (cst h F)) : ∀ k, 0 ≤ k → k ≤ npF (h 167) → V l G mX5_countPicks d 0 0 0 0 K0 4 [(2, 87), (0, pdF (h 167) k), (0, k)] [] (cst h F) Q := by
  have np9 := (@npF_r (h 167)).1
  have np8 := (@npF_r (h 167)).2.1
  refine loop_m3 (fun k hk hkN ih => ?_)
  refine v_iload_n dX5_countPicks_4 rfl ?_
  refine v_aload_n dX5_countPicks_5 rfl ?_
  refine v_getv (ci := 5) (j := 5) (ji := 5) (tg := 0) dX5_countPicks_6 k_475 (by decide) kk_87 (by decide) rfl rfl (by decide) ((cst_s (by decide)).trans (hp)) ?_
  refine v_icmp_ge (tgt := 27) dX5_countPicks_9 (by decide) (fun c9_1 => ?_) (fun c9_1 => ?_)
  · refine v_iload_n dX5_countPicks_27 rfl ?_
    refine v_ireti dX5_countPicks_28 rfl (Nat.le_refl _) (Nat.le_refl _) ?_
    obtain rfl : k = npF (h 167) := by omega
    exact hq
  · have p9 := pdF_4 (f := h 167) (np := npF (h 167)) (fun p p0 p1 => ⟨np8 p p0 p1, (I.ofn p p0 (by omega)).2⟩) np9.2 k hk (by omega)
    have p8 := pdF_4 (f := h 167) (np := npF (h 167)) (fun p p0 p1 => ⟨np8 p p0 p1, (I.ofn p p0 (by omega)).2⟩) np9.2 (k + 1) (by omega) (by omega)
    rw [pdF_s hk] at p8
    refine v_iload_n dX5_countPicks_12 rfl ?_
    refine v_aload_n dX5_countPicks_13 rfl ?_
    refine v_getr (ci := 5) (j := 4) (ji := 4) (z := 92) dX5_countPicks_14 k_474 (by decide) kk_87 (by decide) rfl rfl (fun r => rt_87_4 (r rfl)) (by decide) ?_
    refine v_iload_n dX5_countPicks_17 rfl ?_
    refine v_ialoadv dX5_countPicks_18 (by decide) kk_92 (by omega) (by omega) ((cst_n (by decide)).trans ((congrFun I.e92 k))) ?_
    refine v_imulE dX5_countPicks_19 (by omega) ?_
    refine v_istore_n_1 dX5_countPicks_20 (by decide) rfl ?_
    refine v_iinc_2 dX5_countPicks_21 (by decide) rfl ?_
    rw [iadd_eq (x := k) (y := 1) (by unfold ok32; omega)]
    refine v_goto (tgt := 4) dX5_countPicks_24 (by decide) ?_
    have ih9 := ih (by omega)
    rw [pdF_s hk] at ih9
    exact ih9

set_option maxHeartbeats 4000000 in
set_option maxRecDepth 100000 in
theorem s_scnt {l : Launch} {G : GG} {d : Nat} {h F : AH} {Q : Option AV → List Kd → AH → Prop} {cs : Int → List (Int × List Int)} (hd : 1 ≤ d) (I : CI h cs) (hp : F 87 5 = npF (h 167)) (hq : Q (some (0, (nPk (h 167) : Int))) K0 (cst h F)) : Sp l G mX5_countPicks d 0 0 K0 [(2, 87)] (cst h F) Q := by
  refine sp_of (L := [(2, 87), (9, 0), (9, 0)]) pl_X5 (Nat.le_of_ble_eq_true rfl) (tg_c (by decide) tg_0) rfl ?_
  refine v_iconst dX5_countPicks_0 (c32 rfl) ?_
  refine v_istore_n_1 dX5_countPicks_1 (by decide) rfl ?_
  refine v_iconst dX5_countPicks_2 (c32 rfl) ?_
  refine v_istore_n_2 dX5_countPicks_3 (by decide) rfl ?_
  exact lp_scnt hd I hp (by rw [← nPk_pd]; exact hq) 0 (Int.le_refl _) (@npF_r (h 167)).1.1

set_option maxHeartbeats 4000000 in
set_option maxRecDepth 100000 in
theorem lp_spick {l : Launch} {G : GG} {d : Nat} {h F : AH} {Q : Option AV → List Kd → AH → Prop} {cs : Int → List (Int × List Int)} {n : Int} (hd : 1 ≤ d) (I : CI h cs) : ∀ m : Nat, (m : Int) ≤ npF (h 167) → ∀ (r : Int) (T : Int → Int) (p : Int), p = (m : Int) - 1 → 0 ≤ r → r < 2147483648 → Q none K0 (cst h (ov1 F 95 (dgA (h 167) m r T))) → V l G mX5_setPick d 0 0 0 0 K0 9 [(2, 87), (0, n), (0, r), (0, p), (9, 0)] [] (cst h (ov1 F 95 T)) Q := by
  have np9 := (@npF_r (h 167)).1
  have np8 := (@npF_r (h 167)).2.1
  intro m
  induction m with
  | zero =>
    intro _ r T p hp h0 h1 hq
    refine v_iload_n dX5_setPick_9 rfl ?_
    refine v_if_lt (tgt := 46) dX5_setPick_10 (by decide) (fun c10_1 => ?_) (fun c10_1 => ?_)
    · refine v_vret dX5_setPick_46 rfl (Nat.le_refl _) (Nat.le_refl _) ?_
      exact hq
    · exfalso; omega
  | succ m ih =>
    intro hm r T p hp h0 h1 hq
    obtain rfl : p = (m : Int) := by omega
    have f9 := np8 m (by omega) (by omega)
    have f8 := I.ofn m (by omega) (by omega)
    refine v_iload_n dX5_setPick_9 rfl ?_
    refine v_if_lt (tgt := 46) dX5_setPick_10 (by decide) (fun c10_1 => ?_) (fun c10_1 => ?_)
    · refine v_vret dX5_setPick_46 rfl (Nat.le_refl _) (Nat.le_refl _) ?_
      exfalso; omega
    · refine v_iconst dX5_setPick_13 (c32 rfl) ?_
      refine v_aload_n dX5_setPick_14 rfl ?_
      refine v_getr (ci := 5) (j := 4) (ji := 4) (z := 92) dX5_setPick_15 k_474 (by decide) kk_87 (by decide) rfl rfl (fun r => rt_87_4 (r rfl)) (by decide) ?_
      refine v_iload_n dX5_setPick_18 rfl ?_
      refine v_ialoadv dX5_setPick_19 (by decide) kk_92 (by omega) (by omega) ((cst_n (by decide)).trans ((congrFun I.e92 (m : Int)))) ?_
      refine v_mmax dX5_setPick_20 k_1211 (by omega) (Nat.le_of_ble_eq_true rfl) ⟨Nat.le_refl _, Nat.le_refl _⟩ ?_
      refine v_istore_4 dX5_setPick_23 (by decide) rfl ?_
      refine v_aload_n dX5_setPick_25 rfl ?_
      refine v_getr (ci := 5) (j := 14) (ji := 14) (z := 95) dX5_setPick_26 k_484 (by decide) kk_87 (by decide) rfl rfl (fun r => rt_87_14 (r rfl)) (by decide) ?_
      refine v_iload_n dX5_setPick_29 rfl ?_
      refine v_iload_n dX5_setPick_30 rfl ?_
      refine v_iload dX5_setPick_31 rfl ?_
      refine v_irem dX5_setPick_33 (by omega) ?_
      refine v_iastore dX5_setPick_34 (by decide) kk_95 (by omega) (by omega) ?_
      rw [cst_w1 (by decide), ov1_w]
      refine v_iload_n dX5_setPick_35 rfl ?_
      refine v_iload dX5_setPick_36 rfl ?_
      refine v_idiv dX5_setPick_38 (by omega) ?_
      refine v_istore_n_2 dX5_setPick_39 (by decide) rfl ?_
      refine v_iinc_3 dX5_setPick_40 (by decide) rfl ?_
      rw [iadd_eq (x := (m : Int)) (y := (-1)) (by unfold ok32; omega)]
      refine v_goto (tgt := 9) dX5_setPick_43 (by decide) ?_
      have emx : max 1 (h 167 (m : Int)) = h 167 (m : Int) := by omega
      rw [emx, irem_nn h0 h1 (by omega) (by omega), idiv_nn h0 h1 (by omega) (by omega)]
      refine v_loc (lo_k (lo_k (lo_k (lo_k (lo_d lo_nil))))) ?_
      exact ih (by omega) _ _ _ (by omega) (Int.ediv_nonneg h0 (by omega)) (by have := Int.ediv_le_self (h 167 (m : Int)) h0; omega) hq

set_option maxHeartbeats 4000000 in
set_option maxRecDepth 100000 in
theorem s_spick {l : Launch} {G : GG} {d : Nat} {h F : AH} {Q : Option AV → List Kd → AH → Prop} {cs : Int → List (Int × List Int)} {n : Int} (hd : 1 ≤ d) (I : CI h cs) (hp : F 87 5 = npF (h 167)) (hn : 0 ≤ n ∧ n < 2147483648) (hq : Q none K0 (cst h (ov1 F 95 (dgA (h 167) (npF (h 167)).toNat n (F 95))))) : Sp l G mX5_setPick d 0 0 K0 [(2, 87), (0, n)] (cst h F) Q := by
  have np9 := (@npF_r (h 167)).1
  refine sp_of (L := [(2, 87), (0, n), (9, 0), (9, 0), (9, 0)]) pl_X5 (Nat.le_of_ble_eq_true rfl) (tg_c (by decide) (tg_c (by decide) tg_0)) rfl ?_
  refine v_iload_n dX5_setPick_0 rfl ?_
  refine v_istore_n_2 dX5_setPick_1 (by decide) rfl ?_
  refine v_aload_n dX5_setPick_2 rfl ?_
  refine v_getv (ci := 5) (j := 5) (ji := 5) (tg := 0) dX5_setPick_3 k_475 (by decide) kk_87 (by decide) rfl rfl (by decide) ((cst_s (by decide)).trans (hp)) ?_
  refine v_iconst dX5_setPick_6 (c32 rfl) ?_
  refine v_isubE dX5_setPick_7 (by omega) ?_
  refine v_istore_n_3 dX5_setPick_8 (by decide) rfl ?_
  have q9 := lp_spick (l := l) (G := G) (n := n) (d := d) (F := F) (Q := Q) hd I (npF (h 167)).toNat (by omega) n (F 95) (npF (h 167) - 1) (by omega) hn.1 hn.2 hq
  rw [ov1_95] at q9
  exact q9

set_option maxHeartbeats 4000000 in
set_option maxRecDepth 100000 in
theorem lp_scoin {l : Launch} {G : GG} {d : Nat} {h F : AH} {Q : Option AV → List Kd → AH → Prop} {cs : Int → List (Int × List Int)} (hd : 1 ≤ d) (I : CI h cs) (hp : F 87 5 = npF (h 167)) (hr : PRk h F) (hq : Q (some (1, sm (cV h (F 95)) (npF (h 167)))) K0 (cst h F)) : ∀ k, 0 ≤ k → k ≤ npF (h 167) → V l G mX5_coinsOfPick d 0 0 0 0 K0 4 [(2, 87), (1, sm (cV h (F 95)) k), (8, 0), (0, k)] [] (cst h F) Q := by
  have np9 := (@npF_r (h 167)).1
  have np8 := (@npF_r (h 167)).2.1
  refine loop_m3 (fun k hk hkN ih => ?_)
  refine v_iload_n dX5_coinsOfPick_4 rfl ?_
  refine v_aload_n dX5_coinsOfPick_5 rfl ?_
  refine v_getv (ci := 5) (j := 5) (ji := 5) (tg := 0) dX5_coinsOfPick_6 k_475 (by decide) kk_87 (by decide) rfl rfl (by decide) ((cst_s (by decide)).trans (hp)) ?_
  refine v_icmp_ge (tgt := 37) dX5_coinsOfPick_9 (by decide) (fun c9_1 => ?_) (fun c9_1 => ?_)
  · refine v_lload_n dX5_coinsOfPick_37 rfl ?_
    refine v_lret dX5_coinsOfPick_38 rfl (Nat.le_refl _) (Nat.le_refl _) ?_
    obtain rfl : k = npF (h 167) := by omega
    exact hq
  · have t9 := hr k hk (by omega)
    have k9 := I.ofn k hk (by omega)
    have o9 := I.ofk (4 * k + F 95 k) (by omega) (by omega)
    have o8 : cV h (F 95) k = h 168 (k * 4 + F 95 k) := by unfold cV; rw [show k * 4 + F 95 k = 4 * k + F 95 k by omega]
    rw [show 4 * k + F 95 k = k * 4 + F 95 k by omega] at o9
    have s9 := (sm_rng (f := cV h (F 95)) (N := npF (h 167)) (B := 1000000) (fun i i0 i1 => by have t9 := hr i i0 i1; have k9 := I.ofn i i0 (by omega); exact (I.ofk (4 * i + F 95 i) (by omega) (by omega)).1)) k hk (by omega)
    refine v_lload_n dX5_coinsOfPick_12 rfl ?_
    refine v_aload_n dX5_coinsOfPick_13 rfl ?_
    refine v_getr (ci := 5) (j := 0) (ji := 0) (z := 88) dX5_coinsOfPick_14 k_470 (by decide) kk_87 (by decide) rfl rfl (fun r => rt_87_0 (r rfl)) (by decide) ?_
    refine v_iload_n dX5_coinsOfPick_17 rfl ?_
    refine v_iconst dX5_coinsOfPick_18 (c32 rfl) ?_
    refine v_imulE dX5_coinsOfPick_19 (by omega) ?_
    refine v_aload_n dX5_coinsOfPick_20 rfl ?_
    refine v_getr (ci := 5) (j := 14) (ji := 14) (z := 95) dX5_coinsOfPick_21 k_484 (by decide) kk_87 (by decide) rfl rfl (fun r => rt_87_14 (r rfl)) (by decide) ?_
    refine v_iload_n dX5_coinsOfPick_24 rfl ?_
    refine v_ialoadv dX5_coinsOfPick_25 (by decide) kk_95 (by omega) (by omega) (cst_m (by decide)) ?_
    refine v_iaddE dX5_coinsOfPick_26 (by omega) ?_
    refine v_ialoadv dX5_coinsOfPick_27 (by decide) kk_88 (by omega) (by omega) ((cst_n (by decide)).trans ((congrFun I.e88 ((k * 4) + (F 95 k))))) ?_
    refine v_i2l dX5_coinsOfPick_28 ?_
    refine v_laddE dX5_coinsOfPick_29 (by omega) ?_
    refine v_lstore_n_1 dX5_coinsOfPick_30 (by decide) rfl ?_
    refine v_iinc_3 dX5_coinsOfPick_31 (by decide) rfl ?_
    rw [iadd_eq (x := k) (y := 1) (by unfold ok32; omega)]
    refine v_goto (tgt := 4) dX5_coinsOfPick_34 (by decide) ?_
    have ih9 := ih (by omega)
    rw [sm_s hk, o8] at ih9
    exact ih9

set_option maxHeartbeats 4000000 in
set_option maxRecDepth 100000 in
theorem s_scoin {l : Launch} {G : GG} {d : Nat} {h F : AH} {Q : Option AV → List Kd → AH → Prop} {cs : Int → List (Int × List Int)} (hd : 1 ≤ d) (I : CI h cs) (hp : F 87 5 = npF (h 167)) (hr : PRk h F) (hq : Q (some (1, sm (cV h (F 95)) (npF (h 167)))) K0 (cst h F)) : Sp l G mX5_coinsOfPick d 0 0 K0 [(2, 87)] (cst h F) Q := by
  refine sp_of (L := [(2, 87), (9, 0), (9, 0), (9, 0)]) pl_X5 (Nat.le_of_ble_eq_true rfl) (tg_c (by decide) tg_0) rfl ?_
  refine v_lconst (z := 0) dX5_coinsOfPick_0 (c64 rfl) (by decide) ?_
  refine v_lstore_n_1 dX5_coinsOfPick_1 (by decide) rfl ?_
  refine v_iconst dX5_coinsOfPick_2 (c32 rfl) ?_
  refine v_istore_n_3 dX5_coinsOfPick_3 (by decide) rfl ?_
  exact lp_scoin hd I hp hr hq 0 (Int.le_refl _) (@npF_r (h 167)).1.1

set_option maxHeartbeats 4000000 in
set_option maxRecDepth 100000 in
theorem s_sduty {l : Launch} {G : GG} {d : Nat} {h F : AH} {Q : Option AV → List Kd → AH → Prop} {x : Int} {g : GD} (hd : 1 ≤ d) (hpr : F 87 9 = g.2.2.2.1) (hg : 1 ≤ g.2.2.2.1 ∧ g.2.2.2.1 ≤ 1000000) (hx : 0 ≤ x ∧ x ≤ 1000) (hq : Q (some (1, ldiv (g.2.2.2.1 * x) 1000)) K0 (cst h F)) : Sp l G mX5_dutyAt d 0 0 K0 [(2, 87), (0, x)] (cst h F) Q := by
  refine sp_of (L := [(2, 87), (0, x)]) pl_X5 (Nat.le_of_ble_eq_true rfl) (tg_c (by decide) (tg_c (by decide) tg_0)) rfl ?_
  refine v_aload_n dX5_dutyAt_0 rfl ?_
  refine v_getv (ci := 5) (j := 9) (ji := 9) (tg := 0) dX5_dutyAt_1 k_479 (by decide) kk_87 (by decide) rfl rfl (by decide) ((cst_s (by decide)).trans (hpr)) ?_
  refine v_i2l dX5_dutyAt_4 ?_
  refine v_iload_n dX5_dutyAt_5 rfl ?_
  refine v_i2l dX5_dutyAt_6 ?_
  have m9 := du1000 (x := g.2.2.2.1) (a := x) (b := x) ⟨by omega, hg.2⟩ hx.1 (Int.le_refl _) hx.2
  refine v_lmulE dX5_dutyAt_7 (by omega) ?_
  refine v_ldc2 (n := 1000) dX5_dutyAt_8 k_1233 (c64 rfl) (by decide) ?_
  refine v_ldiv dX5_dutyAt_11 (by decide) ?_
  refine v_lret dX5_dutyAt_12 rfl (Nat.le_refl _) (Nat.le_refl _) ?_
  exact hq

