/-! ===== drawing of a heap: both sides (written by wip/whole/p59.py) ===== -/
def tdS (H P : Int → Int) (hp k : Int) (p : Int × Int) : Int × Int := if 0 < p.1 ∧ H k = hp ∧ 0 < P k then (p.1 - min p.1 (P k), p.2 + 1) else p
/-- how much is wanting, how many were touched -/
def tdF (H P : Int → Int) (hp n k : Int) : Int × Int := fupI (tdS H P hp) (n, 0) k
theorem tdF_s {H P : Int → Int} {hp n k : Int} (h : 0 ≤ k) : tdF H P hp n (k + 1) = tdS H P hp k (tdF H P hp n k) := fupI_s h
abbrev DRT : Type := Int × (Int → Int) × (Int → Int) × (Int → Int) × Int
def drS (H Of : Int → Int) (hp k : Int) (p : DRT) : DRT := if 0 < p.1 ∧ H k = hp ∧ 0 < p.2.1 k then (p.1 - min p.1 (p.2.1 k), fset p.2.1 k (p.2.1 k - min p.1 (p.2.1 k)), fset p.2.2.1 p.2.2.2.2 (Of k), fset p.2.2.2.1 p.2.2.2.2 (min p.1 (p.2.1 k)), p.2.2.2.2 + 1) else p
/-- what is wanting, what is left of the pourings, the bench -/
def drF (H Of : Int → Int) (hp : Int) (p : DRT) (k : Int) : DRT := fupI (drS H Of hp) p k
theorem drF_s {H Of : Int → Int} {hp k : Int} {p : DRT} (h : 0 ≤ k) : drF H Of hp p (k + 1) = drS H Of hp k (drF H Of hp p k) := fupI_s h
section DR
variable {H P Of B M : Int → Int} {hp n b k : Int}
theorem tdF_r (hn : 0 ≤ n) (h0 : 0 ≤ k) : (0 ≤ (tdF H P hp n k).1 ∧ (tdF H P hp n k).1 ≤ n) ∧ 0 ≤ (tdF H P hp n k).2 ∧ (tdF H P hp n k).2 ≤ k := by
  have key : ∀ m : Nat, (0 ≤ (tdF H P hp n m).1 ∧ (tdF H P hp n m).1 ≤ n) ∧ 0 ≤ (tdF H P hp n m).2 ∧ (tdF H P hp n m).2 ≤ m := by
    intro m
    induction m with
    | zero => exact ⟨⟨hn, Int.le_refl _⟩, Int.le_refl _, Int.le_refl _⟩
    | succ m ih =>
      rw [show ((m + 1 : Nat) : Int) = (m : Int) + 1 by omega, tdF_s (by omega)]
      unfold tdS
      split
      · refine ⟨⟨?_, ?_⟩, ?_, ?_⟩
        · show 0 ≤ _ - _; omega
        · show _ - _ ≤ n; omega
        · show 0 ≤ _ + 1; omega
        · show _ + 1 ≤ _; omega
      · omega
  have := key k.toNat
  rw [Int.toNat_of_nonneg h0] at this
  exact this
theorem tdF_mono (h0 : 0 ≤ k) {m : Int} (hm : k ≤ m) : (tdF H P hp n k).2 ≤ (tdF H P hp n m).2 := by
  have key : ∀ j : Nat, (tdF H P hp n k).2 ≤ (tdF H P hp n (k + j)).2 := by
    intro j
    induction j with
    | zero => rw [show k + ((0 : Nat) : Int) = k by omega]; exact Int.le_refl _
    | succ j ih =>
      rw [show k + ((j + 1 : Nat) : Int) = (k + j) + 1 by omega, tdF_s (by omega)]
      unfold tdS
      split
      · show _ ≤ _ + 1; omega
      · exact ih
  have := key (m - k).toNat
  rw [show k + ((m - k).toNat : Int) = m by omega] at this
  exact this
theorem tdF_stop (h0 : 0 ≤ k) {m : Int} (hm : k ≤ m) (hz : (tdF H P hp n k).1 ≤ 0) : tdF H P hp n m = tdF H P hp n k := by
  have key : ∀ j : Nat, tdF H P hp n (k + j) = tdF H P hp n k := by
    intro j
    induction j with
    | zero => rw [show k + ((0 : Nat) : Int) = k by omega]
    | succ j ih =>
      rw [show k + ((j + 1 : Nat) : Int) = (k + j) + 1 by omega, tdF_s (by omega), ih]
      exact if_neg (fun z => by omega)
  have := key (m - k).toNat
  rw [show k + ((m - k).toNat : Int) = m by omega] at this
  exact this
theorem drF_stop {p : DRT} (h0 : 0 ≤ k) {m : Int} (hm : k ≤ m) (hz : (drF H Of hp p k).1 ≤ 0) : drF H Of hp p m = drF H Of hp p k := by
  have key : ∀ j : Nat, drF H Of hp p (k + j) = drF H Of hp p k := by
    intro j
    induction j with
    | zero => rw [show k + ((0 : Nat) : Int) = k by omega]
    | succ j ih =>
      rw [show k + ((j + 1 : Nat) : Int) = (k + j) + 1 by omega, drF_s (by omega), ih]
      exact if_neg (fun z => by omega)
  have := key (m - k).toNat
  rw [show k + ((m - k).toNat : Int) = m by omega] at this
  exact this
theorem drF_td (h0 : 0 ≤ k) : (drF H Of hp (n, P, B, M, b) k).1 = (tdF H P hp n k).1 ∧ (drF H Of hp (n, P, B, M, b) k).2.2.2.2 = b + (tdF H P hp n k).2 ∧ ∀ j, k ≤ j → (drF H Of hp (n, P, B, M, b) k).2.1 j = P j := by
  have key : ∀ m : Nat, (drF H Of hp (n, P, B, M, b) m).1 = (tdF H P hp n m).1 ∧ (drF H Of hp (n, P, B, M, b) m).2.2.2.2 = b + (tdF H P hp n m).2 ∧ ∀ j, (m : Int) ≤ j → (drF H Of hp (n, P, B, M, b) m).2.1 j = P j := by
    intro m
    induction m with
    | zero => exact ⟨rfl, by show b = b + 0; omega, fun j _ => rfl⟩
    | succ m ih =>
      rw [show ((m + 1 : Nat) : Int) = (m : Int) + 1 by omega, drF_s (by omega), tdF_s (by omega)]
      obtain ⟨i1, i2, i3⟩ := ih
      unfold drS tdS
      rw [i3 m (Int.le_refl _), i1]
      by_cases c : 0 < (tdF H P hp n m).1 ∧ H m = hp ∧ 0 < P m
      · rw [if_pos c, if_pos c]
        refine ⟨rfl, ?_, fun j hj => ?_⟩
        · show _ + 1 = b + (_ + 1); omega
        · show fset _ (m : Int) _ j = _
          rw [fset_ne (by omega)]; exact i3 j (by omega)
      · rw [if_neg c, if_neg c]
        exact ⟨i1, i2, fun j hj => i3 j (by omega)⟩
  have := key k.toNat
  rw [Int.toNat_of_nonneg h0] at this
  exact this
theorem tdS_1 {p : Int × Int} (c : 0 < p.1 ∧ H k = hp ∧ 0 < P k) : tdS H P hp k p = (p.1 - min p.1 (P k), p.2 + 1) := if_pos c
theorem tdS_0 {p : Int × Int} (c : ¬ (0 < p.1 ∧ H k = hp ∧ 0 < P k)) : tdS H P hp k p = p := if_neg c
theorem drS_1 {p : DRT} (c : 0 < p.1 ∧ H k = hp ∧ 0 < p.2.1 k) : drS H Of hp k p = (p.1 - min p.1 (p.2.1 k), fset p.2.1 k (p.2.1 k - min p.1 (p.2.1 k)), fset p.2.2.1 p.2.2.2.2 (Of k), fset p.2.2.2.1 p.2.2.2.2 (min p.1 (p.2.1 k)), p.2.2.2.2 + 1) := if_pos c
theorem drS_0 {p : DRT} (c : ¬ (0 < p.1 ∧ H k = hp ∧ 0 < p.2.1 k)) : drS H Of hp k p = p := if_neg c
end DR
theorem lyF_out {H P : Int → Int} {hp n : Int} (hn : 0 ≤ n) (h : ∀ k, 0 ≤ k → k < n → H k ≠ hp) : lyF H P hp n = 0 := by
  have key : ∀ m : Nat, (m : Int) ≤ n → lyF H P hp m = 0 := by
    intro m
    induction m with
    | zero => intro _; rfl
    | succ m ih =>
      intro hm
      rw [show ((m + 1 : Nat) : Int) = (m : Int) + 1 by omega, lyF_s (by omega), ih (by omega)]
      unfold lySt
      rw [if_neg (h m (by omega) (by omega))]
      decide
  have := key n.toNat (by omega)
  rw [Int.toNat_of_nonneg hn] at this
  exact this

set_option maxHeartbeats 4000000 in
set_option maxRecDepth 100000 in
theorem lp_ctou {l : Launch} {G : GG} {d : Nat} {h : AH} {Q : Option AV → List Kd → AH → Prop} {p n : Int} (hd : 1 ≤ d) (hn : 0 ≤ h 81 6 ∧ h 81 6 ≤ 100) (hP : ∀ k, 0 ≤ k → k < h 81 6 → 0 ≤ h 86 k ∧ h 86 k ≤ 10000) (hnn : 1 ≤ n ∧ n < 2147483648) (hq : Q (some (0, (tdF (h 84) (h 86) p n (h 81 6)).2)) K0 h) : ∀ k, 0 ≤ k → k ≤ h 81 6 → ∀ w, (0 < w ∧ w = (tdF (h 84) (h 86) p n k).1) ∨ (w ≤ 0 ∧ (tdF (h 84) (h 86) p n k).1 = 0) → V l G mX10_countTouched d 0 0 0 0 K0 8 [(2, 81), (0, p), (0, n), (0, (tdF (h 84) (h 86) p n k).2), (0, w), (0, k)] [] h Q := by
  refine loop_m3 (fun k hk hkN ih w hw => ?_)
  refine v_iload dX10_countTouched_8 rfl ?_
  refine v_aload_n dX10_countTouched_10 rfl ?_
  refine v_get (ci := 10) (j := 6) (ji := 6) (tg := 0) dX10_countTouched_11 k_448 (by decide) kk_81 (by decide) rfl rfl (by decide) ?_
  refine v_icmp_ge (tgt := 64) dX10_countTouched_14 (by decide) (fun c14_1 => ?_) (fun c14_1 => ?_)
  · refine v_iload_n dX10_countTouched_64 rfl ?_
    refine v_ireti dX10_countTouched_65 rfl (Nat.le_refl _) (Nat.le_refl _) ?_
    obtain rfl : k = h 81 6 := by omega
    exact hq
  · have p9 := hP k hk (by omega)
    have r9 := tdF_r (H := h 84) (P := h 86) (hp := p) (n := n) (k := k) (by omega) hk
    refine v_iload dX10_countTouched_17 rfl ?_
    refine v_if_le (tgt := 64) dX10_countTouched_19 (by decide) (fun c19_2 => ?_) (fun c19_2 => ?_)
    · refine v_iload_n dX10_countTouched_64 rfl ?_
      refine v_ireti dX10_countTouched_65 rfl (Nat.le_refl _) (Nat.le_refl _) ?_
      rw [tdF_stop hk hkN (by omega)] at hq
      exact hq
    · refine v_aload_n dX10_countTouched_22 rfl ?_
      refine v_getr (ci := 10) (j := 3) (ji := 3) (z := 84) dX10_countTouched_23 k_445 (by decide) kk_81 (by decide) rfl rfl (fun r => rt_81_3 (r rfl)) (by decide) ?_
      refine v_iload dX10_countTouched_26 rfl ?_
      refine v_iaload dX10_countTouched_28 (by decide) kk_84 (by omega) (by omega) ?_
      refine v_iload_n dX10_countTouched_29 rfl ?_
      refine v_icmp_ne (tgt := 58) dX10_countTouched_30 (by decide) (fun c30_3 => ?_) (fun c30_3 => ?_)
      · refine v_iinc_5 dX10_countTouched_58 (by decide) rfl ?_
        rw [iadd_eq (x := k) (y := 1) (by unfold ok32; omega)]
        refine v_goto (tgt := 8) dX10_countTouched_61 (by decide) ?_
        have eS := tdS_0 (H := h 84) (P := h 86) (hp := p) (k := k) (p := (tdF (h 84) (h 86) p n k)) (by omega)
        have ih9 := ih (by omega) w (by rw [tdF_s hk, eS]; exact hw)
        rw [tdF_s hk, eS] at ih9
        exact ih9
      · refine v_aload_n dX10_countTouched_33 rfl ?_
        refine v_getr (ci := 10) (j := 5) (ji := 5) (z := 86) dX10_countTouched_34 k_447 (by decide) kk_81 (by decide) rfl rfl (fun r => rt_81_5 (r rfl)) (by decide) ?_
        refine v_iload dX10_countTouched_37 rfl ?_
        refine v_iaload dX10_countTouched_39 (by decide) kk_86 (by omega) (by omega) ?_
        refine v_if_le (tgt := 58) dX10_countTouched_40 (by decide) (fun c40_4 => ?_) (fun c40_4 => ?_)
        · refine v_iinc_5 dX10_countTouched_58 (by decide) rfl ?_
          rw [iadd_eq (x := k) (y := 1) (by unfold ok32; omega)]
          refine v_goto (tgt := 8) dX10_countTouched_61 (by decide) ?_
          have eS := tdS_0 (H := h 84) (P := h 86) (hp := p) (k := k) (p := (tdF (h 84) (h 86) p n k)) (by omega)
          have ih9 := ih (by omega) w (by rw [tdF_s hk, eS]; exact hw)
          rw [tdF_s hk, eS] at ih9
          exact ih9
        · refine v_iload dX10_countTouched_43 rfl ?_
          refine v_aload_n dX10_countTouched_45 rfl ?_
          refine v_getr (ci := 10) (j := 5) (ji := 5) (z := 86) dX10_countTouched_46 k_447 (by decide) kk_81 (by decide) rfl rfl (fun r => rt_81_5 (r rfl)) (by decide) ?_
          refine v_iload dX10_countTouched_49 rfl ?_
          refine v_iaload dX10_countTouched_51 (by decide) kk_86 (by omega) (by omega) ?_
          refine v_isubE dX10_countTouched_52 (by omega) ?_
          refine v_istore_4 dX10_countTouched_53 (by decide) rfl ?_
          refine v_iinc_3 dX10_countTouched_55 (by decide) rfl ?_
          rw [iadd_eq (x := (tdF (h 84) (h 86) p n k).2) (y := 1) (by unfold ok32; omega)]
          refine v_iinc_5 dX10_countTouched_58 (by decide) rfl ?_
          rw [iadd_eq (x := k) (y := 1) (by unfold ok32; omega)]
          refine v_goto (tgt := 8) dX10_countTouched_61 (by decide) ?_
          have eS := tdS_1 (H := h 84) (P := h 86) (hp := p) (k := k) (p := (tdF (h 84) (h 86) p n k)) ⟨by omega, by omega, by omega⟩
          have ih9 := ih (by omega) (w - (h 86 k)) (by rw [tdF_s hk, eS]; dsimp only; omega)
          rw [tdF_s hk, eS] at ih9
          exact ih9

set_option maxHeartbeats 4000000 in
set_option maxRecDepth 100000 in
theorem s_ctou {l : Launch} {G : GG} {d : Nat} {h : AH} {Q : Option AV → List Kd → AH → Prop} {p n : Int} (hd : 1 ≤ d) (hn : 0 ≤ h 81 6 ∧ h 81 6 ≤ 100) (hP : ∀ k, 0 ≤ k → k < h 81 6 → 0 ≤ h 86 k ∧ h 86 k ≤ 10000) (hnn : 1 ≤ n ∧ n < 2147483648) (hq : Q (some (0, (tdF (h 84) (h 86) p n (h 81 6)).2)) K0 h) : Sp l G mX10_countTouched d 0 0 K0 [(2, 81), (0, p), (0, n)] h Q := by
  refine sp_of (L := [(2, 81), (0, p), (0, n), (9, 0), (9, 0), (9, 0)]) pl_X10 (Nat.le_of_ble_eq_true rfl) (tg_c (by decide) (tg_c (by decide) (tg_c (by decide) tg_0))) rfl ?_
  refine v_iconst dX10_countTouched_0 (c32 rfl) ?_
  refine v_istore_n_3 dX10_countTouched_1 (by decide) rfl ?_
  refine v_iload_n dX10_countTouched_2 rfl ?_
  refine v_istore_4 dX10_countTouched_3 (by decide) rfl ?_
  refine v_iconst dX10_countTouched_5 (c32 rfl) ?_
  refine v_istore_5 dX10_countTouched_6 (by decide) rfl ?_
  exact lp_ctou hd hn hP hnn hq 0 (Int.le_refl _) hn.1 n (Or.inl ⟨by omega, rfl⟩)

set_option maxHeartbeats 4000000 in
set_option maxRecDepth 100000 in
theorem s_cpot {l : Launch} {G : GG} {d : Nat} {h : AH} {Q : Option AV → List Kd → AH → Prop} {p9 : DRT} {P9 : Int → Int} {x y : Int} (hd : 1 ≤ d) (hb : 0 ≤ p9.2.2.2.2 ∧ p9.2.2.2.2 < 6) (hq : Q none K0 (ov1 (ov1 (ov1 (hset h 81 2 (p9.2.2.2.2 + 1)) 82 (fset p9.2.2.1 p9.2.2.2.2 x)) 83 (fset p9.2.2.2.1 p9.2.2.2.2 y)) 86 P9)) : Sp l G mX10_putOnBench d 0 0 K0 [(2, 81), (0, x), (0, y)] (ov1 (ov1 (ov1 (hset h 81 2 p9.2.2.2.2) 82 p9.2.2.1) 83 p9.2.2.2.1) 86 P9) Q := by
  refine sp_of (L := [(2, 81), (0, x), (0, y)]) pl_X10 (Nat.le_of_ble_eq_true rfl) (tg_c (by decide) (tg_c (by decide) (tg_c (by decide) tg_0))) rfl ?_
  refine v_aload_n dX10_putOnBench_0 rfl ?_
  refine v_getv (ci := 10) (j := 2) (ji := 2) (tg := 0) dX10_putOnBench_1 k_443 (by decide) kk_81 (by decide) rfl rfl (by decide) ((ov1_c (by decide)).trans ((ov1_c (by decide)).trans ((ov1_c (by decide)).trans (hset_same _ _ _ _)))) ?_
  refine v_bipush dX10_putOnBench_4 (c32 rfl) (by decide) ?_
  refine v_icmp_ge_f (tgt := 39) dX10_putOnBench_6 (by decide) (by omega) ?_
  refine v_aload_n dX10_putOnBench_9 rfl ?_
  refine v_getr (ci := 10) (j := 0) (ji := 0) (z := 82) dX10_putOnBench_10 k_441 (by decide) kk_81 (by decide) rfl rfl (fun r => rt_81_0 (r rfl)) (by decide) ?_
  refine v_aload_n dX10_putOnBench_13 rfl ?_
  refine v_getv (ci := 10) (j := 2) (ji := 2) (tg := 0) dX10_putOnBench_14 k_443 (by decide) kk_81 (by decide) rfl rfl (by decide) ((ov1_c (by decide)).trans ((ov1_c (by decide)).trans ((ov1_c (by decide)).trans (hset_same _ _ _ _)))) ?_
  refine v_iload_n dX10_putOnBench_17 rfl ?_
  refine v_iastore dX10_putOnBench_18 (by decide) kk_82 (by omega) (by omega) ?_
  rw [ov1_n (by decide), ov1_n (by decide), ov1_w]
  refine v_aload_n dX10_putOnBench_19 rfl ?_
  refine v_getr (ci := 10) (j := 1) (ji := 1) (z := 83) dX10_putOnBench_20 k_442 (by decide) kk_81 (by decide) rfl rfl (fun r => rt_81_1 (r rfl)) (by decide) ?_
  refine v_aload_n dX10_putOnBench_23 rfl ?_
  refine v_getv (ci := 10) (j := 2) (ji := 2) (tg := 0) dX10_putOnBench_24 k_443 (by decide) kk_81 (by decide) rfl rfl (by decide) ((ov1_c (by decide)).trans ((ov1_c (by decide)).trans ((ov1_c (by decide)).trans (hset_same _ _ _ _)))) ?_
  refine v_iload_n dX10_putOnBench_27 rfl ?_
  refine v_iastore dX10_putOnBench_28 (by decide) kk_83 (by omega) (by omega) ?_
  rw [ov1_n (by decide), ov1_w]
  refine v_aload_n dX10_putOnBench_29 rfl ?_
  refine v_dup dX10_putOnBench_30 rfl ?_
  refine v_getv (ci := 10) (j := 2) (ji := 2) (tg := 0) dX10_putOnBench_31 k_443 (by decide) kk_81 (by decide) rfl rfl (by decide) ((ov1_c (by decide)).trans ((ov1_c (by decide)).trans ((ov1_c (by decide)).trans (hset_same _ _ _ _)))) ?_
  refine v_iconst dX10_putOnBench_34 (c32 rfl) ?_
  refine v_iaddE dX10_putOnBench_35 (by omega) ?_
  refine v_puti (ci := 10) (j := 2) (ji := 2) dX10_putOnBench_36 k_443 (by decide) kk_81 (by decide) rfl rfl rfl ?_
  rw [ov1_n (by decide), ov1_n (by decide), ov1_n (by decide), hset_tw]
  refine v_vret dX10_putOnBench_39 rfl (Nat.le_refl _) (Nat.le_refl _) ?_
  exact hq

set_option maxHeartbeats 4000000 in
set_option maxRecDepth 100000 in
theorem lp_cdrw {l : Launch} {G : GG} {d : Nat} {h : AH} {Q : Option AV → List Kd → AH → Prop} {p n : Int} (hd : 2 ≤ d) (hn : 0 ≤ h 81 6 ∧ h 81 6 ≤ 100) (hP : ∀ k, 0 ≤ k → k < h 81 6 → 0 ≤ h 86 k ∧ h 86 k ≤ 10000) (hnn : 1 ≤ n ∧ n < 2147483648) (hb : 0 ≤ h 81 2 ∧ h 81 2 ≤ 6) (ht : h 81 2 + (tdF (h 84) (h 86) p n (h 81 6)).2 ≤ 6) (hq : ∀ p9 : DRT, p9 = drF (h 84) (h 85) p (n, h 86, h 82, h 83, h 81 2) (h 81 6) → Q (some (0, p9.2.2.2.2)) K0 (ov1 (ov1 (ov1 (hset h 81 2 p9.2.2.2.2) 82 p9.2.2.1) 83 p9.2.2.2.1) 86 p9.2.1)) : ∀ k, 0 ≤ k → k ≤ h 81 6 → ∀ p9 : DRT, p9 = drF (h 84) (h 85) p (n, h 86, h 82, h 83, h 81 2) k → V l G mX10_drawFrom d 0 0 0 0 K0 37 [(2, 81), (0, p), (0, n), (0, p9.1), (0, k), (9, 0)] [] (ov1 (ov1 (ov1 (hset h 81 2 p9.2.2.2.2) 82 p9.2.2.1) 83 p9.2.2.2.1) 86 p9.2.1) Q := by
  refine loop_m3 (fun k hk hkN ih p9 hp9 => ?_)
  refine v_iload dX10_drawFrom_37 rfl ?_
  refine v_aload_n dX10_drawFrom_39 rfl ?_
  refine v_getv (ci := 10) (j := 6) (ji := 6) (tg := 0) dX10_drawFrom_40 k_448 (by decide) kk_81 (by decide) rfl rfl (by decide) ((ov1_c (by decide)).trans ((ov1_c (by decide)).trans ((ov1_c (by decide)).trans (hset_j (by decide))))) ?_
  refine v_icmp_ge (tgt := 120) dX10_drawFrom_43 (by decide) (fun c43_1 => ?_) (fun c43_1 => ?_)
  · refine v_aload_n dX10_drawFrom_120 rfl ?_
    refine v_getv (ci := 10) (j := 2) (ji := 2) (tg := 0) dX10_drawFrom_121 k_443 (by decide) kk_81 (by decide) rfl rfl (by decide) ((ov1_c (by decide)).trans ((ov1_c (by decide)).trans ((ov1_c (by decide)).trans (hset_same _ _ _ _)))) ?_
    refine v_ireti dX10_drawFrom_124 rfl (Nat.le_refl _) (Nat.le_refl _) ?_
    obtain rfl : k = h 81 6 := by omega
    exact hq p9 hp9
  · have l9 := drF_td (H := h 84) (Of := h 85) (hp := p) (n := n) (P := h 86) (B := h 82) (M := h 83) (b := h 81 2) (k := k) hk
    rw [← hp9] at l9
    have hPk := l9.2.2 k (Int.le_refl _)
    have p8 := hP k hk (by omega)
    have r9 := tdF_r (H := h 84) (P := h 86) (hp := p) (n := n) (k := k) (by omega) hk
    have m9 := tdF_mono (H := h 84) (P := h 86) (hp := p) (n := n) (k := k + 1) (m := h 81 6) (by omega) (by omega)
    rw [tdF_s hk] at m9
    refine v_iload_n dX10_drawFrom_46 rfl ?_
    refine v_if_le (tgt := 120) dX10_drawFrom_47 (by decide) (fun c47_2 => ?_) (fun c47_2 => ?_)
    · refine v_aload_n dX10_drawFrom_120 rfl ?_
      refine v_getv (ci := 10) (j := 2) (ji := 2) (tg := 0) dX10_drawFrom_121 k_443 (by decide) kk_81 (by decide) rfl rfl (by decide) ((ov1_c (by decide)).trans ((ov1_c (by decide)).trans ((ov1_c (by decide)).trans (hset_same _ _ _ _)))) ?_
      refine v_ireti dX10_drawFrom_124 rfl (Nat.le_refl _) (Nat.le_refl _) ?_
      exact hq p9 (by rw [drF_stop hk hkN (by rw [← hp9]; omega)]; exact hp9)
    · refine v_aload_n dX10_drawFrom_50 rfl ?_
      refine v_getr (ci := 10) (j := 3) (ji := 3) (z := 84) dX10_drawFrom_51 k_445 (by decide) kk_81 (by decide) rfl rfl (fun r => rt_81_3 (r rfl)) (by decide) ?_
      refine v_iload dX10_drawFrom_54 rfl ?_
      refine v_ialoadv dX10_drawFrom_56 (by decide) kk_84 (by omega) (by omega) ((ov1_c (by decide)).trans ((ov1_c (by decide)).trans ((ov1_c (by decide)).trans (hset_c (by decide))))) ?_
      refine v_iload_n dX10_drawFrom_57 rfl ?_
      refine v_icmp_ne (tgt := 114) dX10_drawFrom_58 (by decide) (fun c58_3 => ?_) (fun c58_3 => ?_)
      · refine v_iinc_4 dX10_drawFrom_114 (by decide) rfl ?_
        rw [iadd_eq (x := k) (y := 1) (by unfold ok32; omega)]
        refine v_goto (tgt := 37) dX10_drawFrom_117 (by decide) ?_
        have eS := drS_0 (H := h 84) (Of := h 85) (hp := p) (k := k) (p := p9) (by rw [hPk]; omega)
        have ih9 := ih (by omega) (drS (h 84) (h 85) p k p9) (by rw [hp9]; exact (drF_s hk).symm)
        rw [eS] at ih9
        refine v_loc (lo_k (lo_k (lo_k (lo_k (lo_k (lo_d lo_nil)))))) ?_
        exact ih9
      · refine v_aload_n dX10_drawFrom_61 rfl ?_
        refine v_getr (ci := 10) (j := 5) (ji := 5) (z := 86) dX10_drawFrom_62 k_447 (by decide) kk_81 (by decide) rfl rfl (fun r => rt_81_5 (r rfl)) (by decide) ?_
        refine v_iload dX10_drawFrom_65 rfl ?_
        refine v_ialoadv dX10_drawFrom_67 (by decide) kk_86 (by omega) (by omega) ((ov1_s).trans (hPk)) ?_
        refine v_if_le (tgt := 114) dX10_drawFrom_68 (by decide) (fun c68_4 => ?_) (fun c68_4 => ?_)
        · refine v_iinc_4 dX10_drawFrom_114 (by decide) rfl ?_
          rw [iadd_eq (x := k) (y := 1) (by unfold ok32; omega)]
          refine v_goto (tgt := 37) dX10_drawFrom_117 (by decide) ?_
          have eS := drS_0 (H := h 84) (Of := h 85) (hp := p) (k := k) (p := p9) (by rw [hPk]; omega)
          have ih9 := ih (by omega) (drS (h 84) (h 85) p k p9) (by rw [hp9]; exact (drF_s hk).symm)
          rw [eS] at ih9
          refine v_loc (lo_k (lo_k (lo_k (lo_k (lo_k (lo_d lo_nil)))))) ?_
          exact ih9
        · refine v_iload_n dX10_drawFrom_71 rfl ?_
          refine v_aload_n dX10_drawFrom_72 rfl ?_
          refine v_getr (ci := 10) (j := 5) (ji := 5) (z := 86) dX10_drawFrom_73 k_447 (by decide) kk_81 (by decide) rfl rfl (fun r => rt_81_5 (r rfl)) (by decide) ?_
          refine v_iload dX10_drawFrom_76 rfl ?_
          refine v_ialoadv dX10_drawFrom_78 (by decide) kk_86 (by omega) (by omega) ((ov1_s).trans (hPk)) ?_
          rw [tdS_1 ⟨by omega, by omega, by omega⟩] at m9
          have m8 : (tdF (h 84) (h 86) p n k).2 + 1 ≤ (tdF (h 84) (h 86) p n (h 81 6)).2 := m9
          refine v_mmin dX10_drawFrom_79 k_889 (by omega) (Nat.le_of_ble_eq_true rfl) ⟨Nat.le_refl _, Nat.le_refl _⟩ ?_
          refine v_istore_5 dX10_drawFrom_82 (by decide) rfl ?_
          refine v_aload_n dX10_drawFrom_84 rfl ?_
          refine v_getr (ci := 10) (j := 5) (ji := 5) (z := 86) dX10_drawFrom_85 k_447 (by decide) kk_81 (by decide) rfl rfl (fun r => rt_81_5 (r rfl)) (by decide) ?_
          refine v_iload dX10_drawFrom_88 rfl ?_
          refine v_dup2 dX10_drawFrom_90 rfl rfl ?_
          refine v_ialoadv dX10_drawFrom_91 (by decide) kk_86 (by omega) (by omega) ((ov1_s).trans (hPk)) ?_
          refine v_iload dX10_drawFrom_92 rfl ?_
          refine v_isubE dX10_drawFrom_94 (by omega) ?_
          refine v_iastore dX10_drawFrom_95 (by decide) kk_86 (by omega) (by omega) ?_
          rw [ov1_w]
          refine v_iload_n dX10_drawFrom_96 rfl ?_
          refine v_iload dX10_drawFrom_97 rfl ?_
          refine v_isubE dX10_drawFrom_99 (by omega) ?_
          refine v_istore_n_3 dX10_drawFrom_100 (by decide) rfl ?_
          refine v_aload_n dX10_drawFrom_101 rfl ?_
          refine v_aload_n dX10_drawFrom_102 rfl ?_
          refine v_getr (ci := 10) (j := 4) (ji := 4) (z := 85) dX10_drawFrom_103 k_446 (by decide) kk_81 (by decide) rfl rfl (fun r => rt_81_4 (r rfl)) (by decide) ?_
          refine v_iload dX10_drawFrom_106 rfl ?_
          refine v_ialoadv dX10_drawFrom_108 (by decide) kk_85 (by omega) (by omega) ((ov1_c (by decide)).trans ((ov1_c (by decide)).trans ((ov1_c (by decide)).trans (hset_c (by decide))))) ?_
          refine v_iload dX10_drawFrom_109 rfl ?_
          refine v_callv (M' := mX10_putOnBench) (d' := d - 1) (mc' := 0) (ms' := 0) (ci := 10) (c := 81) (As := [_, _]) dX10_drawFrom_111 k_860 cm_X10_putOnBench rfl (by omega) (by decide) kk_81 (Nat.le_of_ble_eq_true rfl) rfl ⟨Nat.le_refl _, Nat.le_refl _⟩ ?_
          refine s_cpot (p9 := p9) (by omega) ⟨by omega, by omega⟩ ?_
          dsimp only [Option.toList, List.cons_append, List.nil_append, Nat.add_zero]
          refine v_iinc_4 dX10_drawFrom_114 (by decide) rfl ?_
          rw [iadd_eq (x := k) (y := 1) (by unfold ok32; omega)]
          refine v_goto (tgt := 37) dX10_drawFrom_117 (by decide) ?_
          have eS := drS_1 (H := h 84) (Of := h 85) (hp := p) (k := k) (p := p9) ⟨by omega, by omega, by rw [hPk]; omega⟩
          rw [hPk] at eS
          have ih9 := ih (by omega) (drS (h 84) (h 85) p k p9) (by rw [hp9]; exact (drF_s hk).symm)
          rw [eS] at ih9
          dsimp only at ih9
          refine v_loc (lo_k (lo_k (lo_k (lo_k (lo_k (lo_d lo_nil)))))) ?_
          exact ih9

/-- what a draw leaves, of the class -/
def dcH (h : AH) (p9 : DRT) : AH := (ov1 (ov1 (ov1 (hset h 81 2 p9.2.2.2.2) 82 p9.2.2.1) 83 p9.2.2.2.1) 86 p9.2.1)

theorem dcH_mk {h : AH} {n : Int} : dcH h (n, h 86, h 82, h 83, h 81 2) = h := by
  unfold dcH
  dsimp only
  rw [hset_mk, ov1_mk, ov1_mk, ov1_mk]

set_option maxHeartbeats 4000000 in
set_option maxRecDepth 100000 in
theorem s_cdrawF {l : Launch} {G : GG} {d : Nat} {h : AH} {Q : Option AV → List Kd → AH → Prop} {p n : Int} (hd : 3 ≤ d) (hn : 0 ≤ h 81 6 ∧ h 81 6 ≤ 100) (hP : ∀ k, 0 ≤ k → k < h 81 6 → 0 ≤ h 86 k ∧ h 86 k ≤ 10000) (hb : 0 ≤ h 81 2 ∧ h 81 2 ≤ 6) (q0 : ¬ (1 ≤ n ∧ n ≤ (lyF (h 84) (h 86) p (h 81 6)) ∧ h 81 2 + (tdF (h 84) (h 86) p n (h 81 6)).2 ≤ 6) → Q (some (0, -1)) K0 h) (q1 : (1 ≤ n ∧ n ≤ (lyF (h 84) (h 86) p (h 81 6)) ∧ h 81 2 + (tdF (h 84) (h 86) p n (h 81 6)).2 ≤ 6) → Q (some (0, (drF (h 84) (h 85) p (n, h 86, h 82, h 83, h 81 2) (h 81 6)).2.2.2.2)) K0 (dcH h (drF (h 84) (h 85) p (n, h 86, h 82, h 83, h 81 2) (h 81 6)))) : Sp l G mX10_drawFrom d 0 0 K0 [(2, 81), (0, p), (0, n)] h Q := by
  refine sp_of (L := [(2, 81), (0, p), (0, n), (9, 0), (9, 0), (9, 0)]) pl_X10 (Nat.le_of_ble_eq_true rfl) (tg_c (by decide) (tg_c (by decide) (tg_c (by decide) tg_0))) rfl ?_
  refine v_known (fun hL9 _ => ?_)
  have hn32 : ok32 n := (hL9 (0, n) (by simp)).1 rfl
  unfold ok32 at hn32
  have r9 := fun z : 0 ≤ n => tdF_r (H := h 84) (P := h 86) (hp := p) (n := n) (k := h 81 6) z hn.1
  refine v_iload_n dX10_drawFrom_0 rfl ?_
  refine v_iconst dX10_drawFrom_1 (c32 rfl) ?_
  refine v_icmp_lt (tgt := 30) dX10_drawFrom_2 (by decide) (fun c2_1 => ?_) (fun c2_1 => ?_)
  · refine v_iconst dX10_drawFrom_30 (c32 rfl) ?_
    refine v_ireti dX10_drawFrom_31 rfl (Nat.le_refl _) (Nat.le_refl _) ?_
    exact q0 (by omega)
  · refine v_aload_n dX10_drawFrom_5 rfl ?_
    refine v_iload_n dX10_drawFrom_6 rfl ?_
    refine v_callv (M' := mX10_lyingOn) (d' := d - 1) (mc' := 0) (ms' := 0) (ci := 10) (c := 81) (As := [_]) dX10_drawFrom_7 k_873 cm_X10_lyingOn rfl (by omega) (by decide) kk_81 (Nat.le_of_ble_eq_true rfl) rfl ⟨Nat.le_refl _, Nat.le_refl _⟩ ?_
    refine s_X10_lyingOn (by omega) hn.1 hn.2 ?_
    dsimp only [Option.toList, List.cons_append, List.nil_append, Nat.add_zero]
    refine v_iload_n dX10_drawFrom_10 rfl ?_
    refine v_icmp_lt (tgt := 30) dX10_drawFrom_11 (by decide) (fun c11_2 => ?_) (fun c11_2 => ?_)
    · refine v_iconst dX10_drawFrom_30 (c32 rfl) ?_
      refine v_ireti dX10_drawFrom_31 rfl (Nat.le_refl _) (Nat.le_refl _) ?_
      exact q0 (by omega)
    · refine v_aload_n dX10_drawFrom_14 rfl ?_
      refine v_get (ci := 10) (j := 2) (ji := 2) (tg := 0) dX10_drawFrom_15 k_443 (by decide) kk_81 (by decide) rfl rfl (by decide) ?_
      refine v_aload_n dX10_drawFrom_18 rfl ?_
      refine v_iload_n dX10_drawFrom_19 rfl ?_
      refine v_iload_n dX10_drawFrom_20 rfl ?_
      refine v_callv (M' := mX10_countTouched) (d' := d - 1) (mc' := 0) (ms' := 0) (ci := 10) (c := 81) (As := [_, _]) dX10_drawFrom_21 k_885 cm_X10_countTouched rfl (by omega) (by decide) kk_81 (Nat.le_of_ble_eq_true rfl) rfl ⟨Nat.le_refl _, Nat.le_refl _⟩ ?_
      refine s_ctou (by omega) hn hP ⟨by omega, by omega⟩ ?_
      dsimp only [Option.toList, List.cons_append, List.nil_append, Nat.add_zero]
      have r8 := r9 (by omega)
      refine v_iaddE dX10_drawFrom_24 (by omega) ?_
      refine v_bipush dX10_drawFrom_25 (c32 rfl) (by decide) ?_
      refine v_icmp_le (tgt := 32) dX10_drawFrom_27 (by decide) (fun c27_3 => ?_) (fun c27_3 => ?_)
      · refine v_iload_n dX10_drawFrom_32 rfl ?_
        refine v_istore_n_3 dX10_drawFrom_33 (by decide) rfl ?_
        refine v_iconst dX10_drawFrom_34 (c32 rfl) ?_
        refine v_istore_4 dX10_drawFrom_35 (by decide) rfl ?_
        have q9 := lp_cdrw (l := l) (G := G) (d := d) (h := h) (p := p) (n := n) (Q := Q) (by omega) hn hP ⟨by omega, by omega⟩ hb (by omega) (fun p9 hp9 => by subst hp9; exact q1 (by omega)) 0 (Int.le_refl _) hn.1 (n, h 86, h 82, h 83, h 81 2) rfl
        change V l G mX10_drawFrom d 0 0 0 0 K0 37 [(2, 81), (0, p), (0, n), (0, n), (0, 0), (9, 0)] [] (dcH h (n, h 86, h 82, h 83, h 81 2)) Q at q9
        rw [dcH_mk] at q9
        exact q9
      · refine v_iconst dX10_drawFrom_30 (c32 rfl) ?_
        refine v_ireti dX10_drawFrom_31 rfl (Nat.le_refl _) (Nat.le_refl _) ?_
        exact q0 (by omega)

set_option maxHeartbeats 4000000 in
set_option maxRecDepth 100000 in
theorem s_Fdraw {l : Launch} {G : GG} {d : Nat} {h : AH} {Q : Option AV → List Kd → AH → Prop} {p n : Int} (hd : 4 ≤ d) (hn : 0 ≤ h 81 6 ∧ h 81 6 ≤ 100) (hP : ∀ k, 0 ≤ k → k < h 81 6 → 0 ≤ h 86 k ∧ h 86 k ≤ 10000) (hb : 0 ≤ h 81 2 ∧ h 81 2 ≤ 6) (q0 : ¬ (1 ≤ n ∧ n ≤ (lyF (h 84) (h 86) p (h 81 6)) ∧ h 81 2 + (tdF (h 84) (h 86) p n (h 81 6)).2 ≤ 6) → Q (some (0, -1)) K0 h) (q1 : (1 ≤ n ∧ n ≤ (lyF (h 84) (h 86) p (h 81 6)) ∧ h 81 2 + (tdF (h 84) (h 86) p n (h 81 6)).2 ≤ 6) → Q (some (0, (drF (h 84) (h 85) p (n, h 86, h 82, h 83, h 81 2) (h 81 6)).2.2.2.2)) K0 (dcH h (drF (h 84) (h 85) p (n, h 86, h 82, h 83, h 81 2) (h 81 6)))) : Sp l G mX11_draw d 0 0 K0 [(2, 0), (0, p), (0, n)] h Q := by
  refine sp_of (L := [(2, 0), (0, p), (0, n)]) pl_X11 (Nat.le_of_ble_eq_true rfl) (tg_c (by decide) (tg_c (by decide) (tg_c (by decide) tg_0))) rfl ?_
  refine v_aload_n dX11_draw_0 rfl ?_
  refine v_getr (ci := 11) (j := 4) (ji := 4) (z := 81) dX11_draw_1 k_558 (by decide) kk_0 (by decide) rfl rfl (fun r => rt_0_4 (r rfl)) (by decide) ?_
  refine v_iload_n dX11_draw_4 rfl ?_
  refine v_iload_n dX11_draw_5 rfl ?_
  refine v_callv (M' := mX10_drawFrom) (d' := d - 1) (mc' := 0) (ms' := 0) (ci := 10) (c := 81) (As := [_, _]) dX11_draw_6 k_881 cm_X10_drawFrom rfl (by omega) (by decide) kk_81 (Nat.le_of_ble_eq_true rfl) rfl ⟨Nat.le_refl _, Nat.le_refl _⟩ ?_
  refine s_cdrawF (by omega) hn hP hb (fun c6_1 => ?_) (fun c6_2 => ?_)
  · dsimp only [Option.toList, List.cons_append, List.nil_append, Nat.add_zero]
    refine v_ireti dX11_draw_9 rfl (Nat.le_refl _) (Nat.le_refl _) ?_
    exact q0 c6_1
  · dsimp only [Option.toList, List.cons_append, List.nil_append, Nat.add_zero]
    refine v_ireti dX11_draw_9 rfl (Nat.le_refl _) (Nat.le_refl _) ?_
    exact q1 c6_2

set_option maxHeartbeats 4000000 in
set_option maxRecDepth 100000 in
theorem lp_rtou {l : Launch} {G : GG} {d : Nat} {h : AH} {Q : Option AV → List Kd → AH → Prop} {p n : Int} (hd : 1 ≤ d) (hn : 0 ≤ h 116 47 ∧ h 116 47 ≤ 100) (hP : ∀ k, 0 ≤ k → k < h 116 47 → 0 ≤ h 142 k ∧ h 142 k ≤ 10000) (hnn : 1 ≤ n ∧ n < 2147483648) (hq : ∀ x y, V l G mX12_draw d 0 0 0 0 K0 105 [(2, 116), (0, p), (0, n), (0, (tdF (h 143) (h 142) p n (h 116 47)).2), (0, x), (0, y), (9, 0)] [] h Q) : ∀ k, 0 ≤ k → k ≤ h 116 47 → V l G mX12_draw d 0 0 0 0 K0 41 [(2, 116), (0, p), (0, n), (0, (tdF (h 143) (h 142) p n k).2), (0, (tdF (h 143) (h 142) p n k).1), (0, k), (9, 0)] [] h Q := by
  refine loop_m3 (fun k hk hkN ih => ?_)
  refine v_iload dX12_draw_41 rfl ?_
  refine v_aload_n dX12_draw_43 rfl ?_
  refine v_get (ci := 12) (j := 47) (ji := 47) (tg := 0) dX12_draw_44 k_1463 (by decide) kk_116 (by decide) rfl rfl (by decide) ?_
  refine v_icmp_ge (tgt := 105) dX12_draw_47 (by decide) (fun c47_1 => ?_) (fun c47_1 => ?_)
  · obtain rfl : k = h 116 47 := by omega
    exact hq _ _
  · have p9 := hP k hk (by omega)
    have r9 := tdF_r (H := h 143) (P := h 142) (hp := p) (n := n) (k := k) (by omega) hk
    refine v_iload dX12_draw_50 rfl ?_
    refine v_if_le (tgt := 105) dX12_draw_52 (by decide) (fun c52_2 => ?_) (fun c52_2 => ?_)
    · rw [tdF_stop hk hkN (by omega)] at hq
      exact hq _ _
    · refine v_aload_n dX12_draw_55 rfl ?_
      refine v_getr (ci := 12) (j := 40) (ji := 40) (z := 143) dX12_draw_56 k_1456 (by decide) kk_116 (by decide) rfl rfl (fun r => rt_116_40 (r rfl)) (by decide) ?_
      refine v_iload dX12_draw_59 rfl ?_
      refine v_iaload dX12_draw_61 (by decide) kk_143 (by omega) (by omega) ?_
      refine v_iload_n dX12_draw_62 rfl ?_
      refine v_icmp_ne (tgt := 99) dX12_draw_63 (by decide) (fun c63_3 => ?_) (fun c63_3 => ?_)
      · refine v_iinc_5 dX12_draw_99 (by decide) rfl ?_
        rw [iadd_eq (x := k) (y := 1) (by unfold ok32; omega)]
        refine v_goto (tgt := 41) dX12_draw_102 (by decide) ?_
        have eS := tdS_0 (H := h 143) (P := h 142) (hp := p) (k := k) (p := (tdF (h 143) (h 142) p n k)) (by omega)
        have ih9 := ih (by omega)
        rw [tdF_s hk, eS] at ih9
        exact ih9
      · refine v_aload_n dX12_draw_66 rfl ?_
        refine v_getr (ci := 12) (j := 39) (ji := 39) (z := 142) dX12_draw_67 k_1455 (by decide) kk_116 (by decide) rfl rfl (fun r => rt_116_39 (r rfl)) (by decide) ?_
        refine v_iload dX12_draw_70 rfl ?_
        refine v_iaload dX12_draw_72 (by decide) kk_142 (by omega) (by omega) ?_
        refine v_if_ne (tgt := 79) dX12_draw_73 (by decide) (fun c73_4 => ?_) (fun c73_4 => ?_)
        · refine v_iload dX12_draw_79 rfl ?_
          refine v_iload dX12_draw_81 rfl ?_
          refine v_aload_n dX12_draw_83 rfl ?_
          refine v_getr (ci := 12) (j := 39) (ji := 39) (z := 142) dX12_draw_84 k_1455 (by decide) kk_116 (by decide) rfl rfl (fun r => rt_116_39 (r rfl)) (by decide) ?_
          refine v_iload dX12_draw_87 rfl ?_
          refine v_iaload dX12_draw_89 (by decide) kk_142 (by omega) (by omega) ?_
          refine v_mmin dX12_draw_90 k_1882 (by omega) (Nat.le_of_ble_eq_true rfl) ⟨Nat.le_refl _, Nat.le_refl _⟩ ?_
          refine v_isubE dX12_draw_93 (by omega) ?_
          refine v_istore_4 dX12_draw_94 (by decide) rfl ?_
          refine v_iinc_3 dX12_draw_96 (by decide) rfl ?_
          rw [iadd_eq (x := (tdF (h 143) (h 142) p n k).2) (y := 1) (by unfold ok32; omega)]
          refine v_iinc_5 dX12_draw_99 (by decide) rfl ?_
          rw [iadd_eq (x := k) (y := 1) (by unfold ok32; omega)]
          refine v_goto (tgt := 41) dX12_draw_102 (by decide) ?_
          have eS := tdS_1 (H := h 143) (P := h 142) (hp := p) (k := k) (p := (tdF (h 143) (h 142) p n k)) ⟨by omega, by omega, by omega⟩
          have ih9 := ih (by omega)
          rw [tdF_s hk, eS] at ih9
          exact ih9
        · refine v_goto (tgt := 99) dX12_draw_76 (by decide) ?_
          refine v_iinc_5 dX12_draw_99 (by decide) rfl ?_
          rw [iadd_eq (x := k) (y := 1) (by unfold ok32; omega)]
          refine v_goto (tgt := 41) dX12_draw_102 (by decide) ?_
          have eS := tdS_0 (H := h 143) (P := h 142) (hp := p) (k := k) (p := (tdF (h 143) (h 142) p n k)) (by omega)
          have ih9 := ih (by omega)
          rw [tdF_s hk, eS] at ih9
          exact ih9

set_option maxHeartbeats 4000000 in
set_option maxRecDepth 100000 in
theorem s_rpot {l : Launch} {G : GG} {d : Nat} {h : AH} {Q : Option AV → List Kd → AH → Prop} {p9 : DRT} {P9 : Int → Int} {x y : Int} (hd : 1 ≤ d) (hb : 0 ≤ p9.2.2.2.2 ∧ p9.2.2.2.2 < 6) (hq : Q none K0 (ov1 (ov1 (ov1 (hset h 116 46 (p9.2.2.2.2 + 1)) 140 (fset p9.2.2.1 p9.2.2.2.2 x)) 141 (fset p9.2.2.2.1 p9.2.2.2.2 y)) 142 P9)) : Sp l G mX12_puts d 0 0 K0 [(2, 116), (0, x), (0, y)] (ov1 (ov1 (ov1 (hset h 116 46 p9.2.2.2.2) 140 p9.2.2.1) 141 p9.2.2.2.1) 142 P9) Q := by
  refine sp_of (L := [(2, 116), (0, x), (0, y)]) pl_X12 (Nat.le_of_ble_eq_true rfl) (tg_c (by decide) (tg_c (by decide) (tg_c (by decide) tg_0))) rfl ?_
  refine v_aload_n dX12_puts_0 rfl ?_
  refine v_getr (ci := 12) (j := 37) (ji := 37) (z := 140) dX12_puts_1 k_1453 (by decide) kk_116 (by decide) rfl rfl (fun r => rt_116_37 (r rfl)) (by decide) ?_
  refine v_aload_n dX12_puts_4 rfl ?_
  refine v_getv (ci := 12) (j := 46) (ji := 46) (tg := 0) dX12_puts_5 k_1462 (by decide) kk_116 (by decide) rfl rfl (by decide) ((ov1_c (by decide)).trans ((ov1_c (by decide)).trans ((ov1_c (by decide)).trans (hset_same _ _ _ _)))) ?_
  refine v_iload_n dX12_puts_8 rfl ?_
  refine v_iastore dX12_puts_9 (by decide) kk_140 (by omega) (by omega) ?_
  rw [ov1_n (by decide), ov1_n (by decide), ov1_w]
  refine v_aload_n dX12_puts_10 rfl ?_
  refine v_getr (ci := 12) (j := 38) (ji := 38) (z := 141) dX12_puts_11 k_1454 (by decide) kk_116 (by decide) rfl rfl (fun r => rt_116_38 (r rfl)) (by decide) ?_
  refine v_aload_n dX12_puts_14 rfl ?_
  refine v_getv (ci := 12) (j := 46) (ji := 46) (tg := 0) dX12_puts_15 k_1462 (by decide) kk_116 (by decide) rfl rfl (by decide) ((ov1_c (by decide)).trans ((ov1_c (by decide)).trans ((ov1_c (by decide)).trans (hset_same _ _ _ _)))) ?_
  refine v_iload_n dX12_puts_18 rfl ?_
  refine v_iastore dX12_puts_19 (by decide) kk_141 (by omega) (by omega) ?_
  rw [ov1_n (by decide), ov1_w]
  refine v_aload_n dX12_puts_20 rfl ?_
  refine v_dup dX12_puts_21 rfl ?_
  refine v_getv (ci := 12) (j := 46) (ji := 46) (tg := 0) dX12_puts_22 k_1462 (by decide) kk_116 (by decide) rfl rfl (by decide) ((ov1_c (by decide)).trans ((ov1_c (by decide)).trans ((ov1_c (by decide)).trans (hset_same _ _ _ _)))) ?_
  refine v_iconst dX12_puts_25 (c32 rfl) ?_
  refine v_iaddE dX12_puts_26 (by omega) ?_
  refine v_puti (ci := 12) (j := 46) (ji := 46) dX12_puts_27 k_1462 (by decide) kk_116 (by decide) rfl rfl rfl ?_
  rw [ov1_n (by decide), ov1_n (by decide), ov1_n (by decide), hset_tw]
  refine v_vret dX12_puts_30 rfl (Nat.le_refl _) (Nat.le_refl _) ?_
  exact hq

set_option maxHeartbeats 4000000 in
set_option maxRecDepth 100000 in
theorem lp_rdrw {l : Launch} {G : GG} {d : Nat} {h : AH} {Q : Option AV → List Kd → AH → Prop} {p n to : Int} (hd : 2 ≤ d) (hn : 0 ≤ h 116 47 ∧ h 116 47 ≤ 100) (hP : ∀ k, 0 ≤ k → k < h 116 47 → 0 ≤ h 142 k ∧ h 142 k ≤ 10000) (hnn : 1 ≤ n ∧ n < 2147483648) (hb : 0 ≤ h 116 46 ∧ h 116 46 ≤ 6) (ht : h 116 46 + (tdF (h 143) (h 142) p n (h 116 47)).2 ≤ 6) (hq : ∀ p9 : DRT, p9 = drF (h 143) (h 144) p (n, h 142, h 140, h 141, h 116 46) (h 116 47) → Q (some (0, p9.2.2.2.2)) K0 (ov1 (ov1 (ov1 (hset h 116 46 p9.2.2.2.2) 140 p9.2.2.1) 141 p9.2.2.2.1) 142 p9.2.1)) : ∀ k, 0 ≤ k → k ≤ h 116 47 → ∀ p9 : DRT, p9 = drF (h 143) (h 144) p (n, h 142, h 140, h 141, h 116 46) k → V l G mX12_draw d 0 0 0 0 K0 124 [(2, 116), (0, p), (0, n), (0, to), (0, p9.1), (0, k), (9, 0)] [] (ov1 (ov1 (ov1 (hset h 116 46 p9.2.2.2.2) 140 p9.2.2.1) 141 p9.2.2.2.1) 142 p9.2.1) Q := by
  refine loop_m3 (fun k hk hkN ih p9 hp9 => ?_)
  refine v_iload dX12_draw_124 rfl ?_
  refine v_aload_n dX12_draw_126 rfl ?_
  refine v_getv (ci := 12) (j := 47) (ji := 47) (tg := 0) dX12_draw_127 k_1463 (by decide) kk_116 (by decide) rfl rfl (by decide) ((ov1_c (by decide)).trans ((ov1_c (by decide)).trans ((ov1_c (by decide)).trans (hset_j (by decide))))) ?_
  refine v_icmp_ge (tgt := 214) dX12_draw_130 (by decide) (fun c130_1 => ?_) (fun c130_1 => ?_)
  · refine v_aload_n dX12_draw_214 rfl ?_
    refine v_getv (ci := 12) (j := 46) (ji := 46) (tg := 0) dX12_draw_215 k_1462 (by decide) kk_116 (by decide) rfl rfl (by decide) ((ov1_c (by decide)).trans ((ov1_c (by decide)).trans ((ov1_c (by decide)).trans (hset_same _ _ _ _)))) ?_
    refine v_ireti dX12_draw_218 rfl (Nat.le_refl _) (Nat.le_refl _) ?_
    obtain rfl : k = h 116 47 := by omega
    exact hq p9 hp9
  · have l9 := drF_td (H := h 143) (Of := h 144) (hp := p) (n := n) (P := h 142) (B := h 140) (M := h 141) (b := h 116 46) (k := k) hk
    rw [← hp9] at l9
    have hPk := l9.2.2 k (Int.le_refl _)
    have p8 := hP k hk (by omega)
    have r9 := tdF_r (H := h 143) (P := h 142) (hp := p) (n := n) (k := k) (by omega) hk
    have m9 := tdF_mono (H := h 143) (P := h 142) (hp := p) (n := n) (k := k + 1) (m := h 116 47) (by omega) (by omega)
    rw [tdF_s hk] at m9
    refine v_iload dX12_draw_133 rfl ?_
    refine v_if_le (tgt := 214) dX12_draw_135 (by decide) (fun c135_2 => ?_) (fun c135_2 => ?_)
    · refine v_aload_n dX12_draw_214 rfl ?_
      refine v_getv (ci := 12) (j := 46) (ji := 46) (tg := 0) dX12_draw_215 k_1462 (by decide) kk_116 (by decide) rfl rfl (by decide) ((ov1_c (by decide)).trans ((ov1_c (by decide)).trans ((ov1_c (by decide)).trans (hset_same _ _ _ _)))) ?_
      refine v_ireti dX12_draw_218 rfl (Nat.le_refl _) (Nat.le_refl _) ?_
      exact hq p9 (by rw [drF_stop hk hkN (by rw [← hp9]; omega)]; exact hp9)
    · refine v_aload_n dX12_draw_138 rfl ?_
      refine v_getr (ci := 12) (j := 40) (ji := 40) (z := 143) dX12_draw_139 k_1456 (by decide) kk_116 (by decide) rfl rfl (fun r => rt_116_40 (r rfl)) (by decide) ?_
      refine v_iload dX12_draw_142 rfl ?_
      refine v_ialoadv dX12_draw_144 (by decide) kk_143 (by omega) (by omega) ((ov1_c (by decide)).trans ((ov1_c (by decide)).trans ((ov1_c (by decide)).trans (hset_c (by decide))))) ?_
      refine v_iload_n dX12_draw_145 rfl ?_
      refine v_icmp_ne (tgt := 208) dX12_draw_146 (by decide) (fun c146_3 => ?_) (fun c146_3 => ?_)
      · refine v_iinc_5 dX12_draw_208 (by decide) rfl ?_
        rw [iadd_eq (x := k) (y := 1) (by unfold ok32; omega)]
        refine v_goto (tgt := 124) dX12_draw_211 (by decide) ?_
        have eS := drS_0 (H := h 143) (Of := h 144) (hp := p) (k := k) (p := p9) (by rw [hPk]; omega)
        have ih9 := ih (by omega) (drS (h 143) (h 144) p k p9) (by rw [hp9]; exact (drF_s hk).symm)
        rw [eS] at ih9
        refine v_loc (lo_k (lo_k (lo_k (lo_k (lo_k (lo_k (lo_d lo_nil))))))) ?_
        exact ih9
      · refine v_aload_n dX12_draw_149 rfl ?_
        refine v_getr (ci := 12) (j := 39) (ji := 39) (z := 142) dX12_draw_150 k_1455 (by decide) kk_116 (by decide) rfl rfl (fun r => rt_116_39 (r rfl)) (by decide) ?_
        refine v_iload dX12_draw_153 rfl ?_
        refine v_ialoadv dX12_draw_155 (by decide) kk_142 (by omega) (by omega) ((ov1_s).trans (hPk)) ?_
        refine v_if_ne (tgt := 162) dX12_draw_156 (by decide) (fun c156_4 => ?_) (fun c156_4 => ?_)
        · refine v_iload dX12_draw_162 rfl ?_
          refine v_aload_n dX12_draw_164 rfl ?_
          refine v_getr (ci := 12) (j := 39) (ji := 39) (z := 142) dX12_draw_165 k_1455 (by decide) kk_116 (by decide) rfl rfl (fun r => rt_116_39 (r rfl)) (by decide) ?_
          refine v_iload dX12_draw_168 rfl ?_
          refine v_ialoadv dX12_draw_170 (by decide) kk_142 (by omega) (by omega) ((ov1_s).trans (hPk)) ?_
          rw [tdS_1 ⟨by omega, by omega, by omega⟩] at m9
          have m8 : (tdF (h 143) (h 142) p n k).2 + 1 ≤ (tdF (h 143) (h 142) p n (h 116 47)).2 := m9
          refine v_mmin dX12_draw_171 k_1882 (by omega) (Nat.le_of_ble_eq_true rfl) ⟨Nat.le_refl _, Nat.le_refl _⟩ ?_
          refine v_istore_6 dX12_draw_174 (by decide) rfl ?_
          refine v_aload_n dX12_draw_176 rfl ?_
          refine v_getr (ci := 12) (j := 39) (ji := 39) (z := 142) dX12_draw_177 k_1455 (by decide) kk_116 (by decide) rfl rfl (fun r => rt_116_39 (r rfl)) (by decide) ?_
          refine v_iload dX12_draw_180 rfl ?_
          refine v_dup2 dX12_draw_182 rfl rfl ?_
          refine v_ialoadv dX12_draw_183 (by decide) kk_142 (by omega) (by omega) ((ov1_s).trans (hPk)) ?_
          refine v_iload dX12_draw_184 rfl ?_
          refine v_isubE dX12_draw_186 (by omega) ?_
          refine v_iastore dX12_draw_187 (by decide) kk_142 (by omega) (by omega) ?_
          rw [ov1_w]
          refine v_iload dX12_draw_188 rfl ?_
          refine v_iload dX12_draw_190 rfl ?_
          refine v_isubE dX12_draw_192 (by omega) ?_
          refine v_istore_4 dX12_draw_193 (by decide) rfl ?_
          refine v_aload_n dX12_draw_195 rfl ?_
          refine v_aload_n dX12_draw_196 rfl ?_
          refine v_getr (ci := 12) (j := 41) (ji := 41) (z := 144) dX12_draw_197 k_1457 (by decide) kk_116 (by decide) rfl rfl (fun r => rt_116_41 (r rfl)) (by decide) ?_
          refine v_iload dX12_draw_200 rfl ?_
          refine v_ialoadv dX12_draw_202 (by decide) kk_144 (by omega) (by omega) ((ov1_c (by decide)).trans ((ov1_c (by decide)).trans ((ov1_c (by decide)).trans (hset_c (by decide))))) ?_
          refine v_iload dX12_draw_203 rfl ?_
          refine v_callv (M' := mX12_puts) (d' := d - 1) (mc' := 0) (ms' := 0) (ci := 12) (c := 116) (As := [_, _]) dX12_draw_205 k_1865 cm_X12_puts rfl (by omega) (by decide) kk_116 (Nat.le_of_ble_eq_true rfl) rfl ⟨Nat.le_refl _, Nat.le_refl _⟩ ?_
          refine s_rpot (p9 := p9) (by omega) ⟨by omega, by omega⟩ ?_
          dsimp only [Option.toList, List.cons_append, List.nil_append, Nat.add_zero]
          refine v_iinc_5 dX12_draw_208 (by decide) rfl ?_
          rw [iadd_eq (x := k) (y := 1) (by unfold ok32; omega)]
          refine v_goto (tgt := 124) dX12_draw_211 (by decide) ?_
          have eS := drS_1 (H := h 143) (Of := h 144) (hp := p) (k := k) (p := p9) ⟨by omega, by omega, by rw [hPk]; omega⟩
          rw [hPk] at eS
          have ih9 := ih (by omega) (drS (h 143) (h 144) p k p9) (by rw [hp9]; exact (drF_s hk).symm)
          rw [eS] at ih9
          dsimp only at ih9
          refine v_loc (lo_k (lo_k (lo_k (lo_k (lo_k (lo_k (lo_d lo_nil))))))) ?_
          exact ih9
        · refine v_goto (tgt := 208) dX12_draw_159 (by decide) ?_
          refine v_iinc_5 dX12_draw_208 (by decide) rfl ?_
          rw [iadd_eq (x := k) (y := 1) (by unfold ok32; omega)]
          refine v_goto (tgt := 124) dX12_draw_211 (by decide) ?_
          have eS := drS_0 (H := h 143) (Of := h 144) (hp := p) (k := k) (p := p9) (by rw [hPk]; omega)
          have ih9 := ih (by omega) (drS (h 143) (h 144) p k p9) (by rw [hp9]; exact (drF_s hk).symm)
          rw [eS] at ih9
          refine v_loc (lo_k (lo_k (lo_k (lo_k (lo_k (lo_k (lo_d lo_nil))))))) ?_
          exact ih9

/-- what a draw leaves, of the reference -/
def dqH (h : AH) (p9 : DRT) : AH := (ov1 (ov1 (ov1 (hset h 116 46 p9.2.2.2.2) 140 p9.2.2.1) 141 p9.2.2.2.1) 142 p9.2.1)

theorem dqH_mk {h : AH} {n : Int} : dqH h (n, h 142, h 140, h 141, h 116 46) = h := by
  unfold dqH
  dsimp only
  rw [hset_mk, ov1_mk, ov1_mk, ov1_mk]

set_option maxHeartbeats 4000000 in
set_option maxRecDepth 100000 in
theorem lp_rdraw0 {l : Launch} {G : GG} {d : Nat} {h : AH} {Q : Option AV → List Kd → AH → Prop} {p n : Int} (hd : 3 ≤ d) (hn : 0 ≤ h 116 47 ∧ h 116 47 ≤ 100) (hP : ∀ k, 0 ≤ k → k < h 116 47 → 0 ≤ h 142 k ∧ h 142 k ≤ 10000) (hb : 0 ≤ h 116 46 ∧ h 116 46 ≤ 6) (q0 : ¬ ((0 ≤ p ∧ p ≤ 5) ∧ 1 ≤ n ∧ n ≤ (lyF (h 143) (h 142) p (h 116 47)) ∧ h 116 46 + (tdF (h 143) (h 142) p n (h 116 47)).2 ≤ 6) → Q (some (0, -1)) K0 h) (q1 : ((0 ≤ p ∧ p ≤ 5) ∧ 1 ≤ n ∧ n ≤ (lyF (h 143) (h 142) p (h 116 47)) ∧ h 116 46 + (tdF (h 143) (h 142) p n (h 116 47)).2 ≤ 6) → Q (some (0, (drF (h 143) (h 144) p (n, h 142, h 140, h 141, h 116 46) (h 116 47)).2.2.2.2)) K0 (dqH h (drF (h 143) (h 144) p (n, h 142, h 140, h 141, h 116 46) (h 116 47)))) : V l G mX12_draw d 0 0 0 0 K0 5 [(2, 116), (0, p), (0, n), (9, 0), (9, 0), (9, 0), (9, 0)] [] h Q := by
  refine v_known (fun hL9 _ => ?_)
  have hn32 : ok32 n := (hL9 (0, n) (by simp)).1 rfl
  unfold ok32 at hn32
  refine v_iload_n dX12_draw_5 rfl ?_
  refine v_i2l dX12_draw_6 ?_
  refine v_lconst (z := 0) dX12_draw_7 (c64 rfl) (by decide) ?_
  refine v_ldc2 (n := 5) dX12_draw_8 k_1873 (c64 rfl) (by decide) ?_
  refine v_calls (M' := mX12_isIn) (d' := d - 1) (mc' := 0) (ms' := 0) (As := [_, _, _]) dX12_draw_11 k_1700 cm_X12_isIn (by omega) (Nat.le_of_ble_eq_true rfl) rfl ⟨Nat.le_refl _, Nat.le_refl _⟩ ?_
  refine s_X12_isIn (by omega) (fun c11_1 => ?_) (fun c11_2 c11_3 => ?_) (fun c11_4 c11_5 => ?_)
  · dsimp only [Option.toList, List.cons_append, List.nil_append, Nat.add_zero]
    refine v_if_eq_t (tgt := 31) dX12_draw_14 (by decide) (by decide) ?_
    refine v_iconst dX12_draw_31 (c32 rfl) ?_
    refine v_ireti dX12_draw_32 rfl (Nat.le_refl _) (Nat.le_refl _) ?_
    exact q0 (by omega)
  · dsimp only [Option.toList, List.cons_append, List.nil_append, Nat.add_zero]
    refine v_if_eq_t (tgt := 31) dX12_draw_14 (by decide) (by decide) ?_
    refine v_iconst dX12_draw_31 (c32 rfl) ?_
    refine v_ireti dX12_draw_32 rfl (Nat.le_refl _) (Nat.le_refl _) ?_
    exact q0 (by omega)
  · dsimp only [Option.toList, List.cons_append, List.nil_append, Nat.add_zero]
    refine v_if_eq_f (tgt := 31) dX12_draw_14 (by decide) (by decide) ?_
    refine v_iload_n dX12_draw_17 rfl ?_
    refine v_iconst dX12_draw_18 (c32 rfl) ?_
    refine v_icmp_lt (tgt := 31) dX12_draw_19 (by decide) (fun c19_6 => ?_) (fun c19_6 => ?_)
    · refine v_iconst dX12_draw_31 (c32 rfl) ?_
      refine v_ireti dX12_draw_32 rfl (Nat.le_refl _) (Nat.le_refl _) ?_
      exact q0 (by omega)
    · refine v_iload_n dX12_draw_22 rfl ?_
      refine v_aload_n dX12_draw_23 rfl ?_
      refine v_iload_n dX12_draw_24 rfl ?_
      refine v_callv (M' := mX12_lying) (d' := d - 1) (mc' := 0) (ms' := 0) (ci := 12) (c := 116) (As := [_]) dX12_draw_25 k_1874 cm_X12_lying rfl (by omega) (by decide) kk_116 (Nat.le_of_ble_eq_true rfl) rfl ⟨Nat.le_refl _, Nat.le_refl _⟩ ?_
      refine s_X12_lying (by omega) hn.1 hn.2 ?_
      dsimp only [Option.toList, List.cons_append, List.nil_append, Nat.add_zero]
      refine v_icmp_le (tgt := 33) dX12_draw_28 (by decide) (fun c28_7 => ?_) (fun c28_7 => ?_)
      · refine v_iconst dX12_draw_33 (c32 rfl) ?_
        refine v_istore_n_3 dX12_draw_34 (by decide) rfl ?_
        refine v_iload_n dX12_draw_35 rfl ?_
        refine v_istore_4 dX12_draw_36 (by decide) rfl ?_
        refine v_iconst dX12_draw_38 (c32 rfl) ?_
        refine v_istore_5 dX12_draw_39 (by decide) rfl ?_
        have r8 := tdF_r (H := h 143) (P := h 142) (hp := p) (n := n) (k := h 116 47) (by omega) hn.1
        refine lp_rtou (l := l) (G := G) (d := d) (p := p) (n := n) (Q := Q) (by omega) hn hP ⟨by omega, by omega⟩ (fun x8 y8 => ?_) 0 (Int.le_refl _) hn.1
        refine v_aload_n dX12_draw_105 rfl ?_
        refine v_get (ci := 12) (j := 46) (ji := 46) (tg := 0) dX12_draw_106 k_1462 (by decide) kk_116 (by decide) rfl rfl (by decide) ?_
        refine v_iload_n dX12_draw_109 rfl ?_
        refine v_iaddE dX12_draw_110 (by omega) ?_
        refine v_bipush dX12_draw_111 (c32 rfl) (by decide) ?_
        refine v_icmp_le (tgt := 118) dX12_draw_113 (by decide) (fun c113_1 => ?_) (fun c113_1 => ?_)
        · refine v_iload_n dX12_draw_118 rfl ?_
          refine v_istore_4 dX12_draw_119 (by decide) rfl ?_
          refine v_iconst dX12_draw_121 (c32 rfl) ?_
          refine v_istore_5 dX12_draw_122 (by decide) rfl ?_
          have q9 := lp_rdrw (l := l) (G := G) (d := d) (h := h) (p := p) (n := n) (to := (tdF (h 143) (h 142) p n (h 116 47)).2) (Q := Q) (by omega) hn hP ⟨by omega, by omega⟩ hb (by omega) (fun p9 hp9 => by subst hp9; exact q1 (by omega)) 0 (Int.le_refl _) hn.1 (n, h 142, h 140, h 141, h 116 46) rfl
          change V l G mX12_draw d 0 0 0 0 K0 124 [(2, 116), (0, p), (0, n), (0, (tdF (h 143) (h 142) p n (h 116 47)).2), (0, n), (0, 0), (9, 0)] [] (dqH h (n, h 142, h 140, h 141, h 116 46)) Q at q9
          rw [dqH_mk] at q9
          exact q9
        · refine v_iconst dX12_draw_116 (c32 rfl) ?_
          refine v_ireti dX12_draw_117 rfl (Nat.le_refl _) (Nat.le_refl _) ?_
          exact q0 (by omega)
      · refine v_iconst dX12_draw_31 (c32 rfl) ?_
        refine v_ireti dX12_draw_32 rfl (Nat.le_refl _) (Nat.le_refl _) ?_
        exact q0 (by omega)

set_option maxHeartbeats 4000000 in
set_option maxRecDepth 100000 in
theorem s_rdraw {l : Launch} {G : GG} {d : Nat} {h0 h : AH} {Q : Option AV → List Kd → AH → Prop} {p n : Int} (hd : 3 ≤ d) (hh : h = hset h0 116 0 0) (hn : 0 ≤ h 116 47 ∧ h 116 47 ≤ 100) (hP : ∀ k, 0 ≤ k → k < h 116 47 → 0 ≤ h 142 k ∧ h 142 k ≤ 10000) (hb : 0 ≤ h 116 46 ∧ h 116 46 ≤ 6) (q0 : ¬ ((0 ≤ p ∧ p ≤ 5) ∧ 1 ≤ n ∧ n ≤ (lyF (h 143) (h 142) p (h 116 47)) ∧ h 116 46 + (tdF (h 143) (h 142) p n (h 116 47)).2 ≤ 6) → Q (some (0, -1)) K0 h) (q1 : ((0 ≤ p ∧ p ≤ 5) ∧ 1 ≤ n ∧ n ≤ (lyF (h 143) (h 142) p (h 116 47)) ∧ h 116 46 + (tdF (h 143) (h 142) p n (h 116 47)).2 ≤ 6) → Q (some (0, (drF (h 143) (h 144) p (n, h 142, h 140, h 141, h 116 46) (h 116 47)).2.2.2.2)) K0 (dqH h (drF (h 143) (h 144) p (n, h 142, h 140, h 141, h 116 46) (h 116 47)))) : Sp l G mX12_draw d 0 0 K0 [(2, 116), (0, p), (0, n)] h0 Q := by
  refine sp_of (L := [(2, 116), (0, p), (0, n), (9, 0), (9, 0), (9, 0), (9, 0)]) pl_X12 (Nat.le_of_ble_eq_true rfl) (tg_c (by decide) (tg_c (by decide) (tg_c (by decide) tg_0))) rfl ?_
  refine v_aload_n dX12_draw_0 rfl ?_
  refine v_iconst dX12_draw_1 (c32 rfl) ?_
  refine v_puti (ci := 12) (j := 0) (ji := 0) dX12_draw_2 k_1416 (by decide) kk_116 (by decide) rfl rfl rfl ?_
  rw [← hh]
  exact lp_rdraw0 hd hn hP hb q0 q1

