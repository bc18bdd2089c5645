/-! ===== words asked of: the class (written by wip/whole/p71.py) ===== -/
def wqF (h : AH) (b i : Int) : Int := if h 174 i = b then 1 else 0
/-- how many of the first k words are of batch b -/
def wqN (h : AH) (b k : Int) : Int := sm (wqF h b) k
theorem wqF_r {h : AH} {b : Int} {N : Int} : ∀ i, 0 ≤ i → i < N → 0 ≤ wqF h b i ∧ wqF h b i ≤ 1 := fun i _ _ => by unfold wqF; split <;> omega
theorem wqN_1 {h : AH} {b k : Int} (hk : 0 ≤ k) (e : h 174 k = b) : wqN h b (k + 1) = wqN h b k + 1 := by
  unfold wqN
  rw [sm_s hk, show wqF h b k = 1 from if_pos e]
theorem wqN_0 {h : AH} {b k : Int} (hk : 0 ≤ k) (e : h 174 k ≠ b) : wqN h b (k + 1) = wqN h b k := by
  unfold wqN
  rw [sm_s hk, show wqF h b k = 0 from if_neg e, Int.add_zero]
theorem wqN_r {h : AH} {b k : Int} (hk : 0 ≤ k) : 0 ≤ wqN h b k ∧ wqN h b k ≤ k := by
  have := sm_rng (wqF_r (h := h) (b := b) (N := k)) k hk (Int.le_refl _)
  unfold wqN
  omega
theorem wqN_le {h : AH} {b a k : Int} (ha : 0 ≤ a) (hk : a ≤ k) : wqN h b a ≤ wqN h b k := sm_le (N := k) (fun i i0 i1 => (wqF_r (N := k) i i0 i1).1) ha hk (Int.le_refl _)
/-- row A holds the words asked of, in their order -/
def AQ (h : AH) (b k : Int) (R : Int → Int) : Prop := ∀ i, 0 ≤ i → i < k → h 174 i = b → R (wqN h b i) = i
theorem AQ_0 {h : AH} {b k : Int} {R : Int → Int} (a : AQ h b k R) (e : h 174 k ≠ b) : AQ h b (k + 1) R := fun i i0 i1 ib => a i i0 (by
  by_cases z : i = k
  · subst z; exact absurd ib e
  · omega) ib
theorem AQ_1 {h : AH} {b k : Int} {R : Int → Int} (a : AQ h b k R) : AQ h b (k + 1) (fset R (wqN h b k) k) := fun i i0 i1 ib => by
  by_cases z : i = k
  · subst z; exact fset_same ..
  · have m1 := wqN_1 i0 ib
    have m2 := wqN_le (h := h) (b := b) (a := i + 1) (k := k) (by omega) (by omega)
    rw [fset_ne (by omega)]
    exact a i i0 (by omega) ib

set_option maxHeartbeats 4000000 in
set_option maxRecDepth 100000 in
theorem lp_cgath {l : Launch} {G : GG} {d : Nat} {h : AH} {Q : Option AV → List Kd → AH → Prop} {cs : Int → List (Int × List Int)} {b : Int} (hd : 1 ≤ d) (I : CI h cs) (q0 : 12 < wqN h b (h 116 88) → ∀ F', Q (some (0, 0)) K0 (cst h F')) (q1 : wqN h b (h 116 88) ≤ 12 → ∀ F', F' 97 4 = wqN h b (h 116 88) → AQ h b (h 116 88) (F' 100) → Q (some (0, 1)) K0 (cst h F')) : ∀ k, 0 ≤ k → k ≤ h 116 88 → ∀ F : AH, F 97 4 = wqN h b k → AQ h b k (F 100) → wqN h b k ≤ 12 → V l G mX9_gather d 0 0 0 0 K0 7 [(2, 97), (0, b), (0, k)] [] (cst h F) Q := by
  have w8 := I.wo.1
  refine loop_m3 (fun k hk hkN ih F hc ha h12 => ?_)
  refine v_iload_n dX9_gather_7 rfl ?_
  refine v_aload_n dX9_gather_8 rfl ?_
  refine v_getv (ci := 9) (j := 2) (ji := 2) (tg := 0) dX9_gather_9 k_529 (by decide) kk_97 (by decide) rfl rfl (by decide) ((cst_c (by decide)).trans (I.f97_2)) ?_
  refine v_icmp_ge (tgt := 62) dX9_gather_12 (by decide) (fun c12_1 => ?_) (fun c12_1 => ?_)
  · refine v_iconst dX9_gather_62 (c32 rfl) ?_
    refine v_iretz dX9_gather_63 rfl (by decide) (Nat.le_refl _) (Nat.le_refl _) ?_
    obtain rfl : k = h 116 88 := by omega
    exact q1 h12 _ hc ha
  · have w9 := I.wo
    have n9 := wqN_r (h := h) (b := b) hk
    refine v_aload_n dX9_gather_15 rfl ?_
    refine v_getr (ci := 9) (j := 0) (ji := 0) (z := 98) dX9_gather_16 k_527 (by decide) kk_97 (by decide) rfl rfl (fun r => rt_97_0 (r rfl)) (by decide) ?_
    refine v_iload_n dX9_gather_19 rfl ?_
    refine v_ialoadv dX9_gather_20 (by decide) kk_98 (by omega) (by omega) ((cst_n (by decide)).trans ((congrFun I.e98 k))) ?_
    refine v_iload_n dX9_gather_21 rfl ?_
    refine v_icmp_ne (tgt := 56) dX9_gather_22 (by decide) (fun c22_2 => ?_) (fun c22_2 => ?_)
    · refine v_iinc_2 dX9_gather_56 (by decide) rfl ?_
      rw [iadd_eq (x := k) (y := 1) (by unfold ok32; omega)]
      refine v_goto (tgt := 7) dX9_gather_59 (by decide) ?_
      exact ih (by omega) _ (by rw [wqN_0 hk c22_2]; exact hc) (AQ_0 ha c22_2) (by rw [wqN_0 hk c22_2]; exact h12)
    · refine v_aload_n dX9_gather_25 rfl ?_
      refine v_getv (ci := 9) (j := 4) (ji := 4) (tg := 0) dX9_gather_26 k_532 (by decide) kk_97 (by decide) rfl rfl (by decide) ((cst_s (by decide)).trans (hc)) ?_
      refine v_bipush dX9_gather_29 (c32 rfl) (by decide) ?_
      refine v_icmp_lt (tgt := 36) dX9_gather_31 (by decide) (fun c31_3 => ?_) (fun c31_3 => ?_)
      · refine v_aload_n dX9_gather_36 rfl ?_
        refine v_getr (ci := 9) (j := 3) (ji := 3) (z := 100) dX9_gather_37 k_531 (by decide) kk_97 (by decide) rfl rfl (fun r => rt_97_3 (r rfl)) (by decide) ?_
        refine v_aload_n dX9_gather_40 rfl ?_
        refine v_getv (ci := 9) (j := 4) (ji := 4) (tg := 0) dX9_gather_41 k_532 (by decide) kk_97 (by decide) rfl rfl (by decide) ((cst_s (by decide)).trans (hc)) ?_
        refine v_iload_n dX9_gather_44 rfl ?_
        refine v_iastore dX9_gather_45 (by decide) kk_100 (by omega) (by omega) ?_
        rw [cst_w1 (by decide)]
        refine v_aload_n dX9_gather_46 rfl ?_
        refine v_dup dX9_gather_47 rfl ?_
        refine v_getv (ci := 9) (j := 4) (ji := 4) (tg := 0) dX9_gather_48 k_532 (by decide) kk_97 (by decide) rfl rfl (by decide) ((cst_s (by decide)).trans ((hset_c (by decide)).trans (hc))) ?_
        refine v_iconst dX9_gather_51 (c32 rfl) ?_
        refine v_iaddE dX9_gather_52 (by omega) ?_
        refine v_puti (ci := 9) (j := 4) (ji := 4) dX9_gather_53 k_532 (by decide) kk_97 (by decide) rfl rfl rfl ?_
        rw [cst_w (by decide)]
        refine v_iinc_2 dX9_gather_56 (by decide) rfl ?_
        rw [iadd_eq (x := k) (y := 1) (by unfold ok32; omega)]
        refine v_goto (tgt := 7) dX9_gather_59 (by decide) ?_
        exact ih (by omega) _ (by rw [hset_same, wqN_1 hk c22_2]) (by rw [hset_r (by decide), hset_f]; exact AQ_1 ha) (by rw [wqN_1 hk c22_2]; omega)
      · refine v_iconst dX9_gather_34 (c32 rfl) ?_
        refine v_iretz dX9_gather_35 rfl (by decide) (Nat.le_refl _) (Nat.le_refl _) ?_
        have m1 := wqN_1 hk c22_2
        have m2 := wqN_le (h := h) (b := b) (a := k + 1) (k := h 116 88) (by omega) (by omega)
        exact q0 (by omega) _

set_option maxHeartbeats 4000000 in
set_option maxRecDepth 100000 in
theorem s_cgath {l : Launch} {G : GG} {d : Nat} {h F : AH} {Q : Option AV → List Kd → AH → Prop} {cs : Int → List (Int × List Int)} {b : Int} (hd : 1 ≤ d) (I : CI h cs) (q0 : 12 < wqN h b (h 116 88) → ∀ F', Q (some (0, 0)) K0 (cst h F')) (q1 : wqN h b (h 116 88) ≤ 12 → ∀ F', F' 97 4 = wqN h b (h 116 88) → AQ h b (h 116 88) (F' 100) → Q (some (0, 1)) K0 (cst h F')) : Sp l G mX9_gather d 0 0 K0 [(2, 97), (0, b)] (cst h F) Q := by
  refine sp_of (L := [(2, 97), (0, b), (9, 0)]) pl_X9 (Nat.le_of_ble_eq_true rfl) (tg_c (by decide) (tg_c (by decide) tg_0)) rfl ?_
  refine v_aload_n dX9_gather_0 rfl ?_
  refine v_iconst dX9_gather_1 (c32 rfl) ?_
  refine v_puti (ci := 9) (j := 4) (ji := 4) dX9_gather_2 k_532 (by decide) kk_97 (by decide) rfl rfl rfl ?_
  rw [cst_w (by decide)]
  refine v_iconst dX9_gather_5 (c32 rfl) ?_
  refine v_istore_n_2 dX9_gather_6 (by decide) rfl ?_
  exact lp_cgath hd I q0 q1 0 (Int.le_refl _) I.wo.1.1 _ (hset_same _ _ _ _) (fun i i0 i1 => by omega) (show (0 : Int) ≤ 12 by decide)

