/-! ===== sourcing: the reference tries (written by wip/whole/p68.py) ===== -/
set_option maxHeartbeats 4000000 in
set_option maxRecDepth 100000 in
theorem s_rcost {l : Launch} {G : GG} {d : Nat} {h : AH} {Q : Option AV → List Kd → AH → Prop} {cs : Int → List (Int × List Int)} {F : AH} {z O Lr : Int → Int} {g : GD} (hd : 41 ≤ d) (I : CI h cs) (hg : GB g) (hG : GR g F) (hr : PRt h (F 172)) (hq : ∀ z Lr, Q (some (1, cst4 h cs g (F 172))) K0 (jst (kst h F) z O Lr)) : Sp l G mX12_costOf d 0 0 K0 [(2, 116)] (jst (kst h F) z O Lr) Q := by
  refine sp_of (L := [(2, 116), (9, 0), (9, 0), (9, 0), (9, 0), (9, 0), (9, 0), (9, 0), (9, 0), (9, 0), (9, 0), (9, 0), (9, 0), (9, 0)]) pl_X12 (Nat.le_of_ble_eq_true rfl) (tg_c (by decide) tg_0) rfl ?_
  refine v_lconst (z := 0) dX12_costOf_0 (c64 rfl) (by decide) ?_
  refine v_lstore_n_1 dX12_costOf_1 (by decide) rfl ?_
  refine v_iconst dX12_costOf_2 (c32 rfl) ?_
  refine v_istore_n_3 dX12_costOf_3 (by decide) rfl ?_
  obtain ⟨g1, g2, g3, g4, g5⟩ := id hg
  refine lp_rcst1 (l := l) (G := G) (d := d) (h := h) (cs := cs) (F := F) (z := z) (O := O) (Lr := Lr) (Q := Q) (g := g) (by omega) I hr ?_ 0 (Int.le_refl _) (by decide)
  refine v_aload_n dX12_costOf_47 rfl ?_
  refine v_getr (ci := 12) (j := 10) (ji := 10) (z := 125) dX12_costOf_48 k_1426 (by decide) kk_116 (by decide) rfl rfl (fun r => rt_116_10 (r rfl)) (by decide) ?_
  refine v_bipush dX12_costOf_51 (c32 rfl) (by decide) ?_
  refine v_aload_n dX12_costOf_53 rfl ?_
  refine v_getv (ci := 12) (j := 83) (ji := 83) (tg := 0) dX12_costOf_54 k_1499 (by decide) kk_116 (by decide) rfl rfl (by decide) ((jst_j (by decide)).trans ((kst_s (by decide)).trans (hG.2.2.2.2))) ?_
  refine v_imulE dX12_costOf_57 (by omega) ?_
  refine v_aload_n dX12_costOf_58 rfl ?_
  refine v_getv (ci := 12) (j := 80) (ji := 80) (tg := 0) dX12_costOf_59 k_1496 (by decide) kk_116 (by decide) rfl rfl (by decide) ((jst_j (by decide)).trans ((kst_s (by decide)).trans (hG.2.1))) ?_
  refine v_iaddE dX12_costOf_62 (by omega) ?_
  refine v_ialoadv dX12_costOf_63 (by decide) kk_125 (by omega) (by omega) ((jst_c (by decide)).trans (kst_n (by decide))) ?_
  refine v_istore_n_3 dX12_costOf_64 (by decide) rfl ?_
  refine v_iconst dX12_costOf_65 (c32 rfl) ?_
  refine v_istore_4 dX12_costOf_66 (by decide) rfl ?_
  exact lp_rcst3 (by omega) I hg hG hr hq 0 (Int.le_refl _) (by decide) _ _

set_option maxHeartbeats 4000000 in
set_option maxRecDepth 100000 in
theorem lp_rcp {l : Launch} {G : GG} {d : Nat} {h : AH} {Q : Option AV → List Kd → AH → Prop} {F0 : AH} {z O Lr : Int → Int} {nn : Nat} {co : Int} (hn4 : (nn : Int) ≤ 4) (hd : 1 ≤ d) (hq : ∀ F, (∀ c, c ≠ 173 → F c = F0 c) → (∀ j, 0 ≤ j → j < 4 → F 173 j = (if j < (nn : Int) then F0 172 j else -1)) → Q none K0 (jst (kst h F) z O Lr)) : ∀ k, 0 ≤ k → k ≤ 4 → ∀ F : AH, (∀ c, c ≠ 173 → F c = F0 c) → (∀ j, 0 ≤ j → j < k → F 173 j = (if j < (nn : Int) then F0 172 j else -1)) → V l G mX12_tryParts d 0 0 0 0 K0 81 [(2, 116), (0, (nn : Int)), (1, co), (8, 0), (0, k)] [] (jst (kst h F) z O Lr) Q := by
  refine loop_m3 (fun k hk hkN ih F hs hv => ?_)
  refine v_iload dX12_tryParts_81 rfl ?_
  refine v_iconst dX12_tryParts_83 (c32 rfl) ?_
  refine v_icmp_ge (tgt := 117) dX12_tryParts_84 (by decide) (fun c84_1 => ?_) (fun c84_1 => ?_)
  · refine v_vret dX12_tryParts_117 rfl (Nat.le_refl _) (Nat.le_refl _) ?_
    obtain rfl : k = 4 := by omega
    exact hq _ hs hv
  · refine v_aload_n dX12_tryParts_87 rfl ?_
    refine v_getr (ci := 12) (j := 78) (ji := 78) (z := 173) dX12_tryParts_88 k_1494 (by decide) kk_116 (by decide) rfl rfl (fun r => rt_116_78 (r rfl)) (by decide) ?_
    refine v_iload dX12_tryParts_91 rfl ?_
    refine v_iload dX12_tryParts_93 rfl ?_
    refine v_iload_n dX12_tryParts_95 rfl ?_
    refine v_icmp_ge (tgt := 109) dX12_tryParts_96 (by decide) (fun c96_2 => ?_) (fun c96_2 => ?_)
    · refine v_iconst dX12_tryParts_109 (c32 rfl) ?_
      refine v_iastore dX12_tryParts_110 (by decide) kk_173 (by omega) (by omega) ?_
      rw [jst_wc (by decide), kst_wm (by decide)]
      refine v_iinc_4 dX12_tryParts_111 (by decide) rfl ?_
      rw [iadd_eq (x := k) (y := 1) (by unfold ok32; omega)]
      refine v_goto (tgt := 81) dX12_tryParts_114 (by decide) ?_
      exact ih (by omega) _ (fun c hc => by rw [hset_r hc]; exact hs c hc) (fun j j0 j1 => by
        by_cases e : j = k
        · subst e; rw [hset_same]; rw [if_neg (by omega)]
        · rw [hset_j e]; exact hv j j0 (by omega))
    · refine v_aload_n dX12_tryParts_99 rfl ?_
      refine v_getr (ci := 12) (j := 77) (ji := 77) (z := 172) dX12_tryParts_100 k_1493 (by decide) kk_116 (by decide) rfl rfl (fun r => rt_116_77 (r rfl)) (by decide) ?_
      refine v_iload dX12_tryParts_103 rfl ?_
      refine v_ialoadv dX12_tryParts_105 (by decide) kk_172 (by omega) (by omega) ((jst_c (by decide)).trans (kst_m (by decide))) ?_
      refine v_goto (tgt := 110) dX12_tryParts_106 (by decide) ?_
      refine v_iastore dX12_tryParts_110 (by decide) kk_173 (by omega) (by omega) ?_
      rw [jst_wc (by decide), kst_wm (by decide)]
      refine v_iinc_4 dX12_tryParts_111 (by decide) rfl ?_
      rw [iadd_eq (x := k) (y := 1) (by unfold ok32; omega)]
      refine v_goto (tgt := 81) dX12_tryParts_114 (by decide) ?_
      exact ih (by omega) _ (fun c hc => by rw [hset_r hc]; exact hs c hc) (fun j j0 j1 => by
        by_cases e : j = k
        · subst e; rw [hset_same]; rw [if_pos c96_2, ← hs 172 (by decide)]
        · rw [hset_j e]; exact hv j j0 (by omega))

/-- the reference's best so far -/
def ST (h : AH) (F : AH) (s : SB) : Prop := F 116 84 = s.1 ∧ (s.1 ≠ -1 → ∀ j, 0 ≤ j → j < 4 → F 173 j = if j < npF (h 167) then s.2 j else -1)
def PKn (h : AH) (nn : Nat) (m : Int) : Int → Int := dgA (h 167) nn m (fun _ => 0)
theorem PKn_s {h : AH} {nn : Nat} {m k j : Int} (hk : 0 ≤ k ∧ k < h 167 nn) (hj : 0 ≤ j) : PKn h (nn + 1) (m * h 167 nn + k) j = if j = nn then k else if j < nn then PKn h nn m j else 0 := by
  unfold PKn
  rw [dgA_s hk.1 hk.2]
  by_cases e : j = nn
  · subst e; rw [if_pos rfl, dgA_out (Int.le_refl _), fset_same]
  · rw [if_neg e]
    by_cases e2 : j < nn
    · rw [if_pos e2]; exact dgA_c hj e2
    · rw [if_neg e2, dgA_out (by omega), fset_ne e]

