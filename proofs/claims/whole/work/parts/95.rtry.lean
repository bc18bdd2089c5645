/-! ===== sourcing: the reference tries (written by wip/whole/p68.py) ===== -/
set_option maxHeartbeats 4000000 in
set_option maxRecDepth 100000 in
theorem s_rcost {l : Launch} {G : GG} {d : Nat} {h : AH} {Q : Option AV → List Kd → AH → Prop} {cs : Int → List (Int × List Int)} {F : AH} {z O Lr : Int → Int} {g : GD} (hd : 41 ≤ d) (I : CI h cs) (hg : GB g) (hG : GR g F) (hr : PRt h (F 172)) (hq : ∀ z Lr, Q (some (1, cst4 h cs g (F 172))) K0 (jst (kst h F) z O Lr)) : Sp l G mX12_costOf d 0 0 K0 [(2, 116)] (jst (kst h F) z O Lr) Q := by
  refine sp_of (L := [(2, 116), (9, 0), (9, 0), (9, 0), (9, 0), (9, 0), (9, 0), (9, 0), (9, 0), (9, 0), (9, 0), (9, 0), (9, 0), (9, 0)]) pl_X12 (Nat.le_of_ble_eq_true rfl) (tg_c (by decide) tg_0) rfl ?_
  refine v_lconst (z := 0) dX12_costOf_0 (c64 rfl) (by decide) ?_
  refine v_lstore_n_1 dX12_costOf_1 (by decide) rfl ?_
  refine v_iconst dX12_costOf_2 (c32 rfl) ?_
  refine v_istore_n_3 dX12_costOf_3 (by decide) rfl ?_
  obtain ⟨g1, g2, g3, g4, g5⟩ := id hg
  refine lp_rcst1 (l := l) (G := G) (d := d) (h := h) (cs := cs) (F := F) (z := z) (O := O) (Lr := Lr) (Q := Q) (g := g) (by omega) I hr ?_ 0 (Int.le_refl _) (by decide)
  refine v_aload_n dX12_costOf_47 rfl ?_
  refine v_getr (ci := 12) (j := 10) (ji := 10) (z := 125) dX12_costOf_48 k_1426 (by decide) kk_116 (by decide) rfl rfl (fun r => rt_116_10 (r rfl)) (by decide) ?_
  refine v_bipush dX12_costOf_51 (c32 rfl) (by decide) ?_
  refine v_aload_n dX12_costOf_53 rfl ?_
  refine v_getv (ci := 12) (j := 83) (ji := 83) (tg := 0) dX12_costOf_54 k_1499 (by decide) kk_116 (by decide) rfl rfl (by decide) ((jst_j (by decide)).trans ((kst_s (by decide)).trans (hG.2.2.2.2))) ?_
  refine v_imulE dX12_costOf_57 (by omega) ?_
  refine v_aload_n dX12_costOf_58 rfl ?_
  refine v_getv (ci := 12) (j := 80) (ji := 80) (tg := 0) dX12_costOf_59 k_1496 (by decide) kk_116 (by decide) rfl rfl (by decide) ((jst_j (by decide)).trans ((kst_s (by decide)).trans (hG.2.1))) ?_
  refine v_iaddE dX12_costOf_62 (by omega) ?_
  refine v_ialoadv dX12_costOf_63 (by decide) kk_125 (by omega) (by omega) ((jst_c (by decide)).trans (kst_n (by decide))) ?_
  refine v_istore_n_3 dX12_costOf_64 (by decide) rfl ?_
  refine v_iconst dX12_costOf_65 (c32 rfl) ?_
  refine v_istore_4 dX12_costOf_66 (by decide) rfl ?_
  exact lp_rcst3 (by omega) I hg hG hr hq 0 (Int.le_refl _) (by decide) _ _

set_option maxHeartbeats 4000000 in
set_option maxRecDepth 100000 in
theorem lp_rcp {l : Launch} {G : GG} {d : Nat} {h : AH} {Q : Option AV → List Kd → AH → Prop} {F0 : AH} {z O Lr : Int → Int} {nn : Nat} {co : Int} (hn4 : (nn : Int) ≤ 4) (hd : 1 ≤ d) (hq : ∀ F, (∀ c, c ≠ 173 → F c = F0 c) → (∀ j, 0 ≤ j → j < 4 → F 173 j = (if j < (nn : Int) then F0 172 j else -1)) → Q none K0 (jst (kst h F) z O Lr)) : ∀ k, 0 ≤ k → k ≤ 4 → ∀ F : AH, (∀ c, c ≠ 173 → F c = F0 c) → (∀ j, 0 ≤ j → j < k → F 173 j = (if j < (nn : Int) then F0 172 j else -1)) → V l G mX12_tryParts d 0 0 0 0 K0 81 [(2, 116), (0, (nn : Int)), (1, co), (8, 0), (0, k)] [] (jst (kst h F) z O Lr) Q := by
  refine loop_m3 (fun k hk hkN ih F hs hv => ?_)
  refine v_iload dX12_tryParts_81 rfl ?_
  refine v_iconst dX12_tryParts_83 (c32 rfl) ?_
  refine v_icmp_ge (tgt := 117) dX12_tryParts_84 (by decide) (fun c84_1 => ?_) (fun c84_1 => ?_)
  · refine v_vret dX12_tryParts_117 rfl (Nat.le_refl _) (Nat.le_refl _) ?_
    obtain rfl : k = 4 := by omega
    exact hq _ hs hv
  · refine v_aload_n dX12_tryParts_87 rfl ?_
    refine v_getr (ci := 12) (j := 78) (ji := 78) (z := 173) dX12_tryParts_88 k_1494 (by decide) kk_116 (by decide) rfl rfl (fun r => rt_116_78 (r rfl)) (by decide) ?_
    refine v_iload dX12_tryParts_91 rfl ?_
    refine v_iload dX12_tryParts_93 rfl ?_
    refine v_iload_n dX12_tryParts_95 rfl ?_
    refine v_icmp_ge (tgt := 109) dX12_tryParts_96 (by decide) (fun c96_2 => ?_) (fun c96_2 => ?_)
    · refine v_iconst dX12_tryParts_109 (c32 rfl) ?_
      refine v_iastore dX12_tryParts_110 (by decide) kk_173 (by omega) (by omega) ?_
      rw [jst_wc (by decide), kst_wm (by decide)]
      refine v_iinc_4 dX12_tryParts_111 (by decide) rfl ?_
      rw [iadd_eq (x := k) (y := 1) (by unfold ok32; omega)]
      refine v_goto (tgt := 81) dX12_tryParts_114 (by decide) ?_
      exact ih (by omega) _ (fun c hc => by rw [hset_r hc]; exact hs c hc) (fun j j0 j1 => by
        by_cases e : j = k
        · subst e; rw [hset_same]; rw [if_neg (by omega)]
        · rw [hset_j e]; exact hv j j0 (by omega))
    · refine v_aload_n dX12_tryParts_99 rfl ?_
      refine v_getr (ci := 12) (j := 77) (ji := 77) (z := 172) dX12_tryParts_100 k_1493 (by decide) kk_116 (by decide) rfl rfl (fun r => rt_116_77 (r rfl)) (by decide) ?_
      refine v_iload dX12_tryParts_103 rfl ?_
      refine v_ialoadv dX12_tryParts_105 (by decide) kk_172 (by omega) (by omega) ((jst_c (by decide)).trans (kst_m (by decide))) ?_
      refine v_goto (tgt := 110) dX12_tryParts_106 (by decide) ?_
      refine v_iastore dX12_tryParts_110 (by decide) kk_173 (by omega) (by omega) ?_
      rw [jst_wc (by decide), kst_wm (by decide)]
      refine v_iinc_4 dX12_tryParts_111 (by decide) rfl ?_
      rw [iadd_eq (x := k) (y := 1) (by unfold ok32; omega)]
      refine v_goto (tgt := 81) dX12_tryParts_114 (by decide) ?_
      exact ih (by omega) _ (fun c hc => by rw [hset_r hc]; exact hs c hc) (fun j j0 j1 => by
        by_cases e : j = k
        · subst e; rw [hset_same]; rw [if_pos c96_2, ← hs 172 (by decide)]
        · rw [hset_j e]; exact hv j j0 (by omega))

/-- the reference's best so far -/
def ST (h : AH) (F : AH) (s : SB) : Prop := F 116 84 = s.1 ∧ (s.1 ≠ -1 → ∀ j, 0 ≤ j → j < 4 → F 173 j = if j < npF (h 167) then s.2 j else -1)
def PKn (h : AH) (nn : Nat) (m : Int) : Int → Int := dgA (h 167) nn m (fun _ => 0)
theorem PKn_s {h : AH} {nn : Nat} {m k j : Int} (hk : 0 ≤ k ∧ k < h 167 nn) (hj : 0 ≤ j) : PKn h (nn + 1) (m * h 167 nn + k) j = if j = nn then k else if j < nn then PKn h nn m j else 0 := by
  unfold PKn
  rw [dgA_s hk.1 hk.2]
  by_cases e : j = nn
  · subst e; rw [if_pos rfl, dgA_out (Int.le_refl _), fset_same]
  · rw [if_neg e]
    by_cases e2 : j < nn
    · rw [if_pos e2]; exact dgA_c hj e2
    · rw [if_neg e2, dgA_out (by omega), fset_ne e]

def TRY (l : Launch) (G : GG) (h : AH) (cs : Int → List (Int × List Int)) (O : Int → Int) (g : GD) (dd : Nat) : Prop := ∀ (nn : Nat) (m : Int) (s : SB) (F : AH) (z Lr : Int → Int) (d : Nat) (Q : Option AV → List Kd → AH → Prop), 42 + dd ≤ d → (nn : Int) + dd = npF (h 167) → GR g F → (∀ j, 0 ≤ j → j < (nn : Int) → F 172 j = PKn h nn m j) → ST h F s → (∀ F z Lr, GR g F → (∀ j, 0 ≤ j → j < (nn : Int) → F 172 j = PKn h nn m j) → ST h F (tr4 (cst4 h cs g) (fun m => PKn h (npF (h 167)).toNat m) (h 167) (npF (h 167)) dd m s) → Q none K0 (jst (kst h F) z O Lr)) → Sp l G mX12_tryParts d 0 0 K0 [(2, 116), (0, (nn : Int))] (jst (kst h F) z O Lr) Q
set_option maxHeartbeats 4000000 in
set_option maxRecDepth 100000 in
theorem s_try0 {l : Launch} {G : GG} {d : Nat} {h : AH} {Q : Option AV → List Kd → AH → Prop} {cs : Int → List (Int × List Int)} {F : AH} {z O Lr : Int → Int} {g : GD} {nn : Nat} {m : Int} {s : SB} (hd : 42 ≤ d) (I : CI h cs) (hg : GB g) (hn : (nn : Int) = npF (h 167)) (hG : GR g F) (pk : (∀ j, 0 ≤ j → j < (nn : Int) → F 172 j = PKn h nn m j)) (hS : ST h F s) (hq : (∀ F z Lr, GR g F → (∀ j, 0 ≤ j → j < (nn : Int) → F 172 j = PKn h nn m j) → ST h F (bsS (cst4 h cs g) (PKn h nn m) s) → Q none K0 (jst (kst h F) z O Lr))) : Sp l G mX12_tryParts d 0 0 K0 [(2, 116), (0, (nn : Int))] (jst (kst h F) z O Lr) Q := by
  obtain ⟨np9, np8, np7⟩ := @npF_r (h 167)
  have hr : PRt h (F 172) := fun p p0 p1 => by
    rw [pk p p0 (by omega)]
    exact dgA_rng (fun q q0 q1 => np8 q q0 (by omega)) p0 (by omega)
  have eC : cst4 h cs g (F 172) = cst4 h cs g (PKn h nn m) := cst4_c (fun p p0 p1 => pk p p0 (by omega))
  refine sp_of (L := [(2, 116), (0, (nn : Int)), (9, 0), (9, 0), (9, 0)]) pl_X12 (Nat.le_of_ble_eq_true rfl) (tg_c (by decide) (tg_c (by decide) tg_0)) rfl ?_
  refine v_iload_n dX12_tryParts_0 rfl ?_
  refine v_iconst dX12_tryParts_1 (c32 rfl) ?_
  refine v_icmp_ge (tgt := 47) dX12_tryParts_2 (by decide) (fun c2_1 => ?_) (fun c2_1 => ?_)
  · refine v_aload_n dX12_tryParts_47 rfl ?_
    refine v_callv (M' := mX12_costOf) (d' := d - 1) (mc' := 0) (ms' := 0) (ci := 12) (c := 116) (As := []) dX12_tryParts_48 k_2039 cm_X12_costOf rfl (by omega) (by decide) kk_116 (Nat.le_of_ble_eq_true rfl) rfl ⟨Nat.le_refl _, Nat.le_refl _⟩ ?_
    refine s_rcost (g := g) (by omega) I hg hG hr (fun xz_1 xl_1 => ?_)
    dsimp only [Option.toList, List.cons_append, List.nil_append, Nat.add_zero]
    refine v_lstore_n_2 dX12_tryParts_51 (by decide) rfl ?_
    refine v_aload_n dX12_tryParts_52 rfl ?_
    refine v_getv (ci := 12) (j := 84) (ji := 84) (tg := 1) dX12_tryParts_53 k_1500 (by decide) kk_116 (by decide) rfl rfl (by decide) ((jst_j (by decide)).trans ((kst_s (by decide)).trans (hS.1))) ?_
    refine v_ldc2 (n := -1) dX12_tryParts_56 k_1957 (c64 rfl) (by decide) ?_
    refine v_lcmp_eq (tgt := 73) dX12_tryParts_59 dX12_tryParts_60 (by decide) (fun c59_2 => ?_) (fun c59_2 => ?_)
    · refine v_aload_n dX12_tryParts_73 rfl ?_
      refine v_lload_n dX12_tryParts_74 rfl ?_
      refine v_putl (ci := 12) (j := 84) (ji := 84) dX12_tryParts_75 k_1500 (by decide) kk_116 (by decide) rfl rfl rfl ?_
      rw [jst_wj (by decide), kst_w (by decide)]
      refine v_iconst dX12_tryParts_78 (c32 rfl) ?_
      refine v_istore_4 dX12_tryParts_79 (by decide) rfl ?_
      have e9 : bsS (cst4 h cs g) (PKn h nn m) s = (cst4 h cs g (PKn h nn m), PKn h nn m) := if_pos (by rw [← eC]; omega)
      exact lp_rcp (F0 := hset F 116 84 (cst4 h cs g (F 172))) (by omega) (by omega) (fun F' hs hv => hq F' _ _ (by
        unfold GR
        rw [hs 116 (by decide), hset_j (by decide), hset_j (by decide), hset_j (by decide), hset_j (by decide), hset_j (by decide)]
        exact hG) (fun j j0 j1 => by rw [hs 172 (by decide), hset_c (by decide)]; exact pk j j0 j1) (by
        rw [e9]
        refine ⟨by rw [hs 116 (by decide), hset_same, eC], fun _ j j0 j1 => ?_⟩
        rw [hv j j0 j1]
        by_cases z : j < (nn : Int)
        · rw [if_pos z, if_pos (by omega), hset_c (by decide)]; exact pk j j0 z
        · rw [if_neg z, if_neg (by omega)])) 0 (Int.le_refl _) (by decide) _ (fun _ _ => rfl) (fun j j0 j1 => by omega)
    · refine v_lload_n dX12_tryParts_63 rfl ?_
      refine v_aload_n dX12_tryParts_64 rfl ?_
      refine v_getv (ci := 12) (j := 84) (ji := 84) (tg := 1) dX12_tryParts_65 k_1500 (by decide) kk_116 (by decide) rfl rfl (by decide) ((jst_j (by decide)).trans ((kst_s (by decide)).trans (hS.1))) ?_
      refine v_lcmp_lt (tgt := 73) dX12_tryParts_68 dX12_tryParts_69 (by decide) (fun c68_3 => ?_) (fun c68_3 => ?_)
      · refine v_aload_n dX12_tryParts_73 rfl ?_
        refine v_lload_n dX12_tryParts_74 rfl ?_
        refine v_putl (ci := 12) (j := 84) (ji := 84) dX12_tryParts_75 k_1500 (by decide) kk_116 (by decide) rfl rfl rfl ?_
        rw [jst_wj (by decide), kst_w (by decide)]
        refine v_iconst dX12_tryParts_78 (c32 rfl) ?_
        refine v_istore_4 dX12_tryParts_79 (by decide) rfl ?_
        have e9 : bsS (cst4 h cs g) (PKn h nn m) s = (cst4 h cs g (PKn h nn m), PKn h nn m) := if_pos (by rw [← eC]; omega)
        exact lp_rcp (F0 := hset F 116 84 (cst4 h cs g (F 172))) (by omega) (by omega) (fun F' hs hv => hq F' _ _ (by
          unfold GR
          rw [hs 116 (by decide), hset_j (by decide), hset_j (by decide), hset_j (by decide), hset_j (by decide), hset_j (by decide)]
          exact hG) (fun j j0 j1 => by rw [hs 172 (by decide), hset_c (by decide)]; exact pk j j0 j1) (by
          rw [e9]
          refine ⟨by rw [hs 116 (by decide), hset_same, eC], fun _ j j0 j1 => ?_⟩
          rw [hv j j0 j1]
          by_cases z : j < (nn : Int)
          · rw [if_pos z, if_pos (by omega), hset_c (by decide)]; exact pk j j0 z
          · rw [if_neg z, if_neg (by omega)])) 0 (Int.le_refl _) (by decide) _ (fun _ _ => rfl) (fun j j0 j1 => by omega)
      · refine v_vret dX12_tryParts_72 rfl (Nat.le_refl _) (Nat.le_refl _) ?_
        have e9 : bsS (cst4 h cs g) (PKn h nn m) s = s := if_neg (fun z => by rw [← eC] at z; rcases z with z | z <;> omega)
        refine hq F _ _ hG pk ?_
        rw [e9]
        exact hS
  · refine v_aload_n dX12_tryParts_5 rfl ?_
    refine v_getr (ci := 12) (j := 72) (ji := 72) (z := 167) dX12_tryParts_6 k_1488 (by decide) kk_116 (by decide) rfl rfl (fun r => rt_116_72 (r rfl)) (by decide) ?_
    refine v_iload_n dX12_tryParts_9 rfl ?_
    refine v_ialoadv dX12_tryParts_10 (by decide) kk_167 (by omega) (by omega) ((jst_c (by decide)).trans (kst_n (by decide))) ?_
    refine v_if_le (tgt := 47) dX12_tryParts_11 (by decide) (fun c11_4 => ?_) (fun c11_4 => ?_)
    · refine v_aload_n dX12_tryParts_47 rfl ?_
      refine v_callv (M' := mX12_costOf) (d' := d - 1) (mc' := 0) (ms' := 0) (ci := 12) (c := 116) (As := []) dX12_tryParts_48 k_2039 cm_X12_costOf rfl (by omega) (by decide) kk_116 (Nat.le_of_ble_eq_true rfl) rfl ⟨Nat.le_refl _, Nat.le_refl _⟩ ?_
      refine s_rcost (g := g) (by omega) I hg hG hr (fun xz_4 xl_4 => ?_)
      dsimp only [Option.toList, List.cons_append, List.nil_append, Nat.add_zero]
      refine v_lstore_n_2 dX12_tryParts_51 (by decide) rfl ?_
      refine v_aload_n dX12_tryParts_52 rfl ?_
      refine v_getv (ci := 12) (j := 84) (ji := 84) (tg := 1) dX12_tryParts_53 k_1500 (by decide) kk_116 (by decide) rfl rfl (by decide) ((jst_j (by decide)).trans ((kst_s (by decide)).trans (hS.1))) ?_
      refine v_ldc2 (n := -1) dX12_tryParts_56 k_1957 (c64 rfl) (by decide) ?_
      refine v_lcmp_eq (tgt := 73) dX12_tryParts_59 dX12_tryParts_60 (by decide) (fun c59_5 => ?_) (fun c59_5 => ?_)
      · refine v_aload_n dX12_tryParts_73 rfl ?_
        refine v_lload_n dX12_tryParts_74 rfl ?_
        refine v_putl (ci := 12) (j := 84) (ji := 84) dX12_tryParts_75 k_1500 (by decide) kk_116 (by decide) rfl rfl rfl ?_
        rw [jst_wj (by decide), kst_w (by decide)]
        refine v_iconst dX12_tryParts_78 (c32 rfl) ?_
        refine v_istore_4 dX12_tryParts_79 (by decide) rfl ?_
        have e9 : bsS (cst4 h cs g) (PKn h nn m) s = (cst4 h cs g (PKn h nn m), PKn h nn m) := if_pos (by rw [← eC]; omega)
        exact lp_rcp (F0 := hset F 116 84 (cst4 h cs g (F 172))) (by omega) (by omega) (fun F' hs hv => hq F' _ _ (by
          unfold GR
          rw [hs 116 (by decide), hset_j (by decide), hset_j (by decide), hset_j (by decide), hset_j (by decide), hset_j (by decide)]
          exact hG) (fun j j0 j1 => by rw [hs 172 (by decide), hset_c (by decide)]; exact pk j j0 j1) (by
          rw [e9]
          refine ⟨by rw [hs 116 (by decide), hset_same, eC], fun _ j j0 j1 => ?_⟩
          rw [hv j j0 j1]
          by_cases z : j < (nn : Int)
          · rw [if_pos z, if_pos (by omega), hset_c (by decide)]; exact pk j j0 z
          · rw [if_neg z, if_neg (by omega)])) 0 (Int.le_refl _) (by decide) _ (fun _ _ => rfl) (fun j j0 j1 => by omega)
      · refine v_lload_n dX12_tryParts_63 rfl ?_
        refine v_aload_n dX12_tryParts_64 rfl ?_
        refine v_getv (ci := 12) (j := 84) (ji := 84) (tg := 1) dX12_tryParts_65 k_1500 (by decide) kk_116 (by decide) rfl rfl (by decide) ((jst_j (by decide)).trans ((kst_s (by decide)).trans (hS.1))) ?_
        refine v_lcmp_lt (tgt := 73) dX12_tryParts_68 dX12_tryParts_69 (by decide) (fun c68_6 => ?_) (fun c68_6 => ?_)
        · refine v_aload_n dX12_tryParts_73 rfl ?_
          refine v_lload_n dX12_tryParts_74 rfl ?_
          refine v_putl (ci := 12) (j := 84) (ji := 84) dX12_tryParts_75 k_1500 (by decide) kk_116 (by decide) rfl rfl rfl ?_
          rw [jst_wj (by decide), kst_w (by decide)]
          refine v_iconst dX12_tryParts_78 (c32 rfl) ?_
          refine v_istore_4 dX12_tryParts_79 (by decide) rfl ?_
          have e9 : bsS (cst4 h cs g) (PKn h nn m) s = (cst4 h cs g (PKn h nn m), PKn h nn m) := if_pos (by rw [← eC]; omega)
          exact lp_rcp (F0 := hset F 116 84 (cst4 h cs g (F 172))) (by omega) (by omega) (fun F' hs hv => hq F' _ _ (by
            unfold GR
            rw [hs 116 (by decide), hset_j (by decide), hset_j (by decide), hset_j (by decide), hset_j (by decide), hset_j (by decide)]
            exact hG) (fun j j0 j1 => by rw [hs 172 (by decide), hset_c (by decide)]; exact pk j j0 j1) (by
            rw [e9]
            refine ⟨by rw [hs 116 (by decide), hset_same, eC], fun _ j j0 j1 => ?_⟩
            rw [hv j j0 j1]
            by_cases z : j < (nn : Int)
            · rw [if_pos z, if_pos (by omega), hset_c (by decide)]; exact pk j j0 z
            · rw [if_neg z, if_neg (by omega)])) 0 (Int.le_refl _) (by decide) _ (fun _ _ => rfl) (fun j j0 j1 => by omega)
        · refine v_vret dX12_tryParts_72 rfl (Nat.le_refl _) (Nat.le_refl _) ?_
          have e9 : bsS (cst4 h cs g) (PKn h nn m) s = s := if_neg (fun z => by rw [← eC] at z; rcases z with z | z <;> omega)
          refine hq F _ _ hG pk ?_
          rw [e9]
          exact hS
    · exfalso
      have := ofz I (nn : Int) (by omega) (by omega)
      omega

set_option maxHeartbeats 4000000 in
set_option maxRecDepth 100000 in
theorem lp_rtry {l : Launch} {G : GG} {d : Nat} {h : AH} {Q : Option AV → List Kd → AH → Prop} {cs : Int → List (Int × List Int)} {O : Int → Int} {g : GD} {nn dd : Nat} {m : Int} {s : SB} (hd : 43 + dd ≤ d) (I : CI h cs) (hn : (nn : Int) + 1 + dd = npF (h 167)) (IH : TRY l G h cs O g dd) (hq : (∀ F z Lr, GR g F → (∀ j, 0 ≤ j → j < (nn : Int) → F 172 j = PKn h nn m j) → ST h F (fupI (fun k s => (tr4 (cst4 h cs g) (fun m => PKn h (npF (h 167)).toNat m) (h 167) (npF (h 167)) dd (m * h 167 (nn : Int) + k) s)) s (h 167 (nn : Int))) → Q none K0 (jst (kst h F) z O Lr))) : ∀ k, 0 ≤ k → k ≤ h 167 (nn : Int) → ∀ (F : AH) (z Lr : Int → Int), GR g F → (∀ j, 0 ≤ j → j < (nn : Int) → F 172 j = PKn h nn m j) → ST h F (fupI (fun k s => (tr4 (cst4 h cs g) (fun m => PKn h (npF (h 167)).toNat m) (h 167) (npF (h 167)) dd (m * h 167 (nn : Int) + k) s)) s k) → V l G mX12_tryParts d 0 0 0 0 K0 16 [(2, 116), (0, (nn : Int)), (0, k), (9, 0), (9, 0)] [] (jst (kst h F) z O Lr) Q := by
  obtain ⟨np9, np8, np7⟩ := @npF_r (h 167)
  have o9 := I.ofn (nn : Int) (by omega) (by omega)
  refine loop_m3 (fun k hk hkN ih F z Lr hG pk hS => ?_)
  refine v_iload_n dX12_tryParts_16 rfl ?_
  refine v_aload_n dX12_tryParts_17 rfl ?_
  refine v_getr (ci := 12) (j := 72) (ji := 72) (z := 167) dX12_tryParts_18 k_1488 (by decide) kk_116 (by decide) rfl rfl (fun r => rt_116_72 (r rfl)) (by decide) ?_
  refine v_iload_n dX12_tryParts_21 rfl ?_
  refine v_ialoadv dX12_tryParts_22 (by decide) kk_167 (by omega) (by omega) ((jst_c (by decide)).trans (kst_n (by decide))) ?_
  refine v_icmp_ge (tgt := 46) dX12_tryParts_23 (by decide) (fun c23_1 => ?_) (fun c23_1 => ?_)
  · refine v_vret dX12_tryParts_46 rfl (Nat.le_refl _) (Nat.le_refl _) ?_
    obtain rfl : k = h 167 (nn : Int) := by omega
    exact hq _ _ _ hG pk hS
  · refine v_aload_n dX12_tryParts_26 rfl ?_
    refine v_getr (ci := 12) (j := 77) (ji := 77) (z := 172) dX12_tryParts_27 k_1493 (by decide) kk_116 (by decide) rfl rfl (fun r => rt_116_77 (r rfl)) (by decide) ?_
    refine v_iload_n dX12_tryParts_30 rfl ?_
    refine v_iload_n dX12_tryParts_31 rfl ?_
    refine v_iastore dX12_tryParts_32 (by decide) kk_172 (by omega) (by omega) ?_
    rw [jst_wc (by decide), kst_wm (by decide)]
    refine v_aload_n dX12_tryParts_33 rfl ?_
    refine v_iload_n dX12_tryParts_34 rfl ?_
    refine v_iconst dX12_tryParts_35 (c32 rfl) ?_
    refine v_iaddE dX12_tryParts_36 (by omega) ?_
    rw [show (nn : Int) + 1 = ((nn + 1 : Nat) : Int) from rfl]
    refine v_callv (M' := mX12_tryParts) (d' := d - 1) (mc' := 0) (ms' := 0) (ci := 12) (c := 116) (As := [_]) dX12_tryParts_37 k_2035 cm_X12_tryParts rfl (by omega) (by decide) kk_116 (Nat.le_of_ble_eq_true rfl) rfl ⟨Nat.le_refl _, Nat.le_refl _⟩ ?_
    refine IH (nn + 1) (m * h 167 (nn : Int) + k) (fupI (fun k s => (tr4 (cst4 h cs g) (fun m => PKn h (npF (h 167)).toNat m) (h 167) (npF (h 167)) dd (m * h 167 (nn : Int) + k) s)) s k) _ _ _ _ _ (by omega) (by omega) (by unfold GR; rw [hset_r (by decide)]; exact hG) (fun j j0 j1 => by
            rw [PKn_s ⟨hk, by omega⟩ j0]
            by_cases e : j = (nn : Int)
            · rw [if_pos e, e, hset_same]
            · rw [if_neg e, if_pos (by omega), hset_j e]; exact pk j j0 (by omega)) (by unfold ST; rw [hset_r (by decide), hset_r (by decide)]; exact hS) (fun xF_4 xz_4 xl_4 c37_2 c37_3 c37_4 => ?_)
    dsimp only [Option.toList, List.cons_append, List.nil_append, Nat.add_zero]
    refine v_iinc_2 dX12_tryParts_40 (by decide) rfl ?_
    rw [iadd_eq (x := k) (y := 1) (by unfold ok32; omega)]
    refine v_goto (tgt := 16) dX12_tryParts_43 (by decide) ?_
    refine v_loc (lo_k (lo_k (lo_k (lo_d (lo_d lo_nil))))) ?_
    exact ih (by omega) _ _ _ c37_2 (fun j j0 j1 => by
      rw [c37_3 j j0 (by omega), PKn_s ⟨hk, by omega⟩ j0, if_neg (by omega), if_pos j1]) (by rw [fupI_s hk]; exact c37_4)

set_option maxHeartbeats 4000000 in
set_option maxRecDepth 100000 in
theorem s_try {l : Launch} {G : GG} {h : AH} {cs : Int → List (Int × List Int)} {O : Int → Int} {g : GD} (I : CI h cs) (hg : GB g) : ∀ dd : Nat, TRY l G h cs O g dd := by
  obtain ⟨np9, np8, np7⟩ := @npF_r (h 167)
  intro dd
  induction dd with
  | zero =>
    intro nn m s F z Lr d Q hd hn hG pk hS hq
    refine s_try0 (by omega) I hg (by omega) hG pk hS (fun F z Lr a b c => hq F z Lr a b ?_)
    have e : (npF (h 167)).toNat = nn := by omega
    show ST h F (bsS (cst4 h cs g) (PKn h (npF (h 167)).toNat m) s)
    rw [e]
    exact c
  | succ dd IH =>
    intro nn m s F z Lr d Q hd hn hG pk hS hq
    have e9 : (tr4 (cst4 h cs g) (fun m => PKn h (npF (h 167)).toNat m) (h 167) (npF (h 167)) (dd + 1) m s) = (fupI (fun k s => (tr4 (cst4 h cs g) (fun m => PKn h (npF (h 167)).toNat m) (h 167) (npF (h 167)) dd (m * h 167 (nn : Int) + k) s)) s (h 167 (nn : Int))) := by
      have e : npF (h 167) - ((dd + 1 : Nat) : Int) = (nn : Int) := by omega
      show fup _ s _ = _
      rw [e]
      rfl
    refine sp_of (L := [(2, 116), (0, (nn : Int)), (9, 0), (9, 0), (9, 0)]) pl_X12 (Nat.le_of_ble_eq_true rfl) (tg_c (by decide) (tg_c (by decide) tg_0)) rfl ?_
    refine v_iload_n dX12_tryParts_0 rfl ?_
    refine v_iconst dX12_tryParts_1 (c32 rfl) ?_
    refine v_icmp_ge (tgt := 47) dX12_tryParts_2 (by decide) (fun c2_1 => ?_) (fun c2_1 => ?_)
    · exfalso
      have := np8 (nn : Int) (by omega) (by omega)
      omega
    · refine v_aload_n dX12_tryParts_5 rfl ?_
      refine v_getr (ci := 12) (j := 72) (ji := 72) (z := 167) dX12_tryParts_6 k_1488 (by decide) kk_116 (by decide) rfl rfl (fun r => rt_116_72 (r rfl)) (by decide) ?_
      refine v_iload_n dX12_tryParts_9 rfl ?_
      refine v_ialoadv dX12_tryParts_10 (by decide) kk_167 (by omega) (by omega) ((jst_c (by decide)).trans (kst_n (by decide))) ?_
      refine v_if_le (tgt := 47) dX12_tryParts_11 (by decide) (fun c11_2 => ?_) (fun c11_2 => ?_)
      · exfalso
        have := np8 (nn : Int) (by omega) (by omega)
        omega
      · refine v_iconst dX12_tryParts_14 (c32 rfl) ?_
        refine v_istore_n_2 dX12_tryParts_15 (by decide) rfl ?_
        exact lp_rtry (by omega) I (by omega) IH (fun F z Lr a b c => hq F z Lr a b (by rw [e9]; exact c)) 0 (Int.le_refl _) (by have := np8 (nn : Int) (by omega) (by omega); omega) _ _ _ hG pk hS

