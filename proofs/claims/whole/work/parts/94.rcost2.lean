/-! ===== sourcing: the reference's cost (written by wip/whole/p67.py) ===== -/
theorem fin126 {Lr lt : Int → Int} {H P a n b o c : Int} (e0 : lt 0 = a) (e1 : lt 1 = n) (e2 : lt 2 = b) (e3 : lt 3 = o) (e4 : lt 4 = c) (e5 : lt 5 = H) (e6 : lt 6 = P) (e7 : lt 7 = 0) : ∀ i, 0 ≤ i → i < 8 → ltF (fset (fset (fset (fset (fset (fset (fset (fclr Lr) 104 H) 112 P) 97 a) 110 n) 98 b) 111 o) 99 c) i = lt i := by
  intro i i0 i1
  rcases (show i = 0 ∨ i = 1 ∨ i = 2 ∨ i = 3 ∨ i = 4 ∨ i = 5 ∨ i = 6 ∨ i = 7 by omega) with rfl | rfl | rfl | rfl | rfl | rfl | rfl | rfl
  · rw [show ltF (fset (fset (fset (fset (fset (fset (fset (fclr Lr) 104 H) 112 P) 97 a) 110 n) 98 b) 111 o) 99 c) 0 = (fset (fset (fset (fset (fset (fset (fset (fclr Lr) 104 H) 112 P) 97 a) 110 n) 98 b) 111 o) 99 c) 97 from rfl, fset_ne (by decide), fset_ne (by decide), fset_ne (by decide), fset_ne (by decide), fset_same, e0]
  · rw [show ltF (fset (fset (fset (fset (fset (fset (fset (fclr Lr) 104 H) 112 P) 97 a) 110 n) 98 b) 111 o) 99 c) 1 = (fset (fset (fset (fset (fset (fset (fset (fclr Lr) 104 H) 112 P) 97 a) 110 n) 98 b) 111 o) 99 c) 110 from rfl, fset_ne (by decide), fset_ne (by decide), fset_ne (by decide), fset_same, e1]
  · rw [show ltF (fset (fset (fset (fset (fset (fset (fset (fclr Lr) 104 H) 112 P) 97 a) 110 n) 98 b) 111 o) 99 c) 2 = (fset (fset (fset (fset (fset (fset (fset (fclr Lr) 104 H) 112 P) 97 a) 110 n) 98 b) 111 o) 99 c) 98 from rfl, fset_ne (by decide), fset_ne (by decide), fset_same, e2]
  · rw [show ltF (fset (fset (fset (fset (fset (fset (fset (fclr Lr) 104 H) 112 P) 97 a) 110 n) 98 b) 111 o) 99 c) 3 = (fset (fset (fset (fset (fset (fset (fset (fclr Lr) 104 H) 112 P) 97 a) 110 n) 98 b) 111 o) 99 c) 111 from rfl, fset_ne (by decide), fset_same, e3]
  · rw [show ltF (fset (fset (fset (fset (fset (fset (fset (fclr Lr) 104 H) 112 P) 97 a) 110 n) 98 b) 111 o) 99 c) 4 = (fset (fset (fset (fset (fset (fset (fset (fclr Lr) 104 H) 112 P) 97 a) 110 n) 98 b) 111 o) 99 c) 99 from rfl, fset_same, e4]
  · rw [show ltF (fset (fset (fset (fset (fset (fset (fset (fclr Lr) 104 H) 112 P) 97 a) 110 n) 98 b) 111 o) 99 c) 5 = (fset (fset (fset (fset (fset (fset (fset (fclr Lr) 104 H) 112 P) 97 a) 110 n) 98 b) 111 o) 99 c) 104 from rfl, fset_ne (by decide), fset_ne (by decide), fset_ne (by decide), fset_ne (by decide), fset_ne (by decide), fset_ne (by decide), fset_same, e5]
  · rw [show ltF (fset (fset (fset (fset (fset (fset (fset (fclr Lr) 104 H) 112 P) 97 a) 110 n) 98 b) 111 o) 99 c) 6 = (fset (fset (fset (fset (fset (fset (fset (fclr Lr) 104 H) 112 P) 97 a) 110 n) 98 b) 111 o) 99 c) 112 from rfl, fset_ne (by decide), fset_ne (by decide), fset_ne (by decide), fset_ne (by decide), fset_ne (by decide), fset_same, e6]
  · rw [show ltF (fset (fset (fset (fset (fset (fset (fset (fclr Lr) 104 H) 112 P) 97 a) 110 n) 98 b) 111 o) 99 c) 7 = (fset (fset (fset (fset (fset (fset (fset (fclr Lr) 104 H) 112 P) 97 a) 110 n) 98 b) 111 o) 99 c) 121 from rfl, fset_ne (by decide), fset_ne (by decide), fset_ne (by decide), fset_ne (by decide), fset_ne (by decide), fset_ne (by decide), fset_ne (by decide), e7]
    exact if_pos (by decide)
theorem yr126 {h : AH} {g : GD} {Lr : Int → Int} : ∀ i, 0 ≤ i → i < 8 → ltF (fset (fset (fclr Lr) 104 g.2.1) 121 (idiv (h 116 1) 360)) i = tLt h g i := by
  intro i i0 i1
  rcases (show i = 0 ∨ i = 1 ∨ i = 2 ∨ i = 3 ∨ i = 4 ∨ i = 5 ∨ i = 6 ∨ i = 7 by omega) with rfl | rfl | rfl | rfl | rfl | rfl | rfl | rfl
  · rw [show ltF (fset (fset (fclr Lr) 104 g.2.1) 121 (idiv (h 116 1) 360)) 0 = (fset (fset (fclr Lr) 104 g.2.1) 121 (idiv (h 116 1) 360)) 97 from rfl, fset_ne (by decide), fset_ne (by decide)]
    exact if_pos (by decide)
  · rw [show ltF (fset (fset (fclr Lr) 104 g.2.1) 121 (idiv (h 116 1) 360)) 1 = (fset (fset (fclr Lr) 104 g.2.1) 121 (idiv (h 116 1) 360)) 110 from rfl, fset_ne (by decide), fset_ne (by decide)]
    exact if_pos (by decide)
  · rw [show ltF (fset (fset (fclr Lr) 104 g.2.1) 121 (idiv (h 116 1) 360)) 2 = (fset (fset (fclr Lr) 104 g.2.1) 121 (idiv (h 116 1) 360)) 98 from rfl, fset_ne (by decide), fset_ne (by decide)]
    exact if_pos (by decide)
  · rw [show ltF (fset (fset (fclr Lr) 104 g.2.1) 121 (idiv (h 116 1) 360)) 3 = (fset (fset (fclr Lr) 104 g.2.1) 121 (idiv (h 116 1) 360)) 111 from rfl, fset_ne (by decide), fset_ne (by decide)]
    exact if_pos (by decide)
  · rw [show ltF (fset (fset (fclr Lr) 104 g.2.1) 121 (idiv (h 116 1) 360)) 4 = (fset (fset (fclr Lr) 104 g.2.1) 121 (idiv (h 116 1) 360)) 99 from rfl, fset_ne (by decide), fset_ne (by decide)]
    exact if_pos (by decide)
  · rw [show ltF (fset (fset (fclr Lr) 104 g.2.1) 121 (idiv (h 116 1) 360)) 5 = (fset (fset (fclr Lr) 104 g.2.1) 121 (idiv (h 116 1) 360)) 104 from rfl, fset_ne (by decide), fset_same]; rfl
  · rw [show ltF (fset (fset (fclr Lr) 104 g.2.1) 121 (idiv (h 116 1) 360)) 6 = (fset (fset (fclr Lr) 104 g.2.1) 121 (idiv (h 116 1) 360)) 112 from rfl, fset_ne (by decide), fset_ne (by decide)]
    exact if_pos (by decide)
  · rw [show ltF (fset (fset (fclr Lr) 104 g.2.1) 121 (idiv (h 116 1) 360)) 7 = (fset (fset (fclr Lr) 104 g.2.1) 121 (idiv (h 116 1) 360)) 121 from rfl, fset_same]; rfl
theorem oLt_lb {h : AH} {cs : Int → List (Int × List Int)} {g : GD} {w : Int} {t : Int → Int} (I : CI h cs) (hg : GB g) (hr : PRt h t) : lbok (oLt h g w t) := by
  intro i i0 i1
  obtain ⟨g1, g2, g3, g4, g5⟩ := hg
  have np9 := (@npF_r (h 167)).1
  have hv : ∀ i, 0 ≤ i → i < npF (h 167) → 0 ≤ cV h t i ∧ cV h t i ≤ 1000000 := fun i i0 i1 => by have t9 := hr i i0 i1; have k9 := I.ofn i i0 (by omega); exact (I.ofk (4 * i + t i) (by omega) (by omega)).1
  have s1 := sm_rng (f := cV h t) (N := npF (h 167)) (B := 1000000) hv _ np9.1 (Int.le_refl _)
  have s2 := sm_rng (f := cO h w t) (N := npF (h 167)) (B := 1000000) (fun i i0 i1 => (cO_r (g := g) (v := 0) i (hv i i0 i1)).1) _ np9.1 (Int.le_refl _)
  have s3 := sm_rng (f := cK h g w t) (N := npF (h 167)) (B := 1000000) (fun i i0 i1 => (cO_r (g := g) (v := 0) i (hv i i0 i1)).2.1) _ np9.1 (Int.le_refl _)
  have s4 := sm_rng (f := cB h g w t) (N := npF (h 167)) (B := 1000000) (fun i i0 i1 => (cO_r (g := g) (v := 0) i (hv i i0 i1)).2.2.1) _ np9.1 (Int.le_refl _)
  have s5 := sm_rng (f := cC h w t) (N := npF (h 167)) (B := 1) (fun i i0 i1 => (cO_r (g := g) (v := 0) i (hv i i0 i1)).2.2.2) _ np9.1 (Int.le_refl _)
  rcases (show i = 0 ∨ i = 1 ∨ i = 2 ∨ i = 3 ∨ i = 4 ∨ i = 5 ∨ i = 6 ∨ i = 7 by omega) with rfl | rfl | rfl | rfl | rfl | rfl | rfl | rfl
  · rw [oLt_0]; have := shr_rng (p := sm (cV h t) (npF (h 167))) (w := g.2.2.2.1) (by omega) (by omega) (by omega) (by omega); omega
  · rw [oLt_1]; have := shr_rng (p := sm (cO h w t) (npF (h 167))) (w := g.2.2.2.1) (by omega) (by omega) (by omega) (by omega); omega
  · rw [oLt_2]; have := shr_rng (p := sm (cK h g w t) (npF (h 167))) (w := g.2.2.2.1) (by omega) (by omega) (by omega) (by omega); omega
  · rw [oLt_3]; have := shr_rng (p := sm (cB h g w t) (npF (h 167))) (w := g.2.2.2.1) (by omega) (by omega) (by omega) (by omega); omega
  · rw [oLt_4]; omega
  · rw [oLt_5]; omega
  · rw [oLt_6]; omega
  · rw [oLt_7]; omega
theorem tLt_lb {h : AH} {cs : Int → List (Int × List Int)} {g : GD} (I : CI h cs) (hg : GB g) : lbok (tLt h g) := by
  intro i i0 i1
  have n9 := I.now
  obtain ⟨g1, g2, g3, g4, g5⟩ := hg
  have c := idiv_nn (x := h 116 1) (y := 360) (by omega) (by omega) (by decide) (by decide)
  unfold tLt
  split
  · omega
  · split
    · omega
    · omega

set_option maxHeartbeats 4000000 in
set_option maxRecDepth 100000 in
theorem lp_rcst3 {l : Launch} {G : GG} {d : Nat} {h : AH} {Q : Option AV → List Kd → AH → Prop} {cs : Int → List (Int × List Int)} {F : AH} {O : Int → Int} {g : GD} (hd : 40 ≤ d) (I : CI h cs) (hg : GB g) (hG : GR g F) (hr : PRt h (F 172)) (hq : ∀ z Lr, Q (some (1, cst4 h cs g (F 172))) K0 (jst (kst h F) z O Lr)) : ∀ k, 0 ≤ k → k ≤ 4 → ∀ z Lr : Int → Int, V l G mX12_costOf d 0 0 0 0 K0 68 [(2, 116), (1, (sm (cV h (F 172)) (npF (h 167)))), (8, 0), (0, rtF4 h cs g (F 172) k), (0, k), (9, 0), (9, 0), (9, 0), (9, 0), (9, 0), (9, 0), (9, 0), (9, 0), (9, 0)] [] (jst (kst h F) z O Lr) Q := by
  have hg0 := hg
  obtain ⟨g1, g2, g3, g4, g5⟩ := hg0
  refine loop_m3 (fun k hk hkN ih z Lr => ?_)
  refine v_iload dX12_costOf_68 rfl ?_
  refine v_iconst dX12_costOf_70 (c32 rfl) ?_
  refine v_icmp_ge (tgt := 469) dX12_costOf_71 (by decide) (fun c71_1 => ?_) (fun c71_1 => ?_)
  · have b9 := cst4_r (cs := cs) I hg hr
    have r9 := rtF4_r (cs := cs) (t := F 172) b9.2.1 (k := k) hk
    have m9 := du1000 (x := g.2.2.2.1) ⟨by omega, g4.2⟩ r9.1 (Int.le_refl _) r9.2
    refine v_lload_n dX12_costOf_469 rfl ?_
    refine v_aload_n dX12_costOf_470 rfl ?_
    refine v_getv (ci := 12) (j := 82) (ji := 82) (tg := 0) dX12_costOf_471 k_1498 (by decide) kk_116 (by decide) rfl rfl (by decide) ((jst_j (by decide)).trans ((kst_s (by decide)).trans (hG.2.2.2.1))) ?_
    refine v_i2l dX12_costOf_474 ?_
    refine v_iload_n dX12_costOf_475 rfl ?_
    refine v_i2l dX12_costOf_476 ?_
    refine v_lmulE dX12_costOf_477 (by omega) ?_
    refine v_ldc2 (n := 1000) dX12_costOf_478 k_1699 (c64 rfl) (by decide) ?_
    refine v_ldiv dX12_costOf_481 (by decide) ?_
    refine v_laddE dX12_costOf_482 (by omega) ?_
    refine v_lret dX12_costOf_483 rfl (Nat.le_refl _) (Nat.le_refl _) ?_
    obtain rfl : k = 4 := by omega
    exact hq _ _
  · refine v_aload_n dX12_costOf_74 rfl ?_
    refine v_getv (ci := 12) (j := 79) (ji := 79) (tg := 0) dX12_costOf_75 k_1495 (by decide) kk_116 (by decide) rfl rfl (by decide) ((jst_j (by decide)).trans ((kst_s (by decide)).trans (hG.1))) ?_
    refine v_aload_n dX12_costOf_78 rfl ?_
    refine v_getv (ci := 12) (j := 83) (ji := 83) (tg := 0) dX12_costOf_79 k_1499 (by decide) kk_116 (by decide) rfl rfl (by decide) ((jst_j (by decide)).trans ((kst_s (by decide)).trans (hG.2.2.2.2))) ?_
    refine v_icmp_eq (tgt := 463) dX12_costOf_82 (by decide) (fun c82_2 => ?_) (fun c82_2 => ?_)
    · refine v_iinc_4 dX12_costOf_463 (by decide) rfl ?_
      rw [iadd_eq (x := k) (y := 1) (by unfold ok32; omega)]
      refine v_goto (tgt := 68) dX12_costOf_466 (by decide) ?_
      have e9 : rS h cs g (F 172) k (rtF4 h cs g (F 172) k) = rtF4 h cs g (F 172) k := if_neg (fun z => by obtain ⟨⟨z1, z2, z3⟩, _⟩ := z; omega)
      have ih9 := ih (by omega) z Lr
      rw [rtF4_s hk, e9] at ih9
      refine v_loc (lo_k (lo_k (lo_k (lo_k (lo_k (lo_d (lo_d (lo_d (lo_d (lo_d (lo_d (lo_d (lo_d (lo_d (lo_nil))))))))))))))) ?_
      exact ih9
    · refine v_aload_n dX12_costOf_85 rfl ?_
      refine v_aload_n dX12_costOf_86 rfl ?_
      refine v_getv (ci := 12) (j := 79) (ji := 79) (tg := 0) dX12_costOf_87 k_1495 (by decide) kk_116 (by decide) rfl rfl (by decide) ((jst_j (by decide)).trans ((kst_s (by decide)).trans (hG.1))) ?_
      refine v_iload dX12_costOf_90 rfl ?_
      refine v_aload_n dX12_costOf_92 rfl ?_
      refine v_getv (ci := 12) (j := 1) (ji := 1) (tg := 0) dX12_costOf_93 k_1417 (by decide) kk_116 (by decide) rfl rfl (by decide) ((jst_j (by decide)).trans (kst_c (by decide))) ?_
      refine v_aload_n dX12_costOf_96 rfl ?_
      refine v_getv (ci := 12) (j := 1) (ji := 1) (tg := 0) dX12_costOf_97 k_1417 (by decide) kk_116 (by decide) rfl rfl (by decide) ((jst_j (by decide)).trans (kst_c (by decide))) ?_
      refine v_callv (M' := mX12_isMember) (d' := d - 1) (mc' := 0) (ms' := 0) (ci := 12) (c := 116) (As := [_, _, _, _]) dX12_costOf_100 k_1925 cm_X12_isMember rfl (by omega) (by decide) kk_116 (Nat.le_of_ble_eq_true rfl) rfl ⟨Nat.le_refl _, Nat.le_refl _⟩ ?_
      refine s_memK (by omega) I.W (fun c100_3 => ?_) (fun c100_4 => ?_)
      · dsimp only [Option.toList, List.cons_append, List.nil_append, Nat.add_zero]
        refine v_if_eq_t (tgt := 463) dX12_costOf_103 (by decide) (by decide) ?_
        refine v_iinc_4 dX12_costOf_463 (by decide) rfl ?_
        rw [iadd_eq (x := k) (y := 1) (by unfold ok32; omega)]
        refine v_goto (tgt := 68) dX12_costOf_466 (by decide) ?_
        have e9 : rS h cs g (F 172) k (rtF4 h cs g (F 172) k) = rtF4 h cs g (F 172) k := if_neg (fun z => by obtain ⟨⟨z1, z2, z3⟩, _⟩ := z; omega)
        have ih9 := ih (by omega) z Lr
        rw [rtF4_s hk, e9] at ih9
        refine v_loc (lo_k (lo_k (lo_k (lo_k (lo_k (lo_d (lo_d (lo_d (lo_d (lo_d (lo_d (lo_d (lo_d (lo_d (lo_nil))))))))))))))) ?_
        exact ih9
      · dsimp only [Option.toList, List.cons_append, List.nil_append, Nat.add_zero]
        refine v_if_eq_f (tgt := 463) dX12_costOf_103 (by decide) (by decide) ?_
        refine v_aload_n dX12_costOf_106 rfl ?_
        refine v_aload_n dX12_costOf_107 rfl ?_
        refine v_getv (ci := 12) (j := 83) (ji := 83) (tg := 0) dX12_costOf_108 k_1499 (by decide) kk_116 (by decide) rfl rfl (by decide) ((jst_j (by decide)).trans ((kst_s (by decide)).trans (hG.2.2.2.2))) ?_
        refine v_iload dX12_costOf_111 rfl ?_
        refine v_aload_n dX12_costOf_113 rfl ?_
        refine v_getv (ci := 12) (j := 1) (ji := 1) (tg := 0) dX12_costOf_114 k_1417 (by decide) kk_116 (by decide) rfl rfl (by decide) ((jst_j (by decide)).trans (kst_c (by decide))) ?_
        refine v_aload_n dX12_costOf_117 rfl ?_
        refine v_getv (ci := 12) (j := 1) (ji := 1) (tg := 0) dX12_costOf_118 k_1417 (by decide) kk_116 (by decide) rfl rfl (by decide) ((jst_j (by decide)).trans (kst_c (by decide))) ?_
        refine v_callv (M' := mX12_isMember) (d' := d - 1) (mc' := 0) (ms' := 0) (ci := 12) (c := 116) (As := [_, _, _, _]) dX12_costOf_121 k_1925 cm_X12_isMember rfl (by omega) (by decide) kk_116 (Nat.le_of_ble_eq_true rfl) rfl ⟨Nat.le_refl _, Nat.le_refl _⟩ ?_
        refine s_memK (by omega) I.W (fun c121_5 => ?_) (fun c121_6 => ?_)
        · dsimp only [Option.toList, List.cons_append, List.nil_append, Nat.add_zero]
          refine v_if_ne_f (tgt := 130) dX12_costOf_124 (by decide) (by decide) ?_
          refine v_goto (tgt := 463) dX12_costOf_127 (by decide) ?_
          refine v_iinc_4 dX12_costOf_463 (by decide) rfl ?_
          rw [iadd_eq (x := k) (y := 1) (by unfold ok32; omega)]
          refine v_goto (tgt := 68) dX12_costOf_466 (by decide) ?_
          have e9 : rS h cs g (F 172) k (rtF4 h cs g (F 172) k) = rtF4 h cs g (F 172) k := if_neg (fun z => by obtain ⟨⟨z1, z2, z3⟩, _⟩ := z; omega)
          have ih9 := ih (by omega) z Lr
          rw [rtF4_s hk, e9] at ih9
          refine v_loc (lo_k (lo_k (lo_k (lo_k (lo_k (lo_d (lo_d (lo_d (lo_d (lo_d (lo_d (lo_d (lo_d (lo_d (lo_nil))))))))))))))) ?_
          exact ih9
        · dsimp only [Option.toList, List.cons_append, List.nil_append, Nat.add_zero]
          refine v_if_ne_t (tgt := 130) dX12_costOf_124 (by decide) (by decide) ?_
          refine v_lconst (z := 0) dX12_costOf_130 (c64 rfl) (by decide) ?_
          refine v_lstore_5 dX12_costOf_131 (by decide) rfl ?_
          refine v_lconst (z := 0) dX12_costOf_133 (c64 rfl) (by decide) ?_
          refine v_lstore_7 dX12_costOf_134 (by decide) rfl ?_
          refine v_lconst (z := 0) dX12_costOf_136 (c64 rfl) (by decide) ?_
          refine v_lstore_9 dX12_costOf_137 (by decide) rfl ?_
          refine v_iconst dX12_costOf_139 (c32 rfl) ?_
          refine v_istore_11 dX12_costOf_140 (by decide) rfl ?_
          refine v_iconst dX12_costOf_142 (c32 rfl) ?_
          refine v_istore_12 dX12_costOf_143 (by decide) rfl ?_
          refine lp_rcst2 (l := l) (G := G) (d := d) (h := h) (cs := cs) (F := F) (g := g) (z := z) (O := O) (Lr := Lr) (S := (sm (cV h (F 172)) (npF (h 167)))) (R := rtF4 h cs g (F 172) k) (w := k) (Q := Q) hd I hG hr ⟨by omega, by omega⟩ ?_ 0 (Int.le_refl _) (@npF_r (h 167)).1.1
          have lb0 : -10000000 ≤ shr (sm (cV h (F 172)) (npF (h 167))) g.2.2.2.1 ∧ shr (sm (cV h (F 172)) (npF (h 167))) g.2.2.2.1 ≤ 10000000 := oLt_lb (w := k) I hg hr 0 (by decide) (by decide)
          have lb1 : -10000000 ≤ shr (sm (cO h k (F 172)) (npF (h 167))) g.2.2.2.1 ∧ shr (sm (cO h k (F 172)) (npF (h 167))) g.2.2.2.1 ≤ 10000000 := oLt_lb (w := k) I hg hr 1 (by decide) (by decide)
          have lb2 : -10000000 ≤ shr (sm (cK h g k (F 172)) (npF (h 167))) g.2.2.2.1 ∧ shr (sm (cK h g k (F 172)) (npF (h 167))) g.2.2.2.1 ≤ 10000000 := oLt_lb (w := k) I hg hr 2 (by decide) (by decide)
          have lb3 : -10000000 ≤ shr (sm (cB h g k (F 172)) (npF (h 167))) g.2.2.2.1 ∧ shr (sm (cB h g k (F 172)) (npF (h 167))) g.2.2.2.1 ≤ 10000000 := oLt_lb (w := k) I hg hr 3 (by decide) (by decide)
          have lb4 : -10000000 ≤ sm (cC h k (F 172)) (npF (h 167)) ∧ sm (cC h k (F 172)) (npF (h 167)) ≤ 10000000 := oLt_lb (w := k) I hg hr 4 (by decide) (by decide)
          have lb7 : -10000000 ≤ idiv (h 116 1) 360 ∧ idiv (h 116 1) 360 ≤ 10000000 := tLt_lb I hg 7 (by decide) (by decide)
          refine v_aload_n dX12_costOf_278 rfl ?_
          refine v_callv (M' := mX12_clear0) (d' := d - 1) (mc' := 0) (ms' := 0) (ci := 12) (c := 116) (As := []) dX12_costOf_279 k_1933 cm_X12_clear0 rfl (by omega) (by decide) kk_116 (Nat.le_of_ble_eq_true rfl) rfl ⟨Nat.le_refl _, Nat.le_refl _⟩ ?_
          refine s_clrJ (by omega) ?_
          dsimp only [Option.toList, List.cons_append, List.nil_append, Nat.add_zero]
          refine v_aload_n dX12_costOf_282 rfl ?_
          refine v_getr (ci := 12) (j := 11) (ji := 11) (z := 126) dX12_costOf_283 k_1427 (by decide) kk_116 (by decide) rfl rfl (fun r => rt_116_11 (r rfl)) (by decide) ?_
          refine v_bipush dX12_costOf_286 (c32 rfl) (by decide) ?_
          refine v_aload_n dX12_costOf_288 rfl ?_
          refine v_getv (ci := 12) (j := 80) (ji := 80) (tg := 0) dX12_costOf_289 k_1496 (by decide) kk_116 (by decide) rfl rfl (by decide) ((jst_j (by decide)).trans ((kst_s (by decide)).trans (hG.2.1))) ?_
          refine v_iastore dX12_costOf_292 (by decide) kk_126 (by omega) (by omega) ?_
          rw [jst_wl]
          refine v_aload_n dX12_costOf_293 rfl ?_
          refine v_getr (ci := 12) (j := 11) (ji := 11) (z := 126) dX12_costOf_294 k_1427 (by decide) kk_116 (by decide) rfl rfl (fun r => rt_116_11 (r rfl)) (by decide) ?_
          refine v_bipush dX12_costOf_297 (c32 rfl) (by decide) ?_
          refine v_aload_n dX12_costOf_299 rfl ?_
          refine v_getv (ci := 12) (j := 81) (ji := 81) (tg := 0) dX12_costOf_300 k_1497 (by decide) kk_116 (by decide) rfl rfl (by decide) ((jst_j (by decide)).trans ((kst_s (by decide)).trans (hG.2.2.1))) ?_
          refine v_iastore dX12_costOf_303 (by decide) kk_126 (by omega) (by omega) ?_
          rw [jst_wl]
          refine v_aload_n dX12_costOf_304 rfl ?_
          refine v_getr (ci := 12) (j := 11) (ji := 11) (z := 126) dX12_costOf_305 k_1427 (by decide) kk_116 (by decide) rfl rfl (fun r => rt_116_11 (r rfl)) (by decide) ?_
          refine v_bipush dX12_costOf_308 (c32 rfl) (by decide) ?_
          refine v_lload_n dX12_costOf_310 rfl ?_
          refine v_aload_n dX12_costOf_311 rfl ?_
          refine v_getv (ci := 12) (j := 82) (ji := 82) (tg := 0) dX12_costOf_312 k_1498 (by decide) kk_116 (by decide) rfl rfl (by decide) ((jst_j (by decide)).trans ((kst_s (by decide)).trans (hG.2.2.2.1))) ?_
          refine v_i2l dX12_costOf_315 ?_
          refine v_calls (M' := mX12_share) (d' := d - 1) (mc' := 0) (ms' := 0) (As := [_, _]) dX12_costOf_316 k_1937 cm_X12_share (by omega) (Nat.le_of_ble_eq_true rfl) rfl ⟨Nat.le_refl _, Nat.le_refl _⟩ ?_
          refine s_shr (by omega) (by omega) ?_
          dsimp only [Option.toList, List.cons_append, List.nil_append, Nat.add_zero]
          refine v_iastore dX12_costOf_319 (by decide) kk_126 (by omega) (by omega) ?_
          rw [jst_wl]
          refine v_aload_n dX12_costOf_320 rfl ?_
          refine v_getr (ci := 12) (j := 11) (ji := 11) (z := 126) dX12_costOf_321 k_1427 (by decide) kk_116 (by decide) rfl rfl (fun r => rt_116_11 (r rfl)) (by decide) ?_
          refine v_bipush dX12_costOf_324 (c32 rfl) (by decide) ?_
          refine v_lload dX12_costOf_326 rfl ?_
          refine v_aload_n dX12_costOf_328 rfl ?_
          refine v_getv (ci := 12) (j := 82) (ji := 82) (tg := 0) dX12_costOf_329 k_1498 (by decide) kk_116 (by decide) rfl rfl (by decide) ((jst_j (by decide)).trans ((kst_s (by decide)).trans (hG.2.2.2.1))) ?_
          refine v_i2l dX12_costOf_332 ?_
          refine v_calls (M' := mX12_share) (d' := d - 1) (mc' := 0) (ms' := 0) (As := [_, _]) dX12_costOf_333 k_1937 cm_X12_share (by omega) (Nat.le_of_ble_eq_true rfl) rfl ⟨Nat.le_refl _, Nat.le_refl _⟩ ?_
          refine s_shr (by omega) (by omega) ?_
          dsimp only [Option.toList, List.cons_append, List.nil_append, Nat.add_zero]
          refine v_iastore dX12_costOf_336 (by decide) kk_126 (by omega) (by omega) ?_
          rw [jst_wl]
          refine v_aload_n dX12_costOf_337 rfl ?_
          refine v_getr (ci := 12) (j := 11) (ji := 11) (z := 126) dX12_costOf_338 k_1427 (by decide) kk_116 (by decide) rfl rfl (fun r => rt_116_11 (r rfl)) (by decide) ?_
          refine v_bipush dX12_costOf_341 (c32 rfl) (by decide) ?_
          refine v_lload dX12_costOf_343 rfl ?_
          refine v_aload_n dX12_costOf_345 rfl ?_
          refine v_getv (ci := 12) (j := 82) (ji := 82) (tg := 0) dX12_costOf_346 k_1498 (by decide) kk_116 (by decide) rfl rfl (by decide) ((jst_j (by decide)).trans ((kst_s (by decide)).trans (hG.2.2.2.1))) ?_
          refine v_i2l dX12_costOf_349 ?_
          refine v_calls (M' := mX12_share) (d' := d - 1) (mc' := 0) (ms' := 0) (As := [_, _]) dX12_costOf_350 k_1937 cm_X12_share (by omega) (Nat.le_of_ble_eq_true rfl) rfl ⟨Nat.le_refl _, Nat.le_refl _⟩ ?_
          refine s_shr (by omega) (by omega) ?_
          dsimp only [Option.toList, List.cons_append, List.nil_append, Nat.add_zero]
          refine v_iastore dX12_costOf_353 (by decide) kk_126 (by omega) (by omega) ?_
          rw [jst_wl]
          refine v_aload_n dX12_costOf_354 rfl ?_
          refine v_getr (ci := 12) (j := 11) (ji := 11) (z := 126) dX12_costOf_355 k_1427 (by decide) kk_116 (by decide) rfl rfl (fun r => rt_116_11 (r rfl)) (by decide) ?_
          refine v_bipush dX12_costOf_358 (c32 rfl) (by decide) ?_
          refine v_lload dX12_costOf_360 rfl ?_
          refine v_aload_n dX12_costOf_362 rfl ?_
          refine v_getv (ci := 12) (j := 82) (ji := 82) (tg := 0) dX12_costOf_363 k_1498 (by decide) kk_116 (by decide) rfl rfl (by decide) ((jst_j (by decide)).trans ((kst_s (by decide)).trans (hG.2.2.2.1))) ?_
          refine v_i2l dX12_costOf_366 ?_
          refine v_calls (M' := mX12_share) (d' := d - 1) (mc' := 0) (ms' := 0) (As := [_, _]) dX12_costOf_367 k_1937 cm_X12_share (by omega) (Nat.le_of_ble_eq_true rfl) rfl ⟨Nat.le_refl _, Nat.le_refl _⟩ ?_
          refine s_shr (by omega) (by omega) ?_
          dsimp only [Option.toList, List.cons_append, List.nil_append, Nat.add_zero]
          refine v_iastore dX12_costOf_370 (by decide) kk_126 (by omega) (by omega) ?_
          rw [jst_wl]
          refine v_aload_n dX12_costOf_371 rfl ?_
          refine v_getr (ci := 12) (j := 11) (ji := 11) (z := 126) dX12_costOf_372 k_1427 (by decide) kk_116 (by decide) rfl rfl (fun r => rt_116_11 (r rfl)) (by decide) ?_
          refine v_bipush dX12_costOf_375 (c32 rfl) (by decide) ?_
          refine v_iload dX12_costOf_377 rfl ?_
          refine v_iastore dX12_costOf_379 (by decide) kk_126 (by omega) (by omega) ?_
          rw [jst_wl]
          refine v_aload_n dX12_costOf_380 rfl ?_
          refine v_iload dX12_costOf_381 rfl ?_
          refine v_aload_n dX12_costOf_383 rfl ?_
          refine v_getv (ci := 12) (j := 1) (ji := 1) (tg := 0) dX12_costOf_384 k_1417 (by decide) kk_116 (by decide) rfl rfl (by decide) ((jst_j (by decide)).trans (kst_c (by decide))) ?_
          refine v_aload_n dX12_costOf_387 rfl ?_
          refine v_getv (ci := 12) (j := 1) (ji := 1) (tg := 0) dX12_costOf_388 k_1417 (by decide) kk_116 (by decide) rfl rfl (by decide) ((jst_j (by decide)).trans (kst_c (by decide))) ?_
          refine v_callv (M' := mX12_protocolOn) (d' := d - 1) (mc' := 0) (ms' := 0) (ci := 12) (c := 116) (As := [_, _, _]) dX12_costOf_391 k_1824 cm_X12_protocolOn rfl (by omega) (by decide) kk_116 (Nat.le_of_ble_eq_true rfl) rfl ⟨Nat.le_refl _, Nat.le_refl _⟩ ?_
          refine s_pOnK (by omega) I.W ?_
          dsimp only [Option.toList, List.cons_append, List.nil_append, Nat.add_zero]
          refine v_istore_12 dX12_costOf_394 (by decide) rfl ?_
          refine v_aload_n dX12_costOf_396 rfl ?_
          refine v_iload dX12_costOf_397 rfl ?_
          refine v_bipush dX12_costOf_399 (c32 rfl) (by decide) ?_
          refine v_callv (M' := mX12_worth) (d' := d - 1) (mc' := 0) (ms' := 0) (ci := 12) (c := 116) (As := [_, _]) dX12_costOf_401 k_1940 cm_X12_worth rfl (by omega) (by decide) kk_116 (Nat.le_of_ble_eq_true rfl) rfl ⟨Nat.le_refl _, Nat.le_refl _⟩ ?_
          refine s_worthK (cs := cs) (by omega) I.W I.T (by have := @pOn_rng h I.W k (h 116 1) (h 116 1); omega) (fun i i0 i1 => by rw [(fin126 (lt := oLt h g k (F 172)) oLt_0 oLt_1 oLt_2 oLt_3 oLt_4 oLt_5 oLt_6 oLt_7) i i0 i1]; exact oLt_lb I hg hr i i0 i1) (fun xz_0 => ?_)
          dsimp only [Option.toList, List.cons_append, List.nil_append, Nat.add_zero]
          refine v_if_ne (tgt := 410) dX12_costOf_404 (by decide) (fun c404_1 => ?_) (fun c404_1 => ?_)
          · refine v_aload_n dX12_costOf_410 rfl ?_
            refine v_callv (M' := mX12_clear0) (d' := d - 1) (mc' := 0) (ms' := 0) (ci := 12) (c := 116) (As := []) dX12_costOf_411 k_1933 cm_X12_clear0 rfl (by omega) (by decide) kk_116 (Nat.le_of_ble_eq_true rfl) rfl ⟨Nat.le_refl _, Nat.le_refl _⟩ ?_
            refine s_clrJ (by omega) ?_
            dsimp only [Option.toList, List.cons_append, List.nil_append, Nat.add_zero]
            refine v_aload_n dX12_costOf_414 rfl ?_
            refine v_getr (ci := 12) (j := 11) (ji := 11) (z := 126) dX12_costOf_415 k_1427 (by decide) kk_116 (by decide) rfl rfl (fun r => rt_116_11 (r rfl)) (by decide) ?_
            refine v_bipush dX12_costOf_418 (c32 rfl) (by decide) ?_
            refine v_aload_n dX12_costOf_420 rfl ?_
            refine v_getv (ci := 12) (j := 80) (ji := 80) (tg := 0) dX12_costOf_421 k_1496 (by decide) kk_116 (by decide) rfl rfl (by decide) ((jst_j (by decide)).trans ((kst_s (by decide)).trans (hG.2.1))) ?_
            refine v_iastore dX12_costOf_424 (by decide) kk_126 (by omega) (by omega) ?_
            rw [jst_wl]
            refine v_aload_n dX12_costOf_425 rfl ?_
            refine v_getr (ci := 12) (j := 11) (ji := 11) (z := 126) dX12_costOf_426 k_1427 (by decide) kk_116 (by decide) rfl rfl (fun r => rt_116_11 (r rfl)) (by decide) ?_
            refine v_bipush dX12_costOf_429 (c32 rfl) (by decide) ?_
            refine v_aload_n dX12_costOf_431 rfl ?_
            refine v_getv (ci := 12) (j := 1) (ji := 1) (tg := 0) dX12_costOf_432 k_1417 (by decide) kk_116 (by decide) rfl rfl (by decide) ((jst_j (by decide)).trans (kst_c (by decide))) ?_
            refine v_sipush dX12_costOf_435 (c32 rfl) (by decide) ?_
            refine v_idiv dX12_costOf_438 (by decide) ?_
            refine v_iastore dX12_costOf_439 (by decide) kk_126 (by omega) (by omega) ?_
            rw [jst_wl]
            refine v_iload_n dX12_costOf_440 rfl ?_
            refine v_iconst dX12_costOf_441 (c32 rfl) ?_
            refine v_sipush dX12_costOf_442 (c32 rfl) (by decide) ?_
            refine v_aload_n dX12_costOf_445 rfl ?_
            refine v_iload dX12_costOf_446 rfl ?_
            refine v_bipush dX12_costOf_448 (c32 rfl) (by decide) ?_
            refine v_callv (M' := mX12_worth) (d' := d - 1) (mc' := 0) (ms' := 0) (ci := 12) (c := 116) (As := [_, _]) dX12_costOf_450 k_1940 cm_X12_worth rfl (by omega) (by decide) kk_116 (Nat.le_of_ble_eq_true rfl) rfl ⟨Nat.le_refl _, Nat.le_refl _⟩ ?_
            refine s_worthK (cs := cs) (by omega) I.W I.T (by have := @pOn_rng h I.W k (h 116 1) (h 116 1); omega) (fun i i0 i1 => by rw [yr126 i i0 i1]; exact tLt_lb I hg i i0 i1) (fun xz_1 => ?_)
            dsimp only [Option.toList, List.cons_append, List.nil_append, Nat.add_zero]
            refine v_mmin dX12_costOf_453 k_1882 (by omega) (Nat.le_of_ble_eq_true rfl) ⟨Nat.le_refl _, Nat.le_refl _⟩ ?_
            refine v_mmax dX12_costOf_456 k_2007 (by omega) (Nat.le_of_ble_eq_true rfl) ⟨Nat.le_refl _, Nat.le_refl _⟩ ?_
            refine v_mmin dX12_costOf_459 k_1882 (by omega) (Nat.le_of_ble_eq_true rfl) ⟨Nat.le_refl _, Nat.le_refl _⟩ ?_
            refine v_istore_n_3 dX12_costOf_462 (by decide) rfl ?_
            refine v_iinc_4 dX12_costOf_463 (by decide) rfl ?_
            rw [iadd_eq (x := k) (y := 1) (by unfold ok32; omega)]
            refine v_goto (tgt := 68) dX12_costOf_466 (by decide) ?_
            rw [wth_congr (l2 := oLt h g k (F 172)) (fin126 oLt_0 oLt_1 oLt_2 oLt_3 oLt_4 oLt_5 oLt_6 oLt_7)] at c404_1
            have e8 : max 0 (min 1000 (wth cs (ltF (fset (fset (fclr (fset (fset (fset (fset (fset (fset (fset (fclr Lr) 104 g.2.1) 112 g.2.2.1) 97 (shr (sm (cV h (F 172)) (npF (h 167))) g.2.2.2.1)) 110 (shr (sm (cO h k (F 172)) (npF (h 167))) g.2.2.2.1)) 98 (shr (sm (cK h g k (F 172)) (npF (h 167))) g.2.2.2.1)) 111 (shr (sm (cB h g k (F 172)) (npF (h 167))) g.2.2.2.1)) 99 (sm (cC h k (F 172)) (npF (h 167))))) 104 g.2.1) 121 (idiv (h 116 1) 360))) (pOn h k (h 116 1) (h 116 1)) 100)) = rtW h cs g k := by unfold rtW; rw [wth_congr (l2 := tLt h g) yr126]
            rw [e8]
            have e9 : rS h cs g (F 172) k (rtF4 h cs g (F 172) k) = min (rtF4 h cs g (F 172) k) (rtW h cs g k) := if_pos ⟨⟨c82_2, c100_4, c121_6⟩, c404_1⟩
            have ih9 := ih (by omega) xz_1 (fset (fset (fclr (fset (fset (fset (fset (fset (fset (fset (fclr Lr) 104 g.2.1) 112 g.2.2.1) 97 (shr (sm (cV h (F 172)) (npF (h 167))) g.2.2.2.1)) 110 (shr (sm (cO h k (F 172)) (npF (h 167))) g.2.2.2.1)) 98 (shr (sm (cK h g k (F 172)) (npF (h 167))) g.2.2.2.1)) 111 (shr (sm (cB h g k (F 172)) (npF (h 167))) g.2.2.2.1)) 99 (sm (cC h k (F 172)) (npF (h 167))))) 104 g.2.1) 121 (idiv (h 116 1) 360))
            rw [rtF4_s hk, e9] at ih9
            refine v_loc (lo_k (lo_k (lo_k (lo_k (lo_k (lo_d (lo_d (lo_d (lo_d (lo_d (lo_d (lo_d (lo_d (lo_d (lo_nil))))))))))))))) ?_
            exact ih9
          · refine v_goto (tgt := 463) dX12_costOf_407 (by decide) ?_
            refine v_iinc_4 dX12_costOf_463 (by decide) rfl ?_
            rw [iadd_eq (x := k) (y := 1) (by unfold ok32; omega)]
            refine v_goto (tgt := 68) dX12_costOf_466 (by decide) ?_
            rw [wth_congr (l2 := oLt h g k (F 172)) (fin126 oLt_0 oLt_1 oLt_2 oLt_3 oLt_4 oLt_5 oLt_6 oLt_7)] at c404_1
            have e9 : rS h cs g (F 172) k (rtF4 h cs g (F 172) k) = rtF4 h cs g (F 172) k := if_neg (fun z => z.2 c404_1)
            have ih9 := ih (by omega) xz_0 (fset (fset (fset (fset (fset (fset (fset (fclr Lr) 104 g.2.1) 112 g.2.2.1) 97 (shr (sm (cV h (F 172)) (npF (h 167))) g.2.2.2.1)) 110 (shr (sm (cO h k (F 172)) (npF (h 167))) g.2.2.2.1)) 98 (shr (sm (cK h g k (F 172)) (npF (h 167))) g.2.2.2.1)) 111 (shr (sm (cB h g k (F 172)) (npF (h 167))) g.2.2.2.1)) 99 (sm (cC h k (F 172)) (npF (h 167))))
            rw [rtF4_s hk, e9] at ih9
            refine v_loc (lo_k (lo_k (lo_k (lo_k (lo_k (lo_d (lo_d (lo_d (lo_d (lo_d (lo_d (lo_d (lo_d (lo_d (lo_nil))))))))))))))) ?_
            exact ih9

