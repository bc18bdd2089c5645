/-! ===== sourcing: the reference's cost of a pick (written by wip/whole/p66.py) ===== -/
theorem ofz {h : AH} {cs : Int → List (Int × List Int)} (I : CI h cs) : ∀ p, npF (h 167) ≤ p → p < 4 → h 167 p = 0 := by
  obtain ⟨a, b, c⟩ := @npF_r (h 167)
  have key : ∀ j : Nat, npF (h 167) + j < 4 → h 167 (npF (h 167) + j) = 0 := by
    intro j
    induction j with
    | zero =>
      intro hj
      have := c (by omega)
      have := I.ofn (npF (h 167)) a.1 (by omega)
      rw [show npF (h 167) + ((0 : Nat) : Int) = npF (h 167) by omega]
      omega
    | succ j ih =>
      intro hj
      have h1 := ih (by omega)
      have h2 := I.ofc (npF (h 167) + j) (by omega) (by omega)
      have h3 := I.ofn (npF (h 167) + (j + 1 : Nat)) (by omega) hj
      rw [show npF (h 167) + ((j + 1 : Nat) : Int) = npF (h 167) + j + 1 by omega] at h3 ⊢
      omega
  intro p p0 p1
  have := key (p - npF (h 167)).toNat (by omega)
  rw [show npF (h 167) + ((p - npF (h 167)).toNat : Int) = p by omega] at this
  exact this
theorem sm_z {f : Int → Int} {n N : Int} (h0 : 0 ≤ n) (h1 : n ≤ N) (hz : ∀ p, n ≤ p → p < N → f p = 0) : sm f N = sm f n := by
  have key : ∀ j : Nat, n + j ≤ N → sm f (n + j) = sm f n := by
    intro j
    induction j with
    | zero => intro _; rw [show n + ((0 : Nat) : Int) = n by omega]
    | succ j ih =>
      intro hj
      rw [show n + ((j + 1 : Nat) : Int) = n + j + 1 by omega, sm_s (by omega), ih (by omega), hz (n + j) (by omega) (by omega), Int.add_zero]
  have := key (N - n).toNat (by omega)
  rw [show n + ((N - n).toNat : Int) = N by omega] at this
  exact this
def cV0 (h : AH) (t : Int → Int) (p : Int) : Int := if h 167 p = 0 then 0 else cV h t p
theorem cV0_sm {h : AH} {cs : Int → List (Int × List Int)} {t : Int → Int} (I : CI h cs) : sm (cV0 h t) 4 = sm (cV h t) (npF (h 167)) := by
  obtain ⟨a, b, c⟩ := @npF_r (h 167)
  rw [sm_z a.1 a.2 (fun p p0 p1 => by unfold cV0; rw [if_pos (ofz I p p0 p1)])]
  exact sm_congr (fun p p0 p1 => by unfold cV0; rw [if_neg (by have := b p p0 p1; omega)])
/-- the good asked of the reference -/
def GR (g : GD) (F : AH) : Prop := F 116 79 = g.1 ∧ F 116 80 = g.2.1 ∧ F 116 81 = g.2.2.1 ∧ F 116 82 = g.2.2.2.1 ∧ F 116 83 = g.2.2.2.2
/-- the reference's tries are in range -/
def PRt (h : AH) (t : Int → Int) : Prop := ∀ p, 0 ≤ p → p < npF (h 167) → 0 ≤ t p ∧ t p < h 167 p

set_option maxHeartbeats 4000000 in
set_option maxRecDepth 100000 in
theorem lp_rcst1 {l : Launch} {G : GG} {d : Nat} {h : AH} {Q : Option AV → List Kd → AH → Prop} {cs : Int → List (Int × List Int)} {F : AH} {z O Lr : Int → Int} {g : GD} (hd : 40 ≤ d) (I : CI h cs) (hr : PRt h (F 172)) (hq : V l G mX12_costOf d 0 0 0 0 K0 47 [(2, 116), (1, sm (cV h (F 172)) (npF (h 167))), (8, 0), (0, 4), (9, 0), (9, 0), (9, 0), (9, 0), (9, 0), (9, 0), (9, 0), (9, 0), (9, 0), (9, 0)] [] (jst (kst h F) z O Lr) Q) : ∀ k, 0 ≤ k → k ≤ 4 → V l G mX12_costOf d 0 0 0 0 K0 4 [(2, 116), (1, sm (cV0 h (F 172)) k), (8, 0), (0, k), (9, 0), (9, 0), (9, 0), (9, 0), (9, 0), (9, 0), (9, 0), (9, 0), (9, 0), (9, 0)] [] (jst (kst h F) z O Lr) Q := by
  refine loop_m3 (fun k hk hkN ih => ?_)
  refine v_iload_n dX12_costOf_4 rfl ?_
  refine v_iconst dX12_costOf_5 (c32 rfl) ?_
  refine v_icmp_ge (tgt := 47) dX12_costOf_6 (by decide) (fun c6_1 => ?_) (fun c6_1 => ?_)
  · obtain rfl : k = 4 := by omega
    rw [cV0_sm I]
    exact hq
  · have s9 := (sm_rng (f := cV0 h (F 172)) (N := 4) (B := 1000000) (fun i i0 i1 => by
      unfold cV0
      by_cases c : h 167 i = 0
      · rw [if_pos c]; omega
      · rw [if_neg c]
        have z9 : i < npF (h 167) := by
          by_cases y : i < npF (h 167)
          · exact y
          · exact absurd (ofz I i (by omega) i1) c
        have t9 := hr i i0 z9
        have k9 := I.ofn i i0 i1
        exact (I.ofk (4 * i + F 172 i) (by omega) (by omega)).1)) k hk (by omega)
    refine v_lload_n dX12_costOf_9 rfl ?_
    refine v_aload_n dX12_costOf_10 rfl ?_
    refine v_getr (ci := 12) (j := 72) (ji := 72) (z := 167) dX12_costOf_11 k_1488 (by decide) kk_116 (by decide) rfl rfl (fun r => rt_116_72 (r rfl)) (by decide) ?_
    refine v_iload_n dX12_costOf_14 rfl ?_
    refine v_ialoadv dX12_costOf_15 (by decide) kk_167 (by omega) (by omega) ((jst_c (by decide)).trans (kst_n (by decide))) ?_
    refine v_if_ne (tgt := 23) dX12_costOf_16 (by decide) (fun c16_2 => ?_) (fun c16_2 => ?_)
    · have z9 : k < npF (h 167) := by
        by_cases y : k < npF (h 167)
        · exact y
        · exact absurd (ofz I k (by omega) (by omega)) c16_2
      have t9 := hr k hk (by omega)
      have k9 := I.ofn k hk (by omega)
      have o9 := I.ofk (4 * k + F 172 k) (by omega) (by omega)
      refine v_aload_n dX12_costOf_23 rfl ?_
      refine v_getr (ci := 12) (j := 73) (ji := 73) (z := 168) dX12_costOf_24 k_1489 (by decide) kk_116 (by decide) rfl rfl (fun r => rt_116_73 (r rfl)) (by decide) ?_
      refine v_iconst dX12_costOf_27 (c32 rfl) ?_
      refine v_iload_n dX12_costOf_28 rfl ?_
      refine v_imulE dX12_costOf_29 (by omega) ?_
      refine v_aload_n dX12_costOf_30 rfl ?_
      refine v_getr (ci := 12) (j := 77) (ji := 77) (z := 172) dX12_costOf_31 k_1493 (by decide) kk_116 (by decide) rfl rfl (fun r => rt_116_77 (r rfl)) (by decide) ?_
      refine v_iload_n dX12_costOf_34 rfl ?_
      refine v_ialoadv dX12_costOf_35 (by decide) kk_172 (by omega) (by omega) ((jst_c (by decide)).trans (kst_m (by decide))) ?_
      refine v_iaddE dX12_costOf_36 (by omega) ?_
      refine v_ialoadv dX12_costOf_37 (by decide) kk_168 (by omega) (by omega) ((jst_c (by decide)).trans (kst_n (by decide))) ?_
      refine v_i2l dX12_costOf_38 ?_
      refine v_laddE dX12_costOf_39 (by omega) ?_
      refine v_lstore_n_1 dX12_costOf_40 (by decide) rfl ?_
      refine v_iinc_3 dX12_costOf_41 (by decide) rfl ?_
      rw [iadd_eq (x := k) (y := 1) (by unfold ok32; omega)]
      refine v_goto (tgt := 4) dX12_costOf_44 (by decide) ?_
      have ih9 := ih (by omega)
      have e9 : cV0 h (F 172) k = h 168 (4 * k + F 172 k) := if_neg c16_2
      rw [sm_s hk, e9] at ih9
      exact ih9
    · refine v_lconst (z := 0) dX12_costOf_19 (c64 rfl) (by decide) ?_
      refine v_goto (tgt := 39) dX12_costOf_20 (by decide) ?_
      refine v_laddE dX12_costOf_39 (by omega) ?_
      refine v_lstore_n_1 dX12_costOf_40 (by decide) rfl ?_
      refine v_iinc_3 dX12_costOf_41 (by decide) rfl ?_
      rw [iadd_eq (x := k) (y := 1) (by unfold ok32; omega)]
      refine v_goto (tgt := 4) dX12_costOf_44 (by decide) ?_
      have ih9 := ih (by omega)
      have e9 : cV0 h (F 172) k = 0 := if_pos c16_2
      rw [sm_s hk, e9] at ih9
      first | exact ih9 | (rw [Int.add_zero] at ih9; exact ih9)

set_option maxHeartbeats 4000000 in
set_option maxRecDepth 100000 in
theorem lp_rcst2 {l : Launch} {G : GG} {d : Nat} {h : AH} {Q : Option AV → List Kd → AH → Prop} {cs : Int → List (Int × List Int)} {F : AH} {z O Lr : Int → Int} {g : GD} {S R w : Int} (hd : 40 ≤ d) (I : CI h cs) (hG : GR g F) (hr : PRt h (F 172)) (hw : 0 ≤ w ∧ w < 4) (hq : V l G mX12_costOf d 0 0 0 0 K0 278 [(2, 116), (1, S), (8, 0), (0, R), (0, w), (1, sm (cO h w (F 172)) (npF (h 167))), (8, 0), (1, sm (cK h g w (F 172)) (npF (h 167))), (8, 0), (1, sm (cB h g w (F 172)) (npF (h 167))), (8, 0), (0, sm (cC h w (F 172)) (npF (h 167))), (0, (npF (h 167))), (9, 0)] [] (jst (kst h F) z O Lr) Q) : ∀ k, 0 ≤ k → k ≤ npF (h 167) → V l G mX12_costOf d 0 0 0 0 K0 145 [(2, 116), (1, S), (8, 0), (0, R), (0, w), (1, sm (cO h w (F 172)) k), (8, 0), (1, sm (cK h g w (F 172)) k), (8, 0), (1, sm (cB h g w (F 172)) k), (8, 0), (0, sm (cC h w (F 172)) k), (0, k), (9, 0)] [] (jst (kst h F) z O Lr) Q := by
  have np9 := (@npF_r (h 167)).1
  have np8 := (@npF_r (h 167)).2.1
  have hR : ∀ k, 0 ≤ k → k < npF (h 167) → (0 ≤ sm (cV h (F 172)) k ∧ sm (cV h (F 172)) k ≤ 4000000) ∧ (0 ≤ sm (cO h w (F 172)) k ∧ sm (cO h w (F 172)) k ≤ 4000000) ∧ (0 ≤ sm (cK h g w (F 172)) k ∧ sm (cK h g w (F 172)) k ≤ 4000000) ∧ (0 ≤ sm (cB h g w (F 172)) k ∧ sm (cB h g w (F 172)) k ≤ 4000000) ∧ (0 ≤ sm (cC h w (F 172)) k ∧ sm (cC h w (F 172)) k ≤ 4) := fun k k0 k1 => by
    have hv : ∀ i, 0 ≤ i → i < npF (h 167) → 0 ≤ cV h (F 172) i ∧ cV h (F 172) i ≤ 1000000 := fun i i0 i1 => by have t9 := hr i i0 i1; have k9 := I.ofn i i0 (by omega); exact (I.ofk (4 * i + F 172 i) (by omega) (by omega)).1
    have s1 := sm_rng (f := cV h (F 172)) (N := npF (h 167)) (B := 1000000) hv k k0 (by omega)
    have s2 := sm_rng (f := cO h w (F 172)) (N := npF (h 167)) (B := 1000000) (fun i i0 i1 => (cO_r (g := g) (v := 0) i (hv i i0 i1)).1) k k0 (by omega)
    have s3 := sm_rng (f := cK h g w (F 172)) (N := npF (h 167)) (B := 1000000) (fun i i0 i1 => (cO_r (g := g) (v := 0) i (hv i i0 i1)).2.1) k k0 (by omega)
    have s4 := sm_rng (f := cB h g w (F 172)) (N := npF (h 167)) (B := 1000000) (fun i i0 i1 => (cO_r (g := g) (v := 0) i (hv i i0 i1)).2.2.1) k k0 (by omega)
    have s5 := sm_rng (f := cC h w (F 172)) (N := npF (h 167)) (B := 1) (fun i i0 i1 => (cO_r (g := g) (v := 0) i (hv i i0 i1)).2.2.2) k k0 (by omega)
    omega
  refine loop_m3 (fun k hk hkN ih => ?_)
  refine v_iload dX12_costOf_145 rfl ?_
  refine v_iconst dX12_costOf_147 (c32 rfl) ?_
  refine v_icmp_ge (tgt := 278) dX12_costOf_148 (by decide) (fun c148_1 => ?_) (fun c148_1 => ?_)
  · obtain rfl : k = npF (h 167) := by
      by_cases z9 : k < npF (h 167)
      · have := np8 k hk z9; omega
      · omega
    refine v_loc (lo_k (lo_k (lo_k (lo_k (lo_k (lo_k (lo_k (lo_k (lo_k (lo_k (lo_k (lo_k (lo_k (lo_d (lo_nil))))))))))))))) ?_
    exact hq
  · refine v_aload_n dX12_costOf_151 rfl ?_
    refine v_getr (ci := 12) (j := 72) (ji := 72) (z := 167) dX12_costOf_152 k_1488 (by decide) kk_116 (by decide) rfl rfl (fun r => rt_116_72 (r rfl)) (by decide) ?_
    refine v_iload dX12_costOf_155 rfl ?_
    refine v_ialoadv dX12_costOf_157 (by decide) kk_167 (by omega) (by omega) ((jst_c (by decide)).trans (kst_n (by decide))) ?_
    refine v_if_le (tgt := 278) dX12_costOf_158 (by decide) (fun c158_2 => ?_) (fun c158_2 => ?_)
    · obtain rfl : k = npF (h 167) := by
        by_cases z9 : k < npF (h 167)
        · have := np8 k hk z9; omega
        · omega
      refine v_loc (lo_k (lo_k (lo_k (lo_k (lo_k (lo_k (lo_k (lo_k (lo_k (lo_k (lo_k (lo_k (lo_k (lo_d (lo_nil))))))))))))))) ?_
      exact hq
    · have z9 : k < npF (h 167) := by
        by_cases y : k < npF (h 167)
        · exact y
        · have := ofz I k (by omega) (by omega); omega
      have t9 := hr k hk (by omega)
      have k9 := I.ofn k hk (by omega)
      have o9 := I.ofk (4 * k + F 172 k) (by omega) (by omega)
      have R9 := hR k hk z9
      have bt := (bit_1 (m := h 170 (4 * k + F 172 k)) (l := w) ⟨by omega, by omega⟩ ⟨by omega, by omega⟩).2
      refine v_iconst dX12_costOf_161 (c32 rfl) ?_
      refine v_iload dX12_costOf_162 rfl ?_
      refine v_imulE dX12_costOf_164 (by omega) ?_
      refine v_aload_n dX12_costOf_165 rfl ?_
      refine v_getr (ci := 12) (j := 77) (ji := 77) (z := 172) dX12_costOf_166 k_1493 (by decide) kk_116 (by decide) rfl rfl (fun r => rt_116_77 (r rfl)) (by decide) ?_
      refine v_iload dX12_costOf_169 rfl ?_
      refine v_ialoadv dX12_costOf_171 (by decide) kk_172 (by omega) (by omega) ((jst_c (by decide)).trans (kst_m (by decide))) ?_
      refine v_iaddE dX12_costOf_172 (by omega) ?_
      refine v_istore_13 dX12_costOf_173 (by decide) rfl ?_
      refine v_aload_n dX12_costOf_175 rfl ?_
      refine v_getr (ci := 12) (j := 75) (ji := 75) (z := 170) dX12_costOf_176 k_1491 (by decide) kk_116 (by decide) rfl rfl (fun r => rt_116_75 (r rfl)) (by decide) ?_
      refine v_iload dX12_costOf_179 rfl ?_
      refine v_ialoadv dX12_costOf_181 (by decide) kk_170 (by omega) (by omega) ((jst_c (by decide)).trans (kst_n (by decide))) ?_
      refine v_iload dX12_costOf_182 rfl ?_
      refine v_ishr dX12_costOf_184 ?_
      refine v_iconst dX12_costOf_185 (c32 rfl) ?_
      refine v_iand dX12_costOf_186 ?_
      refine v_iconst dX12_costOf_187 (c32 rfl) ?_
      refine v_icmp_ne (tgt := 225) dX12_costOf_188 (by decide) (fun c188_3 => ?_) (fun c188_3 => ?_)
      · refine v_lload dX12_costOf_225 rfl ?_
        refine v_aload_n dX12_costOf_227 rfl ?_
        refine v_getr (ci := 12) (j := 73) (ji := 73) (z := 168) dX12_costOf_228 k_1489 (by decide) kk_116 (by decide) rfl rfl (fun r => rt_116_73 (r rfl)) (by decide) ?_
        refine v_iload dX12_costOf_231 rfl ?_
        refine v_ialoadv dX12_costOf_233 (by decide) kk_168 (by omega) (by omega) ((jst_c (by decide)).trans (kst_n (by decide))) ?_
        refine v_i2l dX12_costOf_234 ?_
        refine v_laddE dX12_costOf_235 (by omega) ?_
        refine v_lstore_5 dX12_costOf_236 (by decide) rfl ?_
        refine v_lload dX12_costOf_238 rfl ?_
        refine v_aload_n dX12_costOf_240 rfl ?_
        refine v_getr (ci := 12) (j := 74) (ji := 74) (z := 169) dX12_costOf_241 k_1490 (by decide) kk_116 (by decide) rfl rfl (fun r => rt_116_74 (r rfl)) (by decide) ?_
        refine v_iload dX12_costOf_244 rfl ?_
        refine v_ialoadv dX12_costOf_246 (by decide) kk_169 (by omega) (by omega) ((jst_c (by decide)).trans (kst_n (by decide))) ?_
        refine v_aload_n dX12_costOf_247 rfl ?_
        refine v_getv (ci := 12) (j := 80) (ji := 80) (tg := 0) dX12_costOf_248 k_1496 (by decide) kk_116 (by decide) rfl rfl (by decide) ((jst_j (by decide)).trans ((kst_s (by decide)).trans (hG.2.1))) ?_
        refine v_icmp_ne (tgt := 265) dX12_costOf_251 (by decide) (fun c251_4 => ?_) (fun c251_4 => ?_)
        · refine v_lconst (z := 0) dX12_costOf_265 (c64 rfl) (by decide) ?_
          refine v_laddE dX12_costOf_266 (by omega) ?_
          refine v_lstore_7 dX12_costOf_267 (by decide) rfl ?_
          refine v_iinc_11 dX12_costOf_269 (by decide) rfl ?_
          rw [iadd_eq (x := (sm (cC h w (F 172)) k)) (y := 1) (by unfold ok32; omega)]
          refine v_iinc_12 dX12_costOf_272 (by decide) rfl ?_
          rw [iadd_eq (x := k) (y := 1) (by unfold ok32; omega)]
          refine v_goto (tgt := 145) dX12_costOf_275 (by decide) ?_
          have c9 : cW h w (F 172) k = 0 := by unfold cW; omega
          have e2 : cO h w (F 172) k = h 168 (4 * k + F 172 k) := if_pos c9
          have e3 : cK h g w (F 172) k = 0 := by unfold cK; rw [if_pos c9, if_neg c251_4]
          have e4 : cB h g w (F 172) k = 0 := if_pos c9
          have e5 : cC h w (F 172) k = 1 := if_pos c9
          have ih9 := ih (by omega)
          rw [sm_s hk, sm_s hk, sm_s hk, sm_s hk, e2, e3, e4, e5] at ih9
          simp only [Int.add_zero] at ih9 ⊢
          refine v_loc (lo_k (lo_k (lo_k (lo_k (lo_k (lo_k (lo_k (lo_k (lo_k (lo_k (lo_k (lo_k (lo_k (lo_d (lo_nil))))))))))))))) ?_
          exact ih9
        · refine v_aload_n dX12_costOf_254 rfl ?_
          refine v_getr (ci := 12) (j := 73) (ji := 73) (z := 168) dX12_costOf_255 k_1489 (by decide) kk_116 (by decide) rfl rfl (fun r => rt_116_73 (r rfl)) (by decide) ?_
          refine v_iload dX12_costOf_258 rfl ?_
          refine v_ialoadv dX12_costOf_260 (by decide) kk_168 (by omega) (by omega) ((jst_c (by decide)).trans (kst_n (by decide))) ?_
          refine v_i2l dX12_costOf_261 ?_
          refine v_goto (tgt := 266) dX12_costOf_262 (by decide) ?_
          refine v_laddE dX12_costOf_266 (by omega) ?_
          refine v_lstore_7 dX12_costOf_267 (by decide) rfl ?_
          refine v_iinc_11 dX12_costOf_269 (by decide) rfl ?_
          rw [iadd_eq (x := (sm (cC h w (F 172)) k)) (y := 1) (by unfold ok32; omega)]
          refine v_iinc_12 dX12_costOf_272 (by decide) rfl ?_
          rw [iadd_eq (x := k) (y := 1) (by unfold ok32; omega)]
          refine v_goto (tgt := 145) dX12_costOf_275 (by decide) ?_
          have c9 : cW h w (F 172) k = 0 := by unfold cW; omega
          have e2 : cO h w (F 172) k = h 168 (4 * k + F 172 k) := if_pos c9
          have e3 : cK h g w (F 172) k = h 168 (4 * k + F 172 k) := by unfold cK; rw [if_pos c9, if_pos c251_4]; rfl
          have e4 : cB h g w (F 172) k = 0 := if_pos c9
          have e5 : cC h w (F 172) k = 1 := if_pos c9
          have ih9 := ih (by omega)
          rw [sm_s hk, sm_s hk, sm_s hk, sm_s hk, e2, e3, e4, e5] at ih9
          simp only [Int.add_zero] at ih9 ⊢
          refine v_loc (lo_k (lo_k (lo_k (lo_k (lo_k (lo_k (lo_k (lo_k (lo_k (lo_k (lo_k (lo_k (lo_k (lo_d (lo_nil))))))))))))))) ?_
          exact ih9
      · refine v_lload dX12_costOf_191 rfl ?_
        refine v_aload_n dX12_costOf_193 rfl ?_
        refine v_getr (ci := 12) (j := 76) (ji := 76) (z := 171) dX12_costOf_194 k_1492 (by decide) kk_116 (by decide) rfl rfl (fun r => rt_116_76 (r rfl)) (by decide) ?_
        refine v_iload dX12_costOf_197 rfl ?_
        refine v_ialoadv dX12_costOf_199 (by decide) kk_171 (by omega) (by omega) ((jst_c (by decide)).trans (kst_n (by decide))) ?_
        refine v_aload_n dX12_costOf_200 rfl ?_
        refine v_getv (ci := 12) (j := 79) (ji := 79) (tg := 0) dX12_costOf_201 k_1495 (by decide) kk_116 (by decide) rfl rfl (by decide) ((jst_j (by decide)).trans ((kst_s (by decide)).trans (hG.1))) ?_
        refine v_icmp_eq (tgt := 218) dX12_costOf_204 (by decide) (fun c204_5 => ?_) (fun c204_5 => ?_)
        · refine v_lconst (z := 0) dX12_costOf_218 (c64 rfl) (by decide) ?_
          refine v_laddE dX12_costOf_219 (by omega) ?_
          refine v_lstore_9 dX12_costOf_220 (by decide) rfl ?_
          refine v_goto (tgt := 272) dX12_costOf_222 (by decide) ?_
          refine v_iinc_12 dX12_costOf_272 (by decide) rfl ?_
          rw [iadd_eq (x := k) (y := 1) (by unfold ok32; omega)]
          refine v_goto (tgt := 145) dX12_costOf_275 (by decide) ?_
          have c9 : ¬ cW h w (F 172) k = 0 := fun z => by unfold cW at z; omega
          have e2 : cO h w (F 172) k = 0 := if_neg c9
          have e3 : cK h g w (F 172) k = 0 := if_neg c9
          have e4 : cB h g w (F 172) k = 0 := by unfold cB; rw [if_neg c9, if_neg (fun z => z c204_5)]
          have e5 : cC h w (F 172) k = 0 := if_neg c9
          have ih9 := ih (by omega)
          rw [sm_s hk, sm_s hk, sm_s hk, sm_s hk, e2, e3, e4, e5] at ih9
          simp only [Int.add_zero] at ih9 ⊢
          refine v_loc (lo_k (lo_k (lo_k (lo_k (lo_k (lo_k (lo_k (lo_k (lo_k (lo_k (lo_k (lo_k (lo_k (lo_d (lo_nil))))))))))))))) ?_
          exact ih9
        · refine v_aload_n dX12_costOf_207 rfl ?_
          refine v_getr (ci := 12) (j := 73) (ji := 73) (z := 168) dX12_costOf_208 k_1489 (by decide) kk_116 (by decide) rfl rfl (fun r => rt_116_73 (r rfl)) (by decide) ?_
          refine v_iload dX12_costOf_211 rfl ?_
          refine v_ialoadv dX12_costOf_213 (by decide) kk_168 (by omega) (by omega) ((jst_c (by decide)).trans (kst_n (by decide))) ?_
          refine v_i2l dX12_costOf_214 ?_
          refine v_goto (tgt := 219) dX12_costOf_215 (by decide) ?_
          refine v_laddE dX12_costOf_219 (by omega) ?_
          refine v_lstore_9 dX12_costOf_220 (by decide) rfl ?_
          refine v_goto (tgt := 272) dX12_costOf_222 (by decide) ?_
          refine v_iinc_12 dX12_costOf_272 (by decide) rfl ?_
          rw [iadd_eq (x := k) (y := 1) (by unfold ok32; omega)]
          refine v_goto (tgt := 145) dX12_costOf_275 (by decide) ?_
          have c9 : ¬ cW h w (F 172) k = 0 := fun z => by unfold cW at z; omega
          have e2 : cO h w (F 172) k = 0 := if_neg c9
          have e3 : cK h g w (F 172) k = 0 := if_neg c9
          have e4 : cB h g w (F 172) k = h 168 (4 * k + F 172 k) := by unfold cB; rw [if_neg c9, if_pos c204_5]; rfl
          have e5 : cC h w (F 172) k = 0 := if_neg c9
          have ih9 := ih (by omega)
          rw [sm_s hk, sm_s hk, sm_s hk, sm_s hk, e2, e3, e4, e5] at ih9
          simp only [Int.add_zero] at ih9 ⊢
          refine v_loc (lo_k (lo_k (lo_k (lo_k (lo_k (lo_k (lo_k (lo_k (lo_k (lo_k (lo_k (lo_k (lo_k (lo_d (lo_nil))))))))))))))) ?_
          exact ih9

