/-! ===== feeding: both sides (written by wip/whole/p56.py) ===== -/
/-- byte k of an int -/
def byt (p k : Int) : Int := iand (ishr p k) 255
abbrev RL2 : Type := (Int → Int) × Int
/-- one byte more, bytes of 0 left out -/
def bS (v : Int) (s : RL2) : RL2 := if v = 0 then s else (fset s.1 s.2 v, s.2 + 1)
def b4 (p : Int) (s : RL2) : RL2 := bS (byt p 0) (bS (byt p 8) (bS (byt p 16) (bS (byt p 24) s)))
theorem bS_0 {v : Int} {s : RL2} (q : v = 0) : bS v s = s := if_pos q
theorem bS_1 {v : Int} {s : RL2} (q : v ≠ 0) : bS v s = (fset s.1 s.2 v, s.2 + 1) := if_neg q
theorem bS_n {p k : Int} {s : RL2} : (bS (byt p k) s).2 = s.2 + bY p k := by
  unfold bS bY byt
  by_cases q : iand (ishr p k) 255 = 0
  · rw [if_pos q, if_pos q]; omega
  · rw [if_neg q, if_neg q]
theorem b4_n {p : Int} {s : RL2} : (b4 p s).2 = s.2 + bI p := by
  unfold b4 bI
  rw [bS_n, bS_n, bS_n, bS_n]
  omega
theorem bY_r {p k : Int} : 0 ≤ bY p k ∧ bY p k ≤ 1 := by unfold bY; split <;> omega
theorem bI_r {p : Int} : 0 ≤ bI p ∧ bI p ≤ 4 := by
  have h1 := @bY_r p 24
  have h2 := @bY_r p 16
  have h3 := @bY_r p 8
  have h4 := @bY_r p 0
  unfold bI
  omega
theorem s8_rng {x : Int} (h0 : 0 ≤ x) (h1 : x < 256) : -128 ≤ s8 x ∧ s8 x < 128 := by
  have := @s8_c x
  omega
/-- all bytes are bytes -/
def BO (s : RL2) : Prop := ∀ i, 0 ≤ s.1 i ∧ s.1 i < 256
theorem BO_s {p k : Int} {s : RL2} (h : BO s) : BO (bS (byt p k) s) := by
  intro i
  unfold bS
  split
  · exact h i
  · show 0 ≤ fset s.1 s.2 (byt p k) i ∧ fset s.1 s.2 (byt p k) i < 256
    by_cases e : i = s.2
    · rw [e, fset_same]; exact byt_r
    · rw [fset_ne e]; exact h i
theorem BO_4 {p : Int} {s : RL2} (h : BO s) : BO (b4 p s) := BO_s (BO_s (BO_s (BO_s h)))
def ptr (h : AH) (s : RL2) : AH := ov1 (hset h 116 16 s.2) 127 (fun i => s8 (s.1 i))
def ptc (h : AH) (s : RL2) : AH := ov1 (hset h 1 1 s.2) 2 s.1
theorem ptc_mk {h : AH} : ptc h (h 2, h 1 1) = h := by
  unfold ptc
  dsimp only
  rw [hset_mk, ov1_mk]
theorem ptr_mk {h : AH} {u : Int → Int} (hu : h 127 = fun i => s8 (u i)) : ptr h (u, h 116 16) = h := by
  unfold ptr
  dsimp only
  rw [hset_mk, ← hu, ov1_mk]
theorem fset_s8 {f : Int → Int} {n v : Int} : fset (fun i => s8 (f i)) n (s8 v) = fun i => s8 (fset f n v i) := by
  funext i
  unfold fset
  by_cases e : i = n
  · rw [if_pos e, if_pos e]
  · rw [if_neg e, if_neg e]

set_option maxHeartbeats 4000000 in
set_option maxRecDepth 100000 in
theorem st_cput {l : Launch} {G : GG} {d : Nat} {h : AH} {Q : Option AV → List Kd → AH → Prop} {s : RL2} {p k : Int} (hd : 1 ≤ d) (hk : k = 24 ∨ k = 16 ∨ k = 8 ∨ k = 0) (h0 : 0 ≤ s.2) (h1 : s.2 + bY p k ≤ 200) (nx : V l G mX7_putBytes d 0 0 0 0 K0 3 [(2, 1), (0, p), (0, k + -8), (9, 0)] [] (ptc h (bS (byt p k) s)) Q) : V l G mX7_putBytes d 0 0 0 0 K0 3 [(2, 1), (0, p), (0, k), (9, 0)] [] (ov1 (hset h 1 1 s.2) 2 s.1) Q := by
  refine v_iload_n dX7_putBytes_3 rfl ?_
  refine v_if_lt (tgt := 55) dX7_putBytes_4 (by decide) (fun c4_1 => ?_) (fun c4_1 => ?_)
  · refine v_vret dX7_putBytes_55 rfl (Nat.le_refl _) (Nat.le_refl _) ?_
    exfalso; omega
  · refine v_iload_n dX7_putBytes_7 rfl ?_
    refine v_iload_n dX7_putBytes_8 rfl ?_
    refine v_iushr dX7_putBytes_9 ?_
    refine v_sipush dX7_putBytes_10 (c32 rfl) (by decide) ?_
    refine v_iand dX7_putBytes_13 ?_
    rw [show iand (iushr p k) 255 = byt p k from ushr_255 hk]
    refine v_istore_n_3 dX7_putBytes_14 (by decide) rfl ?_
    refine v_iload_n dX7_putBytes_15 rfl ?_
    refine v_if_eq (tgt := 49) dX7_putBytes_16 (by decide) (fun c16_2 => ?_) (fun c16_2 => ?_)
    · refine v_iinc_2 dX7_putBytes_49 (by decide) rfl ?_
      rw [iadd_eq (x := k) (y := (-8)) (by unfold ok32; omega)]
      refine v_goto (tgt := 3) dX7_putBytes_52 (by decide) ?_
      rw [bS_0 c16_2] at nx
      refine v_loc (lo_k (lo_k (lo_k (lo_d lo_nil)))) ?_
      exact nx
    · refine v_aload_n dX7_putBytes_19 rfl ?_
      refine v_getv (ci := 7) (j := 1) (ji := 1) (tg := 0) dX7_putBytes_20 k_132 (by decide) kk_1 (by decide) rfl rfl (by decide) ((ov1_c (by decide)).trans (hset_same _ _ _ _)) ?_
      refine v_sipush dX7_putBytes_23 (c32 rfl) (by decide) ?_
      refine v_icmp_ge (tgt := 49) dX7_putBytes_26 (by decide) (fun c26_3 => ?_) (fun c26_3 => ?_)
      · refine v_iinc_2 dX7_putBytes_49 (by decide) rfl ?_
        rw [iadd_eq (x := k) (y := (-8)) (by unfold ok32; omega)]
        refine v_goto (tgt := 3) dX7_putBytes_52 (by decide) ?_
        exfalso
        have : bY p k = 1 := if_neg c16_2
        omega
      · refine v_aload_n dX7_putBytes_29 rfl ?_
        refine v_getr (ci := 7) (j := 0) (ji := 0) (z := 2) dX7_putBytes_30 k_131 (by decide) kk_1 (by decide) rfl rfl (fun r => rt_1_0 (r rfl)) (by decide) ?_
        refine v_aload_n dX7_putBytes_33 rfl ?_
        refine v_getv (ci := 7) (j := 1) (ji := 1) (tg := 0) dX7_putBytes_34 k_132 (by decide) kk_1 (by decide) rfl rfl (by decide) ((ov1_c (by decide)).trans (hset_same _ _ _ _)) ?_
        refine v_iload_n dX7_putBytes_37 rfl ?_
        refine v_iastore dX7_putBytes_38 (by decide) kk_2 (by omega) (by omega) ?_
        rw [ov1_w]
        refine v_aload_n dX7_putBytes_39 rfl ?_
        refine v_dup dX7_putBytes_40 rfl ?_
        refine v_getv (ci := 7) (j := 1) (ji := 1) (tg := 0) dX7_putBytes_41 k_132 (by decide) kk_1 (by decide) rfl rfl (by decide) ((ov1_c (by decide)).trans (hset_same _ _ _ _)) ?_
        refine v_iconst dX7_putBytes_44 (c32 rfl) ?_
        refine v_iaddE dX7_putBytes_45 (by omega) ?_
        refine v_puti (ci := 7) (j := 1) (ji := 1) dX7_putBytes_46 k_132 (by decide) kk_1 (by decide) rfl rfl rfl ?_
        rw [ov1_n (by decide), hset_tw]
        refine v_iinc_2 dX7_putBytes_49 (by decide) rfl ?_
        rw [iadd_eq (x := k) (y := (-8)) (by unfold ok32; omega)]
        refine v_goto (tgt := 3) dX7_putBytes_52 (by decide) ?_
        rw [bS_1 c16_2] at nx
        refine v_loc (lo_k (lo_k (lo_k (lo_d lo_nil)))) ?_
        exact nx

set_option maxHeartbeats 4000000 in
set_option maxRecDepth 100000 in
theorem s_cputB {l : Launch} {G : GG} {d : Nat} {h : AH} {Q : Option AV → List Kd → AH → Prop} {s : RL2} {p : Int} (hd : 1 ≤ d) (h0 : 0 ≤ s.2) (h1 : s.2 + bI p ≤ 200) (hq : Q none K0 (ptc h (b4 p s))) : Sp l G mX7_putBytes d 0 0 K0 [(2, 1), (0, p)] (ptc h s) Q := by
  refine sp_of (L := [(2, 1), (0, p), (9, 0), (9, 0)]) pl_X7 (Nat.le_of_ble_eq_true rfl) (tg_c (by decide) (tg_c (by decide) tg_0)) rfl ?_
  refine v_bipush dX7_putBytes_0 (c32 rfl) (by decide) ?_
  refine v_istore_n_2 dX7_putBytes_2 (by decide) rfl ?_
  have y1 := @bY_r p 24
  have y2 := @bY_r p 16
  have y3 := @bY_r p 8
  have y4 := @bY_r p 0
  unfold bI at h1
  have n1 := @bS_n p 24 s
  have n2 := @bS_n p 16 (bS (byt p 24) s)
  have n3 := @bS_n p 8 (bS (byt p 16) (bS (byt p 24) s))
  refine st_cput (by omega) (Or.inl rfl) (by omega) (by omega) ?_
  rw [show (24 + -8 : Int) = 16 by decide]
  refine st_cput (by omega) (Or.inr (Or.inl rfl)) (by omega) (by omega) ?_
  rw [show (16 + -8 : Int) = 8 by decide]
  refine st_cput (by omega) (Or.inr (Or.inr (Or.inl rfl))) (by omega) (by omega) ?_
  rw [show (8 + -8 : Int) = 0 by decide]
  refine st_cput (by omega) (Or.inr (Or.inr (Or.inr rfl))) (by omega) (by omega) ?_
  rw [show (0 + -8 : Int) = -8 by decide]
  refine v_iload_n dX7_putBytes_3 rfl ?_
  refine v_if_lt_t (tgt := 55) dX7_putBytes_4 (by decide) (by decide) ?_
  refine v_vret dX7_putBytes_55 rfl (Nat.le_refl _) (Nat.le_refl _) ?_
  exact hq

set_option maxHeartbeats 4000000 in
set_option maxRecDepth 100000 in
theorem s_ccount {l : Launch} {G : GG} {d : Nat} {h : AH} {Q : Option AV → List Kd → AH → Prop} {p : Int} (hd : 1 ≤ d) (hq : Q (some (0, bI p)) K0 h) : Sp l G mX7_countBytes d 0 0 K0 [(0, p)] h Q := by
  refine sp_of (L := [(0, p), (9, 0), (9, 0)]) pl_X7 (Nat.le_of_ble_eq_true rfl) (tg_c (by decide) tg_0) rfl ?_
  refine v_iconst dX7_countBytes_0 (c32 rfl) ?_
  refine v_istore_n_1 dX7_countBytes_1 (by decide) rfl ?_
  refine v_bipush dX7_countBytes_2 (c32 rfl) (by decide) ?_
  refine v_istore_n_2 dX7_countBytes_4 (by decide) rfl ?_
  refine v_iload_n dX7_countBytes_5 rfl ?_
  refine v_if_lt_f (tgt := 28) dX7_countBytes_6 (by decide) (by decide) ?_
  refine v_iload_n dX7_countBytes_9 rfl ?_
  refine v_iload_n dX7_countBytes_10 rfl ?_
  refine v_iushr dX7_countBytes_11 ?_
  refine v_sipush dX7_countBytes_12 (c32 rfl) (by decide) ?_
  refine v_iand dX7_countBytes_15 ?_
  refine v_if_eq (tgt := 22) dX7_countBytes_16 (by decide) (fun c16_1 => ?_) (fun c16_1 => ?_)
  · refine v_iinc_2 dX7_countBytes_22 (by decide) rfl ?_
    rw [show iadd 24 (-8) = 16 from by decide]
    refine v_goto (tgt := 5) dX7_countBytes_25 (by decide) ?_
    refine v_iload_n dX7_countBytes_5 rfl ?_
    refine v_if_lt_f (tgt := 28) dX7_countBytes_6 (by decide) (by decide) ?_
    refine v_iload_n dX7_countBytes_9 rfl ?_
    refine v_iload_n dX7_countBytes_10 rfl ?_
    refine v_iushr dX7_countBytes_11 ?_
    refine v_sipush dX7_countBytes_12 (c32 rfl) (by decide) ?_
    refine v_iand dX7_countBytes_15 ?_
    refine v_if_eq (tgt := 22) dX7_countBytes_16 (by decide) (fun c16_2 => ?_) (fun c16_2 => ?_)
    · refine v_iinc_2 dX7_countBytes_22 (by decide) rfl ?_
      rw [show iadd 16 (-8) = 8 from by decide]
      refine v_goto (tgt := 5) dX7_countBytes_25 (by decide) ?_
      refine v_iload_n dX7_countBytes_5 rfl ?_
      refine v_if_lt_f (tgt := 28) dX7_countBytes_6 (by decide) (by decide) ?_
      refine v_iload_n dX7_countBytes_9 rfl ?_
      refine v_iload_n dX7_countBytes_10 rfl ?_
      refine v_iushr dX7_countBytes_11 ?_
      refine v_sipush dX7_countBytes_12 (c32 rfl) (by decide) ?_
      refine v_iand dX7_countBytes_15 ?_
      refine v_if_eq (tgt := 22) dX7_countBytes_16 (by decide) (fun c16_3 => ?_) (fun c16_3 => ?_)
      · refine v_iinc_2 dX7_countBytes_22 (by decide) rfl ?_
        rw [show iadd 8 (-8) = 0 from by decide]
        refine v_goto (tgt := 5) dX7_countBytes_25 (by decide) ?_
        refine v_iload_n dX7_countBytes_5 rfl ?_
        refine v_if_lt_f (tgt := 28) dX7_countBytes_6 (by decide) (by decide) ?_
        refine v_iload_n dX7_countBytes_9 rfl ?_
        refine v_iload_n dX7_countBytes_10 rfl ?_
        refine v_iushr dX7_countBytes_11 ?_
        refine v_sipush dX7_countBytes_12 (c32 rfl) (by decide) ?_
        refine v_iand dX7_countBytes_15 ?_
        refine v_if_eq (tgt := 22) dX7_countBytes_16 (by decide) (fun c16_4 => ?_) (fun c16_4 => ?_)
        · refine v_iinc_2 dX7_countBytes_22 (by decide) rfl ?_
          rw [show iadd 0 (-8) = -8 from by decide]
          refine v_goto (tgt := 5) dX7_countBytes_25 (by decide) ?_
          refine v_iload_n dX7_countBytes_5 rfl ?_
          refine v_if_lt_t (tgt := 28) dX7_countBytes_6 (by decide) (by decide) ?_
          refine v_iload_n dX7_countBytes_28 rfl ?_
          refine v_ireti dX7_countBytes_29 rfl (Nat.le_refl _) (Nat.le_refl _) ?_
          rw [ushr_255 (by omega)] at c16_1
          rw [ushr_255 (by omega)] at c16_2
          rw [ushr_255 (by omega)] at c16_3
          rw [ushr_255 (by omega)] at c16_4
          have e9 : bI p = 0 := by unfold bI; rw [bY_0 c16_1, bY_0 c16_2, bY_0 c16_3, bY_0 c16_4]; omega
          rw [e9] at hq
          exact hq
        · refine v_iinc_1 dX7_countBytes_19 (by decide) rfl ?_
          rw [show iadd 0 1 = 1 from by decide]
          refine v_iinc_2 dX7_countBytes_22 (by decide) rfl ?_
          rw [show iadd 0 (-8) = -8 from by decide]
          refine v_goto (tgt := 5) dX7_countBytes_25 (by decide) ?_
          refine v_iload_n dX7_countBytes_5 rfl ?_
          refine v_if_lt_t (tgt := 28) dX7_countBytes_6 (by decide) (by decide) ?_
          refine v_iload_n dX7_countBytes_28 rfl ?_
          refine v_ireti dX7_countBytes_29 rfl (Nat.le_refl _) (Nat.le_refl _) ?_
          rw [ushr_255 (by omega)] at c16_1
          rw [ushr_255 (by omega)] at c16_2
          rw [ushr_255 (by omega)] at c16_3
          rw [ushr_255 (by omega)] at c16_4
          have e9 : bI p = 1 := by unfold bI; rw [bY_0 c16_1, bY_0 c16_2, bY_0 c16_3, bY_1 c16_4]; omega
          rw [e9] at hq
          exact hq
      · refine v_iinc_1 dX7_countBytes_19 (by decide) rfl ?_
        rw [show iadd 0 1 = 1 from by decide]
        refine v_iinc_2 dX7_countBytes_22 (by decide) rfl ?_
        rw [show iadd 8 (-8) = 0 from by decide]
        refine v_goto (tgt := 5) dX7_countBytes_25 (by decide) ?_
        refine v_iload_n dX7_countBytes_5 rfl ?_
        refine v_if_lt_f (tgt := 28) dX7_countBytes_6 (by decide) (by decide) ?_
        refine v_iload_n dX7_countBytes_9 rfl ?_
        refine v_iload_n dX7_countBytes_10 rfl ?_
        refine v_iushr dX7_countBytes_11 ?_
        refine v_sipush dX7_countBytes_12 (c32 rfl) (by decide) ?_
        refine v_iand dX7_countBytes_15 ?_
        refine v_if_eq (tgt := 22) dX7_countBytes_16 (by decide) (fun c16_5 => ?_) (fun c16_5 => ?_)
        · refine v_iinc_2 dX7_countBytes_22 (by decide) rfl ?_
          rw [show iadd 0 (-8) = -8 from by decide]
          refine v_goto (tgt := 5) dX7_countBytes_25 (by decide) ?_
          refine v_iload_n dX7_countBytes_5 rfl ?_
          refine v_if_lt_t (tgt := 28) dX7_countBytes_6 (by decide) (by decide) ?_
          refine v_iload_n dX7_countBytes_28 rfl ?_
          refine v_ireti dX7_countBytes_29 rfl (Nat.le_refl _) (Nat.le_refl _) ?_
          rw [ushr_255 (by omega)] at c16_1
          rw [ushr_255 (by omega)] at c16_2
          rw [ushr_255 (by omega)] at c16_3
          rw [ushr_255 (by omega)] at c16_5
          have e9 : bI p = 1 := by unfold bI; rw [bY_0 c16_1, bY_0 c16_2, bY_1 c16_3, bY_0 c16_5]; omega
          rw [e9] at hq
          exact hq
        · refine v_iinc_1 dX7_countBytes_19 (by decide) rfl ?_
          rw [show iadd 1 1 = 2 from by decide]
          refine v_iinc_2 dX7_countBytes_22 (by decide) rfl ?_
          rw [show iadd 0 (-8) = -8 from by decide]
          refine v_goto (tgt := 5) dX7_countBytes_25 (by decide) ?_
          refine v_iload_n dX7_countBytes_5 rfl ?_
          refine v_if_lt_t (tgt := 28) dX7_countBytes_6 (by decide) (by decide) ?_
          refine v_iload_n dX7_countBytes_28 rfl ?_
          refine v_ireti dX7_countBytes_29 rfl (Nat.le_refl _) (Nat.le_refl _) ?_
          rw [ushr_255 (by omega)] at c16_1
          rw [ushr_255 (by omega)] at c16_2
          rw [ushr_255 (by omega)] at c16_3
          rw [ushr_255 (by omega)] at c16_5
          have e9 : bI p = 2 := by unfold bI; rw [bY_0 c16_1, bY_0 c16_2, bY_1 c16_3, bY_1 c16_5]; omega
          rw [e9] at hq
          exact hq
    · refine v_iinc_1 dX7_countBytes_19 (by decide) rfl ?_
      rw [show iadd 0 1 = 1 from by decide]
      refine v_iinc_2 dX7_countBytes_22 (by decide) rfl ?_
      rw [show iadd 16 (-8) = 8 from by decide]
      refine v_goto (tgt := 5) dX7_countBytes_25 (by decide) ?_
      refine v_iload_n dX7_countBytes_5 rfl ?_
      refine v_if_lt_f (tgt := 28) dX7_countBytes_6 (by decide) (by decide) ?_
      refine v_iload_n dX7_countBytes_9 rfl ?_
      refine v_iload_n dX7_countBytes_10 rfl ?_
      refine v_iushr dX7_countBytes_11 ?_
      refine v_sipush dX7_countBytes_12 (c32 rfl) (by decide) ?_
      refine v_iand dX7_countBytes_15 ?_
      refine v_if_eq (tgt := 22) dX7_countBytes_16 (by decide) (fun c16_6 => ?_) (fun c16_6 => ?_)
      · refine v_iinc_2 dX7_countBytes_22 (by decide) rfl ?_
        rw [show iadd 8 (-8) = 0 from by decide]
        refine v_goto (tgt := 5) dX7_countBytes_25 (by decide) ?_
        refine v_iload_n dX7_countBytes_5 rfl ?_
        refine v_if_lt_f (tgt := 28) dX7_countBytes_6 (by decide) (by decide) ?_
        refine v_iload_n dX7_countBytes_9 rfl ?_
        refine v_iload_n dX7_countBytes_10 rfl ?_
        refine v_iushr dX7_countBytes_11 ?_
        refine v_sipush dX7_countBytes_12 (c32 rfl) (by decide) ?_
        refine v_iand dX7_countBytes_15 ?_
        refine v_if_eq (tgt := 22) dX7_countBytes_16 (by decide) (fun c16_7 => ?_) (fun c16_7 => ?_)
        · refine v_iinc_2 dX7_countBytes_22 (by decide) rfl ?_
          rw [show iadd 0 (-8) = -8 from by decide]
          refine v_goto (tgt := 5) dX7_countBytes_25 (by decide) ?_
          refine v_iload_n dX7_countBytes_5 rfl ?_
          refine v_if_lt_t (tgt := 28) dX7_countBytes_6 (by decide) (by decide) ?_
          refine v_iload_n dX7_countBytes_28 rfl ?_
          refine v_ireti dX7_countBytes_29 rfl (Nat.le_refl _) (Nat.le_refl _) ?_
          rw [ushr_255 (by omega)] at c16_1
          rw [ushr_255 (by omega)] at c16_2
          rw [ushr_255 (by omega)] at c16_6
          rw [ushr_255 (by omega)] at c16_7
          have e9 : bI p = 1 := by unfold bI; rw [bY_0 c16_1, bY_1 c16_2, bY_0 c16_6, bY_0 c16_7]; omega
          rw [e9] at hq
          exact hq
        · refine v_iinc_1 dX7_countBytes_19 (by decide) rfl ?_
          rw [show iadd 1 1 = 2 from by decide]
          refine v_iinc_2 dX7_countBytes_22 (by decide) rfl ?_
          rw [show iadd 0 (-8) = -8 from by decide]
          refine v_goto (tgt := 5) dX7_countBytes_25 (by decide) ?_
          refine v_iload_n dX7_countBytes_5 rfl ?_
          refine v_if_lt_t (tgt := 28) dX7_countBytes_6 (by decide) (by decide) ?_
          refine v_iload_n dX7_countBytes_28 rfl ?_
          refine v_ireti dX7_countBytes_29 rfl (Nat.le_refl _) (Nat.le_refl _) ?_
          rw [ushr_255 (by omega)] at c16_1
          rw [ushr_255 (by omega)] at c16_2
          rw [ushr_255 (by omega)] at c16_6
          rw [ushr_255 (by omega)] at c16_7
          have e9 : bI p = 2 := by unfold bI; rw [bY_0 c16_1, bY_1 c16_2, bY_0 c16_6, bY_1 c16_7]; omega
          rw [e9] at hq
          exact hq
      · refine v_iinc_1 dX7_countBytes_19 (by decide) rfl ?_
        rw [show iadd 1 1 = 2 from by decide]
        refine v_iinc_2 dX7_countBytes_22 (by decide) rfl ?_
        rw [show iadd 8 (-8) = 0 from by decide]
        refine v_goto (tgt := 5) dX7_countBytes_25 (by decide) ?_
        refine v_iload_n dX7_countBytes_5 rfl ?_
        refine v_if_lt_f (tgt := 28) dX7_countBytes_6 (by decide) (by decide) ?_
        refine v_iload_n dX7_countBytes_9 rfl ?_
        refine v_iload_n dX7_countBytes_10 rfl ?_
        refine v_iushr dX7_countBytes_11 ?_
        refine v_sipush dX7_countBytes_12 (c32 rfl) (by decide) ?_
        refine v_iand dX7_countBytes_15 ?_
        refine v_if_eq (tgt := 22) dX7_countBytes_16 (by decide) (fun c16_8 => ?_) (fun c16_8 => ?_)
        · refine v_iinc_2 dX7_countBytes_22 (by decide) rfl ?_
          rw [show iadd 0 (-8) = -8 from by decide]
          refine v_goto (tgt := 5) dX7_countBytes_25 (by decide) ?_
          refine v_iload_n dX7_countBytes_5 rfl ?_
          refine v_if_lt_t (tgt := 28) dX7_countBytes_6 (by decide) (by decide) ?_
          refine v_iload_n dX7_countBytes_28 rfl ?_
          refine v_ireti dX7_countBytes_29 rfl (Nat.le_refl _) (Nat.le_refl _) ?_
          rw [ushr_255 (by omega)] at c16_1
          rw [ushr_255 (by omega)] at c16_2
          rw [ushr_255 (by omega)] at c16_6
          rw [ushr_255 (by omega)] at c16_8
          have e9 : bI p = 2 := by unfold bI; rw [bY_0 c16_1, bY_1 c16_2, bY_1 c16_6, bY_0 c16_8]; omega
          rw [e9] at hq
          exact hq
        · refine v_iinc_1 dX7_countBytes_19 (by decide) rfl ?_
          rw [show iadd 2 1 = 3 from by decide]
          refine v_iinc_2 dX7_countBytes_22 (by decide) rfl ?_
          rw [show iadd 0 (-8) = -8 from by decide]
          refine v_goto (tgt := 5) dX7_countBytes_25 (by decide) ?_
          refine v_iload_n dX7_countBytes_5 rfl ?_
          refine v_if_lt_t (tgt := 28) dX7_countBytes_6 (by decide) (by decide) ?_
          refine v_iload_n dX7_countBytes_28 rfl ?_
          refine v_ireti dX7_countBytes_29 rfl (Nat.le_refl _) (Nat.le_refl _) ?_
          rw [ushr_255 (by omega)] at c16_1
          rw [ushr_255 (by omega)] at c16_2
          rw [ushr_255 (by omega)] at c16_6
          rw [ushr_255 (by omega)] at c16_8
          have e9 : bI p = 3 := by unfold bI; rw [bY_0 c16_1, bY_1 c16_2, bY_1 c16_6, bY_1 c16_8]; omega
          rw [e9] at hq
          exact hq
  · refine v_iinc_1 dX7_countBytes_19 (by decide) rfl ?_
    rw [show iadd 0 1 = 1 from by decide]
    refine v_iinc_2 dX7_countBytes_22 (by decide) rfl ?_
    rw [show iadd 24 (-8) = 16 from by decide]
    refine v_goto (tgt := 5) dX7_countBytes_25 (by decide) ?_
    refine v_iload_n dX7_countBytes_5 rfl ?_
    refine v_if_lt_f (tgt := 28) dX7_countBytes_6 (by decide) (by decide) ?_
    refine v_iload_n dX7_countBytes_9 rfl ?_
    refine v_iload_n dX7_countBytes_10 rfl ?_
    refine v_iushr dX7_countBytes_11 ?_
    refine v_sipush dX7_countBytes_12 (c32 rfl) (by decide) ?_
    refine v_iand dX7_countBytes_15 ?_
    refine v_if_eq (tgt := 22) dX7_countBytes_16 (by decide) (fun c16_9 => ?_) (fun c16_9 => ?_)
    · refine v_iinc_2 dX7_countBytes_22 (by decide) rfl ?_
      rw [show iadd 16 (-8) = 8 from by decide]
      refine v_goto (tgt := 5) dX7_countBytes_25 (by decide) ?_
      refine v_iload_n dX7_countBytes_5 rfl ?_
      refine v_if_lt_f (tgt := 28) dX7_countBytes_6 (by decide) (by decide) ?_
      refine v_iload_n dX7_countBytes_9 rfl ?_
      refine v_iload_n dX7_countBytes_10 rfl ?_
      refine v_iushr dX7_countBytes_11 ?_
      refine v_sipush dX7_countBytes_12 (c32 rfl) (by decide) ?_
      refine v_iand dX7_countBytes_15 ?_
      refine v_if_eq (tgt := 22) dX7_countBytes_16 (by decide) (fun c16_10 => ?_) (fun c16_10 => ?_)
      · refine v_iinc_2 dX7_countBytes_22 (by decide) rfl ?_
        rw [show iadd 8 (-8) = 0 from by decide]
        refine v_goto (tgt := 5) dX7_countBytes_25 (by decide) ?_
        refine v_iload_n dX7_countBytes_5 rfl ?_
        refine v_if_lt_f (tgt := 28) dX7_countBytes_6 (by decide) (by decide) ?_
        refine v_iload_n dX7_countBytes_9 rfl ?_
        refine v_iload_n dX7_countBytes_10 rfl ?_
        refine v_iushr dX7_countBytes_11 ?_
        refine v_sipush dX7_countBytes_12 (c32 rfl) (by decide) ?_
        refine v_iand dX7_countBytes_15 ?_
        refine v_if_eq (tgt := 22) dX7_countBytes_16 (by decide) (fun c16_11 => ?_) (fun c16_11 => ?_)
        · refine v_iinc_2 dX7_countBytes_22 (by decide) rfl ?_
          rw [show iadd 0 (-8) = -8 from by decide]
          refine v_goto (tgt := 5) dX7_countBytes_25 (by decide) ?_
          refine v_iload_n dX7_countBytes_5 rfl ?_
          refine v_if_lt_t (tgt := 28) dX7_countBytes_6 (by decide) (by decide) ?_
          refine v_iload_n dX7_countBytes_28 rfl ?_
          refine v_ireti dX7_countBytes_29 rfl (Nat.le_refl _) (Nat.le_refl _) ?_
          rw [ushr_255 (by omega)] at c16_1
          rw [ushr_255 (by omega)] at c16_9
          rw [ushr_255 (by omega)] at c16_10
          rw [ushr_255 (by omega)] at c16_11
          have e9 : bI p = 1 := by unfold bI; rw [bY_1 c16_1, bY_0 c16_9, bY_0 c16_10, bY_0 c16_11]; omega
          rw [e9] at hq
          exact hq
        · refine v_iinc_1 dX7_countBytes_19 (by decide) rfl ?_
          rw [show iadd 1 1 = 2 from by decide]
          refine v_iinc_2 dX7_countBytes_22 (by decide) rfl ?_
          rw [show iadd 0 (-8) = -8 from by decide]
          refine v_goto (tgt := 5) dX7_countBytes_25 (by decide) ?_
          refine v_iload_n dX7_countBytes_5 rfl ?_
          refine v_if_lt_t (tgt := 28) dX7_countBytes_6 (by decide) (by decide) ?_
          refine v_iload_n dX7_countBytes_28 rfl ?_
          refine v_ireti dX7_countBytes_29 rfl (Nat.le_refl _) (Nat.le_refl _) ?_
          rw [ushr_255 (by omega)] at c16_1
          rw [ushr_255 (by omega)] at c16_9
          rw [ushr_255 (by omega)] at c16_10
          rw [ushr_255 (by omega)] at c16_11
          have e9 : bI p = 2 := by unfold bI; rw [bY_1 c16_1, bY_0 c16_9, bY_0 c16_10, bY_1 c16_11]; omega
          rw [e9] at hq
          exact hq
      · refine v_iinc_1 dX7_countBytes_19 (by decide) rfl ?_
        rw [show iadd 1 1 = 2 from by decide]
        refine v_iinc_2 dX7_countBytes_22 (by decide) rfl ?_
        rw [show iadd 8 (-8) = 0 from by decide]
        refine v_goto (tgt := 5) dX7_countBytes_25 (by decide) ?_
        refine v_iload_n dX7_countBytes_5 rfl ?_
        refine v_if_lt_f (tgt := 28) dX7_countBytes_6 (by decide) (by decide) ?_
        refine v_iload_n dX7_countBytes_9 rfl ?_
        refine v_iload_n dX7_countBytes_10 rfl ?_
        refine v_iushr dX7_countBytes_11 ?_
        refine v_sipush dX7_countBytes_12 (c32 rfl) (by decide) ?_
        refine v_iand dX7_countBytes_15 ?_
        refine v_if_eq (tgt := 22) dX7_countBytes_16 (by decide) (fun c16_12 => ?_) (fun c16_12 => ?_)
        · refine v_iinc_2 dX7_countBytes_22 (by decide) rfl ?_
          rw [show iadd 0 (-8) = -8 from by decide]
          refine v_goto (tgt := 5) dX7_countBytes_25 (by decide) ?_
          refine v_iload_n dX7_countBytes_5 rfl ?_
          refine v_if_lt_t (tgt := 28) dX7_countBytes_6 (by decide) (by decide) ?_
          refine v_iload_n dX7_countBytes_28 rfl ?_
          refine v_ireti dX7_countBytes_29 rfl (Nat.le_refl _) (Nat.le_refl _) ?_
          rw [ushr_255 (by omega)] at c16_1
          rw [ushr_255 (by omega)] at c16_9
          rw [ushr_255 (by omega)] at c16_10
          rw [ushr_255 (by omega)] at c16_12
          have e9 : bI p = 2 := by unfold bI; rw [bY_1 c16_1, bY_0 c16_9, bY_1 c16_10, bY_0 c16_12]; omega
          rw [e9] at hq
          exact hq
        · refine v_iinc_1 dX7_countBytes_19 (by decide) rfl ?_
          rw [show iadd 2 1 = 3 from by decide]
          refine v_iinc_2 dX7_countBytes_22 (by decide) rfl ?_
          rw [show iadd 0 (-8) = -8 from by decide]
          refine v_goto (tgt := 5) dX7_countBytes_25 (by decide) ?_
          refine v_iload_n dX7_countBytes_5 rfl ?_
          refine v_if_lt_t (tgt := 28) dX7_countBytes_6 (by decide) (by decide) ?_
          refine v_iload_n dX7_countBytes_28 rfl ?_
          refine v_ireti dX7_countBytes_29 rfl (Nat.le_refl _) (Nat.le_refl _) ?_
          rw [ushr_255 (by omega)] at c16_1
          rw [ushr_255 (by omega)] at c16_9
          rw [ushr_255 (by omega)] at c16_10
          rw [ushr_255 (by omega)] at c16_12
          have e9 : bI p = 3 := by unfold bI; rw [bY_1 c16_1, bY_0 c16_9, bY_1 c16_10, bY_1 c16_12]; omega
          rw [e9] at hq
          exact hq
    · refine v_iinc_1 dX7_countBytes_19 (by decide) rfl ?_
      rw [show iadd 1 1 = 2 from by decide]
      refine v_iinc_2 dX7_countBytes_22 (by decide) rfl ?_
      rw [show iadd 16 (-8) = 8 from by decide]
      refine v_goto (tgt := 5) dX7_countBytes_25 (by decide) ?_
      refine v_iload_n dX7_countBytes_5 rfl ?_
      refine v_if_lt_f (tgt := 28) dX7_countBytes_6 (by decide) (by decide) ?_
      refine v_iload_n dX7_countBytes_9 rfl ?_
      refine v_iload_n dX7_countBytes_10 rfl ?_
      refine v_iushr dX7_countBytes_11 ?_
      refine v_sipush dX7_countBytes_12 (c32 rfl) (by decide) ?_
      refine v_iand dX7_countBytes_15 ?_
      refine v_if_eq (tgt := 22) dX7_countBytes_16 (by decide) (fun c16_13 => ?_) (fun c16_13 => ?_)
      · refine v_iinc_2 dX7_countBytes_22 (by decide) rfl ?_
        rw [show iadd 8 (-8) = 0 from by decide]
        refine v_goto (tgt := 5) dX7_countBytes_25 (by decide) ?_
        refine v_iload_n dX7_countBytes_5 rfl ?_
        refine v_if_lt_f (tgt := 28) dX7_countBytes_6 (by decide) (by decide) ?_
        refine v_iload_n dX7_countBytes_9 rfl ?_
        refine v_iload_n dX7_countBytes_10 rfl ?_
        refine v_iushr dX7_countBytes_11 ?_
        refine v_sipush dX7_countBytes_12 (c32 rfl) (by decide) ?_
        refine v_iand dX7_countBytes_15 ?_
        refine v_if_eq (tgt := 22) dX7_countBytes_16 (by decide) (fun c16_14 => ?_) (fun c16_14 => ?_)
        · refine v_iinc_2 dX7_countBytes_22 (by decide) rfl ?_
          rw [show iadd 0 (-8) = -8 from by decide]
          refine v_goto (tgt := 5) dX7_countBytes_25 (by decide) ?_
          refine v_iload_n dX7_countBytes_5 rfl ?_
          refine v_if_lt_t (tgt := 28) dX7_countBytes_6 (by decide) (by decide) ?_
          refine v_iload_n dX7_countBytes_28 rfl ?_
          refine v_ireti dX7_countBytes_29 rfl (Nat.le_refl _) (Nat.le_refl _) ?_
          rw [ushr_255 (by omega)] at c16_1
          rw [ushr_255 (by omega)] at c16_9
          rw [ushr_255 (by omega)] at c16_13
          rw [ushr_255 (by omega)] at c16_14
          have e9 : bI p = 2 := by unfold bI; rw [bY_1 c16_1, bY_1 c16_9, bY_0 c16_13, bY_0 c16_14]; omega
          rw [e9] at hq
          exact hq
        · refine v_iinc_1 dX7_countBytes_19 (by decide) rfl ?_
          rw [show iadd 2 1 = 3 from by decide]
          refine v_iinc_2 dX7_countBytes_22 (by decide) rfl ?_
          rw [show iadd 0 (-8) = -8 from by decide]
          refine v_goto (tgt := 5) dX7_countBytes_25 (by decide) ?_
          refine v_iload_n dX7_countBytes_5 rfl ?_
          refine v_if_lt_t (tgt := 28) dX7_countBytes_6 (by decide) (by decide) ?_
          refine v_iload_n dX7_countBytes_28 rfl ?_
          refine v_ireti dX7_countBytes_29 rfl (Nat.le_refl _) (Nat.le_refl _) ?_
          rw [ushr_255 (by omega)] at c16_1
          rw [ushr_255 (by omega)] at c16_9
          rw [ushr_255 (by omega)] at c16_13
          rw [ushr_255 (by omega)] at c16_14
          have e9 : bI p = 3 := by unfold bI; rw [bY_1 c16_1, bY_1 c16_9, bY_0 c16_13, bY_1 c16_14]; omega
          rw [e9] at hq
          exact hq
      · refine v_iinc_1 dX7_countBytes_19 (by decide) rfl ?_
        rw [show iadd 2 1 = 3 from by decide]
        refine v_iinc_2 dX7_countBytes_22 (by decide) rfl ?_
        rw [show iadd 8 (-8) = 0 from by decide]
        refine v_goto (tgt := 5) dX7_countBytes_25 (by decide) ?_
        refine v_iload_n dX7_countBytes_5 rfl ?_
        refine v_if_lt_f (tgt := 28) dX7_countBytes_6 (by decide) (by decide) ?_
        refine v_iload_n dX7_countBytes_9 rfl ?_
        refine v_iload_n dX7_countBytes_10 rfl ?_
        refine v_iushr dX7_countBytes_11 ?_
        refine v_sipush dX7_countBytes_12 (c32 rfl) (by decide) ?_
        refine v_iand dX7_countBytes_15 ?_
        refine v_if_eq (tgt := 22) dX7_countBytes_16 (by decide) (fun c16_15 => ?_) (fun c16_15 => ?_)
        · refine v_iinc_2 dX7_countBytes_22 (by decide) rfl ?_
          rw [show iadd 0 (-8) = -8 from by decide]
          refine v_goto (tgt := 5) dX7_countBytes_25 (by decide) ?_
          refine v_iload_n dX7_countBytes_5 rfl ?_
          refine v_if_lt_t (tgt := 28) dX7_countBytes_6 (by decide) (by decide) ?_
          refine v_iload_n dX7_countBytes_28 rfl ?_
          refine v_ireti dX7_countBytes_29 rfl (Nat.le_refl _) (Nat.le_refl _) ?_
          rw [ushr_255 (by omega)] at c16_1
          rw [ushr_255 (by omega)] at c16_9
          rw [ushr_255 (by omega)] at c16_13
          rw [ushr_255 (by omega)] at c16_15
          have e9 : bI p = 3 := by unfold bI; rw [bY_1 c16_1, bY_1 c16_9, bY_1 c16_13, bY_0 c16_15]; omega
          rw [e9] at hq
          exact hq
        · refine v_iinc_1 dX7_countBytes_19 (by decide) rfl ?_
          rw [show iadd 3 1 = 4 from by decide]
          refine v_iinc_2 dX7_countBytes_22 (by decide) rfl ?_
          rw [show iadd 0 (-8) = -8 from by decide]
          refine v_goto (tgt := 5) dX7_countBytes_25 (by decide) ?_
          refine v_iload_n dX7_countBytes_5 rfl ?_
          refine v_if_lt_t (tgt := 28) dX7_countBytes_6 (by decide) (by decide) ?_
          refine v_iload_n dX7_countBytes_28 rfl ?_
          refine v_ireti dX7_countBytes_29 rfl (Nat.le_refl _) (Nat.le_refl _) ?_
          rw [ushr_255 (by omega)] at c16_1
          rw [ushr_255 (by omega)] at c16_9
          rw [ushr_255 (by omega)] at c16_13
          rw [ushr_255 (by omega)] at c16_15
          have e9 : bI p = 4 := by unfold bI; rw [bY_1 c16_1, bY_1 c16_9, bY_1 c16_13, bY_1 c16_15]; omega
          rw [e9] at hq
          exact hq

theorem V_cast {l : Launch} {G : GG} {M : MI} {d mc ms n1 n2 : Nat} {K : List Kd} {pc : Nat} {L st : List AV} {h h2 : AH} {Q : Option AV → List Kd → AH → Prop} (e : h = h2) (k : V l G M d mc ms n1 n2 K pc L st h2 Q) : V l G M d mc ms n1 n2 K pc L st h Q := by
  rw [e]
  exact k

set_option maxHeartbeats 4000000 in
set_option maxRecDepth 100000 in
theorem s_ctake {l : Launch} {G : GG} {d : Nat} {h : AH} {Q : Option AV → List Kd → AH → Prop} {a b c e f : Int} (hd : 2 ≤ d) (hn : 0 ≤ h 1 1 ∧ h 1 1 ≤ 200) (q0 : 200 < h 1 1 + bI a + bI b + bI c + bI e + bI f → Q (some (0, -1)) K0 h) (q1 : h 1 1 + bI a + bI b + bI c + bI e + bI f ≤ 200 → Q (some (0, ((b4 f (b4 e (b4 c (b4 b (b4 a (h 2, h 1 1))))))).2)) K0 (ptc h (b4 f (b4 e (b4 c (b4 b (b4 a (h 2, h 1 1)))))))) : Sp l G mX7_take d 0 0 K0 [(2, 1), (0, a), (0, b), (0, c), (0, e), (0, f)] h Q := by
  have r1 := @bI_r a
  have r2 := @bI_r b
  have r3 := @bI_r c
  have r4 := @bI_r e
  have r5 := @bI_r f
  refine sp_of (L := [(2, 1), (0, a), (0, b), (0, c), (0, e), (0, f), (9, 0)]) pl_X7 (Nat.le_of_ble_eq_true rfl) (tg_c (by decide) (tg_c (by decide) (tg_c (by decide) (tg_c (by decide) (tg_c (by decide) (tg_c (by decide) tg_0)))))) rfl ?_
  refine v_iload_n dX7_take_0 rfl ?_
  refine v_calls (M' := mX7_countBytes) (d' := d - 1) (mc' := 0) (ms' := 0) (As := [_]) dX7_take_1 k_626 cm_X7_countBytes (by omega) (Nat.le_of_ble_eq_true rfl) rfl ⟨Nat.le_refl _, Nat.le_refl _⟩ ?_
  refine s_ccount (by omega) ?_
  dsimp only [Option.toList, List.cons_append, List.nil_append, Nat.add_zero]
  refine v_iload_n dX7_take_4 rfl ?_
  refine v_calls (M' := mX7_countBytes) (d' := d - 1) (mc' := 0) (ms' := 0) (As := [_]) dX7_take_5 k_626 cm_X7_countBytes (by omega) (Nat.le_of_ble_eq_true rfl) rfl ⟨Nat.le_refl _, Nat.le_refl _⟩ ?_
  refine s_ccount (by omega) ?_
  dsimp only [Option.toList, List.cons_append, List.nil_append, Nat.add_zero]
  refine v_iaddE dX7_take_8 (by omega) ?_
  refine v_iload_n dX7_take_9 rfl ?_
  refine v_calls (M' := mX7_countBytes) (d' := d - 1) (mc' := 0) (ms' := 0) (As := [_]) dX7_take_10 k_626 cm_X7_countBytes (by omega) (Nat.le_of_ble_eq_true rfl) rfl ⟨Nat.le_refl _, Nat.le_refl _⟩ ?_
  refine s_ccount (by omega) ?_
  dsimp only [Option.toList, List.cons_append, List.nil_append, Nat.add_zero]
  refine v_iaddE dX7_take_13 (by omega) ?_
  refine v_iload dX7_take_14 rfl ?_
  refine v_calls (M' := mX7_countBytes) (d' := d - 1) (mc' := 0) (ms' := 0) (As := [_]) dX7_take_16 k_626 cm_X7_countBytes (by omega) (Nat.le_of_ble_eq_true rfl) rfl ⟨Nat.le_refl _, Nat.le_refl _⟩ ?_
  refine s_ccount (by omega) ?_
  dsimp only [Option.toList, List.cons_append, List.nil_append, Nat.add_zero]
  refine v_iaddE dX7_take_19 (by omega) ?_
  refine v_iload dX7_take_20 rfl ?_
  refine v_calls (M' := mX7_countBytes) (d' := d - 1) (mc' := 0) (ms' := 0) (As := [_]) dX7_take_22 k_626 cm_X7_countBytes (by omega) (Nat.le_of_ble_eq_true rfl) rfl ⟨Nat.le_refl _, Nat.le_refl _⟩ ?_
  refine s_ccount (by omega) ?_
  dsimp only [Option.toList, List.cons_append, List.nil_append, Nat.add_zero]
  refine v_iaddE dX7_take_25 (by omega) ?_
  refine v_istore_6 dX7_take_26 (by decide) rfl ?_
  refine v_aload_n dX7_take_28 rfl ?_
  refine v_get (ci := 7) (j := 1) (ji := 1) (tg := 0) dX7_take_29 k_132 (by decide) kk_1 (by decide) rfl rfl (by decide) ?_
  refine v_iload dX7_take_32 rfl ?_
  refine v_iaddE dX7_take_34 (by omega) ?_
  refine v_sipush dX7_take_35 (c32 rfl) (by decide) ?_
  refine v_icmp_le (tgt := 43) dX7_take_38 (by decide) (fun c38_1 => ?_) (fun c38_1 => ?_)
  · have r1 := @bI_r a
    have r2 := @bI_r b
    have r3 := @bI_r c
    have r4 := @bI_r e
    have r5 := @bI_r f
    have g1 := @b4_n a (h 2, h 1 1)
    have g2 := @b4_n b (b4 a (h 2, h 1 1))
    have g3 := @b4_n c (b4 b (b4 a (h 2, h 1 1)))
    have g4 := @b4_n e (b4 c (b4 b (b4 a (h 2, h 1 1))))
    have g0 : ((h 2, h 1 1) : RL2).2 = h 1 1 := rfl
    refine V_cast (ptc_mk (h := h)).symm ?_
    refine v_aload_n dX7_take_43 rfl ?_
    refine v_iload_n dX7_take_44 rfl ?_
    refine v_callv (M' := mX7_putBytes) (d' := d - 1) (mc' := 0) (ms' := 0) (ci := 7) (c := 1) (As := [_]) dX7_take_45 k_629 cm_X7_putBytes rfl (by omega) (by decide) kk_1 (Nat.le_of_ble_eq_true rfl) rfl ⟨Nat.le_refl _, Nat.le_refl _⟩ ?_
    refine s_cputB (by omega) (by first | omega | (simp only [b4_n]; omega)) (by first | omega | (simp only [b4_n]; omega)) ?_
    dsimp only [Option.toList, List.cons_append, List.nil_append, Nat.add_zero]
    refine v_aload_n dX7_take_48 rfl ?_
    refine v_iload_n dX7_take_49 rfl ?_
    refine v_callv (M' := mX7_putBytes) (d' := d - 1) (mc' := 0) (ms' := 0) (ci := 7) (c := 1) (As := [_]) dX7_take_50 k_629 cm_X7_putBytes rfl (by omega) (by decide) kk_1 (Nat.le_of_ble_eq_true rfl) rfl ⟨Nat.le_refl _, Nat.le_refl _⟩ ?_
    refine s_cputB (by omega) (by first | omega | (simp only [b4_n]; omega)) (by first | omega | (simp only [b4_n]; omega)) ?_
    dsimp only [Option.toList, List.cons_append, List.nil_append, Nat.add_zero]
    refine v_aload_n dX7_take_53 rfl ?_
    refine v_iload_n dX7_take_54 rfl ?_
    refine v_callv (M' := mX7_putBytes) (d' := d - 1) (mc' := 0) (ms' := 0) (ci := 7) (c := 1) (As := [_]) dX7_take_55 k_629 cm_X7_putBytes rfl (by omega) (by decide) kk_1 (Nat.le_of_ble_eq_true rfl) rfl ⟨Nat.le_refl _, Nat.le_refl _⟩ ?_
    refine s_cputB (by omega) (by first | omega | (simp only [b4_n]; omega)) (by first | omega | (simp only [b4_n]; omega)) ?_
    dsimp only [Option.toList, List.cons_append, List.nil_append, Nat.add_zero]
    refine v_aload_n dX7_take_58 rfl ?_
    refine v_iload dX7_take_59 rfl ?_
    refine v_callv (M' := mX7_putBytes) (d' := d - 1) (mc' := 0) (ms' := 0) (ci := 7) (c := 1) (As := [_]) dX7_take_61 k_629 cm_X7_putBytes rfl (by omega) (by decide) kk_1 (Nat.le_of_ble_eq_true rfl) rfl ⟨Nat.le_refl _, Nat.le_refl _⟩ ?_
    refine s_cputB (by omega) (by first | omega | (simp only [b4_n]; omega)) (by first | omega | (simp only [b4_n]; omega)) ?_
    dsimp only [Option.toList, List.cons_append, List.nil_append, Nat.add_zero]
    refine v_aload_n dX7_take_64 rfl ?_
    refine v_iload dX7_take_65 rfl ?_
    refine v_callv (M' := mX7_putBytes) (d' := d - 1) (mc' := 0) (ms' := 0) (ci := 7) (c := 1) (As := [_]) dX7_take_67 k_629 cm_X7_putBytes rfl (by omega) (by decide) kk_1 (Nat.le_of_ble_eq_true rfl) rfl ⟨Nat.le_refl _, Nat.le_refl _⟩ ?_
    refine s_cputB (by omega) (by first | omega | (simp only [b4_n]; omega)) (by first | omega | (simp only [b4_n]; omega)) ?_
    dsimp only [Option.toList, List.cons_append, List.nil_append, Nat.add_zero]
    have hq9 := q1 (by omega)
    refine v_aload_n dX7_take_70 rfl ?_
    refine v_getv (ci := 7) (j := 1) (ji := 1) (tg := 0) dX7_take_71 k_132 (by decide) kk_1 (by decide) rfl rfl (by decide) (show ptc h (b4 f (b4 e (b4 c (b4 b (b4 a (h 2, h 1 1)))))) 1 1 = ((b4 f (b4 e (b4 c (b4 b (b4 a (h 2, h 1 1))))))).2 from by unfold ptc; rw [ov1_c (by decide), hset_same]) ?_
    refine v_ireti dX7_take_74 rfl (Nat.le_refl _) (Nat.le_refl _) ?_
    exact hq9
  · refine v_iconst dX7_take_41 (c32 rfl) ?_
    refine v_ireti dX7_take_42 rfl (Nat.le_refl _) (Nat.le_refl _) ?_
    exact q0 (by omega)

set_option maxHeartbeats 4000000 in
set_option maxRecDepth 100000 in
theorem s_Ffeed {l : Launch} {G : GG} {d : Nat} {h : AH} {Q : Option AV → List Kd → AH → Prop} {a b c e f : Int} (hd : 3 ≤ d) (hn : 0 ≤ h 1 1 ∧ h 1 1 ≤ 200) (q0 : 200 < h 1 1 + bI a + bI b + bI c + bI e + bI f → Q (some (0, -1)) K0 h) (q1 : h 1 1 + bI a + bI b + bI c + bI e + bI f ≤ 200 → Q (some (0, ((b4 f (b4 e (b4 c (b4 b (b4 a (h 2, h 1 1))))))).2)) K0 (ptc h (b4 f (b4 e (b4 c (b4 b (b4 a (h 2, h 1 1)))))))) : Sp l G mX11_feed d 0 0 K0 [(2, 0), (0, a), (0, b), (0, c), (0, e), (0, f)] h Q := by
  refine sp_of (L := [(2, 0), (0, a), (0, b), (0, c), (0, e), (0, f)]) pl_X11 (Nat.le_of_ble_eq_true rfl) (tg_c (by decide) (tg_c (by decide) (tg_c (by decide) (tg_c (by decide) (tg_c (by decide) (tg_c (by decide) tg_0)))))) rfl ?_
  refine v_aload_n dX11_feed_0 rfl ?_
  refine v_getr (ci := 11) (j := 1) (ji := 1) (z := 1) dX11_feed_1 k_555 (by decide) kk_0 (by decide) rfl rfl (fun r => rt_0_1 (r rfl)) (by decide) ?_
  refine v_iload_n dX11_feed_4 rfl ?_
  refine v_iload_n dX11_feed_5 rfl ?_
  refine v_iload_n dX11_feed_6 rfl ?_
  refine v_iload dX11_feed_7 rfl ?_
  refine v_iload dX11_feed_9 rfl ?_
  refine v_callv (M' := mX7_take) (d' := d - 1) (mc' := 0) (ms' := 0) (ci := 7) (c := 1) (As := [_, _, _, _, _]) dX11_feed_11 k_622 cm_X7_take rfl (by omega) (by decide) kk_1 (Nat.le_of_ble_eq_true rfl) rfl ⟨Nat.le_refl _, Nat.le_refl _⟩ ?_
  refine s_ctake (by omega) hn (fun c11_1 => ?_) (fun c11_2 => ?_)
  · dsimp only [Option.toList, List.cons_append, List.nil_append, Nat.add_zero]
    refine v_ireti dX11_feed_14 rfl (Nat.le_refl _) (Nat.le_refl _) ?_
    exact q0 c11_1
  · dsimp only [Option.toList, List.cons_append, List.nil_append, Nat.add_zero]
    refine v_ireti dX11_feed_14 rfl (Nat.le_refl _) (Nat.le_refl _) ?_
    exact q1 c11_2

set_option maxHeartbeats 4000000 in
set_option maxRecDepth 100000 in
theorem st_rput {l : Launch} {G : GG} {d : Nat} {h : AH} {Q : Option AV → List Kd → AH → Prop} {s : RL2} {p k : Int} (hd : 1 ≤ d) (hk : k = 24 ∨ k = 16 ∨ k = 8 ∨ k = 0) (h0 : 0 ≤ s.2) (h1 : s.2 + bY p k ≤ 200) (nx : V l G mX12_put d 0 0 0 0 K0 3 [(2, 116), (0, p), (0, k + -8)] [] (ptr h (bS (byt p k) s)) Q) : V l G mX12_put d 0 0 0 0 K0 3 [(2, 116), (0, p), (0, k)] [] (ov1 (hset h 116 16 s.2) 127 (fun i => s8 (s.1 i))) Q := by
  refine v_iload_n dX12_put_3 rfl ?_
  refine v_if_lt (tgt := 49) dX12_put_4 (by decide) (fun c4_1 => ?_) (fun c4_1 => ?_)
  · refine v_vret dX12_put_49 rfl (Nat.le_refl _) (Nat.le_refl _) ?_
    exfalso; omega
  · refine v_iload_n dX12_put_7 rfl ?_
    refine v_iload_n dX12_put_8 rfl ?_
    refine v_ishr dX12_put_9 ?_
    refine v_sipush dX12_put_10 (c32 rfl) (by decide) ?_
    refine v_iand dX12_put_13 ?_
    rw [show iand (ishr p k) 255 = byt p k from rfl]
    refine v_if_ne (tgt := 20) dX12_put_14 (by decide) (fun c14_2 => ?_) (fun c14_2 => ?_)
    · have yk : bY p k = 1 := if_neg (by assumption)
      refine v_aload_n dX12_put_20 rfl ?_
      refine v_getr (ci := 12) (j := 12) (ji := 12) (z := 127) dX12_put_21 k_1428 (by decide) kk_116 (by decide) rfl rfl (fun r => rt_116_12 (r rfl)) (by decide) ?_
      refine v_aload_n dX12_put_24 rfl ?_
      refine v_getv (ci := 12) (j := 16) (ji := 16) (tg := 0) dX12_put_25 k_1432 (by decide) kk_116 (by decide) rfl rfl (by decide) ((ov1_c (by decide)).trans (hset_same _ _ _ _)) ?_
      refine v_iload_n dX12_put_28 rfl ?_
      refine v_iload_n dX12_put_29 rfl ?_
      refine v_ishr dX12_put_30 ?_
      refine v_i2b dX12_put_31 ?_
      have i2r := s8_rng (x := byt p k) byt_r.1 byt_r.2
      have i2e : i2b (ishr p k) = s8 (byt p k) := i2b_s8
      refine v_bastore dX12_put_32 (by decide) kk_127 (by omega) (by omega) (by omega) ?_
      rw [ov1_w]
      refine v_aload_n dX12_put_33 rfl ?_
      refine v_dup dX12_put_34 rfl ?_
      refine v_getv (ci := 12) (j := 16) (ji := 16) (tg := 0) dX12_put_35 k_1432 (by decide) kk_116 (by decide) rfl rfl (by decide) ((ov1_c (by decide)).trans (hset_same _ _ _ _)) ?_
      refine v_iconst dX12_put_38 (c32 rfl) ?_
      refine v_iaddE dX12_put_39 (by omega) ?_
      refine v_puti (ci := 12) (j := 16) (ji := 16) dX12_put_40 k_1432 (by decide) kk_116 (by decide) rfl rfl rfl ?_
      rw [ov1_n (by decide), hset_tw]
      refine v_iinc_2 dX12_put_43 (by decide) rfl ?_
      rw [iadd_eq (x := k) (y := (-8)) (by unfold ok32; omega)]
      refine v_goto (tgt := 3) dX12_put_46 (by decide) ?_
      rw [bS_1 c14_2] at nx
      rw [i2b_s8, show iand (ishr p k) 255 = byt p k from rfl, fset_s8]
      exact nx
    · refine v_goto (tgt := 43) dX12_put_17 (by decide) ?_
      refine v_iinc_2 dX12_put_43 (by decide) rfl ?_
      rw [iadd_eq (x := k) (y := (-8)) (by unfold ok32; omega)]
      refine v_goto (tgt := 3) dX12_put_46 (by decide) ?_
      rw [bS_0 c14_2] at nx
      exact nx

set_option maxHeartbeats 4000000 in
set_option maxRecDepth 100000 in
theorem s_rput {l : Launch} {G : GG} {d : Nat} {h : AH} {Q : Option AV → List Kd → AH → Prop} {s : RL2} {p : Int} (hd : 1 ≤ d) (h0 : 0 ≤ s.2) (h1 : s.2 + bI p ≤ 200) (hq : Q none K0 (ptr h (b4 p s))) : Sp l G mX12_put d 0 0 K0 [(2, 116), (0, p)] (ptr h s) Q := by
  refine sp_of (L := [(2, 116), (0, p), (9, 0)]) pl_X12 (Nat.le_of_ble_eq_true rfl) (tg_c (by decide) (tg_c (by decide) tg_0)) rfl ?_
  refine v_bipush dX12_put_0 (c32 rfl) (by decide) ?_
  refine v_istore_n_2 dX12_put_2 (by decide) rfl ?_
  have y1 := @bY_r p 24
  have y2 := @bY_r p 16
  have y3 := @bY_r p 8
  have y4 := @bY_r p 0
  unfold bI at h1
  have n1 := @bS_n p 24 s
  have n2 := @bS_n p 16 (bS (byt p 24) s)
  have n3 := @bS_n p 8 (bS (byt p 16) (bS (byt p 24) s))
  refine st_rput (by omega) (Or.inl rfl) (by omega) (by omega) ?_
  rw [show (24 + -8 : Int) = 16 by decide]
  refine st_rput (by omega) (Or.inr (Or.inl rfl)) (by omega) (by omega) ?_
  rw [show (16 + -8 : Int) = 8 by decide]
  refine st_rput (by omega) (Or.inr (Or.inr (Or.inl rfl))) (by omega) (by omega) ?_
  rw [show (8 + -8 : Int) = 0 by decide]
  refine st_rput (by omega) (Or.inr (Or.inr (Or.inr rfl))) (by omega) (by omega) ?_
  rw [show (0 + -8 : Int) = -8 by decide]
  refine v_iload_n dX12_put_3 rfl ?_
  refine v_if_lt_t (tgt := 49) dX12_put_4 (by decide) (by decide) ?_
  refine v_vret dX12_put_49 rfl (Nat.le_refl _) (Nat.le_refl _) ?_
  exact hq

set_option maxHeartbeats 4000000 in
set_option maxRecDepth 100000 in
theorem s_rfeed {l : Launch} {G : GG} {d : Nat} {h : AH} {Q : Option AV → List Kd → AH → Prop} {a b c e f : Int} {u : Int → Int} (hd : 2 ≤ d) (hn : 0 ≤ h 116 16 ∧ h 116 16 ≤ 200) (hu : h 127 = fun i => s8 (u i)) (q0 : 200 < h 116 16 + bI a + bI b + bI c + bI e + bI f → Q (some (0, -1)) K0 (hset h 116 0 0)) (q1 : h 116 16 + bI a + bI b + bI c + bI e + bI f ≤ 200 → Q (some (0, ((b4 f (b4 e (b4 c (b4 b (b4 a (u, h 116 16))))))).2)) K0 (ptr (hset h 116 0 0) (b4 f (b4 e (b4 c (b4 b (b4 a (u, h 116 16)))))))) : Sp l G mX12_feed d 0 0 K0 [(2, 116), (0, a), (0, b), (0, c), (0, e), (0, f)] h Q := by
  have r1 := @bI_r a
  have r2 := @bI_r b
  have r3 := @bI_r c
  have r4 := @bI_r e
  have r5 := @bI_r f
  refine sp_of (L := [(2, 116), (0, a), (0, b), (0, c), (0, e), (0, f)]) pl_X12 (Nat.le_of_ble_eq_true rfl) (tg_c (by decide) (tg_c (by decide) (tg_c (by decide) (tg_c (by decide) (tg_c (by decide) (tg_c (by decide) tg_0)))))) rfl ?_
  refine v_aload_n dX12_feed_0 rfl ?_
  refine v_iconst dX12_feed_1 (c32 rfl) ?_
  refine v_puti (ci := 12) (j := 0) (ji := 0) dX12_feed_2 k_1416 (by decide) kk_116 (by decide) rfl rfl rfl ?_
  refine v_aload_n dX12_feed_5 rfl ?_
  refine v_getv (ci := 12) (j := 16) (ji := 16) (tg := 0) dX12_feed_6 k_1432 (by decide) kk_116 (by decide) rfl rfl (by decide) (hset_j (by decide)) ?_
  refine v_iload_n dX12_feed_9 rfl ?_
  refine v_calls (M' := mX12_bytesIn) (d' := d - 1) (mc' := 0) (ms' := 0) (As := [_]) dX12_feed_10 k_1732 cm_X12_bytesIn (by omega) (Nat.le_of_ble_eq_true rfl) rfl ⟨Nat.le_refl _, Nat.le_refl _⟩ ?_
  refine s_bytesIn (by omega) ?_
  dsimp only [Option.toList, List.cons_append, List.nil_append, Nat.add_zero]
  refine v_iaddE dX12_feed_13 (by omega) ?_
  refine v_iload_n dX12_feed_14 rfl ?_
  refine v_calls (M' := mX12_bytesIn) (d' := d - 1) (mc' := 0) (ms' := 0) (As := [_]) dX12_feed_15 k_1732 cm_X12_bytesIn (by omega) (Nat.le_of_ble_eq_true rfl) rfl ⟨Nat.le_refl _, Nat.le_refl _⟩ ?_
  refine s_bytesIn (by omega) ?_
  dsimp only [Option.toList, List.cons_append, List.nil_append, Nat.add_zero]
  refine v_iaddE dX12_feed_18 (by omega) ?_
  refine v_iload_n dX12_feed_19 rfl ?_
  refine v_calls (M' := mX12_bytesIn) (d' := d - 1) (mc' := 0) (ms' := 0) (As := [_]) dX12_feed_20 k_1732 cm_X12_bytesIn (by omega) (Nat.le_of_ble_eq_true rfl) rfl ⟨Nat.le_refl _, Nat.le_refl _⟩ ?_
  refine s_bytesIn (by omega) ?_
  dsimp only [Option.toList, List.cons_append, List.nil_append, Nat.add_zero]
  refine v_iaddE dX12_feed_23 (by omega) ?_
  refine v_iload dX12_feed_24 rfl ?_
  refine v_calls (M' := mX12_bytesIn) (d' := d - 1) (mc' := 0) (ms' := 0) (As := [_]) dX12_feed_26 k_1732 cm_X12_bytesIn (by omega) (Nat.le_of_ble_eq_true rfl) rfl ⟨Nat.le_refl _, Nat.le_refl _⟩ ?_
  refine s_bytesIn (by omega) ?_
  dsimp only [Option.toList, List.cons_append, List.nil_append, Nat.add_zero]
  refine v_iaddE dX12_feed_29 (by omega) ?_
  refine v_iload dX12_feed_30 rfl ?_
  refine v_calls (M' := mX12_bytesIn) (d' := d - 1) (mc' := 0) (ms' := 0) (As := [_]) dX12_feed_32 k_1732 cm_X12_bytesIn (by omega) (Nat.le_of_ble_eq_true rfl) rfl ⟨Nat.le_refl _, Nat.le_refl _⟩ ?_
  refine s_bytesIn (by omega) ?_
  dsimp only [Option.toList, List.cons_append, List.nil_append, Nat.add_zero]
  refine v_iaddE dX12_feed_35 (by omega) ?_
  refine v_sipush dX12_feed_36 (c32 rfl) (by decide) ?_
  refine v_icmp_le (tgt := 44) dX12_feed_39 (by decide) (fun c39_1 => ?_) (fun c39_1 => ?_)
  · have r1 := @bI_r a
    have r2 := @bI_r b
    have r3 := @bI_r c
    have r4 := @bI_r e
    have r5 := @bI_r f
    have g1 := @b4_n a (u, h 116 16)
    have g2 := @b4_n b (b4 a (u, h 116 16))
    have g3 := @b4_n c (b4 b (b4 a (u, h 116 16)))
    have g4 := @b4_n e (b4 c (b4 b (b4 a (u, h 116 16))))
    have g0 : ((u, h 116 16) : RL2).2 = h 116 16 := rfl
    have em := ptr_mk (h := (hset h 116 0 0)) (u := u) (by rw [hset_r (by decide)]; exact hu)
    rw [hset_j (by decide)] at em
    refine V_cast em.symm ?_
    refine v_aload_n dX12_feed_44 rfl ?_
    refine v_iload_n dX12_feed_45 rfl ?_
    refine v_callv (M' := mX12_put) (d' := d - 1) (mc' := 0) (ms' := 0) (ci := 12) (c := 116) (As := [_]) dX12_feed_46 k_1735 cm_X12_put rfl (by omega) (by decide) kk_116 (Nat.le_of_ble_eq_true rfl) rfl ⟨Nat.le_refl _, Nat.le_refl _⟩ ?_
    refine s_rput (by omega) (by first | omega | (simp only [b4_n]; omega)) (by first | omega | (simp only [b4_n]; omega)) ?_
    dsimp only [Option.toList, List.cons_append, List.nil_append, Nat.add_zero]
    refine v_aload_n dX12_feed_49 rfl ?_
    refine v_iload_n dX12_feed_50 rfl ?_
    refine v_callv (M' := mX12_put) (d' := d - 1) (mc' := 0) (ms' := 0) (ci := 12) (c := 116) (As := [_]) dX12_feed_51 k_1735 cm_X12_put rfl (by omega) (by decide) kk_116 (Nat.le_of_ble_eq_true rfl) rfl ⟨Nat.le_refl _, Nat.le_refl _⟩ ?_
    refine s_rput (by omega) (by first | omega | (simp only [b4_n]; omega)) (by first | omega | (simp only [b4_n]; omega)) ?_
    dsimp only [Option.toList, List.cons_append, List.nil_append, Nat.add_zero]
    refine v_aload_n dX12_feed_54 rfl ?_
    refine v_iload_n dX12_feed_55 rfl ?_
    refine v_callv (M' := mX12_put) (d' := d - 1) (mc' := 0) (ms' := 0) (ci := 12) (c := 116) (As := [_]) dX12_feed_56 k_1735 cm_X12_put rfl (by omega) (by decide) kk_116 (Nat.le_of_ble_eq_true rfl) rfl ⟨Nat.le_refl _, Nat.le_refl _⟩ ?_
    refine s_rput (by omega) (by first | omega | (simp only [b4_n]; omega)) (by first | omega | (simp only [b4_n]; omega)) ?_
    dsimp only [Option.toList, List.cons_append, List.nil_append, Nat.add_zero]
    refine v_aload_n dX12_feed_59 rfl ?_
    refine v_iload dX12_feed_60 rfl ?_
    refine v_callv (M' := mX12_put) (d' := d - 1) (mc' := 0) (ms' := 0) (ci := 12) (c := 116) (As := [_]) dX12_feed_62 k_1735 cm_X12_put rfl (by omega) (by decide) kk_116 (Nat.le_of_ble_eq_true rfl) rfl ⟨Nat.le_refl _, Nat.le_refl _⟩ ?_
    refine s_rput (by omega) (by first | omega | (simp only [b4_n]; omega)) (by first | omega | (simp only [b4_n]; omega)) ?_
    dsimp only [Option.toList, List.cons_append, List.nil_append, Nat.add_zero]
    refine v_aload_n dX12_feed_65 rfl ?_
    refine v_iload dX12_feed_66 rfl ?_
    refine v_callv (M' := mX12_put) (d' := d - 1) (mc' := 0) (ms' := 0) (ci := 12) (c := 116) (As := [_]) dX12_feed_68 k_1735 cm_X12_put rfl (by omega) (by decide) kk_116 (Nat.le_of_ble_eq_true rfl) rfl ⟨Nat.le_refl _, Nat.le_refl _⟩ ?_
    refine s_rput (by omega) (by first | omega | (simp only [b4_n]; omega)) (by first | omega | (simp only [b4_n]; omega)) ?_
    dsimp only [Option.toList, List.cons_append, List.nil_append, Nat.add_zero]
    have hq9 := q1 (by omega)
    refine v_aload_n dX12_feed_71 rfl ?_
    refine v_getv (ci := 12) (j := 16) (ji := 16) (tg := 0) dX12_feed_72 k_1432 (by decide) kk_116 (by decide) rfl rfl (by decide) (show ptr (hset h 116 0 0) (b4 f (b4 e (b4 c (b4 b (b4 a (u, h 116 16)))))) 116 16 = ((b4 f (b4 e (b4 c (b4 b (b4 a (u, h 116 16))))))).2 from by unfold ptr; rw [ov1_c (by decide), hset_same]) ?_
    refine v_ireti dX12_feed_75 rfl (Nat.le_refl _) (Nat.le_refl _) ?_
    exact hq9
  · refine v_iconst dX12_feed_42 (c32 rfl) ?_
    refine v_ireti dX12_feed_43 rfl (Nat.le_refl _) (Nat.le_refl _) ?_
    exact q0 (by omega)

