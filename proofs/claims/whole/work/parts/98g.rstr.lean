/-! ===== words struck: the reference (written by wip/whole/p73.py) ===== -/
theorem ishl_12 : ∀ i : Fin 13, ishl 1 (i.val : Int) = ((2 ^ i.val : Nat) : Int) := by decide +kernel
theorem ishl_n {n : Int} (h0 : 0 ≤ n) (h1 : n ≤ 12) : ishl 1 n = ((2 ^ n.toNat : Nat) : Int) ∧ 1 ≤ ishl 1 n ∧ ishl 1 n ≤ 4096 := by
  have e := ishl_12 ⟨n.toNat, by omega⟩
  dsimp only at e
  rw [show ((n.toNat : Nat) : Int) = n by omega] at e
  have h2 : 2 ^ n.toNat ≤ 2 ^ 12 := Nat.pow_le_pow_right (by decide) (by omega)
  have h3 : 0 < 2 ^ n.toNat := Nat.two_pow_pos _
  rw [e]
  exact ⟨rfl, by omega, by omega⟩
/-- what word i says, if set m doesn't strike it -/
def uS (h : AH) (b m i : Int) : Int := if iand (ishr m i) 1 ≠ 0 then 0 else wdW h b i
/-- set m is enough -/
abbrev feS (h : AH) (b m : Int) : Prop := sm (uS h b m) (wdN h b) ≤ h 132 b
theorem bcI_r {m : Int} (h0 : 0 ≤ m) (h1 : m < 4096) : 0 ≤ bcI m ∧ bcI m ≤ 12 := by
  have e := bc_n (n := 12) (m := m.toNat) (Nat.le_refl _) (by omega)
  rw [show ((m.toNat : Nat) : Int) = m by omega] at e
  have f := wCn_f (n := 12) (c := fun i => m.toNat.testBit i) (r := 12) (Nat.le_refl _)
  have g := pkC_r (c := fun i : Int => m.toNat.testBit i.toNat = true) (k := ((12 : Nat) : Int)) (by decide)
  have g2 : pkC (fun i : Int => (fun i => m.toNat.testBit i) i.toNat = true) ((12 - 12 : Nat) : Int) = 0 := rfl
  rw [g2] at f
  have f2 : ((wCn 12 (fun i => m.toNat.testBit i) 12 : Nat) : Int) + 0 = pkC (fun i : Int => m.toNat.testBit i.toNat = true) ((12 : Nat) : Int) := f
  omega
theorem fb_rng {fe : Int → Prop} [DecidablePred fe] : ∀ M : Nat, fupI (fbS fe) (-1) (M : Int) = -1 ∨ (0 ≤ fupI (fbS fe) (-1) (M : Int) ∧ fupI (fbS fe) (-1) (M : Int) < (M : Int)) := by
  intro M
  induction M with
  | zero => exact Or.inl rfl
  | succ M ih =>
    rw [show ((M + 1 : Nat) : Int) = (M : Int) + 1 by omega, fupI_s (by omega)]
    unfold fbS
    unfold fbS at ih
    split
    · split
      · exact Or.inr ⟨by omega, by omega⟩
      · rcases ih with q | q
        · exact Or.inl q
        · exact Or.inr ⟨q.1, by omega⟩
    · rcases ih with q | q
      · exact Or.inl q
      · exact Or.inr ⟨q.1, by omega⟩
theorem fb_rI {fe : Int → Prop} [DecidablePred fe] {m : Int} (h0 : 0 ≤ m) : fupI (fbS fe) (-1) m = -1 ∨ (0 ≤ fupI (fbS fe) (-1) m ∧ fupI (fbS fe) (-1) m < m) := by
  have e := @fb_rng fe _ m.toNat
  rw [show ((m.toNat : Nat) : Int) = m by omega] at e
  exact e
section UFS
variable {h : AH} {b : Int} {cs : Int → List (Int × List Int)}
theorem uS_r (I : CI h cs) {m : Int} : ∀ i, 0 ≤ i → i < wdN h b → 0 ≤ uS h b m i ∧ uS h b m i ≤ 10000 := fun i h0 h1 => by
  have := wdW_r I h0 h1
  unfold uS
  split <;> omega
theorem fe_n (I : CI h cs) (hn : wdN h b ≤ 12) : ∀ m : Nat, m < 2 ^ (wdN h b).toNat → (feS h b (m : Int) ↔ wdE h b ≤ wSu (wdV h b) (wdN h b).toNat (fun i => m.testBit i) (wdN h b).toNat) := by
  intro m hm
  have n0 := (wdN_0 (b := b) I).1
  have h2 : 2 ^ (wdN h b).toNat ≤ 2 ^ 12 := Nat.pow_le_pow_right (by decide) (by omega)
  have e1 : sm (uS h b (m : Int)) (wdN h b) = sm (fun i => if m.testBit i.toNat then 0 else wdV h b i.toNat) (wdN h b) := sm_congr fun i i0 i1 => by
    have q := bt_n (m := m) (i := i.toNat) (by omega) (by omega)
    rw [show ((i.toNat : Nat) : Int) = i by omega] at q
    unfold uS
    rw [q, wdV_W i0]
    cases m.testBit i.toNat <;> rfl
  have e2 := @wSu_x (wdV h b) (wdN h b).toNat (fun i => m.testBit i)
  rw [show (((wdN h b).toNat : Nat) : Int) = wdN h b by omega, ← wdS_e] at e2
  have e3 : sm (uS h b (m : Int)) (wdN h b) = sm (fun i => wdW h b i) (wdN h b) - wSu (wdV h b) (wdN h b).toNat (fun i => m.testBit i) (wdN h b).toNat := e1.trans e2
  unfold feS wdE
  omega
theorem fb_w (I : CI h cs) (hn : wdN h b ≤ 12) (hb : 0 ≤ b ∧ b < h 116 45) : fupI (fbS (feS h b)) (-1) (ishl 1 (wdN h b)) = (gmN (wdG h b) (wdN h b).toNat : Int) := by
  have n0 := (wdN_0 (b := b) I).1
  have er := wdE_r I hn hb
  rw [(ishl_n n0 hn).1]
  exact wbest (by omega) (wdV_r I) (fe_n I hn) wdK_l (wdK_2 I hb) (fun k hk => wdK_1 hk) (by omega)
theorem gm_b (I : CI h cs) (hn : wdN h b ≤ 12) {j : Int} (h0 : 0 ≤ j) (h1 : j < wdN h b) : iand (ishr (gmN (wdG h b) (wdN h b).toNat : Int) j) 1 = if wdC h b j then 1 else 0 := by
  have l := @gmN_lt (wdG h b) (wdN h b).toNat
  have h2 : 2 ^ (wdN h b).toNat ≤ 2 ^ 12 := Nat.pow_le_pow_right (by decide) (by omega)
  have q := bt_n (m := gmN (wdG h b) (wdN h b).toNat) (i := j.toNat) (by omega) (by omega)
  rw [show ((j.toNat : Nat) : Int) = j by omega, gmN_b (by omega)] at q
  exact q
theorem gm_c (I : CI h cs) (hn : wdN h b ≤ 12) (hb : 0 ≤ b ∧ b < h 116 45) : bcI (gmN (wdG h b) (wdN h b).toNat : Int) = (wdK h b : Int) := by
  have n0 := (wdN_0 (b := b) I).1
  have er := wdE_r I hn hb
  rw [bc_n (by omega) gmN_lt, wCn_c (Nat.le_refl _) (fun i _ i1 => gmN_b (c := wdG h b) i1)]
  have g := (wGr_ok (wdV_r I (b := b)) (r := (wdN h b).toNat) (k := wdK h b) (e := wdE h b) (Nat.le_refl _) wdK_l (wdK_2 I hb) (by omega) (by omega)).1
  have g2 : wCn (wdN h b).toNat (wdG h b) (wdN h b).toNat = wdK h b := g
  rw [g2]
end UFS
/-- what the reference's list holds -/
def WR (h : AH) (b : Int) (F : AH) : Prop := F 116 89 = wdN h b ∧ ∀ i, 0 ≤ i → i < wdN h b → F 176 i = wdQ h b i
theorem WR_s {h F : AH} {b c j x : Int} (a : WR h b F) (q : c = 116 ∧ j ≠ 89) : WR h b (hset F c j x) := ⟨(hset_ne F (by omega)).trans a.1, fun i i0 i1 => (hset_ne F (by omega)).trans (a.2 i i0 i1)⟩

set_option maxHeartbeats 4000000 in
set_option maxRecDepth 100000 in
theorem lp_rsA {l : Launch} {G : GG} {d : Nat} {h : AH} {Q : Option AV → List Kd → AH → Prop} {cs : Int → List (Int × List Int)} {z O Lr : Int → Int} {b : Int} (hd : 1 ≤ d) (I : CI h cs) (q0 : 12 < wdN h b → ∀ F, Q (some (0, 0)) K0 (jst (kst h F) z O Lr)) (q1 : wdN h b ≤ 12 → ∀ F, WR h b F → V l G mX12_strikes d 0 0 0 0 K0 80 [(2, 116), (0, b), (9, 0), (9, 0), (9, 0), (9, 0)] [] (jst (kst h F) z O Lr) Q) : ∀ k, 0 ≤ k → k ≤ h 116 88 → ∀ F : AH, F 116 89 = wqN h b k → AQ h b k (F 176) → wqN h b k ≤ 12 → V l G mX12_strikes d 0 0 0 0 K0 22 [(2, 116), (0, b), (0, k), (9, 0), (9, 0), (9, 0)] [] (jst (kst h F) z O Lr) Q := by
  have w8 := I.wo.1
  refine loop_m3 (fun k hk hkN ih F hc ha h12 => ?_)
  refine v_iload_n dX12_strikes_22 rfl ?_
  refine v_aload_n dX12_strikes_23 rfl ?_
  refine v_getv (ci := 12) (j := 88) (ji := 88) (tg := 0) dX12_strikes_24 k_1504 (by decide) kk_116 (by decide) rfl rfl (by decide) ((jst_j (by decide)).trans (kst_c (by decide))) ?_
  refine v_icmp_ge (tgt := 80) dX12_strikes_27 (by decide) (fun c27_1 => ?_) (fun c27_1 => ?_)
  · obtain rfl : k = h 116 88 := by omega
    refine v_loc (lo_k (lo_k (lo_d (lo_d (lo_d (lo_d lo_nil)))))) ?_
    exact q1 h12 _ ⟨hc, fun i i0 i1 => wdQ_A I ha i0 i1⟩
  · have w9 := I.wo
    have n9 := wqN_r (h := h) (b := b) hk
    refine v_aload_n dX12_strikes_30 rfl ?_
    refine v_getr (ci := 12) (j := 85) (ji := 85) (z := 174) dX12_strikes_31 k_1501 (by decide) kk_116 (by decide) rfl rfl (fun r => rt_116_85 (r rfl)) (by decide) ?_
    refine v_iload_n dX12_strikes_34 rfl ?_
    refine v_ialoadv dX12_strikes_35 (by decide) kk_174 (by omega) (by omega) ((jst_c (by decide)).trans (kst_n (by decide))) ?_
    refine v_iload_n dX12_strikes_36 rfl ?_
    refine v_icmp_eq (tgt := 43) dX12_strikes_37 (by decide) (fun c37_2 => ?_) (fun c37_2 => ?_)
    · refine v_aload_n dX12_strikes_43 rfl ?_
      refine v_getv (ci := 12) (j := 89) (ji := 89) (tg := 0) dX12_strikes_44 k_1505 (by decide) kk_116 (by decide) rfl rfl (by decide) ((jst_j (by decide)).trans ((kst_s (by decide)).trans (hc))) ?_
      refine v_bipush dX12_strikes_47 (c32 rfl) (by decide) ?_
      refine v_icmp_ne (tgt := 54) dX12_strikes_49 (by decide) (fun c49_3 => ?_) (fun c49_3 => ?_)
      · refine v_aload_n dX12_strikes_54 rfl ?_
        refine v_getr (ci := 12) (j := 87) (ji := 87) (z := 176) dX12_strikes_55 k_1503 (by decide) kk_116 (by decide) rfl rfl (fun r => rt_116_87 (r rfl)) (by decide) ?_
        refine v_aload_n dX12_strikes_58 rfl ?_
        refine v_getv (ci := 12) (j := 89) (ji := 89) (tg := 0) dX12_strikes_59 k_1505 (by decide) kk_116 (by decide) rfl rfl (by decide) ((jst_j (by decide)).trans ((kst_s (by decide)).trans (hc))) ?_
        refine v_iload_n dX12_strikes_62 rfl ?_
        refine v_iastore dX12_strikes_63 (by decide) kk_176 (by omega) (by omega) ?_
        rw [jst_wc (by decide), kst_wm (by decide)]
        refine v_aload_n dX12_strikes_64 rfl ?_
        refine v_dup dX12_strikes_65 rfl ?_
        refine v_getv (ci := 12) (j := 89) (ji := 89) (tg := 0) dX12_strikes_66 k_1505 (by decide) kk_116 (by decide) rfl rfl (by decide) ((jst_j (by decide)).trans ((kst_s (by decide)).trans ((hset_c (by decide)).trans (hc)))) ?_
        refine v_iconst dX12_strikes_69 (c32 rfl) ?_
        refine v_iaddE dX12_strikes_70 (by omega) ?_
        refine v_puti (ci := 12) (j := 89) (ji := 89) dX12_strikes_71 k_1505 (by decide) kk_116 (by decide) rfl rfl rfl ?_
        rw [jst_wj (by decide), kst_w (by decide)]
        refine v_iinc_2 dX12_strikes_74 (by decide) rfl ?_
        rw [iadd_eq (x := k) (y := 1) (by unfold ok32; omega)]
        refine v_goto (tgt := 22) dX12_strikes_77 (by decide) ?_
        exact ih (by omega) _ (by rw [hset_same, wqN_1 hk c37_2]) (by rw [hset_r (by decide), hset_f]; exact AQ_1 ha) (by rw [wqN_1 hk c37_2]; omega)
      · refine v_iconst dX12_strikes_52 (c32 rfl) ?_
        refine v_iretz dX12_strikes_53 rfl (by decide) (Nat.le_refl _) (Nat.le_refl _) ?_
        have m1 := wqN_1 hk c37_2
        have m2 := wqN_le (h := h) (b := b) (a := k + 1) (k := h 116 88) (by omega) (by omega)
        exact q0 (by unfold wdN; omega) _
    · refine v_goto (tgt := 74) dX12_strikes_40 (by decide) ?_
      refine v_iinc_2 dX12_strikes_74 (by decide) rfl ?_
      rw [iadd_eq (x := k) (y := 1) (by unfold ok32; omega)]
      refine v_goto (tgt := 22) dX12_strikes_77 (by decide) ?_
      exact ih (by omega) _ (by rw [wqN_0 hk c37_2]; exact hc) (AQ_0 ha c37_2) (by rw [wqN_0 hk c37_2]; exact h12)

set_option maxHeartbeats 4000000 in
set_option maxRecDepth 100000 in
theorem lp_rsC {l : Launch} {G : GG} {d : Nat} {h : AH} {Q : Option AV → List Kd → AH → Prop} {cs : Int → List (Int × List Int)} {z O Lr : Int → Int} {b : Int} {F : AH} {m : Int} (hd : 1 ≤ d) (I : CI h cs) (h12 : wdN h b ≤ 12) (hR : WR h b F) (hq : V l G mX12_strikes d 0 0 0 0 K0 145 [(2, 116), (0, b), (0, m), (0, sm (uS h b m) (wdN h b)), (0, wdN h b), (9, 0)] [] (jst (kst h F) z O Lr) Q) : ∀ j, 0 ≤ j → j ≤ wdN h b → V l G mX12_strikes d 0 0 0 0 K0 102 [(2, 116), (0, b), (0, m), (0, (sm (uS h b m) j)), (0, j), (9, 0)] [] (jst (kst h F) z O Lr) Q := by
  refine loop_m3 (fun j hj hjN ih => ?_)
  refine v_iload dX12_strikes_102 rfl ?_
  refine v_aload_n dX12_strikes_104 rfl ?_
  refine v_getv (ci := 12) (j := 89) (ji := 89) (tg := 0) dX12_strikes_105 k_1505 (by decide) kk_116 (by decide) rfl rfl (by decide) ((jst_j (by decide)).trans ((kst_s (by decide)).trans (hR.1))) ?_
  refine v_icmp_ge (tgt := 145) dX12_strikes_108 (by decide) (fun c108_1 => ?_) (fun c108_1 => ?_)
  · obtain rfl : j = wdN h b := by omega
    exact hq
  · have q8 := wdQ_r I (b := b) (i := j) (by omega) (by omega)
    have v8 := I.wo.2 _ q8.1 q8.2
    have w8 := I.wo.1
    have m8 := sm_rng (uS_r (b := b) I (m := m)) j hj hjN
    refine v_iload_n dX12_strikes_111 rfl ?_
    refine v_iload_n dX12_strikes_112 rfl ?_
    refine v_iload dX12_strikes_113 rfl ?_
    refine v_ishr dX12_strikes_115 ?_
    refine v_iconst dX12_strikes_116 (c32 rfl) ?_
    refine v_iand dX12_strikes_117 ?_
    refine v_if_ne (tgt := 136) dX12_strikes_118 (by decide) (fun c118_2 => ?_) (fun c118_2 => ?_)
    · refine v_iconst dX12_strikes_136 (c32 rfl) ?_
      refine v_iaddE dX12_strikes_137 (by omega) ?_
      refine v_istore_n_3 dX12_strikes_138 (by decide) rfl ?_
      refine v_iinc_4 dX12_strikes_139 (by decide) rfl ?_
      rw [iadd_eq (x := j) (y := 1) (by unfold ok32; omega)]
      refine v_goto (tgt := 102) dX12_strikes_142 (by decide) ?_
      rw [show (sm (uS h b m) j) + 0 = sm (uS h b m) (j + 1) by
        rw [sm_s hj]
        unfold uS
        rw [if_pos c118_2]]
      exact ih (by omega)
    · refine v_aload_n dX12_strikes_121 rfl ?_
      refine v_getr (ci := 12) (j := 86) (ji := 86) (z := 175) dX12_strikes_122 k_1502 (by decide) kk_116 (by decide) rfl rfl (fun r => rt_116_86 (r rfl)) (by decide) ?_
      refine v_aload_n dX12_strikes_125 rfl ?_
      refine v_getr (ci := 12) (j := 87) (ji := 87) (z := 176) dX12_strikes_126 k_1503 (by decide) kk_116 (by decide) rfl rfl (fun r => rt_116_87 (r rfl)) (by decide) ?_
      refine v_iload dX12_strikes_129 rfl ?_
      refine v_ialoadv dX12_strikes_131 (by decide) kk_176 (by omega) (by omega) ((jst_c (by decide)).trans ((kst_m (by decide)).trans ((hR.2 j (by omega) (by omega))))) ?_
      refine v_ialoadv dX12_strikes_132 (by decide) kk_175 (by omega) (by omega) ((jst_c (by decide)).trans (kst_n (by decide))) ?_
      refine v_goto (tgt := 137) dX12_strikes_133 (by decide) ?_
      refine v_iaddE dX12_strikes_137 (by omega) ?_
      refine v_istore_n_3 dX12_strikes_138 (by decide) rfl ?_
      refine v_iinc_4 dX12_strikes_139 (by decide) rfl ?_
      rw [iadd_eq (x := j) (y := 1) (by unfold ok32; omega)]
      refine v_goto (tgt := 102) dX12_strikes_142 (by decide) ?_
      rw [show (sm (uS h b m) j) + h 175 (wdQ h b j) = sm (uS h b m) (j + 1) by
        rw [sm_s hj]
        unfold uS
        rw [if_neg (by omega)]]
      exact ih (by omega)

set_option maxHeartbeats 4000000 in
set_option maxRecDepth 100000 in
theorem lp_rsB {l : Launch} {G : GG} {d : Nat} {h : AH} {Q : Option AV → List Kd → AH → Prop} {cs : Int → List (Int × List Int)} {z O Lr : Int → Int} {b : Int} (hd : 2 ≤ d) (I : CI h cs) (h12 : wdN h b ≤ 12) (hb : 0 ≤ b ∧ b < h 116 45) (hq : ∀ F, WR h b F → F 116 90 = (gmN (wdG h b) (wdN h b).toNat : Int) → Q (some (0, 1)) K0 (jst (kst h F) z O Lr)) : ∀ m, 0 ≤ m → m ≤ ishl 1 (wdN h b) → ∀ F : AH, WR h b F → F 116 90 = (fupI (fbS (feS h b)) (-1) m) → V l G mX12_strikes d 0 0 0 0 K0 87 [(2, 116), (0, b), (0, m), (9, 0), (9, 0), (9, 0)] [] (jst (kst h F) z O Lr) Q := by
  have n0 := (wdN_0 (b := b) I).1
  have nl := (ishl_n n0 h12).2
  have w7 := I.W.nb
  refine loop_m3 (fun m hm hmN ih F hR hB => ?_)
  refine v_iload_n dX12_strikes_87 rfl ?_
  refine v_iconst dX12_strikes_88 (c32 rfl) ?_
  refine v_aload_n dX12_strikes_89 rfl ?_
  refine v_getv (ci := 12) (j := 89) (ji := 89) (tg := 0) dX12_strikes_90 k_1505 (by decide) kk_116 (by decide) rfl rfl (by decide) ((jst_j (by decide)).trans ((kst_s (by decide)).trans (hR.1))) ?_
  refine v_ishl dX12_strikes_93 ?_
  refine v_icmp_ge (tgt := 240) dX12_strikes_94 (by decide) (fun c94_1 => ?_) (fun c94_1 => ?_)
  · refine v_iconst dX12_strikes_240 (c32 rfl) ?_
    refine v_iretz dX12_strikes_241 rfl (by decide) (Nat.le_refl _) (Nat.le_refl _) ?_
    obtain rfl : m = ishl 1 (wdN h b) := by omega
    exact hq _ hR (hB.trans (fb_w I h12 hb))
  · refine v_iconst dX12_strikes_97 (c32 rfl) ?_
    refine v_istore_n_3 dX12_strikes_98 (by decide) rfl ?_
    refine v_iconst dX12_strikes_99 (c32 rfl) ?_
    refine v_istore_4 dX12_strikes_100 (by decide) rfl ?_
    refine lp_rsC (m := m) (by omega) I h12 hR ?_ 0 (Int.le_refl _) n0
    refine v_loc (lo_k (lo_k (lo_k (lo_k (lo_d (lo_d lo_nil)))))) ?_
    refine v_iload_n dX12_strikes_145 rfl ?_
    refine v_aload_n dX12_strikes_146 rfl ?_
    refine v_getr (ci := 12) (j := 29) (ji := 29) (z := 132) dX12_strikes_147 k_1445 (by decide) kk_116 (by decide) rfl rfl (fun r => rt_116_29 (r rfl)) (by decide) ?_
    refine v_iload_n dX12_strikes_150 rfl ?_
    refine v_ialoadv dX12_strikes_151 (by decide) kk_132 (by omega) (by omega) ((jst_c (by decide)).trans (kst_n (by decide))) ?_
    refine v_icmp_le (tgt := 158) dX12_strikes_152 (by decide) (fun c152_1 => ?_) (fun c152_1 => ?_)
    · have bm := bcI_r hm (by omega)
      have br := fb_rI (fe := feS h b) hm
      refine v_aload_n dX12_strikes_158 rfl ?_
      refine v_getv (ci := 12) (j := 90) (ji := 90) (tg := 0) dX12_strikes_159 k_1506 (by decide) kk_116 (by decide) rfl rfl (by decide) ((jst_j (by decide)).trans ((kst_s (by decide)).trans (hB))) ?_
      refine v_iconst dX12_strikes_162 (c32 rfl) ?_
      refine v_icmp_ne (tgt := 170) dX12_strikes_163 (by decide) (fun c163_2 => ?_) (fun c163_2 => ?_)
      · have bb := bcI_r (m := (fupI (fbS (feS h b)) (-1) m)) (by omega) (by omega)
        refine v_iload_n dX12_strikes_170 rfl ?_
        refine v_calls (M' := mJ6_bitCount_0f7a4) (d' := d - 1) (mc' := 0) (ms' := 0) (As := [_]) dX12_strikes_171 k_2063 cm_J6_bitCount_0f7a4 (by omega) (Nat.le_of_ble_eq_true rfl) rfl ⟨Nat.le_refl _, Nat.le_refl _⟩ ?_
        refine s_bitc (by omega) ?_
        dsimp only [Option.toList, List.cons_append, List.nil_append, Nat.add_zero]
        refine v_aload_n dX12_strikes_174 rfl ?_
        refine v_getv (ci := 12) (j := 90) (ji := 90) (tg := 0) dX12_strikes_175 k_1506 (by decide) kk_116 (by decide) rfl rfl (by decide) ((jst_j (by decide)).trans ((kst_s (by decide)).trans (hB))) ?_
        refine v_calls (M' := mJ6_bitCount_0f7a4) (d' := d - 1) (mc' := 0) (ms' := 0) (As := [_]) dX12_strikes_178 k_2063 cm_J6_bitCount_0f7a4 (by omega) (Nat.le_of_ble_eq_true rfl) rfl ⟨Nat.le_refl _, Nat.le_refl _⟩ ?_
        refine s_bitc (by omega) ?_
        dsimp only [Option.toList, List.cons_append, List.nil_append, Nat.add_zero]
        refine v_isubE dX12_strikes_181 (by omega) ?_
        refine v_istore_4 dX12_strikes_182 (by decide) rfl ?_
        refine v_aload_n dX12_strikes_184 rfl ?_
        refine v_getv (ci := 12) (j := 90) (ji := 90) (tg := 0) dX12_strikes_185 k_1506 (by decide) kk_116 (by decide) rfl rfl (by decide) ((jst_j (by decide)).trans ((kst_s (by decide)).trans (hB))) ?_
        refine v_iconst dX12_strikes_188 (c32 rfl) ?_
        refine v_icmp_ne_t (tgt := 196) dX12_strikes_189 (by decide) (by omega) ?_
        refine v_iload_n dX12_strikes_196 rfl ?_
        refine v_aload_n dX12_strikes_197 rfl ?_
        refine v_getv (ci := 12) (j := 90) (ji := 90) (tg := 0) dX12_strikes_198 k_1506 (by decide) kk_116 (by decide) rfl rfl (by decide) ((jst_j (by decide)).trans ((kst_s (by decide)).trans (hB))) ?_
        refine v_ixor dX12_strikes_201 ?_
        refine v_iload_n dX12_strikes_202 rfl ?_
        refine v_aload_n dX12_strikes_203 rfl ?_
        refine v_getv (ci := 12) (j := 90) (ji := 90) (tg := 0) dX12_strikes_204 k_1506 (by decide) kk_116 (by decide) rfl rfl (by decide) ((jst_j (by decide)).trans ((kst_s (by decide)).trans (hB))) ?_
        refine v_ixor dX12_strikes_207 ?_
        refine v_ineg dX12_strikes_208 ?_
        refine v_iand dX12_strikes_209 ?_
        refine v_istore_5 dX12_strikes_210 (by decide) rfl ?_
        refine v_iload dX12_strikes_212 rfl ?_
        refine v_if_lt (tgt := 229) dX12_strikes_214 (by decide) (fun c214_3 => ?_) (fun c214_3 => ?_)
        · refine v_aload_n dX12_strikes_229 rfl ?_
          refine v_iload_n dX12_strikes_230 rfl ?_
          refine v_puti (ci := 12) (j := 90) (ji := 90) dX12_strikes_231 k_1506 (by decide) kk_116 (by decide) rfl rfl rfl ?_
          rw [jst_wj (by decide), kst_w (by decide)]
          refine v_iinc_2 dX12_strikes_234 (by decide) rfl ?_
          rw [iadd_eq (x := m) (y := 1) (by unfold ok32; omega)]
          refine v_goto (tgt := 87) dX12_strikes_237 (by decide) ?_
          have nx := ih (by omega) (hset F 116 90 m) (WR_s hR ⟨rfl, by decide⟩) (by rw [hset_same, fupI_s hm]; exact Eq.symm ((if_pos (show feS h b m by unfold feS; omega)).trans (if_pos (by unfold bts; omega))))
          refine v_loc (lo_k (lo_k (lo_k (lo_d (lo_d (lo_d lo_nil)))))) ?_
          exact nx
        · refine v_iload dX12_strikes_217 rfl ?_
          refine v_if_ne (tgt := 234) dX12_strikes_219 (by decide) (fun c219_4 => ?_) (fun c219_4 => ?_)
          · refine v_iinc_2 dX12_strikes_234 (by decide) rfl ?_
            rw [iadd_eq (x := m) (y := 1) (by unfold ok32; omega)]
            refine v_goto (tgt := 87) dX12_strikes_237 (by decide) ?_
            have nx := ih (by omega) _ hR (by rw [fupI_s hm]; exact hB.trans (Eq.symm ((if_pos (show feS h b m by unfold feS; omega)).trans (if_neg (by unfold bts; omega)))))
            refine v_loc (lo_k (lo_k (lo_k (lo_d (lo_d (lo_d lo_nil)))))) ?_
            exact nx
          · refine v_iload_n dX12_strikes_222 rfl ?_
            refine v_iload dX12_strikes_223 rfl ?_
            refine v_iand dX12_strikes_225 ?_
            refine v_if_eq (tgt := 234) dX12_strikes_226 (by decide) (fun c226_5 => ?_) (fun c226_5 => ?_)
            · refine v_iinc_2 dX12_strikes_234 (by decide) rfl ?_
              rw [iadd_eq (x := m) (y := 1) (by unfold ok32; omega)]
              refine v_goto (tgt := 87) dX12_strikes_237 (by decide) ?_
              have nx := ih (by omega) _ hR (by rw [fupI_s hm]; exact hB.trans (Eq.symm ((if_pos (show feS h b m by unfold feS; omega)).trans (if_neg (by unfold bts; omega)))))
              refine v_loc (lo_k (lo_k (lo_k (lo_d (lo_d (lo_d lo_nil)))))) ?_
              exact nx
            · refine v_aload_n dX12_strikes_229 rfl ?_
              refine v_iload_n dX12_strikes_230 rfl ?_
              refine v_puti (ci := 12) (j := 90) (ji := 90) dX12_strikes_231 k_1506 (by decide) kk_116 (by decide) rfl rfl rfl ?_
              rw [jst_wj (by decide), kst_w (by decide)]
              refine v_iinc_2 dX12_strikes_234 (by decide) rfl ?_
              rw [iadd_eq (x := m) (y := 1) (by unfold ok32; omega)]
              refine v_goto (tgt := 87) dX12_strikes_237 (by decide) ?_
              have nx := ih (by omega) (hset F 116 90 m) (WR_s hR ⟨rfl, by decide⟩) (by rw [hset_same, fupI_s hm]; exact Eq.symm ((if_pos (show feS h b m by unfold feS; omega)).trans (if_pos (by unfold bts; omega))))
              refine v_loc (lo_k (lo_k (lo_k (lo_d (lo_d (lo_d lo_nil)))))) ?_
              exact nx
      · refine v_iconst dX12_strikes_166 (c32 rfl) ?_
        refine v_goto (tgt := 182) dX12_strikes_167 (by decide) ?_
        refine v_istore_4 dX12_strikes_182 (by decide) rfl ?_
        refine v_aload_n dX12_strikes_184 rfl ?_
        refine v_getv (ci := 12) (j := 90) (ji := 90) (tg := 0) dX12_strikes_185 k_1506 (by decide) kk_116 (by decide) rfl rfl (by decide) ((jst_j (by decide)).trans ((kst_s (by decide)).trans (hB))) ?_
        refine v_iconst dX12_strikes_188 (c32 rfl) ?_
        refine v_icmp_ne_f (tgt := 196) dX12_strikes_189 (by decide) (by omega) ?_
        refine v_iconst dX12_strikes_192 (c32 rfl) ?_
        refine v_goto (tgt := 210) dX12_strikes_193 (by decide) ?_
        refine v_istore_5 dX12_strikes_210 (by decide) rfl ?_
        refine v_iload dX12_strikes_212 rfl ?_
        refine v_if_lt_t (tgt := 229) dX12_strikes_214 (by decide) (by decide) ?_
        refine v_aload_n dX12_strikes_229 rfl ?_
        refine v_iload_n dX12_strikes_230 rfl ?_
        refine v_puti (ci := 12) (j := 90) (ji := 90) dX12_strikes_231 k_1506 (by decide) kk_116 (by decide) rfl rfl rfl ?_
        rw [jst_wj (by decide), kst_w (by decide)]
        refine v_iinc_2 dX12_strikes_234 (by decide) rfl ?_
        rw [iadd_eq (x := m) (y := 1) (by unfold ok32; omega)]
        refine v_goto (tgt := 87) dX12_strikes_237 (by decide) ?_
        have nx := ih (by omega) (hset F 116 90 m) (WR_s hR ⟨rfl, by decide⟩) (by rw [hset_same, fupI_s hm]; exact Eq.symm ((if_pos (show feS h b m by unfold feS; omega)).trans (if_pos (by unfold bts; omega))))
        refine v_loc (lo_k (lo_k (lo_k (lo_d (lo_d (lo_d lo_nil)))))) ?_
        exact nx
    · refine v_goto (tgt := 234) dX12_strikes_155 (by decide) ?_
      refine v_iinc_2 dX12_strikes_234 (by decide) rfl ?_
      rw [iadd_eq (x := m) (y := 1) (by unfold ok32; omega)]
      refine v_goto (tgt := 87) dX12_strikes_237 (by decide) ?_
      have nx := ih (by omega) _ hR (by rw [fupI_s hm]; exact hB.trans (Eq.symm (if_neg (show ¬ feS h b m by unfold feS; omega))))
      refine v_loc (lo_k (lo_k (lo_k (lo_d (lo_d (lo_d lo_nil)))))) ?_
      exact nx

set_option maxHeartbeats 4000000 in
set_option maxRecDepth 100000 in
theorem s_rstrikes {l : Launch} {G : GG} {d : Nat} {h : AH} {Q : Option AV → List Kd → AH → Prop} {cs : Int → List (Int × List Int)} {z O Lr : Int → Int} {b : Int} {F : AH} (hd : 2 ≤ d) (I : CI h cs) (q0 : ∀ F, ¬ ((0 ≤ b ∧ b < h 116 45) ∧ wdN h b ≤ 12) → Q (some (0, 0)) K0 (jst (kst h F) z O Lr)) (q1 : ∀ F, ((0 ≤ b ∧ b < h 116 45) ∧ wdN h b ≤ 12) → WR h b F → F 116 90 = (gmN (wdG h b) (wdN h b).toNat : Int) → Q (some (0, 1)) K0 (jst (kst h F) z O Lr)) : Sp l G mX12_strikes d 0 0 K0 [(2, 116), (0, b)] (jst (kst h F) z O Lr) Q := by
  refine sp_of (L := [(2, 116), (0, b), (9, 0), (9, 0), (9, 0), (9, 0)]) pl_X12 (Nat.le_of_ble_eq_true rfl) (tg_c (by decide) (tg_c (by decide) tg_0)) rfl ?_
  refine v_aload_n dX12_strikes_0 rfl ?_
  refine v_iconst dX12_strikes_1 (c32 rfl) ?_
  refine v_puti (ci := 12) (j := 0) (ji := 0) dX12_strikes_2 k_1416 (by decide) kk_116 (by decide) rfl rfl rfl ?_
  rw [jst_wj (by decide), kst_w (by decide)]
  refine v_aload_n dX12_strikes_5 rfl ?_
  refine v_iload_n dX12_strikes_6 rfl ?_
  refine v_callv (M' := mX12_isBatch) (d' := d - 1) (mc' := 0) (ms' := 0) (ci := 12) (c := 116) (As := [_]) dX12_strikes_7 k_1861 cm_X12_isBatch rfl (by omega) (by decide) kk_116 (Nat.le_of_ble_eq_true rfl) rfl ⟨Nat.le_refl _, Nat.le_refl _⟩ ?_
  refine s_isBatchK (by omega) (fun c7_1 => ?_) (fun c7_2 => ?_)
  · dsimp only [Option.toList, List.cons_append, List.nil_append, Nat.add_zero]
    refine v_if_ne_f (tgt := 15) dX12_strikes_10 (by decide) (by decide) ?_
    refine v_iconst dX12_strikes_13 (c32 rfl) ?_
    refine v_iretz dX12_strikes_14 rfl (by decide) (Nat.le_refl _) (Nat.le_refl _) ?_
    exact q0 _ (fun y => by omega)
  · dsimp only [Option.toList, List.cons_append, List.nil_append, Nat.add_zero]
    refine v_if_ne_t (tgt := 15) dX12_strikes_10 (by decide) (by decide) ?_
    refine v_aload_n dX12_strikes_15 rfl ?_
    refine v_iconst dX12_strikes_16 (c32 rfl) ?_
    refine v_puti (ci := 12) (j := 89) (ji := 89) dX12_strikes_17 k_1505 (by decide) kk_116 (by decide) rfl rfl rfl ?_
    rw [jst_wj (by decide), kst_w (by decide)]
    refine v_iconst dX12_strikes_20 (c32 rfl) ?_
    refine v_istore_n_2 dX12_strikes_21 (by decide) rfl ?_
    refine lp_rsA (by omega) I (fun z9 F2 => q0 F2 (fun y => by omega)) (fun h12 F hR => ?_) 0 (Int.le_refl _) I.wo.1.1 _ (hset_same _ _ _ _) (fun i i0 i1 => by omega) (show (0 : Int) ≤ 12 by decide)
    refine v_aload_n dX12_strikes_80 rfl ?_
    refine v_iconst dX12_strikes_81 (c32 rfl) ?_
    refine v_puti (ci := 12) (j := 90) (ji := 90) dX12_strikes_82 k_1506 (by decide) kk_116 (by decide) rfl rfl rfl ?_
    rw [jst_wj (by decide), kst_w (by decide)]
    refine v_iconst dX12_strikes_85 (c32 rfl) ?_
    refine v_istore_n_2 dX12_strikes_86 (by decide) rfl ?_
    exact lp_rsB hd I h12 ⟨by omega, by omega⟩ (fun F2 hR2 hB2 => q1 F2 ⟨⟨by omega, by omega⟩, h12⟩ hR2 hB2) 0 (Int.le_refl _) (by have := (ishl_n (wdN_0 (b := b) I).1 h12).2; omega) _ (WR_s hR ⟨rfl, by decide⟩) (hset_same _ _ _ _)

set_option maxHeartbeats 4000000 in
set_option maxRecDepth 100000 in
theorem s_rstruck {l : Launch} {G : GG} {d : Nat} {h : AH} {Q : Option AV → List Kd → AH → Prop} {cs : Int → List (Int × List Int)} {z O Lr : Int → Int} {b : Int} {F : AH} (hd : 3 ≤ d) (I : CI h cs) (q0 : ¬ ((0 ≤ b ∧ b < h 116 45) ∧ wdN h b ≤ 12) → ∀ F, Q (some (0, -1)) K0 (jst (kst h F) z O Lr)) (q1 : ((0 ≤ b ∧ b < h 116 45) ∧ wdN h b ≤ 12) → ∀ F, Q (some (0, (wdK h b : Int))) K0 (jst (kst h F) z O Lr)) : Sp l G mX12_struck d 0 0 K0 [(2, 116), (0, b)] (jst (kst h F) z O Lr) Q := by
  refine sp_of (L := [(2, 116), (0, b)]) pl_X12 (Nat.le_of_ble_eq_true rfl) (tg_c (by decide) (tg_c (by decide) tg_0)) rfl ?_
  refine v_aload_n dX12_struck_0 rfl ?_
  refine v_iload_n dX12_struck_1 rfl ?_
  refine v_callv (M' := mX12_strikes) (d' := d - 1) (mc' := 0) (ms' := 0) (ci := 12) (c := 116) (As := [_]) dX12_struck_2 k_2059 cm_X12_strikes rfl (by omega) (by decide) kk_116 (Nat.le_of_ble_eq_true rfl) rfl ⟨Nat.le_refl _, Nat.le_refl _⟩ ?_
  refine s_rstrikes (b := b) (by omega) I (fun xF_1 c2_1 => ?_) (fun xF_4 c2_2 c2_3 c2_4 => ?_)
  · dsimp only [Option.toList, List.cons_append, List.nil_append, Nat.add_zero]
    refine v_if_eq_t (tgt := 18) dX12_struck_5 (by decide) (by decide) ?_
    refine v_iconst dX12_struck_18 (c32 rfl) ?_
    refine v_ireti dX12_struck_19 rfl (Nat.le_refl _) (Nat.le_refl _) ?_
    exact q0 c2_1 _
  · dsimp only [Option.toList, List.cons_append, List.nil_append, Nat.add_zero]
    refine v_if_eq_f (tgt := 18) dX12_struck_5 (by decide) (by decide) ?_
    have ok := c2_2
    have hB9 := c2_4
    refine v_aload_n dX12_struck_8 rfl ?_
    refine v_getv (ci := 12) (j := 90) (ji := 90) (tg := 0) dX12_struck_9 k_1506 (by decide) kk_116 (by decide) rfl rfl (by decide) ((jst_j (by decide)).trans ((kst_s (by decide)).trans (hB9))) ?_
    refine v_calls (M' := mJ6_bitCount_0f7a4) (d' := d - 1) (mc' := 0) (ms' := 0) (As := [_]) dX12_struck_12 k_2063 cm_J6_bitCount_0f7a4 (by omega) (Nat.le_of_ble_eq_true rfl) rfl ⟨Nat.le_refl _, Nat.le_refl _⟩ ?_
    refine s_bitc (by omega) ?_
    dsimp only [Option.toList, List.cons_append, List.nil_append, Nat.add_zero]
    refine v_goto (tgt := 19) dX12_struck_15 (by decide) ?_
    refine v_ireti dX12_struck_19 rfl (Nat.le_refl _) (Nat.le_refl _) ?_
    rw [gm_c I ok.2 ok.1]
    exact q1 ok _

set_option maxHeartbeats 4000000 in
set_option maxRecDepth 100000 in
theorem lp_rsJ {l : Launch} {G : GG} {d : Nat} {h : AH} {Q : Option AV → List Kd → AH → Prop} {cs : Int → List (Int × List Int)} {z O Lr : Int → Int} {b : Int} {i : Int} {F : AH} (hd : 1 ≤ d) (I : CI h cs) (ok : ((0 ≤ b ∧ b < h 116 45) ∧ wdN h b ≤ 12)) (hi : 0 ≤ i ∧ i ≤ 2147483647) (hR : WR h b F) (hB : F 116 90 = (gmN (wdG h b) (wdN h b).toNat : Int)) (q0 : ¬ (((0 ≤ b ∧ b < h 116 45) ∧ wdN h b ≤ 12) ∧ (0 ≤ i ∧ i < (wdK h b : Int))) → ∀ F, Q (some (0, -1)) K0 (jst (kst h F) z O Lr)) (q1 : (((0 ≤ b ∧ b < h 116 45) ∧ wdN h b ≤ 12) ∧ (0 ≤ i ∧ i < (wdK h b : Int))) → ∀ F, Q (some (0, wdA h b i)) K0 (jst (kst h F) z O Lr)) : ∀ j, 0 ≤ j → j ≤ wdN h b → (pkC (wdC h b) j) ≤ i → V l G mX12_strike d 0 0 0 0 K0 19 [(2, 116), (0, b), (0, i), (0, i - (pkC (wdC h b) j)), (0, j)] [] (jst (kst h F) z O Lr) Q := by
  refine loop_m3 (fun j hj hjN ih hle => ?_)
  refine v_iload dX12_strike_19 rfl ?_
  refine v_aload_n dX12_strike_21 rfl ?_
  refine v_getv (ci := 12) (j := 89) (ji := 89) (tg := 0) dX12_strike_22 k_1505 (by decide) kk_116 (by decide) rfl rfl (by decide) ((jst_j (by decide)).trans ((kst_s (by decide)).trans (hR.1))) ?_
  refine v_icmp_ge (tgt := 64) dX12_strike_25 (by decide) (fun c25_1 => ?_) (fun c25_1 => ?_)
  · refine v_iconst dX12_strike_64 (c32 rfl) ?_
    refine v_ireti dX12_strike_65 rfl (Nat.le_refl _) (Nat.le_refl _) ?_
    obtain rfl : j = wdN h b := by omega
    have kn := wdC_n I ok.2 ok.1
    exact q0 (fun y => by omega) _
  · have bj := gm_b I ok.2 hj (show j < wdN h b by omega)
    have n12 := ok.2
    have p9 := pkC_r (c := wdC h b) hj
    have w9 := I.wo.1
    have n9 := wdN_0 (b := b) I
    refine v_aload_n dX12_strike_28 rfl ?_
    refine v_getv (ci := 12) (j := 90) (ji := 90) (tg := 0) dX12_strike_29 k_1506 (by decide) kk_116 (by decide) rfl rfl (by decide) ((jst_j (by decide)).trans ((kst_s (by decide)).trans (hB))) ?_
    refine v_iload dX12_strike_32 rfl ?_
    refine v_ishr dX12_strike_34 ?_
    refine v_iconst dX12_strike_35 (c32 rfl) ?_
    refine v_iand dX12_strike_36 ?_
    refine v_if_ne (tgt := 43) dX12_strike_37 (by decide) (fun c37_2 => ?_) (fun c37_2 => ?_)
    · refine v_iload_n dX12_strike_43 rfl ?_
      refine v_if_ne (tgt := 55) dX12_strike_44 (by decide) (fun c44_3 => ?_) (fun c44_3 => ?_)
      · refine v_iinc_3 dX12_strike_55 (by decide) rfl ?_
        rw [iadd_eq (x := (i - (pkC (wdC h b) j))) (y := (-1)) (by unfold ok32; omega)]
        refine v_iinc_4 dX12_strike_58 (by decide) rfl ?_
        rw [iadd_eq (x := j) (y := 1) (by unfold ok32; omega)]
        refine v_goto (tgt := 19) dX12_strike_61 (by decide) ?_
        have yc : wdC h b j := by
          by_cases z9 : wdC h b j
          · exact z9
          · rw [if_neg z9] at bj; omega
        rw [show i - (pkC (wdC h b) j) + (-1) = i - pkC (wdC h b) (j + 1) by rw [pkC_1 hj yc]; omega]
        exact ih (by omega) (by rw [pkC_1 hj yc]; omega)
      · refine v_aload_n dX12_strike_47 rfl ?_
        refine v_getr (ci := 12) (j := 87) (ji := 87) (z := 176) dX12_strike_48 k_1503 (by decide) kk_116 (by decide) rfl rfl (fun r => rt_116_87 (r rfl)) (by decide) ?_
        refine v_iload dX12_strike_51 rfl ?_
        refine v_ialoadv dX12_strike_53 (by decide) kk_176 (by omega) (by omega) ((jst_c (by decide)).trans ((kst_m (by decide)).trans ((hR.2 j (by omega) (by omega))))) ?_
        refine v_ireti dX12_strike_54 rfl (Nat.le_refl _) (Nat.le_refl _) ?_
        have yc : wdC h b j := by
          by_cases z9 : wdC h b j
          · exact z9
          · rw [if_neg z9] at bj; omega
        have kn := wdC_n I ok.2 ok.1
        have lt := pkC_lt (c := wdC h b) hj (show j < wdN h b by omega) yc
        have ie : pkC (wdC h b) j = i := by omega
        have ea := wdA_u I hj (show j < wdN h b by omega) yc
        rw [ie] at ea
        rw [← ea]
        exact q1 ⟨ok, by omega, by omega⟩ _
    · refine v_goto (tgt := 58) dX12_strike_40 (by decide) ?_
      refine v_iinc_4 dX12_strike_58 (by decide) rfl ?_
      rw [iadd_eq (x := j) (y := 1) (by unfold ok32; omega)]
      refine v_goto (tgt := 19) dX12_strike_61 (by decide) ?_
      have nc : ¬ wdC h b j := fun z9 => by rw [if_pos z9] at bj; omega
      rw [← pkC_0 hj nc]
      exact ih (by omega) (by rw [pkC_0 hj nc]; exact hle)

set_option maxHeartbeats 4000000 in
set_option maxRecDepth 100000 in
theorem s_rstrike {l : Launch} {G : GG} {d : Nat} {h : AH} {Q : Option AV → List Kd → AH → Prop} {cs : Int → List (Int × List Int)} {z O Lr : Int → Int} {b : Int} {i : Int} {F : AH} (hd : 3 ≤ d) (I : CI h cs) (hi : i ≤ 2147483647) (q0 : ¬ (((0 ≤ b ∧ b < h 116 45) ∧ wdN h b ≤ 12) ∧ (0 ≤ i ∧ i < (wdK h b : Int))) → ∀ F, Q (some (0, -1)) K0 (jst (kst h F) z O Lr)) (q1 : (((0 ≤ b ∧ b < h 116 45) ∧ wdN h b ≤ 12) ∧ (0 ≤ i ∧ i < (wdK h b : Int))) → ∀ F, Q (some (0, wdA h b i)) K0 (jst (kst h F) z O Lr)) : Sp l G mX12_strike d 0 0 K0 [(2, 116), (0, b), (0, i)] (jst (kst h F) z O Lr) Q := by
  refine sp_of (L := [(2, 116), (0, b), (0, i), (9, 0), (9, 0)]) pl_X12 (Nat.le_of_ble_eq_true rfl) (tg_c (by decide) (tg_c (by decide) (tg_c (by decide) tg_0))) rfl ?_
  refine v_aload_n dX12_strike_0 rfl ?_
  refine v_iload_n dX12_strike_1 rfl ?_
  refine v_callv (M' := mX12_strikes) (d' := d - 1) (mc' := 0) (ms' := 0) (ci := 12) (c := 116) (As := [_]) dX12_strike_2 k_2059 cm_X12_strikes rfl (by omega) (by decide) kk_116 (Nat.le_of_ble_eq_true rfl) rfl ⟨Nat.le_refl _, Nat.le_refl _⟩ ?_
  refine s_rstrikes (b := b) (by omega) I (fun xF_1 c2_1 => ?_) (fun xF_4 c2_2 c2_3 c2_4 => ?_)
  · dsimp only [Option.toList, List.cons_append, List.nil_append, Nat.add_zero]
    refine v_if_eq_t (tgt := 12) dX12_strike_5 (by decide) (by decide) ?_
    refine v_iconst dX12_strike_12 (c32 rfl) ?_
    refine v_ireti dX12_strike_13 rfl (Nat.le_refl _) (Nat.le_refl _) ?_
    exact q0 (fun y => by omega) _
  · dsimp only [Option.toList, List.cons_append, List.nil_append, Nat.add_zero]
    refine v_if_eq_f (tgt := 12) dX12_strike_5 (by decide) (by decide) ?_
    refine v_iload_n dX12_strike_8 rfl ?_
    refine v_if_ge (tgt := 14) dX12_strike_9 (by decide) (fun c9_5 => ?_) (fun c9_5 => ?_)
    · refine v_iload_n dX12_strike_14 rfl ?_
      refine v_istore_n_3 dX12_strike_15 (by decide) rfl ?_
      refine v_iconst dX12_strike_16 (c32 rfl) ?_
      refine v_istore_4 dX12_strike_17 (by decide) rfl ?_
      have e9 : i = i - pkC (wdC h b) 0 := by
        have : pkC (wdC h b) 0 = 0 := rfl
        omega
      have nx := lp_rsJ (i := i) (Q := Q) (l := l) (G := G) (z := z) (O := O) (Lr := Lr) (d := d) (by omega) I c2_2 ⟨by omega, by omega⟩ c2_3 c2_4 q0 q1 0 (Int.le_refl _) (wdN_0 (b := b) I).1 (by omega)
      rw [← e9] at nx
      exact nx
    · refine v_iconst dX12_strike_12 (c32 rfl) ?_
      refine v_ireti dX12_strike_13 rfl (Nat.le_refl _) (Nat.le_refl _) ?_
      exact q0 (fun y => by omega) _

