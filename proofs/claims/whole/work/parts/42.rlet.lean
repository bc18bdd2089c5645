/-! ===== letters of a made batch: the reference (written by wip/whole/p25.py) ===== -/
set_option maxHeartbeats 4000000 in
set_option maxRecDepth 100000 in
theorem s_X12_share {l : Launch} {G : GG} {d : Nat} {h : AH} {Q : Option AV → List Kd → AH → Prop} {p0 p1 : Int} (hd : 2 ≤ d) (hw : p1 ≠ 0)
    (q_1 : Q (some (0, (l2i (min 10000000 (ldiv (lmul 1000 p0) p1))))) K0 h) : Sp l G mX12_share d 0 0 K0 [(1, p0), (1, p1)] h Q := by
  refine sp_of (L := [(1, p0), (8, 0), (1, p1), (8, 0)]) pl_X12 (Nat.le_of_ble_eq_true rfl) (tg_c (by decide) (tg_c (by decide) tg_0)) rfl ?_
  refine v_ldc2 (n := 10000000) dX12_share_0 k_1806 (c64 rfl) (by decide) ?_
  refine v_ldc2 (n := 1000) dX12_share_3 k_1699 (c64 rfl) (by decide) ?_
  refine v_lload_n dX12_share_6 rfl ?_
  refine v_lmul dX12_share_7 ?_
  refine v_lload_n dX12_share_8 rfl ?_
  refine v_ldiv dX12_share_9 (by omega) ?_
  refine v_mminl dX12_share_10 k_1807 (by omega) (Nat.le_of_ble_eq_true rfl) ⟨Nat.le_refl _, Nat.le_refl _⟩ ?_
  refine v_l2i dX12_share_13 ?_
  refine v_ireti dX12_share_14 rfl (Nat.le_refl _) (Nat.le_refl _) ?_
  exact q_1 

theorem s_shr {l : Launch} {G : GG} {d : Nat} {h : AH} {Q : Option AV → List Kd → AH → Prop} {p0 p1 : Int} (hd : 2 ≤ d) (hw : p1 ≠ 0) (hq : Q (some (0, shr p0 p1)) K0 h) : Sp l G mX12_share d 0 0 K0 [(1, p0), (1, p1)] h Q := s_X12_share hd hw hq

theorem s_clrJ {l : Launch} {G : GG} {d : Nat} {h : AH} {z O Lr : Int → Int} {Q : Option AV → List Kd → AH → Prop} (hd : 1 ≤ d) (hq : Q none K0 (jst h z O (fclr Lr))) : Sp l G mX12_clear0 d 0 0 K0 [(2, 116)] (jst h z O Lr) Q := s_X12_clear0 hd (by rw [jst_clr]; exact hq)

section FR
variable {h : AH} {O : Int → Int} {b q : Int}
theorem hfO (hpv : ∀ k, 0 ≤ k → k < h 137 b → 0 ≤ eV h b q k ∧ eV h b q k ≤ 100000000) : ∀ k, 0 ≤ k → k < h 137 b → 0 ≤ fO h O b q k ∧ fO h O b q k ≤ 100000000 := fun k h0 h1 => by
  have := hpv k h0 h1
  unfold fO
  split <;> omega
theorem hfK (hpv : ∀ k, 0 ≤ k → k < h 137 b → 0 ≤ eV h b q k ∧ eV h b q k ≤ 100000000) : ∀ k, 0 ≤ k → k < h 137 b → 0 ≤ fK h O b q k ∧ fK h O b q k ≤ 100000000 := fun k h0 h1 => by
  have := hpv k h0 h1
  unfold fK
  split
  · omega
  · split <;> omega
theorem hfB (hpv : ∀ k, 0 ≤ k → k < h 137 b → 0 ≤ eV h b q k ∧ eV h b q k ≤ 100000000) : ∀ k, 0 ≤ k → k < h 137 b → 0 ≤ fB h O b q k ∧ fB h O b q k ≤ 100000000 := fun k h0 h1 => by
  have := hpv k h0 h1
  unfold fB
  split
  · split <;> omega
  · omega
theorem hfC {n : Int} : ∀ k, 0 ≤ k → k < n → 0 ≤ fC h O b k ∧ fC h O b k ≤ 1 := fun k h0 h1 => by
  unfold fC
  split <;> omega
end FR

theorem ldiv_nn {x y : Int} (hx : 0 ≤ x) (hx2 : x < 9223372036854775808) (hy : 0 < y) (hy2 : y < 9223372036854775808) : ldiv x y = x / y := by
  unfold ldiv
  rw [Int64.toInt_div, t64 (by unfold ok64; omega), t64 (by unfold ok64; omega), Int.tdiv_eq_ediv_of_nonneg hx]
  have h1 : 0 ≤ x / y := Int.ediv_nonneg hx (by omega)
  have h2 : x / y ≤ x := Int.ediv_le_self _ hx
  exact Int.bmod_eq_of_le (by omega) (by omega)
theorem shr_rng {p w : Int} (h0 : 0 ≤ p) (h1 : p ≤ 1000000000000) (hw : 0 < w) (hw2 : w ≤ 1000000000000) : 0 ≤ shr p w ∧ shr p w ≤ 10000000 := by
  unfold shr
  rw [lmul_eq (by unfold ok64; omega), ldiv_nn (by omega) (by omega) hw (by omega)]
  have h3 : 0 ≤ 1000 * p / w := Int.ediv_nonneg (by omega) (by omega)
  rw [l2i_eq (by unfold ok32; omega)]
  omega
theorem mLt_rng {h : AH} {O : Int → Int} {b q : Int} (he : 0 ≤ h 137 b ∧ h 137 b ≤ 6) (hpv : ∀ k, 0 ≤ k → k < h 137 b → 0 ≤ eV h b q k ∧ eV h b q k ≤ 100000000) (hpb : 1 ≤ prc h q b * h 132 b ∧ prc h q b * h 132 b ≤ 100000000) (hh : 0 ≤ h 130 b ∧ h 130 b < 100) (hp : -1 ≤ h 135 b ∧ h 135 b < 10) : lbok (mLt h O b q) := by
  intro i h0 h1
  have r1 := sm_rng (f := eV h b q) hpv _ he.1 (Int.le_refl _)
  have r2 := sm_rng (f := fO h O b q) (hfO hpv) _ he.1 (Int.le_refl _)
  have r3 := sm_rng (f := fK h O b q) (hfK hpv) _ he.1 (Int.le_refl _)
  have r4 := sm_rng (f := fB h O b q) (hfB hpv) _ he.1 (Int.le_refl _)
  have r5 := sm_rng (f := fC h O b) (N := h 137 b) (B := 1) hfC _ he.1 (Int.le_refl _)
  rcases (show i = 0 ∨ i = 1 ∨ i = 2 ∨ i = 3 ∨ i = 4 ∨ i = 5 ∨ i = 6 ∨ i = 7 by omega) with e | e | e | e | e | e | e | e <;> subst e
  · rw [show mLt h O b q 0 = shr (sm (eV h b q) (h 137 b)) (prc h q b * h 132 b) from rfl]
    have := shr_rng (p := sm (eV h b q) (h 137 b)) (w := prc h q b * h 132 b) (by omega) (by omega) (by omega) (by omega)
    omega
  · rw [show mLt h O b q 1 = shr (sm (fO h O b q) (h 137 b)) (prc h q b * h 132 b) from rfl]
    have := shr_rng (p := sm (fO h O b q) (h 137 b)) (w := prc h q b * h 132 b) (by omega) (by omega) (by omega) (by omega)
    omega
  · rw [show mLt h O b q 2 = shr (sm (fK h O b q) (h 137 b)) (prc h q b * h 132 b) from rfl]
    have := shr_rng (p := sm (fK h O b q) (h 137 b)) (w := prc h q b * h 132 b) (by omega) (by omega) (by omega) (by omega)
    omega
  · rw [show mLt h O b q 3 = shr (sm (fB h O b q) (h 137 b)) (prc h q b * h 132 b) from rfl]
    have := shr_rng (p := sm (fB h O b q) (h 137 b)) (w := prc h q b * h 132 b) (by omega) (by omega) (by omega) (by omega)
    omega
  · rw [show mLt h O b q 4 = sm (fC h O b) (h 137 b) from rfl]; omega
  · rw [show mLt h O b q 5 = h 130 b from rfl]; omega
  · rw [show mLt h O b q 6 = h 135 b from rfl]; omega
  · rw [show mLt h O b q 7 = 0 from rfl]; omega

set_option maxHeartbeats 4000000 in
set_option maxRecDepth 100000 in
theorem lp_X12_findLetters_20 {l : Launch} {G : GG} {d : Nat} {h : AH} {Q : Option AV → List Kd → AH → Prop} {z O Lr : Int → Int} {b q : Int} (hd : 3 ≤ d) (hb : 0 ≤ b ∧ b < 100) (hm : 0 ≤ h 116 48 ∧ h 116 48 ≤ 100) (he : 0 ≤ h 137 b ∧ h 137 b ≤ 6) (hen : ∀ k, 0 ≤ k → k < h 137 b → 0 ≤ eB h b k ∧ eB h b k < 100) (hpv : ∀ k, 0 ≤ k → k < h 137 b → 0 ≤ eV h b q k ∧ eV h b q k ≤ 100000000) (hpb : 1 ≤ prc h q b * h 132 b ∧ prc h q b * h 132 b ≤ 100000000) (hh : 0 ≤ h 130 b ∧ h 130 b < 100) (hpp : -1 ≤ h 135 b ∧ h 135 b < 10) (hq : Q none K0 (jst h z O (fLet h O b q Lr))) : ∀ k, 0 ≤ k → k ≤ (h 137 b) → V l G mX12_findLetters d 0 0 0 0 K0 20 [(2, 116), (0, b), (0, q), (1, (sm (eV h b q) k)), (8, 0), (1, (sm (fO h O b q) k)), (8, 0), (1, (sm (fK h O b q) k)), (8, 0), (1, (sm (fB h O b q) k)), (8, 0), (0, (sm (fC h O b) k)), (0, ((6 * b) + k)), (9, 0), (9, 0), (9, 0)] [] (jst h z O Lr) Q := by
  refine loop_m3 (fun k hk hkN ih => ?_)
  refine v_iload dX12_findLetters_20 rfl ?_
  refine v_bipush dX12_findLetters_22 (c32 rfl) (by decide) ?_
  refine v_iload_n dX12_findLetters_24 rfl ?_
  refine v_imulE dX12_findLetters_25 (by omega) ?_
  refine v_aload_n dX12_findLetters_26 rfl ?_
  refine v_getr (ci := 12) (j := 34) (ji := 34) (z := 137) dX12_findLetters_27 k_1450 (by decide) kk_116 (by decide) rfl rfl (fun r => rt_116_34 (r rfl)) (by decide) ?_
  refine v_iload_n dX12_findLetters_30 rfl ?_
  refine v_ialoadv dX12_findLetters_31 (by decide) kk_137 (by omega) (by omega) (jst_c (by decide)) ?_
  refine v_iaddE dX12_findLetters_32 (by omega) ?_
  refine v_icmp_ge (tgt := 152) dX12_findLetters_33 (by decide) (fun c33_1 => ?_) (fun c33_1 => ?_)
  · obtain rfl : k = h 137 b := by omega
    have hlb := mLt_rng (O := O) he hpv hpb hh hpp
    have l0 : -10000000 ≤ shr (sm (eV h b q) (h 137 b)) (prc h q b * h 132 b) ∧ shr (sm (eV h b q) (h 137 b)) (prc h q b * h 132 b) ≤ 10000000 := hlb 0 (by omega) (by omega)
    have l1 : -10000000 ≤ shr (sm (fO h O b q) (h 137 b)) (prc h q b * h 132 b) ∧ shr (sm (fO h O b q) (h 137 b)) (prc h q b * h 132 b) ≤ 10000000 := hlb 1 (by omega) (by omega)
    have l2 : -10000000 ≤ shr (sm (fK h O b q) (h 137 b)) (prc h q b * h 132 b) ∧ shr (sm (fK h O b q) (h 137 b)) (prc h q b * h 132 b) ≤ 10000000 := hlb 2 (by omega) (by omega)
    have l3 : -10000000 ≤ shr (sm (fB h O b q) (h 137 b)) (prc h q b * h 132 b) ∧ shr (sm (fB h O b q) (h 137 b)) (prc h q b * h 132 b) ≤ 10000000 := hlb 3 (by omega) (by omega)
    have l4 : -10000000 ≤ sm (fC h O b) (h 137 b) ∧ sm (fC h O b) (h 137 b) ≤ 10000000 := hlb 4 (by omega) (by omega)
    refine v_aload_n dX12_findLetters_152 rfl ?_
    refine v_iload_n dX12_findLetters_153 rfl ?_
    refine v_iload_n dX12_findLetters_154 rfl ?_
    refine v_callv (M' := mX12_priceOf) (d' := d - 1) (mc' := 0) (ms' := 0) (ci := 12) (c := 116) (As := [_, _]) dX12_findLetters_155 k_1905 cm_X12_priceOf rfl (by omega) (by decide) kk_116 (Nat.le_of_ble_eq_true rfl) rfl ⟨Nat.le_refl _, Nat.le_refl _⟩ ?_
    refine s_prc (by omega) hm (by omega) ?_
    dsimp only [Option.toList, List.cons_append, List.nil_append, Nat.add_zero]
    refine v_i2l dX12_findLetters_158 ?_
    refine v_aload_n dX12_findLetters_159 rfl ?_
    refine v_getr (ci := 12) (j := 29) (ji := 29) (z := 132) dX12_findLetters_160 k_1445 (by decide) kk_116 (by decide) rfl rfl (fun r => rt_116_29 (r rfl)) (by decide) ?_
    refine v_iload_n dX12_findLetters_163 rfl ?_
    refine v_ialoadv dX12_findLetters_164 (by decide) kk_132 (by omega) (by omega) (jst_c (by decide)) ?_
    refine v_i2l dX12_findLetters_165 ?_
    refine v_lmulE dX12_findLetters_166 (by omega) ?_
    refine v_lstore_12 dX12_findLetters_167 (by decide) rfl ?_
    refine v_aload_n dX12_findLetters_169 rfl ?_
    refine v_callv (M' := mX12_clear0) (d' := d - 1) (mc' := 0) (ms' := 0) (ci := 12) (c := 116) (As := []) dX12_findLetters_170 k_1933 cm_X12_clear0 rfl (by omega) (by decide) kk_116 (Nat.le_of_ble_eq_true rfl) rfl ⟨Nat.le_refl _, Nat.le_refl _⟩ ?_
    refine s_clrJ (by omega) ?_
    dsimp only [Option.toList, List.cons_append, List.nil_append, Nat.add_zero]
    refine v_aload_n dX12_findLetters_173 rfl ?_
    refine v_getr (ci := 12) (j := 11) (ji := 11) (z := 126) dX12_findLetters_174 k_1427 (by decide) kk_116 (by decide) rfl rfl (fun r => rt_116_11 (r rfl)) (by decide) ?_
    refine v_bipush dX12_findLetters_177 (c32 rfl) (by decide) ?_
    refine v_aload_n dX12_findLetters_179 rfl ?_
    refine v_getr (ci := 12) (j := 27) (ji := 27) (z := 130) dX12_findLetters_180 k_1443 (by decide) kk_116 (by decide) rfl rfl (fun r => rt_116_27 (r rfl)) (by decide) ?_
    refine v_iload_n dX12_findLetters_183 rfl ?_
    refine v_ialoadv dX12_findLetters_184 (by decide) kk_130 (by omega) (by omega) (jst_c (by decide)) ?_
    refine v_iastore dX12_findLetters_185 (by decide) kk_126 (by omega) (by omega) ?_
    rw [jst_wl]
    refine v_aload_n dX12_findLetters_186 rfl ?_
    refine v_getr (ci := 12) (j := 11) (ji := 11) (z := 126) dX12_findLetters_187 k_1427 (by decide) kk_116 (by decide) rfl rfl (fun r => rt_116_11 (r rfl)) (by decide) ?_
    refine v_bipush dX12_findLetters_190 (c32 rfl) (by decide) ?_
    refine v_aload_n dX12_findLetters_192 rfl ?_
    refine v_getr (ci := 12) (j := 32) (ji := 32) (z := 135) dX12_findLetters_193 k_1448 (by decide) kk_116 (by decide) rfl rfl (fun r => rt_116_32 (r rfl)) (by decide) ?_
    refine v_iload_n dX12_findLetters_196 rfl ?_
    refine v_ialoadv dX12_findLetters_197 (by decide) kk_135 (by omega) (by omega) (jst_c (by decide)) ?_
    refine v_iastore dX12_findLetters_198 (by decide) kk_126 (by omega) (by omega) ?_
    rw [jst_wl]
    refine v_aload_n dX12_findLetters_199 rfl ?_
    refine v_getr (ci := 12) (j := 11) (ji := 11) (z := 126) dX12_findLetters_200 k_1427 (by decide) kk_116 (by decide) rfl rfl (fun r => rt_116_11 (r rfl)) (by decide) ?_
    refine v_bipush dX12_findLetters_203 (c32 rfl) (by decide) ?_
    refine v_lload_n dX12_findLetters_205 rfl ?_
    refine v_lload dX12_findLetters_206 rfl ?_
    refine v_calls (M' := mX12_share) (d' := d - 1) (mc' := 0) (ms' := 0) (As := [_, _]) dX12_findLetters_208 k_1937 cm_X12_share (by omega) (Nat.le_of_ble_eq_true rfl) rfl ⟨Nat.le_refl _, Nat.le_refl _⟩ ?_
    refine s_shr (by omega) (by omega) ?_
    dsimp only [Option.toList, List.cons_append, List.nil_append, Nat.add_zero]
    refine v_iastore dX12_findLetters_211 (by decide) kk_126 (by omega) (by omega) ?_
    rw [jst_wl]
    refine v_aload_n dX12_findLetters_212 rfl ?_
    refine v_getr (ci := 12) (j := 11) (ji := 11) (z := 126) dX12_findLetters_213 k_1427 (by decide) kk_116 (by decide) rfl rfl (fun r => rt_116_11 (r rfl)) (by decide) ?_
    refine v_bipush dX12_findLetters_216 (c32 rfl) (by decide) ?_
    refine v_lload dX12_findLetters_218 rfl ?_
    refine v_lload dX12_findLetters_220 rfl ?_
    refine v_calls (M' := mX12_share) (d' := d - 1) (mc' := 0) (ms' := 0) (As := [_, _]) dX12_findLetters_222 k_1937 cm_X12_share (by omega) (Nat.le_of_ble_eq_true rfl) rfl ⟨Nat.le_refl _, Nat.le_refl _⟩ ?_
    refine s_shr (by omega) (by omega) ?_
    dsimp only [Option.toList, List.cons_append, List.nil_append, Nat.add_zero]
    refine v_iastore dX12_findLetters_225 (by decide) kk_126 (by omega) (by omega) ?_
    rw [jst_wl]
    refine v_aload_n dX12_findLetters_226 rfl ?_
    refine v_getr (ci := 12) (j := 11) (ji := 11) (z := 126) dX12_findLetters_227 k_1427 (by decide) kk_116 (by decide) rfl rfl (fun r => rt_116_11 (r rfl)) (by decide) ?_
    refine v_bipush dX12_findLetters_230 (c32 rfl) (by decide) ?_
    refine v_lload dX12_findLetters_232 rfl ?_
    refine v_lload dX12_findLetters_234 rfl ?_
    refine v_calls (M' := mX12_share) (d' := d - 1) (mc' := 0) (ms' := 0) (As := [_, _]) dX12_findLetters_236 k_1937 cm_X12_share (by omega) (Nat.le_of_ble_eq_true rfl) rfl ⟨Nat.le_refl _, Nat.le_refl _⟩ ?_
    refine s_shr (by omega) (by omega) ?_
    dsimp only [Option.toList, List.cons_append, List.nil_append, Nat.add_zero]
    refine v_iastore dX12_findLetters_239 (by decide) kk_126 (by omega) (by omega) ?_
    rw [jst_wl]
    refine v_aload_n dX12_findLetters_240 rfl ?_
    refine v_getr (ci := 12) (j := 11) (ji := 11) (z := 126) dX12_findLetters_241 k_1427 (by decide) kk_116 (by decide) rfl rfl (fun r => rt_116_11 (r rfl)) (by decide) ?_
    refine v_bipush dX12_findLetters_244 (c32 rfl) (by decide) ?_
    refine v_lload dX12_findLetters_246 rfl ?_
    refine v_lload dX12_findLetters_248 rfl ?_
    refine v_calls (M' := mX12_share) (d' := d - 1) (mc' := 0) (ms' := 0) (As := [_, _]) dX12_findLetters_250 k_1937 cm_X12_share (by omega) (Nat.le_of_ble_eq_true rfl) rfl ⟨Nat.le_refl _, Nat.le_refl _⟩ ?_
    refine s_shr (by omega) (by omega) ?_
    dsimp only [Option.toList, List.cons_append, List.nil_append, Nat.add_zero]
    refine v_iastore dX12_findLetters_253 (by decide) kk_126 (by omega) (by omega) ?_
    rw [jst_wl]
    refine v_aload_n dX12_findLetters_254 rfl ?_
    refine v_getr (ci := 12) (j := 11) (ji := 11) (z := 126) dX12_findLetters_255 k_1427 (by decide) kk_116 (by decide) rfl rfl (fun r => rt_116_11 (r rfl)) (by decide) ?_
    refine v_bipush dX12_findLetters_258 (c32 rfl) (by decide) ?_
    refine v_iload dX12_findLetters_260 rfl ?_
    refine v_iastore dX12_findLetters_262 (by decide) kk_126 (by omega) (by omega) ?_
    rw [jst_wl]
    refine v_vret dX12_findLetters_263 rfl (Nat.le_refl _) (Nat.le_refl _) ?_
    exact hq
  · have hkN : k < h 137 b := by omega
    have hen9 := hen k hk hkN
    have hpv9 := hpv k hk hkN
    have hv9 : eV h b q k = prc h q (eB h b k) * h 139 (6 * b + k) := rfl
    have r1 := sm_rng (f := eV h b q) hpv k hk (by omega)
    have r2 := sm_rng (f := fO h O b q) (hfO hpv) k hk (by omega)
    have r3 := sm_rng (f := fK h O b q) (hfK hpv) k hk (by omega)
    have r4 := sm_rng (f := fB h O b q) (hfB hpv) k hk (by omega)
    have r5 := sm_rng (f := fC h O b) (N := h 137 b) (B := 1) hfC k hk (by omega)
    refine v_aload_n dX12_findLetters_36 rfl ?_
    refine v_getr (ci := 12) (j := 35) (ji := 35) (z := 138) dX12_findLetters_37 k_1451 (by decide) kk_116 (by decide) rfl rfl (fun r => rt_116_35 (r rfl)) (by decide) ?_
    refine v_iload dX12_findLetters_40 rfl ?_
    refine v_ialoadv dX12_findLetters_42 (by decide) kk_138 (by omega) (by omega) ((jst_c (by decide)).trans ((show h 138 (6 * b + k) = eB h b k from rfl))) ?_
    refine v_istore_13 dX12_findLetters_43 (by decide) rfl ?_
    refine v_aload_n dX12_findLetters_45 rfl ?_
    refine v_iload dX12_findLetters_46 rfl ?_
    refine v_iload_n dX12_findLetters_48 rfl ?_
    refine v_callv (M' := mX12_priceOf) (d' := d - 1) (mc' := 0) (ms' := 0) (ci := 12) (c := 116) (As := [_, _]) dX12_findLetters_49 k_1905 cm_X12_priceOf rfl (by omega) (by decide) kk_116 (Nat.le_of_ble_eq_true rfl) rfl ⟨Nat.le_refl _, Nat.le_refl _⟩ ?_
    refine s_prc (by omega) hm (by omega) ?_
    dsimp only [Option.toList, List.cons_append, List.nil_append, Nat.add_zero]
    refine v_i2l dX12_findLetters_52 ?_
    refine v_aload_n dX12_findLetters_53 rfl ?_
    refine v_getr (ci := 12) (j := 36) (ji := 36) (z := 139) dX12_findLetters_54 k_1452 (by decide) kk_116 (by decide) rfl rfl (fun r => rt_116_36 (r rfl)) (by decide) ?_
    refine v_iload dX12_findLetters_57 rfl ?_
    refine v_ialoadv dX12_findLetters_59 (by decide) kk_139 (by omega) (by omega) (jst_c (by decide)) ?_
    refine v_i2l dX12_findLetters_60 ?_
    refine v_lmulE dX12_findLetters_61 (by omega) ?_
    rw [show prc h q (eB h b k) * h 139 (6 * b + k) = eV h b q k from rfl]
    refine v_lstore_14 dX12_findLetters_62 (by decide) rfl ?_
    refine v_lload_n dX12_findLetters_64 rfl ?_
    refine v_lload dX12_findLetters_65 rfl ?_
    refine v_laddE dX12_findLetters_67 (by omega) ?_
    refine v_lstore_n_3 dX12_findLetters_68 (by decide) rfl ?_
    refine v_aload_n dX12_findLetters_69 rfl ?_
    refine v_getr (ci := 12) (j := 49) (ji := 49) (z := 148) dX12_findLetters_70 k_1465 (by decide) kk_116 (by decide) rfl rfl (fun r => rt_116_49 (r rfl)) (by decide) ?_
    refine v_iload dX12_findLetters_73 rfl ?_
    refine v_zaloadv dX12_findLetters_75 (by decide) kk_148 (by omega) (by omega) (jst_o) ?_
    refine v_if_eq (tgt := 109) dX12_findLetters_76 (by decide) (fun c76_2 => ?_) (fun c76_2 => ?_)
    · refine v_lload dX12_findLetters_109 rfl ?_
      refine v_lload dX12_findLetters_111 rfl ?_
      refine v_laddE dX12_findLetters_113 (by omega) ?_
      refine v_lstore_5 dX12_findLetters_114 (by decide) rfl ?_
      refine v_lload dX12_findLetters_116 rfl ?_
      refine v_aload_n dX12_findLetters_118 rfl ?_
      refine v_getr (ci := 12) (j := 27) (ji := 27) (z := 130) dX12_findLetters_119 k_1443 (by decide) kk_116 (by decide) rfl rfl (fun r => rt_116_27 (r rfl)) (by decide) ?_
      refine v_iload dX12_findLetters_122 rfl ?_
      refine v_ialoadv dX12_findLetters_124 (by decide) kk_130 (by omega) (by omega) (jst_c (by decide)) ?_
      refine v_aload_n dX12_findLetters_125 rfl ?_
      refine v_getr (ci := 12) (j := 27) (ji := 27) (z := 130) dX12_findLetters_126 k_1443 (by decide) kk_116 (by decide) rfl rfl (fun r => rt_116_27 (r rfl)) (by decide) ?_
      refine v_iload_n dX12_findLetters_129 rfl ?_
      refine v_ialoadv dX12_findLetters_130 (by decide) kk_130 (by omega) (by omega) (jst_c (by decide)) ?_
      refine v_icmp_ne (tgt := 139) dX12_findLetters_131 (by decide) (fun c131_3 => ?_) (fun c131_3 => ?_)
      · refine v_lconst (z := 0) dX12_findLetters_139 (c64 rfl) (by decide) ?_
        refine v_laddE dX12_findLetters_140 (by omega) ?_
        refine v_lstore_7 dX12_findLetters_141 (by decide) rfl ?_
        refine v_iinc_11 dX12_findLetters_143 (by decide) rfl ?_
        rw [iadd_eq (x := (sm (fC h O b) k)) (y := 1) (by unfold ok32; omega)]
        refine v_iinc_12 dX12_findLetters_146 (by decide) rfl ?_
        rw [iadd_eq (x := ((6 * b) + k)) (y := 1) (by unfold ok32; omega)]
        refine v_goto (tgt := 20) dX12_findLetters_149 (by decide) ?_
        have ih := ih (by omega)
        have e3 : (sm (eV h b q) (k + 1)) = ((sm (eV h b q) k) + (eV h b q k)) := by rw [sm_s hk]
        rw [e3] at ih
        have e5 : (sm (fO h O b q) (k + 1)) = ((sm (fO h O b q) k) + (eV h b q k)) := by rw [sm_s hk]; unfold fO; first | (rw [if_pos (by assumption), if_pos (by assumption)]; done) | (rw [if_pos (by assumption), if_neg (by omega)]; omega) | (rw [if_pos (by assumption)]; omega) | (rw [if_neg (by omega), if_pos (by assumption)]; done) | (rw [if_neg (by omega), if_neg (by assumption)]; omega) | (rw [if_neg (by omega)]; done) | (rw [if_neg (by omega)]; omega)
        rw [e5] at ih
        have e7 : (sm (fK h O b q) (k + 1)) = ((sm (fK h O b q) k) + 0) := by rw [sm_s hk]; unfold fK; first | (rw [if_pos (by assumption), if_pos (by assumption)]; done) | (rw [if_pos (by assumption), if_neg (by omega)]; omega) | (rw [if_pos (by assumption)]; omega) | (rw [if_neg (by omega), if_pos (by assumption)]; done) | (rw [if_neg (by omega), if_neg (by assumption)]; omega) | (rw [if_neg (by omega)]; done) | (rw [if_neg (by omega)]; omega)
        rw [e7] at ih
        have e9 : (sm (fB h O b q) (k + 1)) = (sm (fB h O b q) k) := by rw [sm_s hk]; unfold fB; first | (rw [if_pos (by assumption), if_pos (by assumption)]; done) | (rw [if_pos (by assumption), if_neg (by omega)]; omega) | (rw [if_pos (by assumption)]; omega) | (rw [if_neg (by omega), if_pos (by assumption)]; done) | (rw [if_neg (by omega), if_neg (by assumption)]; omega) | (rw [if_neg (by omega)]; done) | (rw [if_neg (by omega)]; omega)
        rw [e9] at ih
        have e11 : (sm (fC h O b) (k + 1)) = ((sm (fC h O b) k) + 1) := by rw [sm_s hk]; unfold fC; first | (rw [if_pos (by assumption), if_pos (by assumption)]; done) | (rw [if_pos (by assumption), if_neg (by omega)]; omega) | (rw [if_pos (by assumption)]; omega) | (rw [if_neg (by omega), if_pos (by assumption)]; done) | (rw [if_neg (by omega), if_neg (by assumption)]; omega) | (rw [if_neg (by omega)]; done) | (rw [if_neg (by omega)]; omega)
        rw [e11] at ih
        have e12 : ((6 * b) + (k + 1)) = (((6 * b) + k) + 1) := by omega
        rw [e12] at ih
        refine v_loc (lo_k (lo_k (lo_k (lo_k (lo_k (lo_k (lo_k (lo_k (lo_k (lo_k (lo_k (lo_k (lo_k (lo_d (lo_d (lo_d lo_nil)))))))))))))))) ?_
        exact ih
      · refine v_lload dX12_findLetters_134 rfl ?_
        refine v_goto (tgt := 140) dX12_findLetters_136 (by decide) ?_
        refine v_laddE dX12_findLetters_140 (by omega) ?_
        refine v_lstore_7 dX12_findLetters_141 (by decide) rfl ?_
        refine v_iinc_11 dX12_findLetters_143 (by decide) rfl ?_
        rw [iadd_eq (x := (sm (fC h O b) k)) (y := 1) (by unfold ok32; omega)]
        refine v_iinc_12 dX12_findLetters_146 (by decide) rfl ?_
        rw [iadd_eq (x := ((6 * b) + k)) (y := 1) (by unfold ok32; omega)]
        refine v_goto (tgt := 20) dX12_findLetters_149 (by decide) ?_
        have ih := ih (by omega)
        have e3 : (sm (eV h b q) (k + 1)) = ((sm (eV h b q) k) + (eV h b q k)) := by rw [sm_s hk]
        rw [e3] at ih
        have e5 : (sm (fO h O b q) (k + 1)) = ((sm (fO h O b q) k) + (eV h b q k)) := by rw [sm_s hk]; unfold fO; first | (rw [if_pos (by assumption), if_pos (by assumption)]; done) | (rw [if_pos (by assumption), if_neg (by omega)]; omega) | (rw [if_pos (by assumption)]; omega) | (rw [if_neg (by omega), if_pos (by assumption)]; done) | (rw [if_neg (by omega), if_neg (by assumption)]; omega) | (rw [if_neg (by omega)]; done) | (rw [if_neg (by omega)]; omega)
        rw [e5] at ih
        have e7 : (sm (fK h O b q) (k + 1)) = ((sm (fK h O b q) k) + (eV h b q k)) := by rw [sm_s hk]; unfold fK; first | (rw [if_pos (by assumption), if_pos (by assumption)]; done) | (rw [if_pos (by assumption), if_neg (by omega)]; omega) | (rw [if_pos (by assumption)]; omega) | (rw [if_neg (by omega), if_pos (by assumption)]; done) | (rw [if_neg (by omega), if_neg (by assumption)]; omega) | (rw [if_neg (by omega)]; done) | (rw [if_neg (by omega)]; omega)
        rw [e7] at ih
        have e9 : (sm (fB h O b q) (k + 1)) = (sm (fB h O b q) k) := by rw [sm_s hk]; unfold fB; first | (rw [if_pos (by assumption), if_pos (by assumption)]; done) | (rw [if_pos (by assumption), if_neg (by omega)]; omega) | (rw [if_pos (by assumption)]; omega) | (rw [if_neg (by omega), if_pos (by assumption)]; done) | (rw [if_neg (by omega), if_neg (by assumption)]; omega) | (rw [if_neg (by omega)]; done) | (rw [if_neg (by omega)]; omega)
        rw [e9] at ih
        have e11 : (sm (fC h O b) (k + 1)) = ((sm (fC h O b) k) + 1) := by rw [sm_s hk]; unfold fC; first | (rw [if_pos (by assumption), if_pos (by assumption)]; done) | (rw [if_pos (by assumption), if_neg (by omega)]; omega) | (rw [if_pos (by assumption)]; omega) | (rw [if_neg (by omega), if_pos (by assumption)]; done) | (rw [if_neg (by omega), if_neg (by assumption)]; omega) | (rw [if_neg (by omega)]; done) | (rw [if_neg (by omega)]; omega)
        rw [e11] at ih
        have e12 : ((6 * b) + (k + 1)) = (((6 * b) + k) + 1) := by omega
        rw [e12] at ih
        refine v_loc (lo_k (lo_k (lo_k (lo_k (lo_k (lo_k (lo_k (lo_k (lo_k (lo_k (lo_k (lo_k (lo_k (lo_d (lo_d (lo_d lo_nil)))))))))))))))) ?_
        exact ih
    · refine v_lload dX12_findLetters_79 rfl ?_
      refine v_aload_n dX12_findLetters_81 rfl ?_
      refine v_getr (ci := 12) (j := 26) (ji := 26) (z := 129) dX12_findLetters_82 k_1442 (by decide) kk_116 (by decide) rfl rfl (fun r => rt_116_26 (r rfl)) (by decide) ?_
      refine v_iload dX12_findLetters_85 rfl ?_
      refine v_ialoadv dX12_findLetters_87 (by decide) kk_129 (by omega) (by omega) (jst_c (by decide)) ?_
      refine v_aload_n dX12_findLetters_88 rfl ?_
      refine v_getr (ci := 12) (j := 26) (ji := 26) (z := 129) dX12_findLetters_89 k_1442 (by decide) kk_116 (by decide) rfl rfl (fun r => rt_116_26 (r rfl)) (by decide) ?_
      refine v_iload_n dX12_findLetters_92 rfl ?_
      refine v_ialoadv dX12_findLetters_93 (by decide) kk_129 (by omega) (by omega) (jst_c (by decide)) ?_
      refine v_icmp_eq (tgt := 102) dX12_findLetters_94 (by decide) (fun c94_4 => ?_) (fun c94_4 => ?_)
      · refine v_lconst (z := 0) dX12_findLetters_102 (c64 rfl) (by decide) ?_
        refine v_laddE dX12_findLetters_103 (by omega) ?_
        refine v_lstore_9 dX12_findLetters_104 (by decide) rfl ?_
        refine v_goto (tgt := 146) dX12_findLetters_106 (by decide) ?_
        refine v_iinc_12 dX12_findLetters_146 (by decide) rfl ?_
        rw [iadd_eq (x := ((6 * b) + k)) (y := 1) (by unfold ok32; omega)]
        refine v_goto (tgt := 20) dX12_findLetters_149 (by decide) ?_
        have ih := ih (by omega)
        have e3 : (sm (eV h b q) (k + 1)) = ((sm (eV h b q) k) + (eV h b q k)) := by rw [sm_s hk]
        rw [e3] at ih
        have e5 : (sm (fO h O b q) (k + 1)) = (sm (fO h O b q) k) := by rw [sm_s hk]; unfold fO; first | (rw [if_pos (by assumption), if_pos (by assumption)]; done) | (rw [if_pos (by assumption), if_neg (by omega)]; omega) | (rw [if_pos (by assumption)]; omega) | (rw [if_neg (by omega), if_pos (by assumption)]; done) | (rw [if_neg (by omega), if_neg (by assumption)]; omega) | (rw [if_neg (by omega)]; done) | (rw [if_neg (by omega)]; omega)
        rw [e5] at ih
        have e7 : (sm (fK h O b q) (k + 1)) = (sm (fK h O b q) k) := by rw [sm_s hk]; unfold fK; first | (rw [if_pos (by assumption), if_pos (by assumption)]; done) | (rw [if_pos (by assumption), if_neg (by omega)]; omega) | (rw [if_pos (by assumption)]; omega) | (rw [if_neg (by omega), if_pos (by assumption)]; done) | (rw [if_neg (by omega), if_neg (by assumption)]; omega) | (rw [if_neg (by omega)]; done) | (rw [if_neg (by omega)]; omega)
        rw [e7] at ih
        have e9 : (sm (fB h O b q) (k + 1)) = ((sm (fB h O b q) k) + 0) := by rw [sm_s hk]; unfold fB; first | (rw [if_pos (by assumption), if_pos (by assumption)]; done) | (rw [if_pos (by assumption), if_neg (by omega)]; omega) | (rw [if_pos (by assumption)]; omega) | (rw [if_neg (by omega), if_pos (by assumption)]; done) | (rw [if_neg (by omega), if_neg (by assumption)]; omega) | (rw [if_neg (by omega)]; done) | (rw [if_neg (by omega)]; omega)
        rw [e9] at ih
        have e11 : (sm (fC h O b) (k + 1)) = (sm (fC h O b) k) := by rw [sm_s hk]; unfold fC; first | (rw [if_pos (by assumption), if_pos (by assumption)]; done) | (rw [if_pos (by assumption), if_neg (by omega)]; omega) | (rw [if_pos (by assumption)]; omega) | (rw [if_neg (by omega), if_pos (by assumption)]; done) | (rw [if_neg (by omega), if_neg (by assumption)]; omega) | (rw [if_neg (by omega)]; done) | (rw [if_neg (by omega)]; omega)
        rw [e11] at ih
        have e12 : ((6 * b) + (k + 1)) = (((6 * b) + k) + 1) := by omega
        rw [e12] at ih
        refine v_loc (lo_k (lo_k (lo_k (lo_k (lo_k (lo_k (lo_k (lo_k (lo_k (lo_k (lo_k (lo_k (lo_k (lo_d (lo_d (lo_d lo_nil)))))))))))))))) ?_
        exact ih
      · refine v_lload dX12_findLetters_97 rfl ?_
        refine v_goto (tgt := 103) dX12_findLetters_99 (by decide) ?_
        refine v_laddE dX12_findLetters_103 (by omega) ?_
        refine v_lstore_9 dX12_findLetters_104 (by decide) rfl ?_
        refine v_goto (tgt := 146) dX12_findLetters_106 (by decide) ?_
        refine v_iinc_12 dX12_findLetters_146 (by decide) rfl ?_
        rw [iadd_eq (x := ((6 * b) + k)) (y := 1) (by unfold ok32; omega)]
        refine v_goto (tgt := 20) dX12_findLetters_149 (by decide) ?_
        have ih := ih (by omega)
        have e3 : (sm (eV h b q) (k + 1)) = ((sm (eV h b q) k) + (eV h b q k)) := by rw [sm_s hk]
        rw [e3] at ih
        have e5 : (sm (fO h O b q) (k + 1)) = (sm (fO h O b q) k) := by rw [sm_s hk]; unfold fO; first | (rw [if_pos (by assumption), if_pos (by assumption)]; done) | (rw [if_pos (by assumption), if_neg (by omega)]; omega) | (rw [if_pos (by assumption)]; omega) | (rw [if_neg (by omega), if_pos (by assumption)]; done) | (rw [if_neg (by omega), if_neg (by assumption)]; omega) | (rw [if_neg (by omega)]; done) | (rw [if_neg (by omega)]; omega)
        rw [e5] at ih
        have e7 : (sm (fK h O b q) (k + 1)) = (sm (fK h O b q) k) := by rw [sm_s hk]; unfold fK; first | (rw [if_pos (by assumption), if_pos (by assumption)]; done) | (rw [if_pos (by assumption), if_neg (by omega)]; omega) | (rw [if_pos (by assumption)]; omega) | (rw [if_neg (by omega), if_pos (by assumption)]; done) | (rw [if_neg (by omega), if_neg (by assumption)]; omega) | (rw [if_neg (by omega)]; done) | (rw [if_neg (by omega)]; omega)
        rw [e7] at ih
        have e9 : (sm (fB h O b q) (k + 1)) = ((sm (fB h O b q) k) + (eV h b q k)) := by rw [sm_s hk]; unfold fB; first | (rw [if_pos (by assumption), if_pos (by assumption)]; done) | (rw [if_pos (by assumption), if_neg (by omega)]; omega) | (rw [if_pos (by assumption)]; omega) | (rw [if_neg (by omega), if_pos (by assumption)]; done) | (rw [if_neg (by omega), if_neg (by assumption)]; omega) | (rw [if_neg (by omega)]; done) | (rw [if_neg (by omega)]; omega)
        rw [e9] at ih
        have e11 : (sm (fC h O b) (k + 1)) = (sm (fC h O b) k) := by rw [sm_s hk]; unfold fC; first | (rw [if_pos (by assumption), if_pos (by assumption)]; done) | (rw [if_pos (by assumption), if_neg (by omega)]; omega) | (rw [if_pos (by assumption)]; omega) | (rw [if_neg (by omega), if_pos (by assumption)]; done) | (rw [if_neg (by omega), if_neg (by assumption)]; omega) | (rw [if_neg (by omega)]; done) | (rw [if_neg (by omega)]; omega)
        rw [e11] at ih
        have e12 : ((6 * b) + (k + 1)) = (((6 * b) + k) + 1) := by omega
        rw [e12] at ih
        refine v_loc (lo_k (lo_k (lo_k (lo_k (lo_k (lo_k (lo_k (lo_k (lo_k (lo_k (lo_k (lo_k (lo_k (lo_d (lo_d (lo_d lo_nil)))))))))))))))) ?_
        exact ih

set_option maxHeartbeats 4000000 in
set_option maxRecDepth 100000 in
theorem s_findLetters {l : Launch} {G : GG} {d : Nat} {h : AH} {Q : Option AV → List Kd → AH → Prop} {z O Lr : Int → Int} {b q : Int} (hd : 3 ≤ d) (hb : 0 ≤ b ∧ b < 100) (hm : 0 ≤ h 116 48 ∧ h 116 48 ≤ 100) (he : 0 ≤ h 137 b ∧ h 137 b ≤ 6) (hen : ∀ k, 0 ≤ k → k < h 137 b → 0 ≤ eB h b k ∧ eB h b k < 100) (hpv : ∀ k, 0 ≤ k → k < h 137 b → 0 ≤ eV h b q k ∧ eV h b q k ≤ 100000000) (hpb : 1 ≤ prc h q b * h 132 b ∧ prc h q b * h 132 b ≤ 100000000) (hh : 0 ≤ h 130 b ∧ h 130 b < 100) (hpp : -1 ≤ h 135 b ∧ h 135 b < 10) (hq : Q none K0 (jst h z O (fLet h O b q Lr))) : Sp l G mX12_findLetters d 0 0 K0 [(2, 116), (0, b), (0, q)] (jst h z O Lr) Q := by
  refine sp_of (L := [(2, 116), (0, b), (0, q), (9, 0), (9, 0), (9, 0), (9, 0), (9, 0), (9, 0), (9, 0), (9, 0), (9, 0), (9, 0), (9, 0), (9, 0), (9, 0)]) pl_X12 (Nat.le_of_ble_eq_true rfl) (tg_c (by decide) (tg_c (by decide) (tg_c (by decide) tg_0))) rfl ?_
  refine v_lconst (z := 0) dX12_findLetters_0 (c64 rfl) (by decide) ?_
  refine v_lstore_n_3 dX12_findLetters_1 (by decide) rfl ?_
  refine v_lconst (z := 0) dX12_findLetters_2 (c64 rfl) (by decide) ?_
  refine v_lstore_5 dX12_findLetters_3 (by decide) rfl ?_
  refine v_lconst (z := 0) dX12_findLetters_5 (c64 rfl) (by decide) ?_
  refine v_lstore_7 dX12_findLetters_6 (by decide) rfl ?_
  refine v_lconst (z := 0) dX12_findLetters_8 (c64 rfl) (by decide) ?_
  refine v_lstore_9 dX12_findLetters_9 (by decide) rfl ?_
  refine v_iconst dX12_findLetters_11 (c32 rfl) ?_
  refine v_istore_11 dX12_findLetters_12 (by decide) rfl ?_
  refine v_bipush dX12_findLetters_14 (c32 rfl) (by decide) ?_
  refine v_iload_n dX12_findLetters_16 rfl ?_
  refine v_imulE dX12_findLetters_17 (by omega) ?_
  refine v_istore_12 dX12_findLetters_18 (by decide) rfl ?_
  have q9 := lp_X12_findLetters_20 (l := l) (G := G) (z := z) hd hb hm he hen hpv hpb hh hpp hq 0 (Int.le_refl _) he.1
  rw [sm_0, sm_0, sm_0, sm_0, sm_0, Int.add_zero] at q9
  exact q9

theorem stp_congr {l1 l2 : Int → Int} (hl : ∀ i, 0 ≤ i → i < 8 → l1 i = l2 i) {x : Int} {st : List Int} : stp l1 x st = stp l2 x st := by
  unfold stp
  by_cases q : 0 ≤ x
  · rw [if_pos q, if_pos q]
  · rw [if_neg q, if_neg q]
    by_cases q2 : -8 ≤ x
    · rw [if_pos q2, if_pos q2, hl _ (by omega) (by omega)]
    · rw [if_neg q2, if_neg q2]
theorem exC_congr {l1 l2 : Int → Int} (hl : ∀ i, 0 ≤ i → i < 8 → l1 i = l2 i) : ∀ {k st : List Int}, exC l1 k st = exC l2 k st := by
  intro k
  induction k with
  | nil => intro st; rfl
  | cons x k ih =>
    intro st
    show (match stp l1 x st with | none => none | some s => exC l1 k s) = match stp l2 x st with | none => none | some s => exC l2 k s
    rw [stp_congr hl]
    cases stp l2 x st with
    | none => rfl
    | some s => exact ih
theorem fndL_congr {l1 l2 : Int → Int} (hl : ∀ i, 0 ≤ i → i < 8 → l1 i = l2 i) {lab : Int} : ∀ {cs : List (Int × List Int)}, fndL l1 lab cs = fndL l2 lab cs := by
  intro cs
  induction cs with
  | nil => rfl
  | cons c cs ih =>
    have e : fnd1 l1 lab c = fnd1 l2 lab c := by unfold fnd1; rw [exC_congr hl]
    show (match fnd1 l1 lab c with | some v => some v | none => fndL l1 lab cs) = match fnd1 l2 lab c with | some v => some v | none => fndL l2 lab cs
    rw [e, ih]

