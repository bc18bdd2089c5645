/-! ===== clear, made: both sides (written by wip/whole/p58.py) ===== -/
/-- what lay on the bench goes back: which, how many, what is left -/
def clrR (Bo Bm Le : Int → Int) (k : Int) : Int → Int := fupI (fun i g => fset g (Bo i) (iadd (g (Bo i)) (Bm i))) Le k
theorem clrR_s {Bo Bm Le : Int → Int} {k : Int} (h : 0 ≤ k) : clrR Bo Bm Le (k + 1) = fset (clrR Bo Bm Le k) (Bo k) (iadd (clrR Bo Bm Le k (Bo k)) (Bm k)) := fupI_s h
theorem clrH_ov {h : AH} {cb cm cl k : Int} (hk : 0 ≤ k) : clrH h cb cm cl k = ov1 h cl (clrR (h cb) (h cm) (h cl) k) := by
  have key : ∀ m : Nat, clrH h cb cm cl m = ov1 h cl (clrR (h cb) (h cm) (h cl) m) := by
    intro m
    induction m with
    | zero =>
      show h = ov1 h cl (h cl)
      exact ov1_mk.symm
    | succ m ih =>
      rw [show ((m + 1 : Nat) : Int) = (m : Int) + 1 by omega, clrH_s (by omega), ih, ov1_w, ov1_s, clrR_s (by omega)]
  have := key k.toNat
  rw [Int.toNat_of_nonneg hk] at this
  exact this
/-- entries copied behind a batch's place -/
def cpR (E : Int → Int) (b : Int) (V : Int → Int) (k : Int) : Int → Int := fupI (fun i g => fset g (6 * b + i) (V i)) E k
theorem cpR_s {E V : Int → Int} {b k : Int} (h : 0 ≤ k) : cpR E b V (k + 1) = fset (cpR E b V k) (6 * b + k) (V k) := fupI_s h
theorem fset_tw2 {f : Int → Int} {i x y : Int} : fset (fset f i x) i y = fset f i y := fset_tw
theorem V_castL {l : Launch} {G : GG} {M : MI} {d mc ms n1 n2 : Nat} {K : List Kd} {pc : Nat} {L st : List AV} {h h2 : AH} {Q : Option AV → List Kd → AH → Prop} (e : h = h2) (k : V l G M d mc ms n1 n2 K pc L st h2 Q) : V l G M d mc ms n1 n2 K pc L st h Q := by
  rw [e]
  exact k

set_option maxHeartbeats 4000000 in
set_option maxRecDepth 100000 in
theorem lp_cgive {l : Launch} {G : GG} {d : Nat} {h : AH} {Q : Option AV → List Kd → AH → Prop} (hd : 1 ≤ d) (hn : 0 ≤ h 81 2 ∧ h 81 2 ≤ 6) (he : ∀ j, 0 ≤ j → j < h 81 2 → 0 ≤ h 82 j ∧ h 82 j < 100) (hq : Q (some (0, h 81 2)) K0 (ov1 (hset h 81 2 0) 46 (clrR (h 82) (h 83) (h 46) (h 81 2)))) : ∀ k, 0 ≤ k → k ≤ h 81 2 → V l G mX10_giveBack d 0 0 0 0 K0 7 [(2, 81), (2, 41), (0, h 81 2), (0, k)] [] (ov1 h 46 (clrR (h 82) (h 83) (h 46) k)) Q := by
  refine loop_m3 (fun k hk hkN ih => ?_)
  refine v_iload_n dX10_giveBack_7 rfl ?_
  refine v_aload_n dX10_giveBack_8 rfl ?_
  refine v_getv (ci := 10) (j := 2) (ji := 2) (tg := 0) dX10_giveBack_9 k_443 (by decide) kk_81 (by decide) rfl rfl (by decide) (ov1_c (by decide)) ?_
  refine v_icmp_ge (tgt := 41) dX10_giveBack_12 (by decide) (fun c12_1 => ?_) (fun c12_1 => ?_)
  · refine v_aload_n dX10_giveBack_41 rfl ?_
    refine v_iconst dX10_giveBack_42 (c32 rfl) ?_
    refine v_puti (ci := 10) (j := 2) (ji := 2) dX10_giveBack_43 k_443 (by decide) kk_81 (by decide) rfl rfl rfl ?_
    rw [ov1_n (by decide)]
    refine v_iload_n dX10_giveBack_46 rfl ?_
    refine v_ireti dX10_giveBack_47 rfl (Nat.le_refl _) (Nat.le_refl _) ?_
    obtain rfl : k = h 81 2 := by omega
    exact hq
  · have e1 := he k hk (by omega)
    refine v_aload_n dX10_giveBack_15 rfl ?_
    refine v_getrN (ci := 6) (j := 4) (ji := 4) (z := 46) dX10_giveBack_16 k_302 (by decide) kk_41 (by decide) rfl rfl (fun r => rt_41_4 (r rfl)) (by decide) ?_
    refine v_aload_n dX10_giveBack_19 rfl ?_
    refine v_getr (ci := 10) (j := 0) (ji := 0) (z := 82) dX10_giveBack_20 k_441 (by decide) kk_81 (by decide) rfl rfl (fun r => rt_81_0 (r rfl)) (by decide) ?_
    refine v_iload_n dX10_giveBack_23 rfl ?_
    refine v_ialoadv dX10_giveBack_24 (by decide) kk_82 (by omega) (by omega) (ov1_c (by decide)) ?_
    refine v_dup2 dX10_giveBack_25 rfl rfl ?_
    refine v_ialoadv dX10_giveBack_26 (by decide) kk_46 (by omega) (by omega) (ov1_s) ?_
    refine v_aload_n dX10_giveBack_27 rfl ?_
    refine v_getr (ci := 10) (j := 1) (ji := 1) (z := 83) dX10_giveBack_28 k_442 (by decide) kk_81 (by decide) rfl rfl (fun r => rt_81_1 (r rfl)) (by decide) ?_
    refine v_iload_n dX10_giveBack_31 rfl ?_
    refine v_ialoadv dX10_giveBack_32 (by decide) kk_83 (by omega) (by omega) (ov1_c (by decide)) ?_
    refine v_iadd dX10_giveBack_33 ?_
    refine v_iastore dX10_giveBack_34 (by decide) kk_46 (by omega) (by omega) ?_
    rw [ov1_w]
    refine v_iinc_3 dX10_giveBack_35 (by decide) rfl ?_
    rw [iadd_eq (x := k) (y := 1) (by unfold ok32; omega)]
    refine v_goto (tgt := 7) dX10_giveBack_38 (by decide) ?_
    have ih9 := ih (by omega)
    rw [clrR_s hk] at ih9
    exact ih9

set_option maxHeartbeats 4000000 in
set_option maxRecDepth 100000 in
theorem s_cgive {l : Launch} {G : GG} {d : Nat} {h : AH} {Q : Option AV → List Kd → AH → Prop} (hd : 1 ≤ d) (hn : 0 ≤ h 81 2 ∧ h 81 2 ≤ 6) (he : ∀ j, 0 ≤ j → j < h 81 2 → 0 ≤ h 82 j ∧ h 82 j < 100) (hq : Q (some (0, h 81 2)) K0 (ov1 (hset h 81 2 0) 46 (clrR (h 82) (h 83) (h 46) (h 81 2)))) : Sp l G mX10_giveBack d 0 0 K0 [(2, 81), (2, 41)] h Q := by
  refine sp_of (L := [(2, 81), (2, 41), (9, 0), (9, 0)]) pl_X10 (Nat.le_of_ble_eq_true rfl) (tg_c (by decide) (tg_c (by decide) tg_0)) rfl ?_
  refine v_aload_n dX10_giveBack_0 rfl ?_
  refine v_get (ci := 10) (j := 2) (ji := 2) (tg := 0) dX10_giveBack_1 k_443 (by decide) kk_81 (by decide) rfl rfl (by decide) ?_
  refine v_istore_n_2 dX10_giveBack_4 (by decide) rfl ?_
  refine v_iconst dX10_giveBack_5 (c32 rfl) ?_
  refine v_istore_n_3 dX10_giveBack_6 (by decide) rfl ?_
  have q9 := lp_cgive (l := l) (G := G) hd hn he hq 0 (Int.le_refl _) hn.1
  rw [show clrR (h 82) (h 83) (h 46) 0 = h 46 from rfl, ov1_mk] at q9
  exact q9

set_option maxHeartbeats 4000000 in
set_option maxRecDepth 100000 in
theorem s_Fclear {l : Launch} {G : GG} {d : Nat} {h : AH} {Q : Option AV → List Kd → AH → Prop} (hd : 2 ≤ d) (hn : 0 ≤ h 81 2 ∧ h 81 2 ≤ 6) (he : ∀ j, 0 ≤ j → j < h 81 2 → 0 ≤ h 82 j ∧ h 82 j < 100) (hq : Q (some (0, h 81 2)) K0 (ov1 (hset h 81 2 0) 46 (clrR (h 82) (h 83) (h 46) (h 81 2)))) : Sp l G mX11_clear d 0 0 K0 [(2, 0)] h Q := by
  refine sp_of (L := [(2, 0)]) pl_X11 (Nat.le_of_ble_eq_true rfl) (tg_c (by decide) tg_0) rfl ?_
  refine v_aload_n dX11_clear_0 rfl ?_
  refine v_getr (ci := 11) (j := 4) (ji := 4) (z := 81) dX11_clear_1 k_558 (by decide) kk_0 (by decide) rfl rfl (fun r => rt_0_4 (r rfl)) (by decide) ?_
  refine v_aload_n dX11_clear_4 rfl ?_
  refine v_getr (ci := 11) (j := 3) (ji := 3) (z := 41) dX11_clear_5 k_557 (by decide) kk_0 (by decide) rfl rfl (fun r => rt_0_3 (r rfl)) (by decide) ?_
  refine v_callv (M' := mX10_giveBack) (d' := d - 1) (mc' := 0) (ms' := 0) (ci := 10) (c := 81) (As := [_]) dX11_clear_8 k_894 cm_X10_giveBack rfl (by omega) (by decide) kk_81 (Nat.le_of_ble_eq_true rfl) rfl ⟨Nat.le_refl _, Nat.le_refl _⟩ ?_
  refine s_cgive (by omega) hn he ?_
  dsimp only [Option.toList, List.cons_append, List.nil_append, Nat.add_zero]
  refine v_ireti dX11_clear_11 rfl (Nat.le_refl _) (Nat.le_refl _) ?_
  exact hq

theorem s_has1 {l : Launch} {G : GG} {d : Nat} {h : AH} {Q : Option AV → List Kd → AH → Prop} {b : Int} (hd : 2 ≤ d) (hb : 0 ≤ b ∧ b < h 41 12) (hn : h 41 12 ≤ 100) (hq : Q (some (0, 1)) K0 h) : Sp l G mX6_has d 0 0 K0 [(2, 41), (0, b)] h Q := by
  refine s_X6_has hd (by omega) hn ?_ ?_ ?_
  all_goals first | (intro q; exfalso; omega) | (intro _ q; exfalso; omega) | (intros; exact hq)

set_option maxHeartbeats 4000000 in
set_option maxRecDepth 100000 in
theorem s_caddE {l : Launch} {G : GG} {d : Nat} {h : AH} {Q : Option AV → List Kd → AH → Prop} {E0 A0 B0 : Int → Int} {b k : Int} (hd : 3 ≤ d) (hb : 0 ≤ b ∧ b < h 41 12) (hn : h 41 12 ≤ 100) (hk : 0 ≤ k) (hk2 : k < 6) (hq : Q none K0 (ov1 (ov1 (ov1 h 50 (fset E0 b (k + 1))) 51 (cpR A0 b (h 82) (k + 1))) 52 (cpR B0 b (h 83) (k + 1)))) : Sp l G mX6_addEntry d 0 0 K0 [(2, 41), (0, b), (0, (h 82 k)), (0, (h 83 k))] (ov1 (ov1 (ov1 h 50 (fset E0 b k)) 51 (cpR A0 b (h 82) k)) 52 (cpR B0 b (h 83) k)) Q := by
  refine sp_of (L := [(2, 41), (0, b), (0, (h 82 k)), (0, (h 83 k)), (9, 0)]) pl_X6 (Nat.le_of_ble_eq_true rfl) (tg_c (by decide) (tg_c (by decide) (tg_c (by decide) (tg_c (by decide) tg_0)))) rfl ?_
  refine v_aload_n dX6_addEntry_0 rfl ?_
  refine v_iload_n dX6_addEntry_1 rfl ?_
  refine v_callv (M' := mX6_has) (d' := d - 1) (mc' := 0) (ms' := 0) (ci := 6) (c := 41) (As := [_]) dX6_addEntry_2 k_855 cm_X6_has rfl (by omega) (by decide) kk_41 (Nat.le_of_ble_eq_true rfl) rfl ⟨Nat.le_refl _, Nat.le_refl _⟩ ?_
  refine s_has1 (by omega) (by rw [ov1_c (by decide), ov1_c (by decide), ov1_c (by decide)]; exact hb) (by rw [ov1_c (by decide), ov1_c (by decide), ov1_c (by decide)]; exact hn) ?_
  dsimp only [Option.toList, List.cons_append, List.nil_append, Nat.add_zero]
  refine v_if_eq_f (tgt := 58) dX6_addEntry_5 (by decide) (by decide) ?_
  refine v_aload_n dX6_addEntry_8 rfl ?_
  refine v_getr (ci := 6) (j := 8) (ji := 8) (z := 50) dX6_addEntry_9 k_311 (by decide) kk_41 (by decide) rfl rfl (fun r => rt_41_8 (r rfl)) (by decide) ?_
  refine v_iload_n dX6_addEntry_12 rfl ?_
  refine v_ialoadv dX6_addEntry_13 (by decide) kk_50 (by omega) (by omega) ((ov1_c (by decide)).trans ((ov1_c (by decide)).trans ((ov1_s).trans (fset_same)))) ?_
  refine v_bipush dX6_addEntry_14 (c32 rfl) (by decide) ?_
  refine v_icmp_ge_f (tgt := 58) dX6_addEntry_16 (by decide) (by omega) ?_
  refine v_iload_n dX6_addEntry_19 rfl ?_
  refine v_bipush dX6_addEntry_20 (c32 rfl) (by decide) ?_
  refine v_imulE dX6_addEntry_22 (by omega) ?_
  refine v_aload_n dX6_addEntry_23 rfl ?_
  refine v_getr (ci := 6) (j := 8) (ji := 8) (z := 50) dX6_addEntry_24 k_311 (by decide) kk_41 (by decide) rfl rfl (fun r => rt_41_8 (r rfl)) (by decide) ?_
  refine v_iload_n dX6_addEntry_27 rfl ?_
  refine v_ialoadv dX6_addEntry_28 (by decide) kk_50 (by omega) (by omega) ((ov1_c (by decide)).trans ((ov1_c (by decide)).trans ((ov1_s).trans (fset_same)))) ?_
  refine v_iaddE dX6_addEntry_29 (by omega) ?_
  refine v_istore_4 dX6_addEntry_30 (by decide) rfl ?_
  refine v_aload_n dX6_addEntry_32 rfl ?_
  refine v_getr (ci := 6) (j := 9) (ji := 9) (z := 51) dX6_addEntry_33 k_314 (by decide) kk_41 (by decide) rfl rfl (fun r => rt_41_9 (r rfl)) (by decide) ?_
  refine v_iload dX6_addEntry_36 rfl ?_
  refine v_iload_n dX6_addEntry_38 rfl ?_
  refine v_iastore dX6_addEntry_39 (by decide) kk_51 (by omega) (by omega) ?_
  rw [ov1_n (by decide), ov1_w]
  refine v_aload_n dX6_addEntry_40 rfl ?_
  refine v_getr (ci := 6) (j := 10) (ji := 10) (z := 52) dX6_addEntry_41 k_315 (by decide) kk_41 (by decide) rfl rfl (fun r => rt_41_10 (r rfl)) (by decide) ?_
  refine v_iload dX6_addEntry_44 rfl ?_
  refine v_iload_n dX6_addEntry_46 rfl ?_
  refine v_iastore dX6_addEntry_47 (by decide) kk_52 (by omega) (by omega) ?_
  rw [ov1_w]
  refine v_aload_n dX6_addEntry_48 rfl ?_
  refine v_getr (ci := 6) (j := 8) (ji := 8) (z := 50) dX6_addEntry_49 k_311 (by decide) kk_41 (by decide) rfl rfl (fun r => rt_41_8 (r rfl)) (by decide) ?_
  refine v_iload_n dX6_addEntry_52 rfl ?_
  refine v_dup2 dX6_addEntry_53 rfl rfl ?_
  refine v_ialoadv dX6_addEntry_54 (by decide) kk_50 (by omega) (by omega) ((ov1_c (by decide)).trans ((ov1_c (by decide)).trans ((ov1_s).trans (fset_same)))) ?_
  refine v_iconst dX6_addEntry_55 (c32 rfl) ?_
  refine v_iaddE dX6_addEntry_56 (by omega) ?_
  refine v_iastore dX6_addEntry_57 (by decide) kk_50 (by omega) (by omega) ?_
  rw [ov1_n (by decide), ov1_n (by decide), ov1_w]
  refine v_vret dX6_addEntry_58 rfl (Nat.le_refl _) (Nat.le_refl _) ?_
  rw [fset_tw2, show b * 6 + k = 6 * b + k by omega]
  rw [cpR_s hk, cpR_s hk] at hq
  exact hq

set_option maxHeartbeats 4000000 in
set_option maxRecDepth 100000 in
theorem lp_cuse {l : Launch} {G : GG} {d : Nat} {h : AH} {Q : Option AV → List Kd → AH → Prop} {E0 A0 B0 : Int → Int} {b pr : Int} (hd : 4 ≤ d) (hb : 0 ≤ b ∧ b < h 41 12) (hn : h 41 12 ≤ 100) (hl : 0 ≤ h 81 2 ∧ h 81 2 ≤ 6) (hq : Q none K0 (ov1 (ov1 (ov1 (hset h 81 2 0) 50 (fset E0 b (h 81 2))) 51 (cpR A0 b (h 82) (h 81 2))) 52 (cpR B0 b (h 83) (h 81 2)))) : ∀ k, 0 ≤ k → k ≤ h 81 2 → V l G mX10_useUp d 0 0 0 0 K0 10 [(2, 81), (2, 41), (0, b), (0, pr), (0, k)] [] (ov1 (ov1 (ov1 h 50 (fset E0 b k)) 51 (cpR A0 b (h 82) k)) 52 (cpR B0 b (h 83) k)) Q := by
  refine loop_m3 (fun k hk hkN ih => ?_)
  refine v_iload dX10_useUp_10 rfl ?_
  refine v_aload_n dX10_useUp_12 rfl ?_
  refine v_getv (ci := 10) (j := 2) (ji := 2) (tg := 0) dX10_useUp_13 k_443 (by decide) kk_81 (by decide) rfl rfl (by decide) ((ov1_c (by decide)).trans ((ov1_c (by decide)).trans (ov1_c (by decide)))) ?_
  refine v_icmp_ge (tgt := 44) dX10_useUp_16 (by decide) (fun c16_1 => ?_) (fun c16_1 => ?_)
  · refine v_aload_n dX10_useUp_44 rfl ?_
    refine v_iconst dX10_useUp_45 (c32 rfl) ?_
    refine v_puti (ci := 10) (j := 2) (ji := 2) dX10_useUp_46 k_443 (by decide) kk_81 (by decide) rfl rfl rfl ?_
    rw [ov1_n (by decide), ov1_n (by decide), ov1_n (by decide)]
    refine v_vret dX10_useUp_49 rfl (Nat.le_refl _) (Nat.le_refl _) ?_
    obtain rfl : k = h 81 2 := by omega
    exact hq
  · refine v_aload_n dX10_useUp_19 rfl ?_
    refine v_iload_n dX10_useUp_20 rfl ?_
    refine v_aload_n dX10_useUp_21 rfl ?_
    refine v_getr (ci := 10) (j := 0) (ji := 0) (z := 82) dX10_useUp_22 k_441 (by decide) kk_81 (by decide) rfl rfl (fun r => rt_81_0 (r rfl)) (by decide) ?_
    refine v_iload dX10_useUp_25 rfl ?_
    refine v_ialoadv dX10_useUp_27 (by decide) kk_82 (by omega) (by omega) ((ov1_c (by decide)).trans ((ov1_c (by decide)).trans (ov1_c (by decide)))) ?_
    refine v_aload_n dX10_useUp_28 rfl ?_
    refine v_getr (ci := 10) (j := 1) (ji := 1) (z := 83) dX10_useUp_29 k_442 (by decide) kk_81 (by decide) rfl rfl (fun r => rt_81_1 (r rfl)) (by decide) ?_
    refine v_iload dX10_useUp_32 rfl ?_
    refine v_ialoadv dX10_useUp_34 (by decide) kk_83 (by omega) (by omega) ((ov1_c (by decide)).trans ((ov1_c (by decide)).trans (ov1_c (by decide)))) ?_
    refine v_callv (M' := mX6_addEntry) (d' := d - 1) (mc' := 0) (ms' := 0) (ci := 6) (c := 41) (As := [_, _, _]) dX10_useUp_35 k_906 cm_X6_addEntry rfl (by omega) (by decide) kk_41 (Nat.le_of_ble_eq_true rfl) rfl ⟨Nat.le_refl _, Nat.le_refl _⟩ ?_
    refine s_caddE (by omega) hb hn hk (by omega) ?_
    dsimp only [Option.toList, List.cons_append, List.nil_append, Nat.add_zero]
    refine v_iinc_4 dX10_useUp_38 (by decide) rfl ?_
    rw [iadd_eq (x := k) (y := 1) (by unfold ok32; omega)]
    refine v_goto (tgt := 10) dX10_useUp_41 (by decide) ?_
    exact ih (by omega)

/-- a batch made of the bench, as the class keeps it -/
def usH (h : AH) (b pr : Int) : AH := (ov1 (ov1 (ov1 (hset (hset h 48 b pr) 81 2 0) 50 (fset (h 50) b (h 81 2))) 51 (cpR (h 51) b (h 82) (h 81 2))) 52 (cpR (h 52) b (h 83) (h 81 2)))
set_option maxHeartbeats 4000000 in
set_option maxRecDepth 100000 in
theorem s_cuse {l : Launch} {G : GG} {d : Nat} {h : AH} {Q : Option AV → List Kd → AH → Prop} {b pr : Int} (hd : 4 ≤ d) (hb : 0 ≤ b ∧ b < h 41 12) (hn : h 41 12 ≤ 100) (hl : 0 ≤ h 81 2 ∧ h 81 2 ≤ 6) (h50 : h 50 b = 0) (hq : Q none K0 (usH h b pr)) : Sp l G mX10_useUp d 0 0 K0 [(2, 81), (2, 41), (0, b), (0, pr)] h Q := by
  refine sp_of (L := [(2, 81), (2, 41), (0, b), (0, pr), (9, 0)]) pl_X10 (Nat.le_of_ble_eq_true rfl) (tg_c (by decide) (tg_c (by decide) (tg_c (by decide) (tg_c (by decide) tg_0)))) rfl ?_
  refine v_aload_n dX10_useUp_0 rfl ?_
  refine v_getrN (ci := 6) (j := 6) (ji := 6) (z := 48) dX10_useUp_1 k_309 (by decide) kk_41 (by decide) rfl rfl (fun r => rt_41_6 (r rfl)) (by decide) ?_
  refine v_iload_n dX10_useUp_4 rfl ?_
  refine v_iload_n dX10_useUp_5 rfl ?_
  refine v_iastore dX10_useUp_6 (by decide) kk_48 (by omega) (by omega) ?_
  refine v_iconst dX10_useUp_7 (c32 rfl) ?_
  refine v_istore_4 dX10_useUp_8 (by decide) rfl ?_
  have e50 : fset (hset h 48 b pr 50) b 0 = h 50 := by
    rw [hset_r (by decide)]
    funext j
    by_cases e : j = b
    · rw [e, fset_same, h50]
    · rw [fset_ne e]
  have eh : (ov1 (ov1 (ov1 (hset h 48 b pr) 50 (fset (hset h 48 b pr 50) b 0)) 51 (cpR (h 51) b (hset h 48 b pr 82) 0)) 52 (cpR (h 52) b (hset h 48 b pr 83) 0)) = hset h 48 b pr := by
    rw [e50, show cpR (h 51) b (hset h 48 b pr 82) 0 = h 51 from rfl, show cpR (h 52) b (hset h 48 b pr 83) 0 = h 52 from rfl]
    rw [show h 50 = hset h 48 b pr 50 from (hset_r (by decide)).symm, ov1_mk, show h 51 = hset h 48 b pr 51 from (hset_r (by decide)).symm, ov1_mk, show h 52 = hset h 48 b pr 52 from (hset_r (by decide)).symm, ov1_mk]
  have q9 := lp_cuse (l := l) (G := G) (d := d) (h := hset h 48 b pr) (E0 := hset h 48 b pr 50) (A0 := h 51) (B0 := h 52) (b := b) (pr := pr) (Q := Q) hd (by rw [hset_c (by decide)]; exact hb) (by rw [hset_c (by decide)]; exact hn) (by rw [hset_c (by decide)]; exact hl) (by
    rw [hset_c (by decide), hset_r (by decide), hset_r (by decide), hset_r (by decide)]
    exact hq) 0 (Int.le_refl _) (by rw [hset_c (by decide)]; exact hl.1)
  rw [eh] at q9
  exact q9

/-- a batch more, as the class keeps it -/
def caH (h : AH) (a b c e now : Int) : AH := (hset (hset (hset (hset (hset (hset (hset (hset (hset (hset h 42 (h 41 12) a) 43 (h 41 12) b) 44 (h 41 12) c) 45 (h 41 12) e) 46 (h 41 12) e) 47 (h 41 12) now) 48 (h 41 12) (-1)) 49 (h 41 12) (-1)) 50 (h 41 12) 0) 41 12 ((h 41 12) + 1))
theorem s_cadd6 {l : Launch} {G : GG} {d : Nat} {h : AH} {Q : Option AV → List Kd → AH → Prop} {a b c e nw : Int} (hd : 2 ≤ d) (h0 : 0 ≤ h 41 12) (h1 : h 41 12 ≤ 100) (q0 : 100 ≤ h 41 12 → Q (some (0, -1)) K0 h) (q1 : h 41 12 < 100 → Q (some (0, h 41 12)) K0 (caH h a b c e nw)) : Sp l G mX6_add d 0 0 K0 [(2, 41), (0, a), (0, b), (0, c), (0, e), (0, nw)] h Q := s_X6_add hd h0 h1 (fun z => by rw [show h 41 12 + 1 - 1 = h 41 12 by omega]; exact q1 z) q0

section CAH
variable {h : AH} {a b c e now : Int}
theorem caH_12 : caH h a b c e now 41 12 = h 41 12 + 1 := by unfold caH; rw [hset_same]
theorem caH_2 : caH h a b c e now 81 2 = h 81 2 := by unfold caH; rw [hset_c (by decide), hset_c (by decide), hset_c (by decide), hset_c (by decide), hset_c (by decide), hset_c (by decide), hset_c (by decide), hset_c (by decide), hset_c (by decide), hset_c (by decide)]
theorem caH_50 : caH h a b c e now 50 (h 41 12) = 0 := by unfold caH; rw [hset_c (by decide), hset_same]
end CAH

set_option maxHeartbeats 4000000 in
set_option maxRecDepth 100000 in
theorem s_Fmade {l : Launch} {G : GG} {d : Nat} {h : AH} {Q : Option AV → List Kd → AH → Prop} {a b pr c e : Int} (hd : 6 ≤ d) (h0 : 0 ≤ h 41 12) (h1 : h 41 12 ≤ 100) (hl : 0 ≤ h 81 2 ∧ h 81 2 ≤ 6) (q0 : ¬ ((0 ≤ a ∧ a ≤ 7) ∧ (0 ≤ b ∧ b ≤ 99) ∧ (1 ≤ c ∧ c ≤ 10000) ∧ (1 ≤ e ∧ e ≤ 10000) ∧ (0 ≤ pr ∧ pr ≤ 9) ∧ h 81 2 ≠ 0 ∧ h 41 12 < 100) → Q (some (0, -1)) K0 h) (q1 : ((0 ≤ a ∧ a ≤ 7) ∧ (0 ≤ b ∧ b ≤ 99) ∧ (1 ≤ c ∧ c ≤ 10000) ∧ (1 ≤ e ∧ e ≤ 10000) ∧ (0 ≤ pr ∧ pr ≤ 9) ∧ h 81 2 ≠ 0 ∧ h 41 12 < 100) → Q (some (0, h 41 12)) K0 (usH (caH h a b c e (h 0 0)) (h 41 12) pr)) : Sp l G mX11_made d 0 0 K0 [(2, 0), (0, a), (0, b), (0, pr), (0, c), (0, e)] h Q := by
  refine sp_of (L := [(2, 0), (0, a), (0, b), (0, pr), (0, c), (0, e), (9, 0)]) pl_X11 (Nat.le_of_ble_eq_true rfl) (tg_c (by decide) (tg_c (by decide) (tg_c (by decide) (tg_c (by decide) (tg_c (by decide) (tg_c (by decide) tg_0)))))) rfl ?_
  refine v_iload_n dX11_made_0 rfl ?_
  refine v_iload_n dX11_made_1 rfl ?_
  refine v_iload dX11_made_2 rfl ?_
  refine v_iload dX11_made_4 rfl ?_
  refine v_calls (M' := mX11_isGood) (d' := d - 1) (mc' := 0) (ms' := 0) (As := [_, _, _, _]) dX11_made_6 k_836 cm_X11_isGood (by omega) (Nat.le_of_ble_eq_true rfl) rfl ⟨Nat.le_refl _, Nat.le_refl _⟩ ?_
  refine s_X11_isGood (by omega) (fun c6_1 => ?_) (fun c6_2 c6_3 => ?_) (fun c6_4 c6_5 c6_6 => ?_) (fun c6_7 c6_8 c6_9 c6_10 => ?_) (fun c6_11 c6_12 c6_13 c6_14 c6_15 => ?_) (fun c6_16 c6_17 c6_18 c6_19 c6_20 c6_21 => ?_) (fun c6_22 c6_23 c6_24 c6_25 c6_26 c6_27 c6_28 => ?_) (fun c6_29 c6_30 c6_31 c6_32 c6_33 c6_34 c6_35 c6_36 => ?_) (fun c6_37 c6_38 c6_39 c6_40 c6_41 c6_42 c6_43 c6_44 => ?_)
  · dsimp only [Option.toList, List.cons_append, List.nil_append, Nat.add_zero]
    refine v_if_eq_t (tgt := 32) dX11_made_9 (by decide) (by decide) ?_
    refine v_iconst dX11_made_32 (c32 rfl) ?_
    refine v_ireti dX11_made_33 rfl (Nat.le_refl _) (Nat.le_refl _) ?_
    exact q0 (by omega)
  · dsimp only [Option.toList, List.cons_append, List.nil_append, Nat.add_zero]
    refine v_if_eq_t (tgt := 32) dX11_made_9 (by decide) (by decide) ?_
    refine v_iconst dX11_made_32 (c32 rfl) ?_
    refine v_ireti dX11_made_33 rfl (Nat.le_refl _) (Nat.le_refl _) ?_
    exact q0 (by omega)
  · dsimp only [Option.toList, List.cons_append, List.nil_append, Nat.add_zero]
    refine v_if_eq_t (tgt := 32) dX11_made_9 (by decide) (by decide) ?_
    refine v_iconst dX11_made_32 (c32 rfl) ?_
    refine v_ireti dX11_made_33 rfl (Nat.le_refl _) (Nat.le_refl _) ?_
    exact q0 (by omega)
  · dsimp only [Option.toList, List.cons_append, List.nil_append, Nat.add_zero]
    refine v_if_eq_t (tgt := 32) dX11_made_9 (by decide) (by decide) ?_
    refine v_iconst dX11_made_32 (c32 rfl) ?_
    refine v_ireti dX11_made_33 rfl (Nat.le_refl _) (Nat.le_refl _) ?_
    exact q0 (by omega)
  · dsimp only [Option.toList, List.cons_append, List.nil_append, Nat.add_zero]
    refine v_if_eq_t (tgt := 32) dX11_made_9 (by decide) (by decide) ?_
    refine v_iconst dX11_made_32 (c32 rfl) ?_
    refine v_ireti dX11_made_33 rfl (Nat.le_refl _) (Nat.le_refl _) ?_
    exact q0 (by omega)
  · dsimp only [Option.toList, List.cons_append, List.nil_append, Nat.add_zero]
    refine v_if_eq_t (tgt := 32) dX11_made_9 (by decide) (by decide) ?_
    refine v_iconst dX11_made_32 (c32 rfl) ?_
    refine v_ireti dX11_made_33 rfl (Nat.le_refl _) (Nat.le_refl _) ?_
    exact q0 (by omega)
  · dsimp only [Option.toList, List.cons_append, List.nil_append, Nat.add_zero]
    refine v_if_eq_t (tgt := 32) dX11_made_9 (by decide) (by decide) ?_
    refine v_iconst dX11_made_32 (c32 rfl) ?_
    refine v_ireti dX11_made_33 rfl (Nat.le_refl _) (Nat.le_refl _) ?_
    exact q0 (by omega)
  · dsimp only [Option.toList, List.cons_append, List.nil_append, Nat.add_zero]
    refine v_if_eq_t (tgt := 32) dX11_made_9 (by decide) (by decide) ?_
    refine v_iconst dX11_made_32 (c32 rfl) ?_
    refine v_ireti dX11_made_33 rfl (Nat.le_refl _) (Nat.le_refl _) ?_
    exact q0 (by omega)
  · dsimp only [Option.toList, List.cons_append, List.nil_append, Nat.add_zero]
    refine v_if_eq_f (tgt := 32) dX11_made_9 (by decide) (by decide) ?_
    refine v_iload_n dX11_made_12 rfl ?_
    refine v_iconst dX11_made_13 (c32 rfl) ?_
    refine v_bipush dX11_made_14 (c32 rfl) (by decide) ?_
    refine v_calls (M' := mX11_within) (d' := d - 1) (mc' := 0) (ms' := 0) (As := [_, _, _]) dX11_made_16 k_586 cm_X11_within (by omega) (Nat.le_of_ble_eq_true rfl) rfl ⟨Nat.le_refl _, Nat.le_refl _⟩ ?_
    refine s_X11_within (by omega) (fun c16_45 => ?_) (fun c16_46 c16_47 => ?_) (fun c16_48 c16_49 => ?_)
    · dsimp only [Option.toList, List.cons_append, List.nil_append, Nat.add_zero]
      refine v_if_eq_t (tgt := 32) dX11_made_19 (by decide) (by decide) ?_
      refine v_iconst dX11_made_32 (c32 rfl) ?_
      refine v_ireti dX11_made_33 rfl (Nat.le_refl _) (Nat.le_refl _) ?_
      exact q0 (by omega)
    · dsimp only [Option.toList, List.cons_append, List.nil_append, Nat.add_zero]
      refine v_if_eq_t (tgt := 32) dX11_made_19 (by decide) (by decide) ?_
      refine v_iconst dX11_made_32 (c32 rfl) ?_
      refine v_ireti dX11_made_33 rfl (Nat.le_refl _) (Nat.le_refl _) ?_
      exact q0 (by omega)
    · dsimp only [Option.toList, List.cons_append, List.nil_append, Nat.add_zero]
      refine v_if_eq_f (tgt := 32) dX11_made_19 (by decide) (by decide) ?_
      refine v_aload_n dX11_made_22 rfl ?_
      refine v_getr (ci := 11) (j := 4) (ji := 4) (z := 81) dX11_made_23 k_558 (by decide) kk_0 (by decide) rfl rfl (fun r => rt_0_4 (r rfl)) (by decide) ?_
      refine v_getN (ci := 10) (j := 2) (ji := 2) (tg := 0) dX11_made_26 k_444 (by decide) kk_81 (by decide) rfl rfl (by decide) ?_
      refine v_if_ne (tgt := 34) dX11_made_29 (by decide) (fun c29_50 => ?_) (fun c29_50 => ?_)
      · refine v_aload_n dX11_made_34 rfl ?_
        refine v_getr (ci := 11) (j := 3) (ji := 3) (z := 41) dX11_made_35 k_557 (by decide) kk_0 (by decide) rfl rfl (fun r => rt_0_3 (r rfl)) (by decide) ?_
        refine v_iload_n dX11_made_38 rfl ?_
        refine v_iload_n dX11_made_39 rfl ?_
        refine v_iload dX11_made_40 rfl ?_
        refine v_iload dX11_made_42 rfl ?_
        refine v_aload_n dX11_made_44 rfl ?_
        refine v_get (ci := 11) (j := 0) (ji := 0) (tg := 0) dX11_made_45 k_554 (by decide) kk_0 (by decide) rfl rfl (by decide) ?_
        refine v_callv (M' := mX6_add) (d' := d - 1) (mc' := 0) (ms' := 0) (ci := 6) (c := 41) (As := [_, _, _, _, _]) dX11_made_48 k_839 cm_X6_add rfl (by omega) (by decide) kk_41 (Nat.le_of_ble_eq_true rfl) rfl ⟨Nat.le_refl _, Nat.le_refl _⟩ ?_
        refine s_cadd6 (by omega) h0 h1 (fun c48_51 => ?_) (fun c48_52 => ?_)
        · dsimp only [Option.toList, List.cons_append, List.nil_append, Nat.add_zero]
          refine v_istore_6 dX11_made_51 (by decide) rfl ?_
          refine v_iload dX11_made_53 rfl ?_
          refine v_iconst dX11_made_55 (c32 rfl) ?_
          refine v_icmp_eq_t (tgt := 73) dX11_made_56 (by decide) (by decide) ?_
          refine v_iload dX11_made_73 rfl ?_
          refine v_ireti dX11_made_75 rfl (Nat.le_refl _) (Nat.le_refl _) ?_
          exact q0 (by omega)
        · dsimp only [Option.toList, List.cons_append, List.nil_append, Nat.add_zero]
          refine v_istore_6 dX11_made_51 (by decide) rfl ?_
          refine v_iload dX11_made_53 rfl ?_
          refine v_iconst dX11_made_55 (c32 rfl) ?_
          refine v_icmp_eq_f (tgt := 73) dX11_made_56 (by decide) (by omega) ?_
          refine v_aload_n dX11_made_59 rfl ?_
          refine v_getr (ci := 11) (j := 4) (ji := 4) (z := 81) dX11_made_60 k_558 (by decide) kk_0 (by decide) rfl rfl (fun r => rt_0_4 (r rfl)) (by decide) ?_
          refine v_aload_n dX11_made_63 rfl ?_
          refine v_getr (ci := 11) (j := 3) (ji := 3) (z := 41) dX11_made_64 k_557 (by decide) kk_0 (by decide) rfl rfl (fun r => rt_0_3 (r rfl)) (by decide) ?_
          refine v_iload dX11_made_67 rfl ?_
          refine v_iload_n dX11_made_69 rfl ?_
          refine v_callv (M' := mX10_useUp) (d' := d - 1) (mc' := 0) (ms' := 0) (ci := 10) (c := 81) (As := [_, _, _]) dX11_made_70 k_902 cm_X10_useUp rfl (by omega) (by decide) kk_81 (Nat.le_of_ble_eq_true rfl) rfl ⟨Nat.le_refl _, Nat.le_refl _⟩ ?_
          refine s_cuse (by omega) ⟨by omega, by rw [caH_12]; omega⟩ (by rw [caH_12]; omega) (by rw [caH_2]; omega) (by exact caH_50) ?_
          dsimp only [Option.toList, List.cons_append, List.nil_append, Nat.add_zero]
          refine v_iload dX11_made_73 rfl ?_
          refine v_ireti dX11_made_75 rfl (Nat.le_refl _) (Nat.le_refl _) ?_
          exact q1 (by omega)
      · refine v_iconst dX11_made_32 (c32 rfl) ?_
        refine v_ireti dX11_made_33 rfl (Nat.le_refl _) (Nat.le_refl _) ?_
        exact q0 (by omega)

/-- a batch more, as the reference keeps it -/
def raH (h : AH) (a b c e how : Int) : AH := (hset (hset (hset (hset (hset (hset (hset (hset (hset h 129 (h 116 45) a) 130 (h 116 45) b) 131 (h 116 45) c) 132 (h 116 45) e) 133 (h 116 45) e) 134 (h 116 45) (h 116 1)) 135 (h 116 45) how) 136 (h 116 45) 9999) 116 45 ((h 116 45) + 1))
theorem s_rbatch {l : Launch} {G : GG} {d : Nat} {h : AH} {Q : Option AV → List Kd → AH → Prop} {a b c e how : Int} (hd : 1 ≤ d) (h0 : 0 ≤ h 116 45) (h1 : h 116 45 < 100) (q1 : Q (some (0, h 116 45)) K0 (raH h a b c e how)) : Sp l G mX12_batch d 0 0 K0 [(2, 116), (0, a), (0, b), (0, c), (0, e), (0, how)] h Q := s_X12_batch hd h0 h1 (by rw [show h 116 45 + 1 - 1 = h 116 45 by omega]; exact q1)

set_option maxHeartbeats 4000000 in
set_option maxRecDepth 100000 in
theorem lp_rmade {l : Launch} {G : GG} {d : Nat} {h : AH} {Q : Option AV → List Kd → AH → Prop} {A0 B0 : Int → Int} {a g pr c e b : Int} (hd : 1 ≤ d) (hb : 0 ≤ b ∧ b < 100) (hl : 0 ≤ h 116 46 ∧ h 116 46 ≤ 6) (hq : Q (some (0, b)) K0 (ov1 (ov1 (hset (hset h 137 b (h 116 46)) 116 46 0) 138 (cpR A0 b (h 140) (h 116 46))) 139 (cpR B0 b (h 141) (h 116 46)))) : ∀ k, 0 ≤ k → k ≤ h 116 46 → V l G mX12_made d 0 0 0 0 K0 55 [(2, 116), (0, a), (0, g), (0, pr), (0, c), (0, e), (0, b), (0, k)] [] (ov1 (ov1 h 138 (cpR A0 b (h 140) k)) 139 (cpR B0 b (h 141) k)) Q := by
  refine loop_m3 (fun k hk hkN ih => ?_)
  refine v_iload dX12_made_55 rfl ?_
  refine v_aload_n dX12_made_57 rfl ?_
  refine v_getv (ci := 12) (j := 46) (ji := 46) (tg := 0) dX12_made_58 k_1462 (by decide) kk_116 (by decide) rfl rfl (by decide) ((ov1_c (by decide)).trans (ov1_c (by decide))) ?_
  refine v_icmp_ge (tgt := 110) dX12_made_61 (by decide) (fun c61_1 => ?_) (fun c61_1 => ?_)
  · refine v_aload_n dX12_made_110 rfl ?_
    refine v_getr (ci := 12) (j := 34) (ji := 34) (z := 137) dX12_made_111 k_1450 (by decide) kk_116 (by decide) rfl rfl (fun r => rt_116_34 (r rfl)) (by decide) ?_
    refine v_iload dX12_made_114 rfl ?_
    refine v_aload_n dX12_made_116 rfl ?_
    refine v_getv (ci := 12) (j := 46) (ji := 46) (tg := 0) dX12_made_117 k_1462 (by decide) kk_116 (by decide) rfl rfl (by decide) ((ov1_c (by decide)).trans (ov1_c (by decide))) ?_
    refine v_iastore dX12_made_120 (by decide) kk_137 (by omega) (by omega) ?_
    rw [ov1_n (by decide), ov1_n (by decide)]
    refine v_aload_n dX12_made_121 rfl ?_
    refine v_iconst dX12_made_122 (c32 rfl) ?_
    refine v_puti (ci := 12) (j := 46) (ji := 46) dX12_made_123 k_1462 (by decide) kk_116 (by decide) rfl rfl rfl ?_
    rw [ov1_n (by decide), ov1_n (by decide)]
    refine v_iload dX12_made_126 rfl ?_
    refine v_ireti dX12_made_128 rfl (Nat.le_refl _) (Nat.le_refl _) ?_
    obtain rfl : k = h 116 46 := by omega
    exact hq
  · refine v_aload_n dX12_made_64 rfl ?_
    refine v_getr (ci := 12) (j := 35) (ji := 35) (z := 138) dX12_made_65 k_1451 (by decide) kk_116 (by decide) rfl rfl (fun r => rt_116_35 (r rfl)) (by decide) ?_
    refine v_bipush dX12_made_68 (c32 rfl) (by decide) ?_
    refine v_iload dX12_made_70 rfl ?_
    refine v_imulE dX12_made_72 (by omega) ?_
    refine v_iload dX12_made_73 rfl ?_
    refine v_iaddE dX12_made_75 (by omega) ?_
    refine v_aload_n dX12_made_76 rfl ?_
    refine v_getr (ci := 12) (j := 37) (ji := 37) (z := 140) dX12_made_77 k_1453 (by decide) kk_116 (by decide) rfl rfl (fun r => rt_116_37 (r rfl)) (by decide) ?_
    refine v_iload dX12_made_80 rfl ?_
    refine v_ialoadv dX12_made_82 (by decide) kk_140 (by omega) (by omega) ((ov1_c (by decide)).trans (ov1_c (by decide))) ?_
    refine v_iastore dX12_made_83 (by decide) kk_138 (by omega) (by omega) ?_
    rw [ov1_n (by decide), ov1_w]
    refine v_aload_n dX12_made_84 rfl ?_
    refine v_getr (ci := 12) (j := 36) (ji := 36) (z := 139) dX12_made_85 k_1452 (by decide) kk_116 (by decide) rfl rfl (fun r => rt_116_36 (r rfl)) (by decide) ?_
    refine v_bipush dX12_made_88 (c32 rfl) (by decide) ?_
    refine v_iload dX12_made_90 rfl ?_
    refine v_imulE dX12_made_92 (by omega) ?_
    refine v_iload dX12_made_93 rfl ?_
    refine v_iaddE dX12_made_95 (by omega) ?_
    refine v_aload_n dX12_made_96 rfl ?_
    refine v_getr (ci := 12) (j := 38) (ji := 38) (z := 141) dX12_made_97 k_1454 (by decide) kk_116 (by decide) rfl rfl (fun r => rt_116_38 (r rfl)) (by decide) ?_
    refine v_iload dX12_made_100 rfl ?_
    refine v_ialoadv dX12_made_102 (by decide) kk_141 (by omega) (by omega) ((ov1_c (by decide)).trans (ov1_c (by decide))) ?_
    refine v_iastore dX12_made_103 (by decide) kk_139 (by omega) (by omega) ?_
    rw [ov1_w]
    refine v_iinc_7 dX12_made_104 (by decide) rfl ?_
    rw [iadd_eq (x := k) (y := 1) (by unfold ok32; omega)]
    refine v_goto (tgt := 55) dX12_made_107 (by decide) ?_
    have ih9 := ih (by omega)
    rw [cpR_s hk, cpR_s hk] at ih9
    exact ih9

/-- a batch made of the bench, as the reference keeps it -/
def ruH (h : AH) (b : Int) : AH := (ov1 (ov1 (hset (hset h 137 b (h 116 46)) 116 46 0) 138 (cpR (h 138) b (h 140) (h 116 46))) 139 (cpR (h 139) b (h 141) (h 116 46)))
theorem raH_46 {h : AH} {a b c e how : Int} : raH (hset h 116 0 0) a b c e how 116 46 = h 116 46 := by unfold raH; rw [hset_j (by decide), hset_c (by decide), hset_c (by decide), hset_c (by decide), hset_c (by decide), hset_c (by decide), hset_c (by decide), hset_c (by decide), hset_c (by decide), hset_j (by decide)]

set_option maxHeartbeats 4000000 in
set_option maxRecDepth 100000 in
theorem s_rmade {l : Launch} {G : GG} {d : Nat} {h : AH} {Q : Option AV → List Kd → AH → Prop} {a g pr c e : Int} (hd : 5 ≤ d) (h0 : 0 ≤ h 116 45 ∧ h 116 45 ≤ 100) (hl : 0 ≤ h 116 46 ∧ h 116 46 ≤ 6) (q0 : ¬ ((0 ≤ a ∧ a ≤ 7) ∧ (0 ≤ g ∧ g ≤ 99) ∧ (1 ≤ c ∧ c ≤ 10000) ∧ (1 ≤ e ∧ e ≤ 10000) ∧ (0 ≤ pr ∧ pr ≤ 9) ∧ h 116 46 ≠ 0 ∧ h 116 45 < 100) → Q (some (0, -1)) K0 (hset h 116 0 0)) (q1 : ((0 ≤ a ∧ a ≤ 7) ∧ (0 ≤ g ∧ g ≤ 99) ∧ (1 ≤ c ∧ c ≤ 10000) ∧ (1 ≤ e ∧ e ≤ 10000) ∧ (0 ≤ pr ∧ pr ≤ 9) ∧ h 116 46 ≠ 0 ∧ h 116 45 < 100) → Q (some (0, h 116 45)) K0 (ruH (raH (hset h 116 0 0) a g c e pr) (h 116 45))) : Sp l G mX12_made d 0 0 K0 [(2, 116), (0, a), (0, g), (0, pr), (0, c), (0, e)] h Q := by
  refine sp_of (L := [(2, 116), (0, a), (0, g), (0, pr), (0, c), (0, e), (9, 0), (9, 0)]) pl_X12 (Nat.le_of_ble_eq_true rfl) (tg_c (by decide) (tg_c (by decide) (tg_c (by decide) (tg_c (by decide) (tg_c (by decide) (tg_c (by decide) tg_0)))))) rfl ?_
  refine v_aload_n dX12_made_0 rfl ?_
  refine v_iconst dX12_made_1 (c32 rfl) ?_
  refine v_puti (ci := 12) (j := 0) (ji := 0) dX12_made_2 k_1416 (by decide) kk_116 (by decide) rfl rfl rfl ?_
  refine v_aload_n dX12_made_5 rfl ?_
  refine v_iload_n dX12_made_6 rfl ?_
  refine v_iload_n dX12_made_7 rfl ?_
  refine v_iload dX12_made_8 rfl ?_
  refine v_iload dX12_made_10 rfl ?_
  refine v_callv (M' := mX12_canMake) (d' := d - 1) (mc' := 0) (ms' := 0) (ci := 12) (c := 116) (As := [_, _, _, _]) dX12_made_12 k_1844 cm_X12_canMake rfl (by omega) (by decide) kk_116 (Nat.le_of_ble_eq_true rfl) rfl ⟨Nat.le_refl _, Nat.le_refl _⟩ ?_
  refine s_X12_canMake (by omega) (by rw [show (hset h 116 0 0) 116 45 = (h 116 45) from (hset_j (by decide))]; omega) (by rw [show (hset h 116 0 0) 116 45 = (h 116 45) from (hset_j (by decide))]; omega) (fun c12_1 => ?_) (fun c12_2 c12_3 => ?_) (fun c12_4 c12_5 c12_6 => ?_) (fun c12_7 c12_8 c12_9 c12_10 => ?_) (fun c12_11 c12_12 c12_13 c12_14 c12_15 => ?_) (fun c12_16 c12_17 c12_18 c12_19 c12_20 c12_21 => ?_) (fun c12_22 c12_23 c12_24 c12_25 c12_26 c12_27 c12_28 => ?_) (fun c12_29 c12_30 c12_31 c12_32 c12_33 c12_34 c12_35 c12_36 => ?_) (fun c12_37 c12_38 c12_39 c12_40 c12_41 c12_42 c12_43 c12_44 c12_45 => ?_) (fun c12_46 c12_47 c12_48 c12_49 c12_50 c12_51 c12_52 c12_53 c12_54 => ?_)
  · dsimp only [Option.toList, List.cons_append, List.nil_append, Nat.add_zero]
    rw [show (hset h 116 0 0) 116 45 = (h 116 45) from (hset_j (by decide))] at c12_1
    refine v_if_eq_t (tgt := 37) dX12_made_15 (by decide) (by decide) ?_
    refine v_iconst dX12_made_37 (c32 rfl) ?_
    refine v_ireti dX12_made_38 rfl (Nat.le_refl _) (Nat.le_refl _) ?_
    exact q0 (by omega)
  · dsimp only [Option.toList, List.cons_append, List.nil_append, Nat.add_zero]
    rw [show (hset h 116 0 0) 116 45 = (h 116 45) from (hset_j (by decide))] at c12_2
    refine v_if_eq_t (tgt := 37) dX12_made_15 (by decide) (by decide) ?_
    refine v_iconst dX12_made_37 (c32 rfl) ?_
    refine v_ireti dX12_made_38 rfl (Nat.le_refl _) (Nat.le_refl _) ?_
    exact q0 (by omega)
  · dsimp only [Option.toList, List.cons_append, List.nil_append, Nat.add_zero]
    rw [show (hset h 116 0 0) 116 45 = (h 116 45) from (hset_j (by decide))] at c12_4
    refine v_if_eq_t (tgt := 37) dX12_made_15 (by decide) (by decide) ?_
    refine v_iconst dX12_made_37 (c32 rfl) ?_
    refine v_ireti dX12_made_38 rfl (Nat.le_refl _) (Nat.le_refl _) ?_
    exact q0 (by omega)
  · dsimp only [Option.toList, List.cons_append, List.nil_append, Nat.add_zero]
    rw [show (hset h 116 0 0) 116 45 = (h 116 45) from (hset_j (by decide))] at c12_7
    refine v_if_eq_t (tgt := 37) dX12_made_15 (by decide) (by decide) ?_
    refine v_iconst dX12_made_37 (c32 rfl) ?_
    refine v_ireti dX12_made_38 rfl (Nat.le_refl _) (Nat.le_refl _) ?_
    exact q0 (by omega)
  · dsimp only [Option.toList, List.cons_append, List.nil_append, Nat.add_zero]
    rw [show (hset h 116 0 0) 116 45 = (h 116 45) from (hset_j (by decide))] at c12_11
    refine v_if_eq_t (tgt := 37) dX12_made_15 (by decide) (by decide) ?_
    refine v_iconst dX12_made_37 (c32 rfl) ?_
    refine v_ireti dX12_made_38 rfl (Nat.le_refl _) (Nat.le_refl _) ?_
    exact q0 (by omega)
  · dsimp only [Option.toList, List.cons_append, List.nil_append, Nat.add_zero]
    rw [show (hset h 116 0 0) 116 45 = (h 116 45) from (hset_j (by decide))] at c12_16
    refine v_if_eq_t (tgt := 37) dX12_made_15 (by decide) (by decide) ?_
    refine v_iconst dX12_made_37 (c32 rfl) ?_
    refine v_ireti dX12_made_38 rfl (Nat.le_refl _) (Nat.le_refl _) ?_
    exact q0 (by omega)
  · dsimp only [Option.toList, List.cons_append, List.nil_append, Nat.add_zero]
    rw [show (hset h 116 0 0) 116 45 = (h 116 45) from (hset_j (by decide))] at c12_22
    refine v_if_eq_t (tgt := 37) dX12_made_15 (by decide) (by decide) ?_
    refine v_iconst dX12_made_37 (c32 rfl) ?_
    refine v_ireti dX12_made_38 rfl (Nat.le_refl _) (Nat.le_refl _) ?_
    exact q0 (by omega)
  · dsimp only [Option.toList, List.cons_append, List.nil_append, Nat.add_zero]
    rw [show (hset h 116 0 0) 116 45 = (h 116 45) from (hset_j (by decide))] at c12_29
    refine v_if_eq_t (tgt := 37) dX12_made_15 (by decide) (by decide) ?_
    refine v_iconst dX12_made_37 (c32 rfl) ?_
    refine v_ireti dX12_made_38 rfl (Nat.le_refl _) (Nat.le_refl _) ?_
    exact q0 (by omega)
  · dsimp only [Option.toList, List.cons_append, List.nil_append, Nat.add_zero]
    rw [show (hset h 116 0 0) 116 45 = (h 116 45) from (hset_j (by decide))] at c12_37
    refine v_if_eq_t (tgt := 37) dX12_made_15 (by decide) (by decide) ?_
    refine v_iconst dX12_made_37 (c32 rfl) ?_
    refine v_ireti dX12_made_38 rfl (Nat.le_refl _) (Nat.le_refl _) ?_
    exact q0 (by omega)
  · dsimp only [Option.toList, List.cons_append, List.nil_append, Nat.add_zero]
    rw [show (hset h 116 0 0) 116 45 = (h 116 45) from (hset_j (by decide))] at c12_46
    refine v_if_eq_f (tgt := 37) dX12_made_15 (by decide) (by decide) ?_
    refine v_iload_n dX12_made_18 rfl ?_
    refine v_i2l dX12_made_19 ?_
    refine v_lconst (z := 0) dX12_made_20 (c64 rfl) (by decide) ?_
    refine v_ldc2 (n := 9) dX12_made_21 k_1891 (c64 rfl) (by decide) ?_
    refine v_calls (M' := mX12_isIn) (d' := d - 1) (mc' := 0) (ms' := 0) (As := [_, _, _]) dX12_made_24 k_1700 cm_X12_isIn (by omega) (Nat.le_of_ble_eq_true rfl) rfl ⟨Nat.le_refl _, Nat.le_refl _⟩ ?_
    refine s_X12_isIn (by omega) (fun c24_55 => ?_) (fun c24_56 c24_57 => ?_) (fun c24_58 c24_59 => ?_)
    · dsimp only [Option.toList, List.cons_append, List.nil_append, Nat.add_zero]
      refine v_if_eq_t (tgt := 37) dX12_made_27 (by decide) (by decide) ?_
      refine v_iconst dX12_made_37 (c32 rfl) ?_
      refine v_ireti dX12_made_38 rfl (Nat.le_refl _) (Nat.le_refl _) ?_
      exact q0 (by omega)
    · dsimp only [Option.toList, List.cons_append, List.nil_append, Nat.add_zero]
      refine v_if_eq_t (tgt := 37) dX12_made_27 (by decide) (by decide) ?_
      refine v_iconst dX12_made_37 (c32 rfl) ?_
      refine v_ireti dX12_made_38 rfl (Nat.le_refl _) (Nat.le_refl _) ?_
      exact q0 (by omega)
    · dsimp only [Option.toList, List.cons_append, List.nil_append, Nat.add_zero]
      refine v_if_eq_f (tgt := 37) dX12_made_27 (by decide) (by decide) ?_
      refine v_aload_n dX12_made_30 rfl ?_
      refine v_getv (ci := 12) (j := 46) (ji := 46) (tg := 0) dX12_made_31 k_1462 (by decide) kk_116 (by decide) rfl rfl (by decide) (hset_j (by decide)) ?_
      refine v_if_ne (tgt := 39) dX12_made_34 (by decide) (fun c34_60 => ?_) (fun c34_60 => ?_)
      · refine v_aload_n dX12_made_39 rfl ?_
        refine v_iload_n dX12_made_40 rfl ?_
        refine v_iload_n dX12_made_41 rfl ?_
        refine v_iload dX12_made_42 rfl ?_
        refine v_iload dX12_made_44 rfl ?_
        refine v_iload_n dX12_made_46 rfl ?_
        refine v_callv (M' := mX12_batch) (d' := d - 1) (mc' := 0) (ms' := 0) (ci := 12) (c := 116) (As := [_, _, _, _, _]) dX12_made_47 k_1849 cm_X12_batch rfl (by omega) (by decide) kk_116 (Nat.le_of_ble_eq_true rfl) rfl ⟨Nat.le_refl _, Nat.le_refl _⟩ ?_
        refine s_rbatch (by omega) (by rw [hset_j (by decide)]; omega) (by rw [hset_j (by decide)]; omega) ?_
        dsimp only [Option.toList, List.cons_append, List.nil_append, Nat.add_zero]
        rw [show hset h 116 0 0 116 45 = h 116 45 from hset_j (by decide)]
        refine v_istore_6 dX12_made_50 (by decide) rfl ?_
        refine v_iconst dX12_made_52 (c32 rfl) ?_
        refine v_istore_7 dX12_made_53 (by decide) rfl ?_
        have eb : raH (hset h 116 0 0) a g c e pr 116 46 = h 116 46 := raH_46
        have q9 := lp_rmade (l := l) (G := G) (d := d) (h := raH (hset h 116 0 0) a g c e pr) (A0 := raH (hset h 116 0 0) a g c e pr 138) (B0 := raH (hset h 116 0 0) a g c e pr 139) (a := a) (g := g) (pr := pr) (c := c) (e := e) (b := h 116 45) (Q := Q) (by omega) ⟨by omega, by omega⟩ (by rw [eb]; exact hl) (q1 (by omega)) 0 (Int.le_refl _) (by rw [eb]; exact hl.1)
        rw [show cpR (raH (hset h 116 0 0) a g c e pr 138) (h 116 45) (raH (hset h 116 0 0) a g c e pr 140) 0 = raH (hset h 116 0 0) a g c e pr 138 from rfl, show cpR (raH (hset h 116 0 0) a g c e pr 139) (h 116 45) (raH (hset h 116 0 0) a g c e pr 141) 0 = raH (hset h 116 0 0) a g c e pr 139 from rfl, ov1_mk, ov1_mk] at q9
        exact q9
      · refine v_iconst dX12_made_37 (c32 rfl) ?_
        refine v_ireti dX12_made_38 rfl (Nat.le_refl _) (Nat.le_refl _) ?_
        exact q0 (by omega)

