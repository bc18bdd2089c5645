/-! ===== the class: fault, protocol; both sides: clear, made (written by wip/whole/p57.py) ===== -/
theorem RdE_p {u : Int → Int} {n f s : Int} {R : Int → Int} (h : RdE (pText u n 201 0 []) f R s) : f = pFault u n := by
  unfold pFault
  revert h
  cases pText u n 201 0 [] with
  | inl e => intro h; exact h.1
  | inr cs => intro h; exact h.1
theorem RdE_s {u : Int → Int} {n f s : Int} {R : Int → Int} {cs : List (Int × List Int)} (h : RdE (pText u n 201 0 []) f R s) (e : pText u n 201 0 [] = .inr cs) : SL R s (flCl cs 0) := by
  rw [e] at h
  exact h.2

set_option maxHeartbeats 4000000 in
set_option maxRecDepth 100000 in
theorem s_Ffault {l : Launch} {G : GG} {d : Nat} {h : AH} {Q : Option AV → List Kd → AH → Prop} {u : Int → Int} {n : Int} (hd : 38 ≤ d) (hT : CT h u n) (hq : ∀ F', Q (some (0, pFault u n)) K0 (cst h F')) : Sp l G mX11_fault d 0 0 K0 [(2, 0)] h Q := by
  refine sp_of (L := [(2, 0)]) pl_X11 (Nat.le_of_ble_eq_true rfl) (tg_c (by decide) tg_0) rfl ?_
  refine v_aload_n dX11_fault_0 rfl ?_
  refine v_getr (ci := 11) (j := 1) (ji := 1) (z := 1) dX11_fault_1 k_555 (by decide) kk_0 (by decide) rfl rfl (fun r => rt_0_1 (r rfl)) (by decide) ?_
  refine v_callv (M' := mX7_findFault) (d' := d - 1) (mc' := 0) (ms' := 0) (ci := 7) (c := 1) (As := []) dX11_fault_4 k_646 cm_X7_findFault rfl (by omega) (by decide) kk_1 (Nat.le_of_ble_eq_true rfl) rfl ⟨Nat.le_refl _, Nat.le_refl _⟩ ?_
  refine s_cfault (by omega) hT (fun xf_3 xr_3 xx_3 xs_3 c4_1 c4_2 c4_3 => ?_)
  dsimp only [Option.toList, List.cons_append, List.nil_append, Nat.add_zero]
  refine v_ireti dX11_fault_7 rfl (Nat.le_refl _) (Nat.le_refl _) ?_
  rw [cps_cst, RdE_p c4_1]
  exact hq _

set_option maxHeartbeats 4000000 in
set_option maxRecDepth 100000 in
theorem s_caddP {l : Launch} {G : GG} {d : Nat} {h F : AH} {Q : Option AV → List Kd → AH → Prop} {cs : Int → List (Int × List Int)} {w fr nw : Int} (hd : 2 ≤ d) (I : CI h cs) (q0 : ¬ (h 116 15 < 20 ∧ (0 ≤ w ∧ w < 4) ∧ (0 ≤ fr ∧ fr ≤ 2000)) → Q (some (0, -1)) K0 (cst h F)) (q1 : (h 116 15 < 20 ∧ (0 ≤ w ∧ w < 4) ∧ (0 ≤ fr ∧ fr ≤ 2000)) → Q (some (0, h 116 15)) K0 (cst (hset (hset (hset (hset h 13 (h 116 15) w) 14 (h 116 15) fr) 15 (h 116 15) nw) 12 4 ((h 116 15) + 1)) F)) : Sp l G mX1_add d 0 0 K0 [(2, 12), (0, w), (0, fr), (0, nw)] (cst h F) Q := by
  have nt := I.W.nt
  refine sp_of (L := [(2, 12), (0, w), (0, fr), (0, nw)]) pl_X1 (Nat.le_of_ble_eq_true rfl) (tg_c (by decide) (tg_c (by decide) (tg_c (by decide) (tg_c (by decide) tg_0)))) rfl ?_
  refine v_aload_n dX1_add_0 rfl ?_
  refine v_getv (ci := 1) (j := 4) (ji := 4) (tg := 0) dX1_add_1 k_182 (by decide) kk_12 (by decide) rfl rfl (by decide) ((cst_n (by decide)).trans (I.f12_4)) ?_
  refine v_aload_n dX1_add_4 rfl ?_
  refine v_getv (ci := 1) (j := 0) (ji := 0) (tg := 0) dX1_add_5 k_178 (by decide) kk_12 (by decide) rfl rfl (by decide) ((cst_n (by decide)).trans (I.k12)) ?_
  refine v_icmp_ge (tgt := 31) dX1_add_8 (by decide) (fun c8_1 => ?_) (fun c8_1 => ?_)
  · refine v_iconst dX1_add_31 (c32 rfl) ?_
    refine v_ireti dX1_add_32 rfl (Nat.le_refl _) (Nat.le_refl _) ?_
    exact q0 (by omega)
  · refine v_iload_n dX1_add_11 rfl ?_
    refine v_iconst dX1_add_12 (c32 rfl) ?_
    refine v_iconst dX1_add_13 (c32 rfl) ?_
    refine v_callsN (M' := mX11_within) (d' := d - 1) (mc' := 0) (ms' := 0) (As := [_, _, _]) dX1_add_14 k_601 cm_X11_within (by omega) (Nat.le_of_ble_eq_true rfl) rfl ⟨Nat.le_refl _, Nat.le_refl _⟩ ?_
    refine s_X11_within (by omega) (fun c14_2 => ?_) (fun c14_3 c14_4 => ?_) (fun c14_5 c14_6 => ?_)
    · dsimp only [Option.toList, List.cons_append, List.nil_append, Nat.add_zero]
      refine v_if_eq_t (tgt := 31) dX1_add_17 (by decide) (by decide) ?_
      refine v_iconst dX1_add_31 (c32 rfl) ?_
      refine v_ireti dX1_add_32 rfl (Nat.le_refl _) (Nat.le_refl _) ?_
      exact q0 (by omega)
    · dsimp only [Option.toList, List.cons_append, List.nil_append, Nat.add_zero]
      refine v_if_eq_t (tgt := 31) dX1_add_17 (by decide) (by decide) ?_
      refine v_iconst dX1_add_31 (c32 rfl) ?_
      refine v_ireti dX1_add_32 rfl (Nat.le_refl _) (Nat.le_refl _) ?_
      exact q0 (by omega)
    · dsimp only [Option.toList, List.cons_append, List.nil_append, Nat.add_zero]
      refine v_if_eq_f (tgt := 31) dX1_add_17 (by decide) (by decide) ?_
      refine v_iload_n dX1_add_20 rfl ?_
      refine v_iconst dX1_add_21 (c32 rfl) ?_
      refine v_sipush dX1_add_22 (c32 rfl) (by decide) ?_
      refine v_callsN (M' := mX11_within) (d' := d - 1) (mc' := 0) (ms' := 0) (As := [_, _, _]) dX1_add_25 k_601 cm_X11_within (by omega) (Nat.le_of_ble_eq_true rfl) rfl ⟨Nat.le_refl _, Nat.le_refl _⟩ ?_
      refine s_X11_within (by omega) (fun c25_7 => ?_) (fun c25_8 c25_9 => ?_) (fun c25_10 c25_11 => ?_)
      · dsimp only [Option.toList, List.cons_append, List.nil_append, Nat.add_zero]
        refine v_if_ne_f (tgt := 33) dX1_add_28 (by decide) (by decide) ?_
        refine v_iconst dX1_add_31 (c32 rfl) ?_
        refine v_ireti dX1_add_32 rfl (Nat.le_refl _) (Nat.le_refl _) ?_
        exact q0 (by omega)
      · dsimp only [Option.toList, List.cons_append, List.nil_append, Nat.add_zero]
        refine v_if_ne_f (tgt := 33) dX1_add_28 (by decide) (by decide) ?_
        refine v_iconst dX1_add_31 (c32 rfl) ?_
        refine v_ireti dX1_add_32 rfl (Nat.le_refl _) (Nat.le_refl _) ?_
        exact q0 (by omega)
      · dsimp only [Option.toList, List.cons_append, List.nil_append, Nat.add_zero]
        refine v_if_ne_t (tgt := 33) dX1_add_28 (by decide) (by decide) ?_
        refine v_aload_n dX1_add_33 rfl ?_
        refine v_getr (ci := 1) (j := 1) (ji := 1) (z := 13) dX1_add_34 k_179 (by decide) kk_12 (by decide) rfl rfl (fun r => rt_12_1 (r rfl)) (by decide) ?_
        refine v_aload_n dX1_add_37 rfl ?_
        refine v_getv (ci := 1) (j := 4) (ji := 4) (tg := 0) dX1_add_38 k_182 (by decide) kk_12 (by decide) rfl rfl (by decide) ((cst_n (by decide)).trans (I.f12_4)) ?_
        refine v_iload_n dX1_add_41 rfl ?_
        refine v_iastore dX1_add_42 (by decide) kk_13 (by omega) (by omega) ?_
        rw [cst_wr (by decide)]
        refine v_aload_n dX1_add_43 rfl ?_
        refine v_getr (ci := 1) (j := 2) (ji := 2) (z := 14) dX1_add_44 k_180 (by decide) kk_12 (by decide) rfl rfl (fun r => rt_12_2 (r rfl)) (by decide) ?_
        refine v_aload_n dX1_add_47 rfl ?_
        refine v_getv (ci := 1) (j := 4) (ji := 4) (tg := 0) dX1_add_48 k_182 (by decide) kk_12 (by decide) rfl rfl (by decide) ((cst_n (by decide)).trans ((hset_c (by decide)).trans (I.f12_4))) ?_
        refine v_iload_n dX1_add_51 rfl ?_
        refine v_iastore dX1_add_52 (by decide) kk_14 (by omega) (by omega) ?_
        rw [cst_wr (by decide)]
        refine v_aload_n dX1_add_53 rfl ?_
        refine v_getr (ci := 1) (j := 3) (ji := 3) (z := 15) dX1_add_54 k_181 (by decide) kk_12 (by decide) rfl rfl (fun r => rt_12_3 (r rfl)) (by decide) ?_
        refine v_aload_n dX1_add_57 rfl ?_
        refine v_getv (ci := 1) (j := 4) (ji := 4) (tg := 0) dX1_add_58 k_182 (by decide) kk_12 (by decide) rfl rfl (by decide) ((cst_n (by decide)).trans ((hset_c (by decide)).trans ((hset_c (by decide)).trans (I.f12_4)))) ?_
        refine v_iload_n dX1_add_61 rfl ?_
        refine v_iastore dX1_add_62 (by decide) kk_15 (by omega) (by omega) ?_
        rw [cst_wr (by decide)]
        refine v_aload_n dX1_add_63 rfl ?_
        refine v_dup dX1_add_64 rfl ?_
        refine v_getv (ci := 1) (j := 4) (ji := 4) (tg := 0) dX1_add_65 k_182 (by decide) kk_12 (by decide) rfl rfl (by decide) ((cst_n (by decide)).trans ((hset_c (by decide)).trans ((hset_c (by decide)).trans ((hset_c (by decide)).trans (I.f12_4))))) ?_
        refine v_iconst dX1_add_68 (c32 rfl) ?_
        refine v_iaddE dX1_add_69 (by omega) ?_
        refine v_puti (ci := 1) (j := 4) (ji := 4) dX1_add_70 k_182 (by decide) kk_12 (by decide) rfl rfl rfl ?_
        rw [cst_wr (by decide)]
        refine v_aload_n dX1_add_73 rfl ?_
        refine v_getv (ci := 1) (j := 4) (ji := 4) (tg := 0) dX1_add_74 k_182 (by decide) kk_12 (by decide) rfl rfl (by decide) ((cst_n (by decide)).trans (hset_same _ _ _ _)) ?_
        refine v_iconst dX1_add_77 (c32 rfl) ?_
        refine v_isubE dX1_add_78 (by omega) ?_
        refine v_ireti dX1_add_79 rfl (Nat.le_refl _) (Nat.le_refl _) ?_
        rw [show h 116 15 + 1 - 1 = h 116 15 by omega]
        exact q1 (by omega)

theorem hcpy_st {h F : AH} {n s : Int} (hn : 0 ≤ n ∧ n < 20) : hcpy (cst h F) 3 0 (17 + n) 0 s = cst (ov1 h (17 + n) (fun i => if 0 ≤ i ∧ i < s then F 3 i else h (17 + n) i)) F := by
  funext a b
  by_cases e : a = 17 + n
  · subst e
    rw [cst_n (by unfold cN cR; omega), ov1_s]
    unfold hcpy
    by_cases e2 : 0 ≤ b ∧ b < s
    · rw [if_pos ⟨rfl, by omega, by omega⟩, if_pos e2, cst_m (by decide)]
      congr 1
      omega
    · rw [if_neg (fun z => e2 ⟨z.2.1, by omega⟩), if_neg e2, cst_n (by unfold cN cR; omega)]
  · rw [hcpy_c e]
    unfold cst
    rw [ov1_c e]
/-- a protocol told, as the class keeps it -/
def tpH (h : AH) (w fr n s : Int) (R : Int → Int) : AH := hset (hset (ov1 (hset (hset (hset (hset h 13 n w) 14 n fr) 15 n (h 116 1)) 12 4 (n + 1)) (17 + n) R) 37 n s) 1 1 0

set_option maxHeartbeats 4000000 in
set_option maxRecDepth 100000 in
theorem s_ctp8 {l : Launch} {G : GG} {d : Nat} {h F : AH} {Q : Option AV → List Kd → AH → Prop} {cs : Int → List (Int × List Int)} {w fr s : Int} (hd : 4 ≤ d) (I : CI h cs) (hs : F 1 5 = s) (hs1 : 0 ≤ s ∧ s ≤ 200) (q0 : ¬ (h 116 15 < 20 ∧ (0 ≤ w ∧ w < 4) ∧ (0 ≤ fr ∧ fr ≤ 2000)) → Q (some (0, -1)) K0 (cst h F)) (q1 : (h 116 15 < 20 ∧ (0 ≤ w ∧ w < 4) ∧ (0 ≤ fr ∧ fr ≤ 2000)) → Q (some (0, h 116 15)) K0 (cst (hset (ov1 (hset (hset (hset (hset h 13 (h 116 15) w) 14 (h 116 15) fr) 15 (h 116 15) (h 116 1)) 12 4 ((h 116 15) + 1)) (17 + (h 116 15)) (fun i => if 0 ≤ i ∧ i < s then F 3 i else (hset (hset (hset (hset h 13 (h 116 15) w) 14 (h 116 15) fr) 15 (h 116 15) (h 116 1)) 12 4 ((h 116 15) + 1)) (17 + (h 116 15)) i)) 37 (h 116 15) s) F)) : Sp l G mX8_tellProtocol d 0 0 K0 [(2, 6), (0, w), (0, fr), (0, h 116 1), (2, 1)] (cst h F) Q := by
  have nt := I.W.nt
  refine sp_of (L := [(2, 6), (0, w), (0, fr), (0, h 116 1), (2, 1), (9, 0)]) pl_X8 (Nat.le_of_ble_eq_true rfl) (tg_c (by decide) (tg_c (by decide) (tg_c (by decide) (tg_c (by decide) (tg_c (by decide) tg_0))))) rfl ?_
  refine v_aload_n dX8_tellProtocol_0 rfl ?_
  refine v_getr (ci := 8) (j := 2) (ji := 2) (z := 12) dX8_tellProtocol_1 k_232 (by decide) kk_6 (by decide) rfl rfl (fun r => rt_6_2 (r rfl)) (by decide) ?_
  refine v_iload_n dX8_tellProtocol_4 rfl ?_
  refine v_iload_n dX8_tellProtocol_5 rfl ?_
  refine v_iload_n dX8_tellProtocol_6 rfl ?_
  refine v_callv (M' := mX1_add) (d' := d - 1) (mc' := 0) (ms' := 0) (ci := 1) (c := 12) (As := [_, _, _]) dX8_tellProtocol_7 k_597 cm_X1_add rfl (by omega) (by decide) kk_12 (Nat.le_of_ble_eq_true rfl) rfl ⟨Nat.le_refl _, Nat.le_refl _⟩ ?_
  refine s_caddP (by omega) I (fun c7_1 => ?_) (fun c7_2 => ?_)
  · dsimp only [Option.toList, List.cons_append, List.nil_append, Nat.add_zero]
    refine v_istore_5 dX8_tellProtocol_10 (by decide) rfl ?_
    refine v_iload dX8_tellProtocol_12 rfl ?_
    refine v_iconst dX8_tellProtocol_14 (c32 rfl) ?_
    refine v_icmp_eq_t (tgt := 52) dX8_tellProtocol_15 (by decide) (by decide) ?_
    refine v_iload dX8_tellProtocol_52 rfl ?_
    refine v_ireti dX8_tellProtocol_54 rfl (Nat.le_refl _) (Nat.le_refl _) ?_
    exact q0 (by omega)
  · dsimp only [Option.toList, List.cons_append, List.nil_append, Nat.add_zero]
    refine v_istore_5 dX8_tellProtocol_10 (by decide) rfl ?_
    refine v_iload dX8_tellProtocol_12 rfl ?_
    refine v_iconst dX8_tellProtocol_14 (c32 rfl) ?_
    refine v_icmp_eq_f (tgt := 52) dX8_tellProtocol_15 (by decide) (by omega) ?_
    refine v_aload dX8_tellProtocol_18 rfl ?_
    refine v_getrN (ci := 7) (j := 4) (ji := 4) (z := 3) dX8_tellProtocol_20 k_137 (by decide) kk_1 (by decide) rfl rfl (fun r => rt_1_4 (r rfl)) (by decide) ?_
    refine v_iconst dX8_tellProtocol_23 (c32 rfl) ?_
    refine v_aload_n dX8_tellProtocol_24 rfl ?_
    refine v_getr (ci := 8) (j := 3) (ji := 3) (z := 16) dX8_tellProtocol_25 k_237 (by decide) kk_6 (by decide) rfl rfl (fun r => rt_6_3 (r rfl)) (by decide) ?_
    refine v_iload dX8_tellProtocol_28 rfl ?_
    refine v_aaload dX8_tellProtocol_30 (by decide) kk_16 (by omega) (by omega) (fun r => rb_16 (r rfl) (by omega) (by omega)) (by omega) ?_
    refine v_iconst dX8_tellProtocol_31 (c32 rfl) ?_
    refine v_aload dX8_tellProtocol_32 rfl ?_
    refine v_getvN (ci := 7) (j := 5) (ji := 5) (tg := 0) dX8_tellProtocol_34 k_138 (by decide) kk_1 (by decide) rfl rfl (by decide) ((cst_s (by decide)).trans (hs)) ?_
    refine v_copyi dX8_tellProtocol_37 k_813 (by omega) (Nat.le_of_ble_eq_true rfl) (by decide) kk_3 (by omega) (krow_16 (by omega) (by omega)) (by omega) (by omega) (by omega) (by omega) (by omega) ?_
    rw [hcpy_st (by omega)]
    refine v_aload_n dX8_tellProtocol_40 rfl ?_
    refine v_getr (ci := 8) (j := 4) (ji := 4) (z := 37) dX8_tellProtocol_41 k_238 (by decide) kk_6 (by decide) rfl rfl (fun r => rt_6_4 (r rfl)) (by decide) ?_
    refine v_iload dX8_tellProtocol_44 rfl ?_
    refine v_aload dX8_tellProtocol_46 rfl ?_
    refine v_getvN (ci := 7) (j := 5) (ji := 5) (tg := 0) dX8_tellProtocol_48 k_138 (by decide) kk_1 (by decide) rfl rfl (by decide) ((cst_s (by decide)).trans (hs)) ?_
    refine v_iastore dX8_tellProtocol_51 (by decide) kk_37 (by omega) (by omega) ?_
    rw [cst_wr (by decide)]
    refine v_iload dX8_tellProtocol_52 rfl ?_
    refine v_ireti dX8_tellProtocol_54 rfl (Nat.le_refl _) (Nat.le_refl _) ?_
    exact q1 (by omega)

set_option maxHeartbeats 4000000 in
set_option maxRecDepth 100000 in
theorem s_ccut0 {l : Launch} {G : GG} {d : Nat} {h F : AH} {Q : Option AV → List Kd → AH → Prop} (hd : 2 ≤ d) (hn : 0 ≤ h 1 1) (hq : Q (some (0, 1)) K0 (cst (hset h 1 1 0) F)) : Sp l G mX7_cut d 0 0 K0 [(2, 1), (0, 0)] (cst h F) Q := by
  refine sp_of (L := [(2, 1), (0, 0)]) pl_X7 (Nat.le_of_ble_eq_true rfl) (tg_c (by decide) (tg_c (by decide) tg_0)) rfl ?_
  refine v_iload_n dX7_cut_0 rfl ?_
  refine v_iconst dX7_cut_1 (c32 rfl) ?_
  refine v_aload_n dX7_cut_2 rfl ?_
  refine v_getv (ci := 7) (j := 1) (ji := 1) (tg := 0) dX7_cut_3 k_132 (by decide) kk_1 (by decide) rfl rfl (by decide) (cst_c (by decide)) ?_
  refine v_callsN (M' := mX11_within) (d' := d - 1) (mc' := 0) (ms' := 0) (As := [_, _, _]) dX7_cut_6 k_641 cm_X11_within (by omega) (Nat.le_of_ble_eq_true rfl) rfl ⟨Nat.le_refl _, Nat.le_refl _⟩ ?_
  refine s_X11_within (by omega) (fun c6_1 => ?_) (fun c6_2 c6_3 => ?_) (fun c6_4 c6_5 => ?_)
  · dsimp only [Option.toList, List.cons_append, List.nil_append, Nat.add_zero]
    refine v_if_ne_f (tgt := 14) dX7_cut_9 (by decide) (by decide) ?_
    refine v_iconst dX7_cut_12 (c32 rfl) ?_
    refine v_iretz dX7_cut_13 rfl (by decide) (Nat.le_refl _) (Nat.le_refl _) ?_
    exfalso; omega
  · dsimp only [Option.toList, List.cons_append, List.nil_append, Nat.add_zero]
    refine v_if_ne_f (tgt := 14) dX7_cut_9 (by decide) (by decide) ?_
    refine v_iconst dX7_cut_12 (c32 rfl) ?_
    refine v_iretz dX7_cut_13 rfl (by decide) (Nat.le_refl _) (Nat.le_refl _) ?_
    exfalso; omega
  · dsimp only [Option.toList, List.cons_append, List.nil_append, Nat.add_zero]
    refine v_if_ne_t (tgt := 14) dX7_cut_9 (by decide) (by decide) ?_
    refine v_aload_n dX7_cut_14 rfl ?_
    refine v_iload_n dX7_cut_15 rfl ?_
    refine v_puti (ci := 7) (j := 1) (ji := 1) dX7_cut_16 k_132 (by decide) kk_1 (by decide) rfl rfl rfl ?_
    rw [cst_wn (by decide)]
    refine v_iconst dX7_cut_19 (c32 rfl) ?_
    refine v_iretz dX7_cut_20 rfl (by decide) (Nat.le_refl _) (Nat.le_refl _) ?_
    exact hq

theorem tpx_11 {h : AH} {w fr n s : Int} {R : Int → Int} (hn : 0 ≤ n) : hset (ov1 (hset (hset (hset (hset h 13 n w) 14 n fr) 15 n (h 116 1)) 12 4 (n + 1)) (17 + n) R) 37 n s 1 1 = h 1 1 := by
  rw [hset_c (by decide), ov1_c (by omega), hset_c (by decide), hset_c (by decide), hset_c (by decide), hset_c (by decide)]

set_option maxHeartbeats 4000000 in
set_option maxRecDepth 100000 in
theorem s_Fprotocol {l : Launch} {G : GG} {d : Nat} {h : AH} {Q : Option AV → List Kd → AH → Prop} {cs : Int → List (Int × List Int)} {u : Int → Int} {w fr : Int} (hd : 38 ≤ d) (I : CI h cs) (hT : CT h u (h 116 16)) (q0 : ∀ F', ¬ (pFault u (h 116 16) = -1 ∧ h 116 15 < 20 ∧ (0 ≤ w ∧ w < 4) ∧ (0 ≤ fr ∧ fr ≤ 2000)) → Q (some (0, -1)) K0 (cst h F')) (q1 : ∀ F' R s, (pFault u (h 116 16) = -1 ∧ h 116 15 < 20 ∧ (0 ≤ w ∧ w < 4) ∧ (0 ≤ fr ∧ fr ≤ 2000)) → (∀ cs9, pText u (h 116 16) 201 0 [] = .inr cs9 → SL R s (flCl cs9 0)) → 0 ≤ s → s ≤ 200 → Q (some (0, h 116 15)) K0 (cst (tpH h w fr (h 116 15) s R) F')) : Sp l G mX11_protocol d 0 0 K0 [(2, 0), (0, w), (0, fr)] h Q := by
  have nt := I.W.nt
  have tp := I.tp
  have f11 := I.f1_1
  refine sp_of (L := [(2, 0), (0, w), (0, fr), (9, 0)]) pl_X11 (Nat.le_of_ble_eq_true rfl) (tg_c (by decide) (tg_c (by decide) (tg_c (by decide) tg_0))) rfl ?_
  refine v_aload_n dX11_protocol_0 rfl ?_
  refine v_getr (ci := 11) (j := 1) (ji := 1) (z := 1) dX11_protocol_1 k_555 (by decide) kk_0 (by decide) rfl rfl (fun r => rt_0_1 (r rfl)) (by decide) ?_
  refine v_callv (M' := mX7_findFault) (d' := d - 1) (mc' := 0) (ms' := 0) (ci := 7) (c := 1) (As := []) dX11_protocol_4 k_646 cm_X7_findFault rfl (by omega) (by decide) kk_1 (Nat.le_of_ble_eq_true rfl) rfl ⟨Nat.le_refl _, Nat.le_refl _⟩ ?_
  refine s_cfault (by omega) hT (fun xf_3 xr_3 xx_3 xs_3 c4_1 c4_2 c4_3 => ?_)
  dsimp only [Option.toList, List.cons_append, List.nil_append, Nat.add_zero]
  refine v_iconst dX11_protocol_7 (c32 rfl) ?_
  refine v_icmp_eq (tgt := 13) dX11_protocol_8 (by decide) (fun c8_4 => ?_) (fun c8_4 => ?_)
  · have ef9 := RdE_p c4_1
    refine V_cast cps_cst ?_
    obtain ⟨C9, hC⟩ : ∃ C9, C9 = (cps h xr_3 xx_3 xf_3 xs_3) := ⟨_, rfl⟩
    rw [← hC]
    have hC5 : C9 1 5 = xs_3 := by rw [hC]; exact cps_r5
    have hC3 : C9 3 = xr_3 := by rw [hC]; exact funext fun _ => cps_R
    refine v_aload_n dX11_protocol_13 rfl ?_
    refine v_getr (ci := 11) (j := 2) (ji := 2) (z := 6) dX11_protocol_14 k_556 (by decide) kk_0 (by decide) rfl rfl (fun r => rt_0_2 (r rfl)) (by decide) ?_
    refine v_iload_n dX11_protocol_17 rfl ?_
    refine v_iload_n dX11_protocol_18 rfl ?_
    refine v_aload_n dX11_protocol_19 rfl ?_
    refine v_getv (ci := 11) (j := 0) (ji := 0) (tg := 0) dX11_protocol_20 k_554 (by decide) kk_0 (by decide) rfl rfl (by decide) ((cst_n (by decide)).trans (I.f0_0)) ?_
    refine v_aload_n dX11_protocol_23 rfl ?_
    refine v_getr (ci := 11) (j := 1) (ji := 1) (z := 1) dX11_protocol_24 k_555 (by decide) kk_0 (by decide) rfl rfl (fun r => rt_0_1 (r rfl)) (by decide) ?_
    refine v_callv (M' := mX8_tellProtocol) (d' := d - 1) (mc' := 0) (ms' := 0) (ci := 8) (c := 6) (As := [_, _, _, _]) dX11_protocol_27 k_809 cm_X8_tellProtocol rfl (by omega) (by decide) kk_6 (Nat.le_of_ble_eq_true rfl) rfl ⟨Nat.le_refl _, Nat.le_refl _⟩ ?_
    refine s_ctp8 (s := xs_3) (by omega) I hC5 ⟨by omega, by omega⟩ (fun c27_1 => ?_) (fun c27_2 => ?_)
    · dsimp only [Option.toList, List.cons_append, List.nil_append, Nat.add_zero]
      refine v_istore_n_3 dX11_protocol_30 (by decide) rfl ?_
      refine v_iload_n dX11_protocol_31 rfl ?_
      refine v_iconst dX11_protocol_32 (c32 rfl) ?_
      refine v_icmp_eq_t (tgt := 45) dX11_protocol_33 (by decide) (by decide) ?_
      refine v_iload_n dX11_protocol_45 rfl ?_
      refine v_ireti dX11_protocol_46 rfl (Nat.le_refl _) (Nat.le_refl _) ?_
      exact q0 _ (by omega)
    · dsimp only [Option.toList, List.cons_append, List.nil_append, Nat.add_zero]
      refine v_istore_n_3 dX11_protocol_30 (by decide) rfl ?_
      refine v_iload_n dX11_protocol_31 rfl ?_
      refine v_iconst dX11_protocol_32 (c32 rfl) ?_
      refine v_icmp_eq_f (tgt := 45) dX11_protocol_33 (by decide) (by omega) ?_
      refine v_aload_n dX11_protocol_36 rfl ?_
      refine v_getr (ci := 11) (j := 1) (ji := 1) (z := 1) dX11_protocol_37 k_555 (by decide) kk_0 (by decide) rfl rfl (fun r => rt_0_1 (r rfl)) (by decide) ?_
      refine v_iconst dX11_protocol_40 (c32 rfl) ?_
      refine v_callv (M' := mX7_cut) (d' := d - 1) (mc' := 0) (ms' := 0) (ci := 7) (c := 1) (As := [_]) dX11_protocol_41 k_637 cm_X7_cut rfl (by omega) (by decide) kk_1 (Nat.le_of_ble_eq_true rfl) rfl ⟨Nat.le_refl _, Nat.le_refl _⟩ ?_
      refine s_ccut0 (by omega) (by rw [tpx_11 (by omega)]; omega) ?_
      dsimp only [Option.toList, List.cons_append, List.nil_append, Nat.add_zero]
      refine v_pop dX11_protocol_44 rfl ?_
      refine v_iload_n dX11_protocol_45 rfl ?_
      refine v_ireti dX11_protocol_46 rfl (Nat.le_refl _) (Nat.le_refl _) ?_
      refine q1 C9 _ xs_3 (by omega) (fun cxs_3 e9 => ⟨(RdE_s c4_1 e9).1, fun i hi => ?_⟩) (by omega) (by omega)
      show (if 0 ≤ (i : Int) ∧ (i : Int) < xs_3 then C9 3 i else _) = _
      rw [if_pos ⟨by omega, by rw [(RdE_s c4_1 e9).1]; omega⟩, hC3]
      exact (RdE_s c4_1 e9).2 i hi
  · refine v_iconst dX11_protocol_11 (c32 rfl) ?_
    refine v_ireti dX11_protocol_12 rfl (Nat.le_refl _) (Nat.le_refl _) ?_
    have ef9 := RdE_p c4_1
    rw [cps_cst]
    exact q0 _ (by omega)

