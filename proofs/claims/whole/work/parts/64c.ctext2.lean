set_option maxHeartbeats 4000000 in
set_option maxRecDepth 100000 in
theorem lp_ctext {l : Launch} {G : GG} {h : AH} {n : Int} {u : Int → Int} {d : Nat} {Q : Option AV → List Kd → AH → Prop} (hd : 37 ≤ d) (hT : CT h u n) : ∀ {m : Nat} {g a s : Int} {R : Int → Int} {cs : List (Int × List Int)}, n - a < m → 0 ≤ g → g ≤ a → 0 ≤ a → a ≤ n → s ≤ a → SL R s (flCl cs 0) →
    (∀ f9 r9 x9 s9, RdE (pNext u n m a cs) f9 r9 s9 → 0 ≤ s9 → s9 ≤ 200 → Q (some (0, f9)) K0 (cps h r9 x9 f9 s9)) →
    V l G mX7_findFault d 0 0 0 0 K0 21 [(2, 1), (0, g)] [] (cps h R a (-1) s) Q := by
  have hT0 := hT
  obtain ⟨⟨hn0, hn1⟩, hen, hu, hur⟩ := hT
  intro m
  induction m with
  | zero => intro g a s R cs hm0; omega
  | succ m ih =>
    intro g a s R cs hmm hg0 hga h0 h1 hsa hSL hq
    have hpk := @pk_rng u n a hur h0
    have hsg := @sk_ge u n a
    have hsl := @sk_le u n a h1
    have hs0 := SL_nn hSL
    refine v_iload_n dX7_findFault_21 rfl ?_
    refine v_sipush dX7_findFault_22 (c32 rfl) (by decide) ?_
    refine v_icmp_ge (tgt := 47) dX7_findFault_25 (by decide) (fun c25_1 => ?_) (fun c25_1 => ?_)
    · refine v_aload_n dX7_findFault_47 rfl ?_
      refine v_getv (ci := 7) (j := 3) (ji := 3) (tg := 0) dX7_findFault_48 k_135 (by decide) kk_1 (by decide) rfl rfl (by decide) (cps_r3) ?_
      refine v_iconst dX7_findFault_51 (c32 rfl) ?_
      refine v_icmp_ne_f (tgt := 67) dX7_findFault_52 (by decide) (by decide) ?_
      refine v_aload_n dX7_findFault_55 rfl ?_
      refine v_callv (M' := mX7_peek) (d' := d - 1) (mc' := 0) (ms' := 0) (ci := 7) (c := 1) (As := []) dX7_findFault_56 k_654 cm_X7_peek rfl (by omega) (by decide) kk_1 (Nat.le_of_ble_eq_true rfl) rfl ⟨Nat.le_refl _, Nat.le_refl _⟩ ?_
      refine s_cpeek0 (by omega) hT0 (by omega) (by omega) ?_
      dsimp only [Option.toList, List.cons_append, List.nil_append, Nat.add_zero]
      refine v_iconst dX7_findFault_59 (c32 rfl) ?_
      refine v_icmp_eq (tgt := 67) dX7_findFault_60 (by decide) (fun c60_2 => ?_) (fun c60_2 => ?_)
      · refine v_aload_n dX7_findFault_67 rfl ?_
        refine v_getv (ci := 7) (j := 3) (ji := 3) (tg := 0) dX7_findFault_68 k_135 (by decide) kk_1 (by decide) rfl rfl (by decide) (cps_r3) ?_
        refine v_ireti dX7_findFault_71 rfl (Nat.le_refl _) (Nat.le_refl _) ?_
        have ep : pk u n a = -1 := pk_n (by omega)
        have es : sk u n a = a := sk_f (by omega)
        refine hq _ _ _ _ ?_ (by omega) (by omega)
        unfold pNext
        rw [ep, if_neg (by decide), if_pos rfl]
        exact ⟨rfl, hSL⟩
      · refine v_aload_n dX7_findFault_63 rfl ?_
        refine v_callv (M' := mX7_fail) (d' := d - 1) (mc' := 0) (ms' := 0) (ci := 7) (c := 1) (As := []) dX7_findFault_64 k_745 cm_X7_fail rfl (by omega) (by decide) kk_1 (Nat.le_of_ble_eq_true rfl) rfl ⟨Nat.le_refl _, Nat.le_refl _⟩ ?_
        refine s_cfail0 (by omega) ?_
        dsimp only [Option.toList, List.cons_append, List.nil_append, Nat.add_zero]
        refine v_aload_n dX7_findFault_67 rfl ?_
        refine v_getv (ci := 7) (j := 3) (ji := 3) (tg := 0) dX7_findFault_68 k_135 (by decide) kk_1 (by decide) rfl rfl (by decide) (cps_r3) ?_
        refine v_ireti dX7_findFault_71 rfl (Nat.le_refl _) (Nat.le_refl _) ?_
        exact absurd (pk_n (by omega)) c60_2
    · refine v_aload_n dX7_findFault_28 rfl ?_
      refine v_bipush dX7_findFault_29 (c32 rfl) (by decide) ?_
      refine v_callv (M' := mX7_takes) (d' := d - 1) (mc' := 0) (ms' := 0) (ci := 7) (c := 1) (As := [_]) dX7_findFault_31 k_757 cm_X7_takes rfl (by omega) (by decide) kk_1 (Nat.le_of_ble_eq_true rfl) rfl ⟨Nat.le_refl _, Nat.le_refl _⟩ ?_
      refine s_ctakes0 (by omega) hT0 (by omega) (by omega) (fun c31_3 => ?_) (fun c31_4 => ?_)
      · dsimp only [Option.toList, List.cons_append, List.nil_append, Nat.add_zero]
        refine v_if_eq_f (tgt := 47) dX7_findFault_34 (by decide) (by decide) ?_
        refine v_aload_n dX7_findFault_37 rfl ?_
        refine v_callv (M' := mX7_readClause) (d' := d - 1) (mc' := 0) (ms' := 0) (ci := 7) (c := 1) (As := []) dX7_findFault_38 k_650 cm_X7_readClause rfl (by omega) (by decide) kk_1 (Nat.le_of_ble_eq_true rfl) rfl ⟨Nat.le_refl _, Nat.le_refl _⟩ ?_
        refine c_clause (by omega) hT0 (by omega) (by omega) (by omega) hSL (fun xe_10 xr_10 xa_10 xs_10 c38_5 c38_6 c38_7 c38_8 c38_9 c38_10 => ?_) (fun xa_16 xl_16 xk_16 xr_16 xs_16 c38_11 c38_12 c38_13 c38_14 c38_15 c38_16 => ?_)
        · dsimp only [Option.toList, List.cons_append, List.nil_append, Nat.add_zero]
          refine v_iinc_1 dX7_findFault_41 (by decide) rfl ?_
          rw [iadd_eq (x := g) (y := 1) (by unfold ok32; omega)]
          refine v_goto (tgt := 21) dX7_findFault_44 (by decide) ?_
          refine v_iload_n dX7_findFault_21 rfl ?_
          refine v_sipush dX7_findFault_22 (c32 rfl) (by decide) ?_
          refine v_icmp_ge (tgt := 47) dX7_findFault_25 (by decide) (fun c25_17 => ?_) (fun c25_17 => ?_)
          · refine v_aload_n dX7_findFault_47 rfl ?_
            refine v_getv (ci := 7) (j := 3) (ji := 3) (tg := 0) dX7_findFault_48 k_135 (by decide) kk_1 (by decide) rfl rfl (by decide) (cps_r3) ?_
            refine v_iconst dX7_findFault_51 (c32 rfl) ?_
            refine v_icmp_ne_t (tgt := 67) dX7_findFault_52 (by decide) (by omega) ?_
            refine v_aload_n dX7_findFault_67 rfl ?_
            refine v_getv (ci := 7) (j := 3) (ji := 3) (tg := 0) dX7_findFault_68 k_135 (by decide) kk_1 (by decide) rfl rfl (by decide) (cps_r3) ?_
            refine v_ireti dX7_findFault_71 rfl (Nat.le_refl _) (Nat.le_refl _) ?_
            refine hq _ _ _ _ ?_ (by omega) (by omega)
            unfold pNext
            rw [if_pos c31_3, pText_f c38_5]
            exact ⟨rfl, by omega⟩
          · refine v_aload_n dX7_findFault_28 rfl ?_
            refine v_bipush dX7_findFault_29 (c32 rfl) (by decide) ?_
            have hpg := @sk_ge u n xa_10
            have hpl := @sk_le u n xa_10 (by omega)
            refine v_callv (M' := mX7_takes) (d' := d - 1) (mc' := 0) (ms' := 0) (ci := 7) (c := 1) (As := [_]) dX7_findFault_31 k_757 cm_X7_takes rfl (by omega) (by decide) kk_1 (Nat.le_of_ble_eq_true rfl) rfl ⟨Nat.le_refl _, Nat.le_refl _⟩ ?_
            refine s_ctakes1 (by omega) hT0 (by omega) (by omega) (by omega) (by first | decide | omega) ?_
            dsimp only [Option.toList, List.cons_append, List.nil_append, Nat.add_zero]
            refine v_if_eq_t (tgt := 47) dX7_findFault_34 (by decide) (by decide) ?_
            refine v_aload_n dX7_findFault_47 rfl ?_
            refine v_getv (ci := 7) (j := 3) (ji := 3) (tg := 0) dX7_findFault_48 k_135 (by decide) kk_1 (by decide) rfl rfl (by decide) (cps_r3) ?_
            refine v_iconst dX7_findFault_51 (c32 rfl) ?_
            refine v_icmp_ne_t (tgt := 67) dX7_findFault_52 (by decide) (by omega) ?_
            refine v_aload_n dX7_findFault_67 rfl ?_
            refine v_getv (ci := 7) (j := 3) (ji := 3) (tg := 0) dX7_findFault_68 k_135 (by decide) kk_1 (by decide) rfl rfl (by decide) (cps_r3) ?_
            refine v_ireti dX7_findFault_71 rfl (Nat.le_refl _) (Nat.le_refl _) ?_
            refine hq _ _ _ _ ?_ (by omega) (by omega)
            unfold pNext
            rw [if_pos c31_3, pText_f c38_5]
            exact ⟨rfl, by omega⟩
        · dsimp only [Option.toList, List.cons_append, List.nil_append, Nat.add_zero]
          refine v_iinc_1 dX7_findFault_41 (by decide) rfl ?_
          rw [iadd_eq (x := g) (y := 1) (by unfold ok32; omega)]
          refine v_goto (tgt := 21) dX7_findFault_44 (by decide) ?_
          have eN : pNext u n (m + 1) a cs = pNext u n m xa_16 (cs ++ [(xl_16, xk_16)]) := by
            show (if pk u n a = 59 then pText u n (m + 1) (sk u n a + 1) cs else if pk u n a = -1 then .inr cs else .inl (sk u n a)) = _
            rw [if_pos c31_3, pText_s c38_11]
          rw [eN] at hq
          exact ih (by omega) (by omega) (by omega) (by omega) (by omega) (by omega) (SL_flat c38_16) hq
      · dsimp only [Option.toList, List.cons_append, List.nil_append, Nat.add_zero]
        refine v_if_eq_t (tgt := 47) dX7_findFault_34 (by decide) (by decide) ?_
        refine v_aload_n dX7_findFault_47 rfl ?_
        refine v_getv (ci := 7) (j := 3) (ji := 3) (tg := 0) dX7_findFault_48 k_135 (by decide) kk_1 (by decide) rfl rfl (by decide) (cps_r3) ?_
        refine v_iconst dX7_findFault_51 (c32 rfl) ?_
        refine v_icmp_ne_f (tgt := 67) dX7_findFault_52 (by decide) (by decide) ?_
        refine v_aload_n dX7_findFault_55 rfl ?_
        refine v_callv (M' := mX7_peek) (d' := d - 1) (mc' := 0) (ms' := 0) (ci := 7) (c := 1) (As := []) dX7_findFault_56 k_654 cm_X7_peek rfl (by omega) (by decide) kk_1 (Nat.le_of_ble_eq_true rfl) rfl ⟨Nat.le_refl _, Nat.le_refl _⟩ ?_
        refine s_cpeek0b (by omega) hT0 (by omega) (by omega) ?_
        dsimp only [Option.toList, List.cons_append, List.nil_append, Nat.add_zero]
        refine v_iconst dX7_findFault_59 (c32 rfl) ?_
        refine v_icmp_eq (tgt := 67) dX7_findFault_60 (by decide) (fun c60_18 => ?_) (fun c60_18 => ?_)
        · refine v_aload_n dX7_findFault_67 rfl ?_
          refine v_getv (ci := 7) (j := 3) (ji := 3) (tg := 0) dX7_findFault_68 k_135 (by decide) kk_1 (by decide) rfl rfl (by decide) (cps_r3) ?_
          refine v_ireti dX7_findFault_71 rfl (Nat.le_refl _) (Nat.le_refl _) ?_
          refine hq _ _ _ _ ?_ (by omega) (by omega)
          unfold pNext
          rw [if_neg c31_4, if_pos c60_18]
          exact ⟨rfl, hSL⟩
        · refine v_aload_n dX7_findFault_63 rfl ?_
          refine v_callv (M' := mX7_fail) (d' := d - 1) (mc' := 0) (ms' := 0) (ci := 7) (c := 1) (As := []) dX7_findFault_64 k_745 cm_X7_fail rfl (by omega) (by decide) kk_1 (Nat.le_of_ble_eq_true rfl) rfl ⟨Nat.le_refl _, Nat.le_refl _⟩ ?_
          refine s_cfail0 (by omega) ?_
          dsimp only [Option.toList, List.cons_append, List.nil_append, Nat.add_zero]
          refine v_aload_n dX7_findFault_67 rfl ?_
          refine v_getv (ci := 7) (j := 3) (ji := 3) (tg := 0) dX7_findFault_68 k_135 (by decide) kk_1 (by decide) rfl rfl (by decide) (cps_r3) ?_
          refine v_ireti dX7_findFault_71 rfl (Nat.le_refl _) (Nat.le_refl _) ?_
          refine hq _ _ _ _ ?_ (by omega) (by omega)
          unfold pNext
          rw [if_neg c31_4, if_neg c60_18]
          exact ⟨rfl, by omega⟩

set_option maxHeartbeats 4000000 in
set_option maxRecDepth 100000 in
theorem lp_ctext0 {l : Launch} {G : GG} {h : AH} {n : Int} {u : Int → Int} {R : Int → Int} {d : Nat} {Q : Option AV → List Kd → AH → Prop} (hd : 37 ≤ d) (hT : CT h u n) (hSL : SL R 0 ([] : List Int))
    (hq : ∀ f9 r9 x9 s9, RdE (pText u n 201 0 []) f9 r9 s9 → 0 ≤ s9 → s9 ≤ 200 → Q (some (0, f9)) K0 (cps h r9 x9 f9 s9)) :
    V l G mX7_findFault d 0 0 0 0 K0 15 [(2, 1), (9, 0)] [] (cps h R 0 (-1) 0) Q := by
  have hT0 := hT
  obtain ⟨⟨hn0, hn1⟩, hen, hu, hur⟩ := hT
  refine v_aload_n dX7_findFault_15 rfl ?_
  refine v_callv (M' := mX7_readClause) (d' := d - 1) (mc' := 0) (ms' := 0) (ci := 7) (c := 1) (As := []) dX7_findFault_16 k_650 cm_X7_readClause rfl (by omega) (by decide) kk_1 (Nat.le_of_ble_eq_true rfl) rfl ⟨Nat.le_refl _, Nat.le_refl _⟩ ?_
  refine c_clause (by omega) hT0 (by omega) (by omega) (by omega) hSL (fun xe_6 xr_6 xa_6 xs_6 c16_1 c16_2 c16_3 c16_4 c16_5 c16_6 => ?_) (fun xa_12 xl_12 xk_12 xr_12 xs_12 c16_7 c16_8 c16_9 c16_10 c16_11 c16_12 => ?_)
  · dsimp only [Option.toList, List.cons_append, List.nil_append, Nat.add_zero]
    refine v_iconst dX7_findFault_19 (c32 rfl) ?_
    refine v_istore_n_1 dX7_findFault_20 (by decide) rfl ?_
    refine v_iload_n dX7_findFault_21 rfl ?_
    refine v_sipush dX7_findFault_22 (c32 rfl) (by decide) ?_
    refine v_icmp_ge_f (tgt := 47) dX7_findFault_25 (by decide) (by decide) ?_
    refine v_aload_n dX7_findFault_28 rfl ?_
    refine v_bipush dX7_findFault_29 (c32 rfl) (by decide) ?_
    have hpg := @sk_ge u n xa_6
    have hpl := @sk_le u n xa_6 (by omega)
    refine v_callv (M' := mX7_takes) (d' := d - 1) (mc' := 0) (ms' := 0) (ci := 7) (c := 1) (As := [_]) dX7_findFault_31 k_757 cm_X7_takes rfl (by omega) (by decide) kk_1 (Nat.le_of_ble_eq_true rfl) rfl ⟨Nat.le_refl _, Nat.le_refl _⟩ ?_
    refine s_ctakes1 (by omega) hT0 (by omega) (by omega) (by omega) (by first | decide | omega) ?_
    dsimp only [Option.toList, List.cons_append, List.nil_append, Nat.add_zero]
    refine v_if_eq_t (tgt := 47) dX7_findFault_34 (by decide) (by decide) ?_
    refine v_aload_n dX7_findFault_47 rfl ?_
    refine v_getv (ci := 7) (j := 3) (ji := 3) (tg := 0) dX7_findFault_48 k_135 (by decide) kk_1 (by decide) rfl rfl (by decide) (cps_r3) ?_
    refine v_iconst dX7_findFault_51 (c32 rfl) ?_
    refine v_icmp_ne_t (tgt := 67) dX7_findFault_52 (by decide) (by omega) ?_
    refine v_aload_n dX7_findFault_67 rfl ?_
    refine v_getv (ci := 7) (j := 3) (ji := 3) (tg := 0) dX7_findFault_68 k_135 (by decide) kk_1 (by decide) rfl rfl (by decide) (cps_r3) ?_
    refine v_ireti dX7_findFault_71 rfl (Nat.le_refl _) (Nat.le_refl _) ?_
    refine hq _ _ _ _ ?_ (by omega) (by omega)
    rw [show pText u n 201 0 [] = .inl _ from pText_f c16_1]
    exact ⟨rfl, by omega⟩
  · dsimp only [Option.toList, List.cons_append, List.nil_append, Nat.add_zero]
    refine v_iconst dX7_findFault_19 (c32 rfl) ?_
    refine v_istore_n_1 dX7_findFault_20 (by decide) rfl ?_
    rw [show pText u n 201 0 [] = pNext u n 200 xa_12 ([] ++ [(xl_12, xk_12)]) from pText_s c16_7] at hq
    exact lp_ctext hd hT0 (by omega) (by omega) (by omega) (by omega) (by omega) (by omega) (SL_flat (cs := []) c16_12) hq

set_option maxHeartbeats 4000000 in
set_option maxRecDepth 100000 in
theorem s_cfault {l : Launch} {G : GG} {d : Nat} {h : AH} {Q : Option AV → List Kd → AH → Prop} {n : Int} {u : Int → Int} (hd : 37 ≤ d) (hT : CT h u n) (hq : ∀ f9 r9 x9 s9, RdE (pText u n 201 0 []) f9 r9 s9 → 0 ≤ s9 → s9 ≤ 200 → Q (some (0, f9)) K0 (cps h r9 x9 f9 s9)) : Sp l G mX7_findFault d 0 0 K0 [(2, 1)] h Q := by
  refine sp_of (L := [(2, 1), (9, 0)]) pl_X7 (Nat.le_of_ble_eq_true rfl) (tg_c (by decide) tg_0) rfl ?_
  refine v_aload_n dX7_findFault_0 rfl ?_
  refine v_iconst dX7_findFault_1 (c32 rfl) ?_
  refine v_puti (ci := 7) (j := 2) (ji := 2) dX7_findFault_2 k_134 (by decide) kk_1 (by decide) rfl rfl rfl ?_
  refine v_aload_n dX7_findFault_5 rfl ?_
  refine v_iconst dX7_findFault_6 (c32 rfl) ?_
  refine v_puti (ci := 7) (j := 3) (ji := 3) dX7_findFault_7 k_135 (by decide) kk_1 (by decide) rfl rfl rfl ?_
  refine v_aload_n dX7_findFault_10 rfl ?_
  refine v_iconst dX7_findFault_11 (c32 rfl) ?_
  refine v_puti (ci := 7) (j := 5) (ji := 5) dX7_findFault_12 k_139 (by decide) kk_1 (by decide) rfl rfl rfl ?_
  rw [cps_mk]
  exact lp_ctext0 hd hT SL_0 hq

