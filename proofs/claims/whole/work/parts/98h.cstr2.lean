/-! ===== words struck: the class, its face (written by wip/whole/p74.py) ===== -/
theorem s_cgath2 {l : Launch} {G : GG} {d : Nat} {h F : AH} {Q : Option AV → List Kd → AH → Prop} {cs : Int → List (Int × List Int)} {b : Int} (hd : 1 ≤ d) (I : CI h cs) (q0 : ∀ F', 12 < wdN h b → Q (some (0, 0)) K0 (cst h F')) (q1 : ∀ F', wdN h b ≤ 12 → WF h b F' → Q (some (0, 1)) K0 (cst h F')) : Sp l G mX9_gather d 0 0 K0 [(2, 97), (0, b)] (cst h F) Q := s_cgath hd I (fun z F' => q0 F' z) (fun z F' a c => q1 F' z ⟨a, fun i i0 i1 => wdQ_A I c i0 i1⟩)
set_option maxHeartbeats 4000000 in
set_option maxRecDepth 100000 in
theorem s_cstrW {l : Launch} {G : GG} {d : Nat} {h F : AH} {Q : Option AV → List Kd → AH → Prop} {cs : Int → List (Int × List Int)} {b : Int} (hd : 4 ≤ d) (I : CI h cs) (q0 : ∀ F', ¬ ((0 ≤ b ∧ b < h 116 45) ∧ wdN h b ≤ 12) → Q (some (0, 0)) K0 (cst h F')) (q1 : ∀ F', ((0 ≤ b ∧ b < h 116 45) ∧ wdN h b ≤ 12) → F' 97 7 = (wdK h b : Int) → PQw h b (wdN h b) (F' 115) → Q (some (0, 1)) K0 (cst h F')) : Sp l G mX11_strikeWords d 0 0 K0 [(2, 0), (0, b)] (cst h F) Q := by
  have w7 := I.W.nb
  refine sp_of (L := [(2, 0), (0, b)]) pl_X11 (Nat.le_of_ble_eq_true rfl) (tg_c (by decide) (tg_c (by decide) tg_0)) rfl ?_
  refine v_aload_n dX11_strikeWords_0 rfl ?_
  refine v_getr (ci := 11) (j := 3) (ji := 3) (z := 41) dX11_strikeWords_1 k_557 (by decide) kk_0 (by decide) rfl rfl (fun r => rt_0_3 (r rfl)) (by decide) ?_
  refine v_iload_n dX11_strikeWords_4 rfl ?_
  refine v_callv (M' := mX6_has) (d' := d - 1) (mc' := 0) (ms' := 0) (ci := 6) (c := 41) (As := [_]) dX11_strikeWords_5 k_914 cm_X6_has rfl (by omega) (by decide) kk_41 (Nat.le_of_ble_eq_true rfl) rfl ⟨Nat.le_refl _, Nat.le_refl _⟩ ?_
  refine s_chas (by omega) I (fun c5_1 => ?_) (fun c5_2 => ?_)
  · dsimp only [Option.toList, List.cons_append, List.nil_append, Nat.add_zero]
    refine v_if_eq_f (tgt := 22) dX11_strikeWords_8 (by decide) (by decide) ?_
    refine v_aload_n dX11_strikeWords_11 rfl ?_
    refine v_getr (ci := 11) (j := 8) (ji := 8) (z := 97) dX11_strikeWords_12 k_562 (by decide) kk_0 (by decide) rfl rfl (fun r => rt_0_8 (r rfl)) (by decide) ?_
    refine v_iload_n dX11_strikeWords_15 rfl ?_
    refine v_callv (M' := mX9_gather) (d' := d - 1) (mc' := 0) (ms' := 0) (ci := 9) (c := 97) (As := [_]) dX11_strikeWords_16 k_1280 cm_X9_gather rfl (by omega) (by decide) kk_97 (Nat.le_of_ble_eq_true rfl) rfl ⟨Nat.le_refl _, Nat.le_refl _⟩ ?_
    refine s_cgath2 (b := b) (by omega) I (fun xf_3 c16_3 => ?_) (fun xf_5 c16_4 c16_5 => ?_)
    · dsimp only [Option.toList, List.cons_append, List.nil_append, Nat.add_zero]
      refine v_if_ne_f (tgt := 24) dX11_strikeWords_19 (by decide) (by decide) ?_
      refine v_iconst dX11_strikeWords_22 (c32 rfl) ?_
      refine v_iretz dX11_strikeWords_23 rfl (by decide) (Nat.le_refl _) (Nat.le_refl _) ?_
      exact q0 _ (fun y => by omega)
    · dsimp only [Option.toList, List.cons_append, List.nil_append, Nat.add_zero]
      refine v_if_ne_t (tgt := 24) dX11_strikeWords_19 (by decide) (by decide) ?_
      refine v_aload_n dX11_strikeWords_24 rfl ?_
      refine v_getr (ci := 11) (j := 8) (ji := 8) (z := 97) dX11_strikeWords_25 k_562 (by decide) kk_0 (by decide) rfl rfl (fun r => rt_0_8 (r rfl)) (by decide) ?_
      refine v_aload_n dX11_strikeWords_28 rfl ?_
      refine v_getr (ci := 11) (j := 3) (ji := 3) (z := 41) dX11_strikeWords_29 k_557 (by decide) kk_0 (by decide) rfl rfl (fun r => rt_0_3 (r rfl)) (by decide) ?_
      have w7 := I.W.nb
      refine v_getrN (ci := 6) (j := 3) (ji := 3) (z := 45) dX11_strikeWords_32 k_300 (by decide) kk_41 (by decide) rfl rfl (fun r => rt_41_3 (r rfl)) (by decide) ?_
      refine v_iload_n dX11_strikeWords_35 rfl ?_
      refine v_ialoadv dX11_strikeWords_36 (by decide) kk_45 (by omega) (by omega) ((cst_n (by decide)).trans ((congrFun I.e45 b))) ?_
      refine v_callv (M' := mX9_strikeFewest) (d' := d - 1) (mc' := 0) (ms' := 0) (ci := 9) (c := 97) (As := [_]) dX11_strikeWords_37 k_1284 cm_X9_strikeFewest rfl (by omega) (by decide) kk_97 (Nat.le_of_ble_eq_true rfl) rfl ⟨Nat.le_refl _, Nat.le_refl _⟩ ?_
      refine s_cstrF (b := b) (by omega) I c16_4 ⟨by omega, by omega⟩ c16_5 (fun xf_7 c37_6 c37_7 => ?_)
      dsimp only [Option.toList, List.cons_append, List.nil_append, Nat.add_zero]
      refine v_iconst dX11_strikeWords_40 (c32 rfl) ?_
      refine v_iretz dX11_strikeWords_41 rfl (by decide) (Nat.le_refl _) (Nat.le_refl _) ?_
      exact q1 _ ⟨⟨by omega, by omega⟩, c16_4⟩ (by rw [c37_6]; exact wdC_n I c16_4 ⟨by omega, by omega⟩) c37_7
  · dsimp only [Option.toList, List.cons_append, List.nil_append, Nat.add_zero]
    refine v_if_eq_t (tgt := 22) dX11_strikeWords_8 (by decide) (by decide) ?_
    refine v_iconst dX11_strikeWords_22 (c32 rfl) ?_
    refine v_iretz dX11_strikeWords_23 rfl (by decide) (Nat.le_refl _) (Nat.le_refl _) ?_
    exact q0 _ (fun y => by omega)

set_option maxHeartbeats 4000000 in
set_option maxRecDepth 100000 in
theorem s_Fstruck {l : Launch} {G : GG} {d : Nat} {h F : AH} {Q : Option AV → List Kd → AH → Prop} {cs : Int → List (Int × List Int)} {b : Int} (hd : 5 ≤ d) (I : CI h cs) (q0 : ¬ ((0 ≤ b ∧ b < h 116 45) ∧ wdN h b ≤ 12) → ∀ F', Q (some (0, -1)) K0 (cst h F')) (q1 : ((0 ≤ b ∧ b < h 116 45) ∧ wdN h b ≤ 12) → ∀ F', Q (some (0, (wdK h b : Int))) K0 (cst h F')) : Sp l G mX11_struck d 0 0 K0 [(2, 0), (0, b)] (cst h F) Q := by
  refine sp_of (L := [(2, 0), (0, b)]) pl_X11 (Nat.le_of_ble_eq_true rfl) (tg_c (by decide) (tg_c (by decide) tg_0)) rfl ?_
  refine v_aload_n dX11_struck_0 rfl ?_
  refine v_iload_n dX11_struck_1 rfl ?_
  refine v_callv (M' := mX11_strikeWords) (d' := d - 1) (mc' := 0) (ms' := 0) (ci := 11) (c := 0) (As := [_]) dX11_struck_2 k_1276 cm_X11_strikeWords rfl (by omega) (by decide) kk_0 (Nat.le_of_ble_eq_true rfl) rfl ⟨Nat.le_refl _, Nat.le_refl _⟩ ?_
  refine s_cstrW (b := b) (by omega) I (fun xf_1 c2_1 => ?_) (fun xf_4 c2_2 c2_3 c2_4 => ?_)
  · dsimp only [Option.toList, List.cons_append, List.nil_append, Nat.add_zero]
    refine v_if_eq_t (tgt := 18) dX11_struck_5 (by decide) (by decide) ?_
    refine v_iconst dX11_struck_18 (c32 rfl) ?_
    refine v_ireti dX11_struck_19 rfl (Nat.le_refl _) (Nat.le_refl _) ?_
    exact q0 c2_1 _
  · dsimp only [Option.toList, List.cons_append, List.nil_append, Nat.add_zero]
    refine v_if_eq_f (tgt := 18) dX11_struck_5 (by decide) (by decide) ?_
    have h79 := c2_3
    refine v_aload_n dX11_struck_8 rfl ?_
    refine v_getr (ci := 11) (j := 8) (ji := 8) (z := 97) dX11_struck_9 k_562 (by decide) kk_0 (by decide) rfl rfl (fun r => rt_0_8 (r rfl)) (by decide) ?_
    refine v_getvN (ci := 9) (j := 7) (ji := 7) (tg := 0) dX11_struck_12 k_536 (by decide) kk_97 (by decide) rfl rfl (by decide) ((cst_s (by decide)).trans (h79)) ?_
    refine v_goto (tgt := 19) dX11_struck_15 (by decide) ?_
    refine v_ireti dX11_struck_19 rfl (Nat.le_refl _) (Nat.le_refl _) ?_
    exact q1 c2_2 _

set_option maxHeartbeats 4000000 in
set_option maxRecDepth 100000 in
theorem s_cstrA {l : Launch} {G : GG} {d : Nat} {h F : AH} {Q : Option AV → List Kd → AH → Prop} {cs : Int → List (Int × List Int)} {b i : Int} (hd : 2 ≤ d) (I : CI h cs) (ok : ((0 ≤ b ∧ b < h 116 45) ∧ wdN h b ≤ 12)) (h79 : F 97 7 = (wdK h b : Int)) (hP : PQw h b (wdN h b) (F 115)) (q0 : ¬ (0 ≤ i ∧ i < (wdK h b : Int)) → Q (some (0, -1)) K0 (cst h F)) (q1 : (0 ≤ i ∧ i < (wdK h b : Int)) → Q (some (0, wdA h b i)) K0 (cst h F)) : Sp l G mX9_struckAt d 0 0 K0 [(2, 97), (0, i)] (cst h F) Q := by
  refine sp_of (L := [(2, 97), (0, i)]) pl_X9 (Nat.le_of_ble_eq_true rfl) (tg_c (by decide) (tg_c (by decide) tg_0)) rfl ?_
  refine v_iload_n dX9_struckAt_0 rfl ?_
  refine v_iconst dX9_struckAt_1 (c32 rfl) ?_
  refine v_aload_n dX9_struckAt_2 rfl ?_
  refine v_getv (ci := 9) (j := 7) (ji := 7) (tg := 0) dX9_struckAt_3 k_535 (by decide) kk_97 (by decide) rfl rfl (by decide) ((cst_s (by decide)).trans (h79)) ?_
  have l9 := @wdK_l h b
  have n9 := wdN_0 (b := b) I
  have n12 := ok.2
  refine v_iconst dX9_struckAt_6 (c32 rfl) ?_
  refine v_isubE dX9_struckAt_7 (by omega) ?_
  refine v_callsN (M' := mX11_within) (d' := d - 1) (mc' := 0) (ms' := 0) (As := [_, _, _]) dX9_struckAt_8 k_1306 cm_X11_within (by omega) (Nat.le_of_ble_eq_true rfl) rfl ⟨Nat.le_refl _, Nat.le_refl _⟩ ?_
  refine s_X11_within (by omega) (fun c8_1 => ?_) (fun c8_2 c8_3 => ?_) (fun c8_4 c8_5 => ?_)
  · dsimp only [Option.toList, List.cons_append, List.nil_append, Nat.add_zero]
    refine v_if_eq_t (tgt := 23) dX9_struckAt_11 (by decide) (by decide) ?_
    refine v_iconst dX9_struckAt_23 (c32 rfl) ?_
    refine v_ireti dX9_struckAt_24 rfl (Nat.le_refl _) (Nat.le_refl _) ?_
    exact q0 (by omega)
  · dsimp only [Option.toList, List.cons_append, List.nil_append, Nat.add_zero]
    refine v_if_eq_t (tgt := 23) dX9_struckAt_11 (by decide) (by decide) ?_
    refine v_iconst dX9_struckAt_23 (c32 rfl) ?_
    refine v_ireti dX9_struckAt_24 rfl (Nat.le_refl _) (Nat.le_refl _) ?_
    exact q0 (by omega)
  · dsimp only [Option.toList, List.cons_append, List.nil_append, Nat.add_zero]
    refine v_if_eq_f (tgt := 23) dX9_struckAt_11 (by decide) (by decide) ?_
    refine v_aload_n dX9_struckAt_14 rfl ?_
    refine v_getr (ci := 9) (j := 6) (ji := 6) (z := 115) dX9_struckAt_15 k_534 (by decide) kk_97 (by decide) rfl rfl (fun r => rt_97_6 (r rfl)) (by decide) ?_
    refine v_iload_n dX9_struckAt_18 rfl ?_
    refine v_ialoadv dX9_struckAt_19 (by decide) kk_115 (by omega) (by omega) ((cst_m (by decide)).trans ((wdA_R I hP (by omega) (by rw [wdC_n I ok.2 ok.1]; omega)))) ?_
    refine v_goto (tgt := 24) dX9_struckAt_20 (by decide) ?_
    refine v_ireti dX9_struckAt_24 rfl (Nat.le_refl _) (Nat.le_refl _) ?_
    exact q1 ⟨by omega, by omega⟩

set_option maxHeartbeats 4000000 in
set_option maxRecDepth 100000 in
theorem s_Fstrike {l : Launch} {G : GG} {d : Nat} {h F : AH} {Q : Option AV → List Kd → AH → Prop} {cs : Int → List (Int × List Int)} {b i : Int} (hd : 5 ≤ d) (I : CI h cs) (q0 : ¬ (((0 ≤ b ∧ b < h 116 45) ∧ wdN h b ≤ 12) ∧ (0 ≤ i ∧ i < (wdK h b : Int))) → ∀ F', Q (some (0, -1)) K0 (cst h F')) (q1 : (((0 ≤ b ∧ b < h 116 45) ∧ wdN h b ≤ 12) ∧ (0 ≤ i ∧ i < (wdK h b : Int))) → ∀ F', Q (some (0, wdA h b i)) K0 (cst h F')) : Sp l G mX11_strike d 0 0 K0 [(2, 0), (0, b), (0, i)] (cst h F) Q := by
  refine sp_of (L := [(2, 0), (0, b), (0, i)]) pl_X11 (Nat.le_of_ble_eq_true rfl) (tg_c (by decide) (tg_c (by decide) (tg_c (by decide) tg_0))) rfl ?_
  refine v_aload_n dX11_strike_0 rfl ?_
  refine v_iload_n dX11_strike_1 rfl ?_
  refine v_callv (M' := mX11_strikeWords) (d' := d - 1) (mc' := 0) (ms' := 0) (ci := 11) (c := 0) (As := [_]) dX11_strike_2 k_1276 cm_X11_strikeWords rfl (by omega) (by decide) kk_0 (Nat.le_of_ble_eq_true rfl) rfl ⟨Nat.le_refl _, Nat.le_refl _⟩ ?_
  refine s_cstrW (b := b) (by omega) I (fun xf_1 c2_1 => ?_) (fun xf_4 c2_2 c2_3 c2_4 => ?_)
  · dsimp only [Option.toList, List.cons_append, List.nil_append, Nat.add_zero]
    refine v_if_eq_t (tgt := 19) dX11_strike_5 (by decide) (by decide) ?_
    refine v_iconst dX11_strike_19 (c32 rfl) ?_
    refine v_ireti dX11_strike_20 rfl (Nat.le_refl _) (Nat.le_refl _) ?_
    exact q0 (fun y => by omega) _
  · dsimp only [Option.toList, List.cons_append, List.nil_append, Nat.add_zero]
    refine v_if_eq_f (tgt := 19) dX11_strike_5 (by decide) (by decide) ?_
    refine v_aload_n dX11_strike_8 rfl ?_
    refine v_getr (ci := 11) (j := 8) (ji := 8) (z := 97) dX11_strike_9 k_562 (by decide) kk_0 (by decide) rfl rfl (fun r => rt_0_8 (r rfl)) (by decide) ?_
    refine v_iload_n dX11_strike_12 rfl ?_
    refine v_callv (M' := mX9_struckAt) (d' := d - 1) (mc' := 0) (ms' := 0) (ci := 9) (c := 97) (As := [_]) dX11_strike_13 k_1302 cm_X9_struckAt rfl (by omega) (by decide) kk_97 (Nat.le_of_ble_eq_true rfl) rfl ⟨Nat.le_refl _, Nat.le_refl _⟩ ?_
    refine s_cstrA (b := b) (by omega) I c2_2 c2_3 c2_4 (fun c13_5 => ?_) (fun c13_6 => ?_)
    · dsimp only [Option.toList, List.cons_append, List.nil_append, Nat.add_zero]
      refine v_goto (tgt := 20) dX11_strike_16 (by decide) ?_
      refine v_ireti dX11_strike_20 rfl (Nat.le_refl _) (Nat.le_refl _) ?_
      exact q0 (fun y => by omega) _
    · dsimp only [Option.toList, List.cons_append, List.nil_append, Nat.add_zero]
      refine v_goto (tgt := 20) dX11_strike_16 (by decide) ?_
      refine v_ireti dX11_strike_20 rfl (Nat.le_refl _) (Nat.le_refl _) ?_
      exact q1 ⟨c2_2, by omega, by omega⟩ _

