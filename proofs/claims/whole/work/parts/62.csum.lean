/-! ===== the class's reader: sums, conditions (written by wip/whole/p41.py) ===== -/
theorem plc_rng {c : Int} : -1 ≤ plc c ∧ plc c ≤ 7 := by
  unfold plc
  split
  · omega
  · split
    · omega
    · split
      · omega
      · split
        · omega
        · split
          · omega
          · split
            · omega
            · split
              · omega
              · split <;> omega
theorem plc_in {c : Int} (h : plc c ≠ -1) : 97 ≤ c ∧ c ≤ 122 :=
  ⟨Int.not_lt.mp fun q => h (plc_out (Or.inl q)), Int.not_lt.mp fun q => h (plc_out (Or.inr q))⟩
/-- a reader of the class: k1 stands among the steps already and belongs to what P finds -/
def RdC (l : Launch) (G : GG) (h : AH) (u : Int → Int) (n : Int) (N : Nat) (M : MI) (as : List AV) (k1 : List Int) (P : Int → PR) : Prop :=
  ∀ ⦃d : Nat⦄ ⦃a s : Int⦄ ⦃R : Int → Int⦄ ⦃K1 K : List Int⦄ ⦃Q : Option AV → List Kd → AH → Prop⦄, N ≤ d → 0 ≤ a → a ≤ n → s ≤ a → SL R s K1 → K1 = K ++ k1 →
    (∀ e R' a' s', P a = .inl e → 0 ≤ e → 0 ≤ a' → a' ≤ n → 0 ≤ s' → s' ≤ 200 → Q none K0 (cps h R' a' e s')) →
    (∀ a' k R' s', P a = .inr (a', k) → a < a' → a' ≤ n → s' - s ≤ a' - a → 0 ≤ s' → SL R' s' (K ++ k) → Q none K0 (cps h R' a' (-1) s')) →
    Sp l G M d 0 0 K0 ((2, 1) :: as) (cps h R a (-1) s) Q

theorem s_cmpN {l : Launch} {G : GG} {d : Nat} {h : AH} {Q : Option AV → List Kd → AH → Prop} (hd : 1 ≤ d) (hq : Q (some (0, 0)) K0 h) : Sp l G mX7_isComparison d 0 0 K0 [(0, -1)] h Q := by
  refine s_X7_isComparison hd ?_ ?_ ?_ ?_
  all_goals first | (exact fun q => absurd q (by decide)) | (exact fun _ q => absurd q (by decide)) | (exact fun _ _ q => absurd q (by decide)) | (intros; exact hq)

theorem s_digN {l : Launch} {G : GG} {d : Nat} {h : AH} {Q : Option AV → List Kd → AH → Prop} (hd : 1 ≤ d) (hq : Q (some (0, 0)) K0 h) : Sp l G mX7_isDigit d 0 0 K0 [(0, -1)] h Q := by
  refine s_X7_isDigit hd ?_ ?_ ?_
  all_goals first | (intros; exact hq) | (intro q; exact absurd q (by decide))

theorem s_plcN {l : Launch} {G : GG} {d : Nat} {h : AH} {Q : Option AV → List Kd → AH → Prop} (hd : 5 ≤ d) (hq : Q (some (0, -1)) K0 h) : Sp l G mX11_placeOf d 0 0 K0 [(0, -1)] h Q := s_placeOf hd hq

set_option maxHeartbeats 4000000 in
set_option maxRecDepth 100000 in
theorem s_catomF {l : Launch} {G : GG} {d : Nat} {h : AH} {Q : Option AV → List Kd → AH → Prop} {n : Int} {u : Int → Int} {R : Int → Int} {a f s p : Int} (hd : 6 ≤ d) (hT : CT h u n) (h0 : 0 ≤ a) (h1 : a ≤ n) (hs0 : 0 ≤ s) (hs1 : s ≤ 200) (hf : f ≠ -1) (hq : ∀ R a s, 0 ≤ a → a ≤ n → 0 ≤ s → s ≤ 200 → Q none K0 (cps h R a f s)) : Sp l G mX7_readAtom d 0 0 K0 [(2, 1), (0, p)] (cps h R a f s) Q := by
  have hT0 := hT
  obtain ⟨⟨hn0, hn1⟩, hen, hu, hur⟩ := hT
  refine sp_of (L := [(2, 1), (0, p), (9, 0), (9, 0)]) pl_X7 (Nat.le_of_ble_eq_true rfl) (tg_c (by decide) (tg_c (by decide) tg_0)) rfl ?_
  refine v_aload_n dX7_readAtom_0 rfl ?_
  have hpg := @sk_ge u n a
  have hpl := @sk_le u n a (by omega)
  refine v_callv (M' := mX7_peek) (d' := d - 1) (mc' := 0) (ms' := 0) (ci := 7) (c := 1) (As := []) dX7_readAtom_1 k_654 cm_X7_peek rfl (by omega) (by decide) kk_1 (Nat.le_of_ble_eq_true rfl) rfl ⟨Nat.le_refl _, Nat.le_refl _⟩ ?_
  refine s_cpeek1 (by omega) hT0 (by omega) (by omega) (by omega) ?_
  dsimp only [Option.toList, List.cons_append, List.nil_append, Nat.add_zero]
  refine v_istore_n_2 dX7_readAtom_4 (by decide) rfl ?_
  refine v_iload_n dX7_readAtom_5 rfl ?_
  refine v_callsN (M' := mX11_placeOf) (d' := d - 1) (mc' := 0) (ms' := 0) (As := [_]) dX7_readAtom_6 k_773 cm_X11_placeOf (by omega) (Nat.le_of_ble_eq_true rfl) rfl ⟨Nat.le_refl _, Nat.le_refl _⟩ ?_
  refine s_plcN (by omega) ?_
  dsimp only [Option.toList, List.cons_append, List.nil_append, Nat.add_zero]
  refine v_istore_n_3 dX7_readAtom_9 (by decide) rfl ?_
  refine v_iload_n dX7_readAtom_10 rfl ?_
  refine v_calls (M' := mX7_isDigit) (d' := d - 1) (mc' := 0) (ms' := 0) (As := [_]) dX7_readAtom_11 k_778 cm_X7_isDigit (by omega) (Nat.le_of_ble_eq_true rfl) rfl ⟨Nat.le_refl _, Nat.le_refl _⟩ ?_
  refine s_digN (by omega) ?_
  dsimp only [Option.toList, List.cons_append, List.nil_append, Nat.add_zero]
  refine v_if_eq_t (tgt := 24) dX7_readAtom_14 (by decide) (by decide) ?_
  refine v_iload_n dX7_readAtom_24 rfl ?_
  refine v_iconst dX7_readAtom_25 (c32 rfl) ?_
  refine v_icmp_eq_t (tgt := 49) dX7_readAtom_26 (by decide) (by decide) ?_
  refine v_iload_n dX7_readAtom_49 rfl ?_
  refine v_bipush dX7_readAtom_50 (c32 rfl) (by decide) ?_
  refine v_icmp_eq_f (tgt := 62) dX7_readAtom_52 (by decide) (by decide) ?_
  refine v_aload_n dX7_readAtom_55 rfl ?_
  refine v_callv (M' := mX7_fail) (d' := d - 1) (mc' := 0) (ms' := 0) (ci := 7) (c := 1) (As := []) dX7_readAtom_56 k_745 cm_X7_fail rfl (by omega) (by decide) kk_1 (Nat.le_of_ble_eq_true rfl) rfl ⟨Nat.le_refl _, Nat.le_refl _⟩ ?_
  refine s_cfail1 (by omega) (by omega) ?_
  dsimp only [Option.toList, List.cons_append, List.nil_append, Nat.add_zero]
  refine v_goto (tgt := 83) dX7_readAtom_59 (by decide) ?_
  refine v_vret dX7_readAtom_83 rfl (Nat.le_refl _) (Nat.le_refl _) ?_
  exact hq _ _ _ (by omega) (by omega) (by omega) (by omega)

set_option maxHeartbeats 4000000 in
set_option maxRecDepth 100000 in
theorem s_ctermF {l : Launch} {G : GG} {d : Nat} {h : AH} {Q : Option AV → List Kd → AH → Prop} {n : Int} {u : Int → Int} {R : Int → Int} {a f s p : Int} (hd : 7 ≤ d) (hT : CT h u n) (h0 : 0 ≤ a) (h1 : a ≤ n) (hs0 : 0 ≤ s) (hs1 : s ≤ 200) (hf : f ≠ -1) (hq : ∀ R a s, 0 ≤ a → a ≤ n → 0 ≤ s → s ≤ 200 → Q none K0 (cps h R a f s)) : Sp l G mX7_readTerm d 0 0 K0 [(2, 1), (0, p)] (cps h R a f s) Q := by
  have hT0 := hT
  obtain ⟨⟨hn0, hn1⟩, hen, hu, hur⟩ := hT
  refine sp_of (L := [(2, 1), (0, p), (9, 0), (9, 0)]) pl_X7 (Nat.le_of_ble_eq_true rfl) (tg_c (by decide) (tg_c (by decide) tg_0)) rfl ?_
  refine v_aload_n dX7_readTerm_0 rfl ?_
  refine v_iload_n dX7_readTerm_1 rfl ?_
  refine v_callv (M' := mX7_readAtom) (d' := d - 1) (mc' := 0) (ms' := 0) (ci := 7) (c := 1) (As := [_]) dX7_readTerm_2 k_769 cm_X7_readAtom rfl (by omega) (by decide) kk_1 (Nat.le_of_ble_eq_true rfl) rfl ⟨Nat.le_refl _, Nat.le_refl _⟩ ?_
  refine s_catomF (by omega) hT0 (by omega) (by omega) (by omega) (by omega) (by omega) (fun xr_4 xa_4 xs_4 c2_1 c2_2 c2_3 c2_4 => ?_)
  dsimp only [Option.toList, List.cons_append, List.nil_append, Nat.add_zero]
  refine v_iconst dX7_readTerm_5 (c32 rfl) ?_
  refine v_istore_n_2 dX7_readTerm_6 (by decide) rfl ?_
  refine v_iload_n dX7_readTerm_7 rfl ?_
  refine v_sipush dX7_readTerm_8 (c32 rfl) (by decide) ?_
  refine v_icmp_ge_f (tgt := 64) dX7_readTerm_11 (by decide) (by decide) ?_
  refine v_aload_n dX7_readTerm_14 rfl ?_
  have hpg := @sk_ge u n xa_4
  have hpl := @sk_le u n xa_4 (by omega)
  refine v_callv (M' := mX7_peek) (d' := d - 1) (mc' := 0) (ms' := 0) (ci := 7) (c := 1) (As := []) dX7_readTerm_15 k_654 cm_X7_peek rfl (by omega) (by decide) kk_1 (Nat.le_of_ble_eq_true rfl) rfl ⟨Nat.le_refl _, Nat.le_refl _⟩ ?_
  refine s_cpeek1 (by omega) hT0 (by omega) (by omega) (by omega) ?_
  dsimp only [Option.toList, List.cons_append, List.nil_append, Nat.add_zero]
  refine v_bipush dX7_readTerm_18 (c32 rfl) (by decide) ?_
  refine v_icmp_eq_f (tgt := 32) dX7_readTerm_20 (by decide) (by decide) ?_
  refine v_aload_n dX7_readTerm_23 rfl ?_
  refine v_callv (M' := mX7_peek) (d' := d - 1) (mc' := 0) (ms' := 0) (ci := 7) (c := 1) (As := []) dX7_readTerm_24 k_654 cm_X7_peek rfl (by omega) (by decide) kk_1 (Nat.le_of_ble_eq_true rfl) rfl ⟨Nat.le_refl _, Nat.le_refl _⟩ ?_
  refine s_cpeek1b (by omega) hT0 (by omega) (by omega) (by omega) ?_
  dsimp only [Option.toList, List.cons_append, List.nil_append, Nat.add_zero]
  refine v_bipush dX7_readTerm_27 (c32 rfl) (by decide) ?_
  refine v_icmp_ne_t (tgt := 64) dX7_readTerm_29 (by decide) (by decide) ?_
  refine v_vret dX7_readTerm_64 rfl (Nat.le_refl _) (Nat.le_refl _) ?_
  exact hq _ _ _ (by omega) (by omega) (by omega) (by omega)

set_option maxHeartbeats 4000000 in
set_option maxRecDepth 100000 in
theorem s_csumF {l : Launch} {G : GG} {d : Nat} {h : AH} {Q : Option AV → List Kd → AH → Prop} {n : Int} {u : Int → Int} {R : Int → Int} {a f s p : Int} (hd : 8 ≤ d) (hT : CT h u n) (h0 : 0 ≤ a) (h1 : a ≤ n) (hs0 : 0 ≤ s) (hs1 : s ≤ 200) (hf : f ≠ -1) (hq : ∀ R a s, 0 ≤ a → a ≤ n → 0 ≤ s → s ≤ 200 → Q none K0 (cps h R a f s)) : Sp l G mX7_readSum d 0 0 K0 [(2, 1), (0, p)] (cps h R a f s) Q := by
  have hT0 := hT
  obtain ⟨⟨hn0, hn1⟩, hen, hu, hur⟩ := hT
  refine sp_of (L := [(2, 1), (0, p), (9, 0), (9, 0)]) pl_X7 (Nat.le_of_ble_eq_true rfl) (tg_c (by decide) (tg_c (by decide) tg_0)) rfl ?_
  refine v_aload_n dX7_readSum_0 rfl ?_
  refine v_iload_n dX7_readSum_1 rfl ?_
  refine v_callv (M' := mX7_readTerm) (d' := d - 1) (mc' := 0) (ms' := 0) (ci := 7) (c := 1) (As := [_]) dX7_readSum_2 k_765 cm_X7_readTerm rfl (by omega) (by decide) kk_1 (Nat.le_of_ble_eq_true rfl) rfl ⟨Nat.le_refl _, Nat.le_refl _⟩ ?_
  refine s_ctermF (by omega) hT0 (by omega) (by omega) (by omega) (by omega) (by omega) (fun xr_4 xa_4 xs_4 c2_1 c2_2 c2_3 c2_4 => ?_)
  dsimp only [Option.toList, List.cons_append, List.nil_append, Nat.add_zero]
  refine v_iconst dX7_readSum_5 (c32 rfl) ?_
  refine v_istore_n_2 dX7_readSum_6 (by decide) rfl ?_
  refine v_iload_n dX7_readSum_7 rfl ?_
  refine v_sipush dX7_readSum_8 (c32 rfl) (by decide) ?_
  refine v_icmp_ge_f (tgt := 64) dX7_readSum_11 (by decide) (by decide) ?_
  refine v_aload_n dX7_readSum_14 rfl ?_
  have hpg := @sk_ge u n xa_4
  have hpl := @sk_le u n xa_4 (by omega)
  refine v_callv (M' := mX7_peek) (d' := d - 1) (mc' := 0) (ms' := 0) (ci := 7) (c := 1) (As := []) dX7_readSum_15 k_654 cm_X7_peek rfl (by omega) (by decide) kk_1 (Nat.le_of_ble_eq_true rfl) rfl ⟨Nat.le_refl _, Nat.le_refl _⟩ ?_
  refine s_cpeek1 (by omega) hT0 (by omega) (by omega) (by omega) ?_
  dsimp only [Option.toList, List.cons_append, List.nil_append, Nat.add_zero]
  refine v_bipush dX7_readSum_18 (c32 rfl) (by decide) ?_
  refine v_icmp_eq_f (tgt := 32) dX7_readSum_20 (by decide) (by decide) ?_
  refine v_aload_n dX7_readSum_23 rfl ?_
  refine v_callv (M' := mX7_peek) (d' := d - 1) (mc' := 0) (ms' := 0) (ci := 7) (c := 1) (As := []) dX7_readSum_24 k_654 cm_X7_peek rfl (by omega) (by decide) kk_1 (Nat.le_of_ble_eq_true rfl) rfl ⟨Nat.le_refl _, Nat.le_refl _⟩ ?_
  refine s_cpeek1b (by omega) hT0 (by omega) (by omega) (by omega) ?_
  dsimp only [Option.toList, List.cons_append, List.nil_append, Nat.add_zero]
  refine v_bipush dX7_readSum_27 (c32 rfl) (by decide) ?_
  refine v_icmp_ne_t (tgt := 64) dX7_readSum_29 (by decide) (by decide) ?_
  refine v_vret dX7_readSum_64 rfl (Nat.le_refl _) (Nat.le_refl _) ?_
  exact hq _ _ _ (by omega) (by omega) (by omega) (by omega)

set_option maxHeartbeats 4000000 in
set_option maxRecDepth 100000 in
theorem c_atom {l : Launch} {G : GG} {h : AH} {n : Int} {u : Int → Int} {dp : Int} {D : Nat} (hD : dp + D = 8) (hdp : 0 ≤ dp) (hT : CT h u n) (hs : ∀ D', D = D' + 1 → RdC l G h u n (8 + 3 * D') mX7_readSum [(0, dp + 1)] [] (sumL u n D')) : RdC l G h u n (6 + 3 * D) mX7_readAtom [(0, dp)] [] (pAtom u n (nestL u n D)) := by
  intro d a s R K1 K Q hd h0 h1 hsa hSL hK hf hsu
  rw [List.append_nil] at hK
  subst hK
  have hT0 := hT
  obtain ⟨⟨hn0, hn1⟩, hen, hu, hur⟩ := hT
  have hpk := @pk_rng u n a hur h0
  have hsg := @sk_ge u n a
  have hsl := @sk_le u n a h1
  have hs0 := SL_nn hSL
  refine sp_of (L := [(2, 1), (0, dp), (9, 0), (9, 0)]) pl_X7 (Nat.le_of_ble_eq_true rfl) (tg_c (by decide) (tg_c (by decide) tg_0)) rfl ?_
  refine v_aload_n dX7_readAtom_0 rfl ?_
  refine v_callv (M' := mX7_peek) (d' := d - 1) (mc' := 0) (ms' := 0) (ci := 7) (c := 1) (As := []) dX7_readAtom_1 k_654 cm_X7_peek rfl (by omega) (by decide) kk_1 (Nat.le_of_ble_eq_true rfl) rfl ⟨Nat.le_refl _, Nat.le_refl _⟩ ?_
  refine s_cpeek0 (by omega) hT0 (by omega) (by omega) ?_
  dsimp only [Option.toList, List.cons_append, List.nil_append, Nat.add_zero]
  refine v_istore_n_2 dX7_readAtom_4 (by decide) rfl ?_
  refine v_iload_n dX7_readAtom_5 rfl ?_
  refine v_callsN (M' := mX11_placeOf) (d' := d - 1) (mc' := 0) (ms' := 0) (As := [_]) dX7_readAtom_6 k_773 cm_X11_placeOf (by omega) (Nat.le_of_ble_eq_true rfl) rfl ⟨Nat.le_refl _, Nat.le_refl _⟩ ?_
  refine s_placeOf (by omega) ?_
  dsimp only [Option.toList, List.cons_append, List.nil_append, Nat.add_zero]
  refine v_istore_n_3 dX7_readAtom_9 (by decide) rfl ?_
  refine v_iload_n dX7_readAtom_10 rfl ?_
  refine v_calls (M' := mX7_isDigit) (d' := d - 1) (mc' := 0) (ms' := 0) (As := [_]) dX7_readAtom_11 k_778 cm_X7_isDigit (by omega) (Nat.le_of_ble_eq_true rfl) rfl ⟨Nat.le_refl _, Nat.le_refl _⟩ ?_
  refine s_X7_isDigit (by omega) (fun c11_1 => ?_) (fun c11_2 c11_3 => ?_) (fun c11_4 c11_5 => ?_)
  · dsimp only [Option.toList, List.cons_append, List.nil_append, Nat.add_zero]
    refine v_if_eq_t (tgt := 24) dX7_readAtom_14 (by decide) (by decide) ?_
    refine v_iload_n dX7_readAtom_24 rfl ?_
    refine v_iconst dX7_readAtom_25 (c32 rfl) ?_
    refine v_icmp_eq (tgt := 49) dX7_readAtom_26 (by decide) (fun c26_6 => ?_) (fun c26_6 => ?_)
    · refine v_iload_n dX7_readAtom_49 rfl ?_
      refine v_bipush dX7_readAtom_50 (c32 rfl) (by decide) ?_
      refine v_icmp_eq (tgt := 62) dX7_readAtom_52 (by decide) (fun c52_7 => ?_) (fun c52_7 => ?_)
      · refine v_aload_n dX7_readAtom_62 rfl ?_
        refine v_iload_n dX7_readAtom_63 rfl ?_
        refine v_callv (M' := mX7_opens) (d' := d - 1) (mc' := 0) (ms' := 0) (ci := 7) (c := 1) (As := [_]) dX7_readAtom_64 k_785 cm_X7_opens rfl (by omega) (by decide) kk_1 (Nat.le_of_ble_eq_true rfl) rfl ⟨Nat.le_refl _, Nat.le_refl _⟩ ?_
        refine s_copens (by omega) ⟨by omega, by omega⟩ (fun c64_8 => ?_) (fun c64_9 => ?_)
        · dsimp only [Option.toList, List.cons_append, List.nil_append, Nat.add_zero]
          refine v_if_eq_f (tgt := 83) dX7_readAtom_67 (by decide) (by decide) ?_
          obtain ⟨D', rfl⟩ : ∃ D', D = D' + 1 := ⟨D - 1, by omega⟩
          have hsum := hs D' rfl
          refine v_aload_n dX7_readAtom_70 rfl ?_
          refine v_iload_n dX7_readAtom_71 rfl ?_
          refine v_iconst dX7_readAtom_72 (c32 rfl) ?_
          refine v_iaddE dX7_readAtom_73 (by omega) ?_
          refine v_callv (M' := mX7_readSum) (d' := d - 1) (mc' := 0) (ms' := 0) (ci := 7) (c := 1) (As := [_]) dX7_readAtom_74 k_761 cm_X7_readSum rfl (by omega) (by decide) kk_1 (Nat.le_of_ble_eq_true rfl) rfl ⟨Nat.le_refl _, Nat.le_refl _⟩ ?_
          refine hsum (by omega) (by omega) (by omega) (by omega) hSL (List.append_nil _).symm (fun xe_15 xr_15 xa_15 xs_15 c74_10 c74_11 c74_12 c74_13 c74_14 c74_15 => ?_) (fun xa_21 xk_21 xr_21 xs_21 c74_16 c74_17 c74_18 c74_19 c74_20 c74_21 => ?_)
          · dsimp only [Option.toList, List.cons_append, List.nil_append, Nat.add_zero]
            refine v_aload_n dX7_readAtom_77 rfl ?_
            refine v_bipush dX7_readAtom_78 (c32 rfl) (by decide) ?_
            have hpg := @sk_ge u n xa_15
            have hpl := @sk_le u n xa_15 (by omega)
            refine v_callv (M' := mX7_need) (d' := d - 1) (mc' := 0) (ms' := 0) (ci := 7) (c := 1) (As := [_]) dX7_readAtom_80 k_753 cm_X7_need rfl (by omega) (by decide) kk_1 (Nat.le_of_ble_eq_true rfl) rfl ⟨Nat.le_refl _, Nat.le_refl _⟩ ?_
            refine s_cneed1 (by omega) hT0 (by omega) (by omega) (by omega) (by first | decide | omega) ?_
            dsimp only [Option.toList, List.cons_append, List.nil_append, Nat.add_zero]
            refine v_vret dX7_readAtom_83 rfl (Nat.le_refl _) (Nat.le_refl _) ?_
            exact hf _ _ _ _ (pAtom_nf c52_7 c74_10) (by omega) (by omega) (by omega) (by omega) (by omega)
          · dsimp only [Option.toList, List.cons_append, List.nil_append, Nat.add_zero]
            refine v_aload_n dX7_readAtom_77 rfl ?_
            refine v_bipush dX7_readAtom_78 (c32 rfl) (by decide) ?_
            have hpq := @pk_rng u n xa_21 hur (by omega)
            have hpg := @sk_ge u n xa_21
            have hpl := @sk_le u n xa_21 (by omega)
            refine v_callv (M' := mX7_need) (d' := d - 1) (mc' := 0) (ms' := 0) (ci := 7) (c := 1) (As := [_]) dX7_readAtom_80 k_753 cm_X7_need rfl (by omega) (by decide) kk_1 (Nat.le_of_ble_eq_true rfl) rfl ⟨Nat.le_refl _, Nat.le_refl _⟩ ?_
            refine s_cneed0 (by omega) hT0 (by omega) (by omega) (fun c80_22 => ?_) (fun c80_23 => ?_)
            · dsimp only [Option.toList, List.cons_append, List.nil_append, Nat.add_zero]
              refine v_vret dX7_readAtom_83 rfl (Nat.le_refl _) (Nat.le_refl _) ?_
              exact hsu _ _ _ _ (pAtom_ns c52_7 c74_16 c80_22) (by omega) (by omega) (by omega) (by omega) c74_21
            · dsimp only [Option.toList, List.cons_append, List.nil_append, Nat.add_zero]
              refine v_vret dX7_readAtom_83 rfl (Nat.le_refl _) (Nat.le_refl _) ?_
              exact hf _ _ _ _ (pAtom_nc c52_7 c74_16 c80_23) (by omega) (by omega) (by omega) (by omega) (by omega)
        · dsimp only [Option.toList, List.cons_append, List.nil_append, Nat.add_zero]
          refine v_if_eq_t (tgt := 83) dX7_readAtom_67 (by decide) (by decide) ?_
          refine v_vret dX7_readAtom_83 rfl (Nat.le_refl _) (Nat.le_refl _) ?_
          obtain rfl : D = 0 := by omega
          exact hf _ _ _ _ (pAtom_none c52_7) (by omega) (by omega) (by omega) (by omega) (by omega)
      · refine v_aload_n dX7_readAtom_55 rfl ?_
        refine v_callv (M' := mX7_fail) (d' := d - 1) (mc' := 0) (ms' := 0) (ci := 7) (c := 1) (As := []) dX7_readAtom_56 k_745 cm_X7_fail rfl (by omega) (by decide) kk_1 (Nat.le_of_ble_eq_true rfl) rfl ⟨Nat.le_refl _, Nat.le_refl _⟩ ?_
        refine s_cfail0 (by omega) ?_
        dsimp only [Option.toList, List.cons_append, List.nil_append, Nat.add_zero]
        refine v_goto (tgt := 83) dX7_readAtom_59 (by decide) ?_
        refine v_vret dX7_readAtom_83 rfl (Nat.le_refl _) (Nat.le_refl _) ?_
        exact hf _ _ _ _ (pAtom_bad (by omega) c26_6 c52_7) (by omega) (by omega) (by omega) (by omega) (by omega)
    · have hprr := @plc_rng (pk u n a)
      have hl97 := plc_in c26_6
      refine v_aload_n dX7_readAtom_29 rfl ?_
      refine v_dup dX7_readAtom_30 rfl ?_
      refine v_getv (ci := 7) (j := 2) (ji := 2) (tg := 0) dX7_readAtom_31 k_134 (by decide) kk_1 (by decide) rfl rfl (by decide) (cps_r2) ?_
      refine v_iconst dX7_readAtom_34 (c32 rfl) ?_
      refine v_iaddE dX7_readAtom_35 (by omega) ?_
      refine v_puti (ci := 7) (j := 2) (ji := 2) dX7_readAtom_36 k_134 (by decide) kk_1 (by decide) rfl rfl rfl ?_
      rw [cps_w2]
      refine v_aload_n dX7_readAtom_39 rfl ?_
      refine v_iconst dX7_readAtom_40 (c32 rfl) ?_
      refine v_iload_n dX7_readAtom_41 rfl ?_
      refine v_isubE dX7_readAtom_42 (by omega) ?_
      refine v_callv (M' := mX7_put) (d' := d - 1) (mc' := 0) (ms' := 0) (ci := 7) (c := 1) (As := [_]) dX7_readAtom_43 k_749 cm_X7_put rfl (by omega) (by decide) kk_1 (Nat.le_of_ble_eq_true rfl) rfl ⟨Nat.le_refl _, Nat.le_refl _⟩ ?_
      refine s_cput (by omega) (by omega) (by omega) ?_
      dsimp only [Option.toList, List.cons_append, List.nil_append, Nat.add_zero]
      refine v_goto (tgt := 83) dX7_readAtom_46 (by decide) ?_
      refine v_vret dX7_readAtom_83 rfl (Nat.le_refl _) (Nat.le_refl _) ?_
      exact hsu _ _ _ _ (pAtom_let c26_6 (plc_in c26_6).1) (by omega) (by omega) (by omega) (by omega) (SL_put hSL)
  · dsimp only [Option.toList, List.cons_append, List.nil_append, Nat.add_zero]
    refine v_if_eq_t (tgt := 24) dX7_readAtom_14 (by decide) (by decide) ?_
    refine v_iload_n dX7_readAtom_24 rfl ?_
    refine v_iconst dX7_readAtom_25 (c32 rfl) ?_
    refine v_icmp_eq (tgt := 49) dX7_readAtom_26 (by decide) (fun c26_24 => ?_) (fun c26_24 => ?_)
    · refine v_iload_n dX7_readAtom_49 rfl ?_
      refine v_bipush dX7_readAtom_50 (c32 rfl) (by decide) ?_
      refine v_icmp_eq (tgt := 62) dX7_readAtom_52 (by decide) (fun c52_25 => ?_) (fun c52_25 => ?_)
      · refine v_aload_n dX7_readAtom_62 rfl ?_
        refine v_iload_n dX7_readAtom_63 rfl ?_
        refine v_callv (M' := mX7_opens) (d' := d - 1) (mc' := 0) (ms' := 0) (ci := 7) (c := 1) (As := [_]) dX7_readAtom_64 k_785 cm_X7_opens rfl (by omega) (by decide) kk_1 (Nat.le_of_ble_eq_true rfl) rfl ⟨Nat.le_refl _, Nat.le_refl _⟩ ?_
        refine s_copens (by omega) ⟨by omega, by omega⟩ (fun c64_26 => ?_) (fun c64_27 => ?_)
        · dsimp only [Option.toList, List.cons_append, List.nil_append, Nat.add_zero]
          refine v_if_eq_f (tgt := 83) dX7_readAtom_67 (by decide) (by decide) ?_
          obtain ⟨D', rfl⟩ : ∃ D', D = D' + 1 := ⟨D - 1, by omega⟩
          have hsum := hs D' rfl
          refine v_aload_n dX7_readAtom_70 rfl ?_
          refine v_iload_n dX7_readAtom_71 rfl ?_
          refine v_iconst dX7_readAtom_72 (c32 rfl) ?_
          refine v_iaddE dX7_readAtom_73 (by omega) ?_
          refine v_callv (M' := mX7_readSum) (d' := d - 1) (mc' := 0) (ms' := 0) (ci := 7) (c := 1) (As := [_]) dX7_readAtom_74 k_761 cm_X7_readSum rfl (by omega) (by decide) kk_1 (Nat.le_of_ble_eq_true rfl) rfl ⟨Nat.le_refl _, Nat.le_refl _⟩ ?_
          refine hsum (by omega) (by omega) (by omega) (by omega) hSL (List.append_nil _).symm (fun xe_33 xr_33 xa_33 xs_33 c74_28 c74_29 c74_30 c74_31 c74_32 c74_33 => ?_) (fun xa_39 xk_39 xr_39 xs_39 c74_34 c74_35 c74_36 c74_37 c74_38 c74_39 => ?_)
          · dsimp only [Option.toList, List.cons_append, List.nil_append, Nat.add_zero]
            refine v_aload_n dX7_readAtom_77 rfl ?_
            refine v_bipush dX7_readAtom_78 (c32 rfl) (by decide) ?_
            have hpg := @sk_ge u n xa_33
            have hpl := @sk_le u n xa_33 (by omega)
            refine v_callv (M' := mX7_need) (d' := d - 1) (mc' := 0) (ms' := 0) (ci := 7) (c := 1) (As := [_]) dX7_readAtom_80 k_753 cm_X7_need rfl (by omega) (by decide) kk_1 (Nat.le_of_ble_eq_true rfl) rfl ⟨Nat.le_refl _, Nat.le_refl _⟩ ?_
            refine s_cneed1 (by omega) hT0 (by omega) (by omega) (by omega) (by first | decide | omega) ?_
            dsimp only [Option.toList, List.cons_append, List.nil_append, Nat.add_zero]
            refine v_vret dX7_readAtom_83 rfl (Nat.le_refl _) (Nat.le_refl _) ?_
            exact hf _ _ _ _ (pAtom_nf c52_25 c74_28) (by omega) (by omega) (by omega) (by omega) (by omega)
          · dsimp only [Option.toList, List.cons_append, List.nil_append, Nat.add_zero]
            refine v_aload_n dX7_readAtom_77 rfl ?_
            refine v_bipush dX7_readAtom_78 (c32 rfl) (by decide) ?_
            have hpq := @pk_rng u n xa_39 hur (by omega)
            have hpg := @sk_ge u n xa_39
            have hpl := @sk_le u n xa_39 (by omega)
            refine v_callv (M' := mX7_need) (d' := d - 1) (mc' := 0) (ms' := 0) (ci := 7) (c := 1) (As := [_]) dX7_readAtom_80 k_753 cm_X7_need rfl (by omega) (by decide) kk_1 (Nat.le_of_ble_eq_true rfl) rfl ⟨Nat.le_refl _, Nat.le_refl _⟩ ?_
            refine s_cneed0 (by omega) hT0 (by omega) (by omega) (fun c80_40 => ?_) (fun c80_41 => ?_)
            · dsimp only [Option.toList, List.cons_append, List.nil_append, Nat.add_zero]
              refine v_vret dX7_readAtom_83 rfl (Nat.le_refl _) (Nat.le_refl _) ?_
              exact hsu _ _ _ _ (pAtom_ns c52_25 c74_34 c80_40) (by omega) (by omega) (by omega) (by omega) c74_39
            · dsimp only [Option.toList, List.cons_append, List.nil_append, Nat.add_zero]
              refine v_vret dX7_readAtom_83 rfl (Nat.le_refl _) (Nat.le_refl _) ?_
              exact hf _ _ _ _ (pAtom_nc c52_25 c74_34 c80_41) (by omega) (by omega) (by omega) (by omega) (by omega)
        · dsimp only [Option.toList, List.cons_append, List.nil_append, Nat.add_zero]
          refine v_if_eq_t (tgt := 83) dX7_readAtom_67 (by decide) (by decide) ?_
          refine v_vret dX7_readAtom_83 rfl (Nat.le_refl _) (Nat.le_refl _) ?_
          obtain rfl : D = 0 := by omega
          exact hf _ _ _ _ (pAtom_none c52_25) (by omega) (by omega) (by omega) (by omega) (by omega)
      · refine v_aload_n dX7_readAtom_55 rfl ?_
        refine v_callv (M' := mX7_fail) (d' := d - 1) (mc' := 0) (ms' := 0) (ci := 7) (c := 1) (As := []) dX7_readAtom_56 k_745 cm_X7_fail rfl (by omega) (by decide) kk_1 (Nat.le_of_ble_eq_true rfl) rfl ⟨Nat.le_refl _, Nat.le_refl _⟩ ?_
        refine s_cfail0 (by omega) ?_
        dsimp only [Option.toList, List.cons_append, List.nil_append, Nat.add_zero]
        refine v_goto (tgt := 83) dX7_readAtom_59 (by decide) ?_
        refine v_vret dX7_readAtom_83 rfl (Nat.le_refl _) (Nat.le_refl _) ?_
        exact hf _ _ _ _ (pAtom_bad (by omega) c26_24 c52_25) (by omega) (by omega) (by omega) (by omega) (by omega)
    · have hprr := @plc_rng (pk u n a)
      have hl97 := plc_in c26_24
      refine v_aload_n dX7_readAtom_29 rfl ?_
      refine v_dup dX7_readAtom_30 rfl ?_
      refine v_getv (ci := 7) (j := 2) (ji := 2) (tg := 0) dX7_readAtom_31 k_134 (by decide) kk_1 (by decide) rfl rfl (by decide) (cps_r2) ?_
      refine v_iconst dX7_readAtom_34 (c32 rfl) ?_
      refine v_iaddE dX7_readAtom_35 (by omega) ?_
      refine v_puti (ci := 7) (j := 2) (ji := 2) dX7_readAtom_36 k_134 (by decide) kk_1 (by decide) rfl rfl rfl ?_
      rw [cps_w2]
      refine v_aload_n dX7_readAtom_39 rfl ?_
      refine v_iconst dX7_readAtom_40 (c32 rfl) ?_
      refine v_iload_n dX7_readAtom_41 rfl ?_
      refine v_isubE dX7_readAtom_42 (by omega) ?_
      refine v_callv (M' := mX7_put) (d' := d - 1) (mc' := 0) (ms' := 0) (ci := 7) (c := 1) (As := [_]) dX7_readAtom_43 k_749 cm_X7_put rfl (by omega) (by decide) kk_1 (Nat.le_of_ble_eq_true rfl) rfl ⟨Nat.le_refl _, Nat.le_refl _⟩ ?_
      refine s_cput (by omega) (by omega) (by omega) ?_
      dsimp only [Option.toList, List.cons_append, List.nil_append, Nat.add_zero]
      refine v_goto (tgt := 83) dX7_readAtom_46 (by decide) ?_
      refine v_vret dX7_readAtom_83 rfl (Nat.le_refl _) (Nat.le_refl _) ?_
      exact hsu _ _ _ _ (pAtom_let c26_24 (plc_in c26_24).1) (by omega) (by omega) (by omega) (by omega) (SL_put hSL)
  · dsimp only [Option.toList, List.cons_append, List.nil_append, Nat.add_zero]
    refine v_if_eq_f (tgt := 24) dX7_readAtom_14 (by decide) (by decide) ?_
    refine v_aload_n dX7_readAtom_17 rfl ?_
    have hr5 := @numF_rng u n 5 0 (sk u n a) (by omega)
    have hg5 : sk u n a < (numF u n 5 0 (sk u n a)).2 := numF_gt (m := 4) (by omega) (by omega)
    refine v_callv (M' := mX7_readNumber) (d' := d - 1) (mc' := 0) (ms' := 0) (ci := 7) (c := 1) (As := []) dX7_readAtom_18 k_781 cm_X7_readNumber rfl (by omega) (by decide) kk_1 (Nat.le_of_ble_eq_true rfl) rfl ⟨Nat.le_refl _, Nat.le_refl _⟩ ?_
    refine s_cnum (by omega) hT0 ⟨by omega, by omega⟩ (by omega) (by omega) (fun c18_42 => ?_) (fun c18_43 => ?_)
    · dsimp only [Option.toList, List.cons_append, List.nil_append, Nat.add_zero]
      refine v_goto (tgt := 83) dX7_readAtom_21 (by decide) ?_
      refine v_vret dX7_readAtom_83 rfl (Nat.le_refl _) (Nat.le_refl _) ?_
      exact hf _ _ _ _ (by rw [pAtom_num ⟨c11_4, c11_5⟩]; unfold pNum; rw [if_pos c18_42]) (by omega) (by omega) (by omega) (by omega) (by omega)
    · dsimp only [Option.toList, List.cons_append, List.nil_append, Nat.add_zero]
      refine v_goto (tgt := 83) dX7_readAtom_21 (by decide) ?_
      refine v_vret dX7_readAtom_83 rfl (Nat.le_refl _) (Nat.le_refl _) ?_
      exact hsu _ _ _ _ (by rw [pAtom_num ⟨c11_4, c11_5⟩]; unfold pNum; rw [if_neg c18_43]) (by omega) (by omega) (by omega) (by omega) (SL_put hSL)

set_option maxHeartbeats 4000000 in
set_option maxRecDepth 100000 in
theorem lp_cterm {l : Launch} {G : GG} {h : AH} {n : Int} {u : Int → Int} {dp : Int} {N d : Nat} {P : Int → PR} {K : List Int} {Q : Option AV → List Kd → AH → Prop} (hd : N + 1 ≤ d) (hT : CT h u n) (hI : RdC l G h u n N mX7_readAtom [(0, dp)] [] P) (hN : 4 ≤ N) : ∀ {m : Nat} {g a s : Int} {R : Int → Int} {k : List Int}, n - a < m → 0 ≤ g → g ≤ a → 0 ≤ a → a ≤ n → s ≤ a → SL R s (K ++ k) →
    (∀ e R' a' s', pLoop u n oMul P m a k = .inl e → 0 ≤ e → 0 ≤ a' → a' ≤ n → 0 ≤ s' → s' ≤ 200 → Q none K0 (cps h R' a' e s')) →
    (∀ a' k' R' s', pLoop u n oMul P m a k = .inr (a', k') → a ≤ a' → a' ≤ n → s' - s ≤ a' - a → 0 ≤ s' → SL R' s' (K ++ k') → Q none K0 (cps h R' a' (-1) s')) →
    V l G mX7_readTerm d 0 0 0 0 K0 7 [(2, 1), (0, dp), (0, g), (9, 0)] [] (cps h R a (-1) s) Q := by
  have hT0 := hT
  obtain ⟨⟨hn0, hn1⟩, hen, hu, hur⟩ := hT
  intro m
  induction m with
  | zero => intro g a s R k hm0; omega
  | succ m ih =>
    intro g a s R k hmm hg0 hga h0 h1 hsa hSL hf hsu
    have hpk := @pk_rng u n a hur h0
    have hsg := @sk_ge u n a
    have hsl := @sk_le u n a h1
    have hs0 := SL_nn hSL
    refine v_iload_n dX7_readTerm_7 rfl ?_
    refine v_sipush dX7_readTerm_8 (c32 rfl) (by decide) ?_
    refine v_icmp_ge (tgt := 64) dX7_readTerm_11 (by decide) (fun c11_1 => ?_) (fun c11_1 => ?_)
    · refine v_vret dX7_readTerm_64 rfl (Nat.le_refl _) (Nat.le_refl _) ?_
      exact hsu _ _ _ _ (by rw [pLoop_no (by rw [pk_n (by omega)]; rfl), sk_f (by omega)]) (by omega) (by omega) (by omega) (by omega) hSL
    · refine v_aload_n dX7_readTerm_14 rfl ?_
      refine v_callv (M' := mX7_peek) (d' := d - 1) (mc' := 0) (ms' := 0) (ci := 7) (c := 1) (As := []) dX7_readTerm_15 k_654 cm_X7_peek rfl (by omega) (by decide) kk_1 (Nat.le_of_ble_eq_true rfl) rfl ⟨Nat.le_refl _, Nat.le_refl _⟩ ?_
      refine s_cpeek0 (by omega) hT0 (by omega) (by omega) ?_
      dsimp only [Option.toList, List.cons_append, List.nil_append, Nat.add_zero]
      refine v_bipush dX7_readTerm_18 (c32 rfl) (by decide) ?_
      refine v_icmp_eq (tgt := 32) dX7_readTerm_20 (by decide) (fun c20_2 => ?_) (fun c20_2 => ?_)
      · refine v_aload_n dX7_readTerm_32 rfl ?_
        refine v_callv (M' := mX7_peek) (d' := d - 1) (mc' := 0) (ms' := 0) (ci := 7) (c := 1) (As := []) dX7_readTerm_33 k_654 cm_X7_peek rfl (by omega) (by decide) kk_1 (Nat.le_of_ble_eq_true rfl) rfl ⟨Nat.le_refl _, Nat.le_refl _⟩ ?_
        refine s_cpeek0b (by omega) hT0 (by omega) (by omega) ?_
        dsimp only [Option.toList, List.cons_append, List.nil_append, Nat.add_zero]
        refine v_istore_n_3 dX7_readTerm_36 (by decide) rfl ?_
        refine v_aload_n dX7_readTerm_37 rfl ?_
        refine v_dup dX7_readTerm_38 rfl ?_
        refine v_getv (ci := 7) (j := 2) (ji := 2) (tg := 0) dX7_readTerm_39 k_134 (by decide) kk_1 (by decide) rfl rfl (by decide) (cps_r2) ?_
        refine v_iconst dX7_readTerm_42 (c32 rfl) ?_
        refine v_iaddE dX7_readTerm_43 (by omega) ?_
        refine v_puti (ci := 7) (j := 2) (ji := 2) dX7_readTerm_44 k_134 (by decide) kk_1 (by decide) rfl rfl rfl ?_
        rw [cps_w2]
        refine v_aload_n dX7_readTerm_47 rfl ?_
        refine v_iload_n dX7_readTerm_48 rfl ?_
        refine v_callv (M' := mX7_readAtom) (d' := d - 1) (mc' := 0) (ms' := 0) (ci := 7) (c := 1) (As := [_]) dX7_readTerm_49 k_769 cm_X7_readAtom rfl (by omega) (by decide) kk_1 (Nat.le_of_ble_eq_true rfl) rfl ⟨Nat.le_refl _, Nat.le_refl _⟩ ?_
        refine hI (by omega) (by omega) (by omega) (by omega) hSL (List.append_nil _).symm (fun xe_8 xr_8 xa_8 xs_8 c49_3 c49_4 c49_5 c49_6 c49_7 c49_8 => ?_) (fun xa_14 xk_14 xr_14 xs_14 c49_9 c49_10 c49_11 c49_12 c49_13 c49_14 => ?_)
        · dsimp only [Option.toList, List.cons_append, List.nil_append, Nat.add_zero]
          refine v_aload_n dX7_readTerm_52 rfl ?_
          refine v_iload_n dX7_readTerm_53 rfl ?_
          refine v_ineg dX7_readTerm_54 ?_
          refine v_callv (M' := mX7_put) (d' := d - 1) (mc' := 0) (ms' := 0) (ci := 7) (c := 1) (As := [_]) dX7_readTerm_55 k_749 cm_X7_put rfl (by omega) (by decide) kk_1 (Nat.le_of_ble_eq_true rfl) rfl ⟨Nat.le_refl _, Nat.le_refl _⟩ ?_
          refine s_cputF (by omega) (by omega) (by omega) (fun xr_16 xs_16 c55_15 c55_16 => ?_)
          dsimp only [Option.toList, List.cons_append, List.nil_append, Nat.add_zero]
          refine v_iinc_2 dX7_readTerm_58 (by decide) rfl ?_
          rw [iadd_eq (x := g) (y := 1) (by unfold ok32; omega)]
          refine v_goto (tgt := 7) dX7_readTerm_61 (by decide) ?_
          refine v_iload_n dX7_readTerm_7 rfl ?_
          refine v_sipush dX7_readTerm_8 (c32 rfl) (by decide) ?_
          refine v_icmp_ge (tgt := 64) dX7_readTerm_11 (by decide) (fun c11_17 => ?_) (fun c11_17 => ?_)
          · refine v_vret dX7_readTerm_64 rfl (Nat.le_refl _) (Nat.le_refl _) ?_
            exact hf _ _ _ _ (pLoop_f (by rw [c20_2]; rfl) c49_3) (by omega) (by omega) (by omega) (by omega) (by omega)
          · refine v_aload_n dX7_readTerm_14 rfl ?_
            have hpg := @sk_ge u n xa_8
            have hpl := @sk_le u n xa_8 (by omega)
            refine v_callv (M' := mX7_peek) (d' := d - 1) (mc' := 0) (ms' := 0) (ci := 7) (c := 1) (As := []) dX7_readTerm_15 k_654 cm_X7_peek rfl (by omega) (by decide) kk_1 (Nat.le_of_ble_eq_true rfl) rfl ⟨Nat.le_refl _, Nat.le_refl _⟩ ?_
            refine s_cpeek1 (by omega) hT0 (by omega) (by omega) (by omega) ?_
            dsimp only [Option.toList, List.cons_append, List.nil_append, Nat.add_zero]
            refine v_bipush dX7_readTerm_18 (c32 rfl) (by decide) ?_
            refine v_icmp_eq_f (tgt := 32) dX7_readTerm_20 (by decide) (by decide) ?_
            refine v_aload_n dX7_readTerm_23 rfl ?_
            refine v_callv (M' := mX7_peek) (d' := d - 1) (mc' := 0) (ms' := 0) (ci := 7) (c := 1) (As := []) dX7_readTerm_24 k_654 cm_X7_peek rfl (by omega) (by decide) kk_1 (Nat.le_of_ble_eq_true rfl) rfl ⟨Nat.le_refl _, Nat.le_refl _⟩ ?_
            refine s_cpeek1b (by omega) hT0 (by omega) (by omega) (by omega) ?_
            dsimp only [Option.toList, List.cons_append, List.nil_append, Nat.add_zero]
            refine v_bipush dX7_readTerm_27 (c32 rfl) (by decide) ?_
            refine v_icmp_ne_t (tgt := 64) dX7_readTerm_29 (by decide) (by decide) ?_
            refine v_vret dX7_readTerm_64 rfl (Nat.le_refl _) (Nat.le_refl _) ?_
            exact hf _ _ _ _ (pLoop_f (by rw [c20_2]; rfl) c49_3) (by omega) (by omega) (by omega) (by omega) (by omega)
        · dsimp only [Option.toList, List.cons_append, List.nil_append, Nat.add_zero]
          refine v_aload_n dX7_readTerm_52 rfl ?_
          refine v_iload_n dX7_readTerm_53 rfl ?_
          refine v_ineg dX7_readTerm_54 ?_
          refine v_callv (M' := mX7_put) (d' := d - 1) (mc' := 0) (ms' := 0) (ci := 7) (c := 1) (As := [_]) dX7_readTerm_55 k_749 cm_X7_put rfl (by omega) (by decide) kk_1 (Nat.le_of_ble_eq_true rfl) rfl ⟨Nat.le_refl _, Nat.le_refl _⟩ ?_
          refine s_cputN (by omega) (by omega) (by omega) ⟨by omega, by omega⟩ ?_
          dsimp only [Option.toList, List.cons_append, List.nil_append, Nat.add_zero]
          refine v_iinc_2 dX7_readTerm_58 (by decide) rfl ?_
          rw [iadd_eq (x := g) (y := 1) (by unfold ok32; omega)]
          refine v_goto (tgt := 7) dX7_readTerm_61 (by decide) ?_
          have el : pLoop u n oMul P (m + 1) a k = pLoop u n oMul P m xa_14 (k ++ xk_14 ++ [-(pk u n a)]) := pLoop_s (by rw [c20_2]; rfl) c49_9
          rw [el] at hf hsu
          have hSL9 : SL (fset xr_14 xs_14 (-(pk u n a))) (xs_14 + 1) (K ++ (k ++ xk_14 ++ [-(pk u n a)])) := SL_as (SL_put c49_14) (by simp only [List.append_assoc])
          refine v_loc (lo_k (lo_k (lo_k (lo_d lo_nil)))) ?_
          exact ih (by omega) (by omega) (by omega) (by omega) (by omega) (by omega) hSL9 hf (fun a9 k9 r9 s9 q1 q2 q3 q4 q5 q6 => hsu a9 k9 r9 s9 q1 (by omega) q3 (by omega) q5 q6)
      · refine v_aload_n dX7_readTerm_23 rfl ?_
        refine v_callv (M' := mX7_peek) (d' := d - 1) (mc' := 0) (ms' := 0) (ci := 7) (c := 1) (As := []) dX7_readTerm_24 k_654 cm_X7_peek rfl (by omega) (by decide) kk_1 (Nat.le_of_ble_eq_true rfl) rfl ⟨Nat.le_refl _, Nat.le_refl _⟩ ?_
        refine s_cpeek0b (by omega) hT0 (by omega) (by omega) ?_
        dsimp only [Option.toList, List.cons_append, List.nil_append, Nat.add_zero]
        refine v_bipush dX7_readTerm_27 (c32 rfl) (by decide) ?_
        refine v_icmp_ne (tgt := 64) dX7_readTerm_29 (by decide) (fun c29_18 => ?_) (fun c29_18 => ?_)
        · refine v_vret dX7_readTerm_64 rfl (Nat.le_refl _) (Nat.le_refl _) ?_
          exact hsu _ _ _ _ (pLoop_no (oMul_f c20_2 c29_18)) (by omega) (by omega) (by omega) (by omega) hSL
        · refine v_aload_n dX7_readTerm_32 rfl ?_
          refine v_callv (M' := mX7_peek) (d' := d - 1) (mc' := 0) (ms' := 0) (ci := 7) (c := 1) (As := []) dX7_readTerm_33 k_654 cm_X7_peek rfl (by omega) (by decide) kk_1 (Nat.le_of_ble_eq_true rfl) rfl ⟨Nat.le_refl _, Nat.le_refl _⟩ ?_
          refine s_cpeek0b (by omega) hT0 (by omega) (by omega) ?_
          dsimp only [Option.toList, List.cons_append, List.nil_append, Nat.add_zero]
          refine v_istore_n_3 dX7_readTerm_36 (by decide) rfl ?_
          refine v_aload_n dX7_readTerm_37 rfl ?_
          refine v_dup dX7_readTerm_38 rfl ?_
          refine v_getv (ci := 7) (j := 2) (ji := 2) (tg := 0) dX7_readTerm_39 k_134 (by decide) kk_1 (by decide) rfl rfl (by decide) (cps_r2) ?_
          refine v_iconst dX7_readTerm_42 (c32 rfl) ?_
          refine v_iaddE dX7_readTerm_43 (by omega) ?_
          refine v_puti (ci := 7) (j := 2) (ji := 2) dX7_readTerm_44 k_134 (by decide) kk_1 (by decide) rfl rfl rfl ?_
          rw [cps_w2]
          refine v_aload_n dX7_readTerm_47 rfl ?_
          refine v_iload_n dX7_readTerm_48 rfl ?_
          refine v_callv (M' := mX7_readAtom) (d' := d - 1) (mc' := 0) (ms' := 0) (ci := 7) (c := 1) (As := [_]) dX7_readTerm_49 k_769 cm_X7_readAtom rfl (by omega) (by decide) kk_1 (Nat.le_of_ble_eq_true rfl) rfl ⟨Nat.le_refl _, Nat.le_refl _⟩ ?_
          refine hI (by omega) (by omega) (by omega) (by omega) hSL (List.append_nil _).symm (fun xe_24 xr_24 xa_24 xs_24 c49_19 c49_20 c49_21 c49_22 c49_23 c49_24 => ?_) (fun xa_30 xk_30 xr_30 xs_30 c49_25 c49_26 c49_27 c49_28 c49_29 c49_30 => ?_)
          · dsimp only [Option.toList, List.cons_append, List.nil_append, Nat.add_zero]
            refine v_aload_n dX7_readTerm_52 rfl ?_
            refine v_iload_n dX7_readTerm_53 rfl ?_
            refine v_ineg dX7_readTerm_54 ?_
            refine v_callv (M' := mX7_put) (d' := d - 1) (mc' := 0) (ms' := 0) (ci := 7) (c := 1) (As := [_]) dX7_readTerm_55 k_749 cm_X7_put rfl (by omega) (by decide) kk_1 (Nat.le_of_ble_eq_true rfl) rfl ⟨Nat.le_refl _, Nat.le_refl _⟩ ?_
            refine s_cputF (by omega) (by omega) (by omega) (fun xr_32 xs_32 c55_31 c55_32 => ?_)
            dsimp only [Option.toList, List.cons_append, List.nil_append, Nat.add_zero]
            refine v_iinc_2 dX7_readTerm_58 (by decide) rfl ?_
            rw [iadd_eq (x := g) (y := 1) (by unfold ok32; omega)]
            refine v_goto (tgt := 7) dX7_readTerm_61 (by decide) ?_
            refine v_iload_n dX7_readTerm_7 rfl ?_
            refine v_sipush dX7_readTerm_8 (c32 rfl) (by decide) ?_
            refine v_icmp_ge (tgt := 64) dX7_readTerm_11 (by decide) (fun c11_33 => ?_) (fun c11_33 => ?_)
            · refine v_vret dX7_readTerm_64 rfl (Nat.le_refl _) (Nat.le_refl _) ?_
              exact hf _ _ _ _ (pLoop_f (by rw [c29_18]; rfl) c49_19) (by omega) (by omega) (by omega) (by omega) (by omega)
            · refine v_aload_n dX7_readTerm_14 rfl ?_
              have hpg := @sk_ge u n xa_24
              have hpl := @sk_le u n xa_24 (by omega)
              refine v_callv (M' := mX7_peek) (d' := d - 1) (mc' := 0) (ms' := 0) (ci := 7) (c := 1) (As := []) dX7_readTerm_15 k_654 cm_X7_peek rfl (by omega) (by decide) kk_1 (Nat.le_of_ble_eq_true rfl) rfl ⟨Nat.le_refl _, Nat.le_refl _⟩ ?_
              refine s_cpeek1 (by omega) hT0 (by omega) (by omega) (by omega) ?_
              dsimp only [Option.toList, List.cons_append, List.nil_append, Nat.add_zero]
              refine v_bipush dX7_readTerm_18 (c32 rfl) (by decide) ?_
              refine v_icmp_eq_f (tgt := 32) dX7_readTerm_20 (by decide) (by decide) ?_
              refine v_aload_n dX7_readTerm_23 rfl ?_
              refine v_callv (M' := mX7_peek) (d' := d - 1) (mc' := 0) (ms' := 0) (ci := 7) (c := 1) (As := []) dX7_readTerm_24 k_654 cm_X7_peek rfl (by omega) (by decide) kk_1 (Nat.le_of_ble_eq_true rfl) rfl ⟨Nat.le_refl _, Nat.le_refl _⟩ ?_
              refine s_cpeek1b (by omega) hT0 (by omega) (by omega) (by omega) ?_
              dsimp only [Option.toList, List.cons_append, List.nil_append, Nat.add_zero]
              refine v_bipush dX7_readTerm_27 (c32 rfl) (by decide) ?_
              refine v_icmp_ne_t (tgt := 64) dX7_readTerm_29 (by decide) (by decide) ?_
              refine v_vret dX7_readTerm_64 rfl (Nat.le_refl _) (Nat.le_refl _) ?_
              exact hf _ _ _ _ (pLoop_f (by rw [c29_18]; rfl) c49_19) (by omega) (by omega) (by omega) (by omega) (by omega)
          · dsimp only [Option.toList, List.cons_append, List.nil_append, Nat.add_zero]
            refine v_aload_n dX7_readTerm_52 rfl ?_
            refine v_iload_n dX7_readTerm_53 rfl ?_
            refine v_ineg dX7_readTerm_54 ?_
            refine v_callv (M' := mX7_put) (d' := d - 1) (mc' := 0) (ms' := 0) (ci := 7) (c := 1) (As := [_]) dX7_readTerm_55 k_749 cm_X7_put rfl (by omega) (by decide) kk_1 (Nat.le_of_ble_eq_true rfl) rfl ⟨Nat.le_refl _, Nat.le_refl _⟩ ?_
            refine s_cputN (by omega) (by omega) (by omega) ⟨by omega, by omega⟩ ?_
            dsimp only [Option.toList, List.cons_append, List.nil_append, Nat.add_zero]
            refine v_iinc_2 dX7_readTerm_58 (by decide) rfl ?_
            rw [iadd_eq (x := g) (y := 1) (by unfold ok32; omega)]
            refine v_goto (tgt := 7) dX7_readTerm_61 (by decide) ?_
            have el : pLoop u n oMul P (m + 1) a k = pLoop u n oMul P m xa_30 (k ++ xk_30 ++ [-(pk u n a)]) := pLoop_s (by rw [c29_18]; rfl) c49_25
            rw [el] at hf hsu
            have hSL9 : SL (fset xr_30 xs_30 (-(pk u n a))) (xs_30 + 1) (K ++ (k ++ xk_30 ++ [-(pk u n a)])) := SL_as (SL_put c49_30) (by simp only [List.append_assoc])
            refine v_loc (lo_k (lo_k (lo_k (lo_d lo_nil)))) ?_
            exact ih (by omega) (by omega) (by omega) (by omega) (by omega) (by omega) hSL9 hf (fun a9 k9 r9 s9 q1 q2 q3 q4 q5 q6 => hsu a9 k9 r9 s9 q1 (by omega) q3 (by omega) q5 q6)

set_option maxHeartbeats 4000000 in
set_option maxRecDepth 100000 in
theorem c_term {l : Launch} {G : GG} {h : AH} {n : Int} {u : Int → Int} {dp : Int} {N : Nat} {P : Int → PR} (hT : CT h u n) (hI : RdC l G h u n N mX7_readAtom [(0, dp)] [] P) (hN : 4 ≤ N) : RdC l G h u n (N + 1) mX7_readTerm [(0, dp)] [] (fun a => pThen (P a) (pLoop u n oMul P 201)) := by
  intro d a s R K1 K Q hd h0 h1 hsa hSL hK hf hsu
  rw [List.append_nil] at hK
  subst hK
  have hT0 := hT
  obtain ⟨⟨hn0, hn1⟩, hen, hu, hur⟩ := hT
  have hpk := @pk_rng u n a hur h0
  have hsg := @sk_ge u n a
  have hsl := @sk_le u n a h1
  have hs0 := SL_nn hSL
  refine sp_of (L := [(2, 1), (0, dp), (9, 0), (9, 0)]) pl_X7 (Nat.le_of_ble_eq_true rfl) (tg_c (by decide) (tg_c (by decide) tg_0)) rfl ?_
  refine v_aload_n dX7_readTerm_0 rfl ?_
  refine v_iload_n dX7_readTerm_1 rfl ?_
  refine v_callv (M' := mX7_readAtom) (d' := d - 1) (mc' := 0) (ms' := 0) (ci := 7) (c := 1) (As := [_]) dX7_readTerm_2 k_769 cm_X7_readAtom rfl (by omega) (by decide) kk_1 (Nat.le_of_ble_eq_true rfl) rfl ⟨Nat.le_refl _, Nat.le_refl _⟩ ?_
  refine hI (by omega) (by omega) (by omega) (by omega) hSL (List.append_nil _).symm (fun xe_6 xr_6 xa_6 xs_6 c2_1 c2_2 c2_3 c2_4 c2_5 c2_6 => ?_) (fun xa_12 xk_12 xr_12 xs_12 c2_7 c2_8 c2_9 c2_10 c2_11 c2_12 => ?_)
  · dsimp only [Option.toList, List.cons_append, List.nil_append, Nat.add_zero]
    refine v_iconst dX7_readTerm_5 (c32 rfl) ?_
    refine v_istore_n_2 dX7_readTerm_6 (by decide) rfl ?_
    refine v_iload_n dX7_readTerm_7 rfl ?_
    refine v_sipush dX7_readTerm_8 (c32 rfl) (by decide) ?_
    refine v_icmp_ge_f (tgt := 64) dX7_readTerm_11 (by decide) (by decide) ?_
    refine v_aload_n dX7_readTerm_14 rfl ?_
    have hpg := @sk_ge u n xa_6
    have hpl := @sk_le u n xa_6 (by omega)
    refine v_callv (M' := mX7_peek) (d' := d - 1) (mc' := 0) (ms' := 0) (ci := 7) (c := 1) (As := []) dX7_readTerm_15 k_654 cm_X7_peek rfl (by omega) (by decide) kk_1 (Nat.le_of_ble_eq_true rfl) rfl ⟨Nat.le_refl _, Nat.le_refl _⟩ ?_
    refine s_cpeek1 (by omega) hT0 (by omega) (by omega) (by omega) ?_
    dsimp only [Option.toList, List.cons_append, List.nil_append, Nat.add_zero]
    refine v_bipush dX7_readTerm_18 (c32 rfl) (by decide) ?_
    refine v_icmp_eq_f (tgt := 32) dX7_readTerm_20 (by decide) (by decide) ?_
    refine v_aload_n dX7_readTerm_23 rfl ?_
    refine v_callv (M' := mX7_peek) (d' := d - 1) (mc' := 0) (ms' := 0) (ci := 7) (c := 1) (As := []) dX7_readTerm_24 k_654 cm_X7_peek rfl (by omega) (by decide) kk_1 (Nat.le_of_ble_eq_true rfl) rfl ⟨Nat.le_refl _, Nat.le_refl _⟩ ?_
    refine s_cpeek1b (by omega) hT0 (by omega) (by omega) (by omega) ?_
    dsimp only [Option.toList, List.cons_append, List.nil_append, Nat.add_zero]
    refine v_bipush dX7_readTerm_27 (c32 rfl) (by decide) ?_
    refine v_icmp_ne_t (tgt := 64) dX7_readTerm_29 (by decide) (by decide) ?_
    refine v_vret dX7_readTerm_64 rfl (Nat.le_refl _) (Nat.le_refl _) ?_
    exact hf _ _ _ _ (pThen_l c2_1) (by omega) (by omega) (by omega) (by omega) (by omega)
  · dsimp only [Option.toList, List.cons_append, List.nil_append, Nat.add_zero]
    refine v_iconst dX7_readTerm_5 (c32 rfl) ?_
    refine v_istore_n_2 dX7_readTerm_6 (by decide) rfl ?_
    refine v_loc (lo_k (lo_k (lo_k (lo_d lo_nil)))) ?_
    refine lp_cterm (by omega) hT0 hI hN (m := 201) (by omega) (by omega) (by omega) (by omega) (by omega) (by omega) c2_12 (fun e9 r9 a9 s9 q1 => hf e9 r9 a9 s9 ((pThen_r c2_7).trans q1)) (fun a9 k9 r9 s9 q1 q2 q3 q4 q5 q6 => hsu a9 k9 r9 s9 ((pThen_r c2_7).trans q1) (by omega) q3 (by omega) q5 q6)

set_option maxHeartbeats 4000000 in
set_option maxRecDepth 100000 in
theorem lp_csum {l : Launch} {G : GG} {h : AH} {n : Int} {u : Int → Int} {dp : Int} {N d : Nat} {P : Int → PR} {K : List Int} {Q : Option AV → List Kd → AH → Prop} (hd : N + 1 ≤ d) (hT : CT h u n) (hI : RdC l G h u n N mX7_readTerm [(0, dp)] [] P) (hN : 4 ≤ N) : ∀ {m : Nat} {g a s : Int} {R : Int → Int} {k : List Int}, n - a < m → 0 ≤ g → g ≤ a → 0 ≤ a → a ≤ n → s ≤ a → SL R s (K ++ k) →
    (∀ e R' a' s', pLoop u n oAdd P m a k = .inl e → 0 ≤ e → 0 ≤ a' → a' ≤ n → 0 ≤ s' → s' ≤ 200 → Q none K0 (cps h R' a' e s')) →
    (∀ a' k' R' s', pLoop u n oAdd P m a k = .inr (a', k') → a ≤ a' → a' ≤ n → s' - s ≤ a' - a → 0 ≤ s' → SL R' s' (K ++ k') → Q none K0 (cps h R' a' (-1) s')) →
    V l G mX7_readSum d 0 0 0 0 K0 7 [(2, 1), (0, dp), (0, g), (9, 0)] [] (cps h R a (-1) s) Q := by
  have hT0 := hT
  obtain ⟨⟨hn0, hn1⟩, hen, hu, hur⟩ := hT
  intro m
  induction m with
  | zero => intro g a s R k hm0; omega
  | succ m ih =>
    intro g a s R k hmm hg0 hga h0 h1 hsa hSL hf hsu
    have hpk := @pk_rng u n a hur h0
    have hsg := @sk_ge u n a
    have hsl := @sk_le u n a h1
    have hs0 := SL_nn hSL
    refine v_iload_n dX7_readSum_7 rfl ?_
    refine v_sipush dX7_readSum_8 (c32 rfl) (by decide) ?_
    refine v_icmp_ge (tgt := 64) dX7_readSum_11 (by decide) (fun c11_1 => ?_) (fun c11_1 => ?_)
    · refine v_vret dX7_readSum_64 rfl (Nat.le_refl _) (Nat.le_refl _) ?_
      exact hsu _ _ _ _ (by rw [pLoop_no (by rw [pk_n (by omega)]; rfl), sk_f (by omega)]) (by omega) (by omega) (by omega) (by omega) hSL
    · refine v_aload_n dX7_readSum_14 rfl ?_
      refine v_callv (M' := mX7_peek) (d' := d - 1) (mc' := 0) (ms' := 0) (ci := 7) (c := 1) (As := []) dX7_readSum_15 k_654 cm_X7_peek rfl (by omega) (by decide) kk_1 (Nat.le_of_ble_eq_true rfl) rfl ⟨Nat.le_refl _, Nat.le_refl _⟩ ?_
      refine s_cpeek0 (by omega) hT0 (by omega) (by omega) ?_
      dsimp only [Option.toList, List.cons_append, List.nil_append, Nat.add_zero]
      refine v_bipush dX7_readSum_18 (c32 rfl) (by decide) ?_
      refine v_icmp_eq (tgt := 32) dX7_readSum_20 (by decide) (fun c20_2 => ?_) (fun c20_2 => ?_)
      · refine v_aload_n dX7_readSum_32 rfl ?_
        refine v_callv (M' := mX7_peek) (d' := d - 1) (mc' := 0) (ms' := 0) (ci := 7) (c := 1) (As := []) dX7_readSum_33 k_654 cm_X7_peek rfl (by omega) (by decide) kk_1 (Nat.le_of_ble_eq_true rfl) rfl ⟨Nat.le_refl _, Nat.le_refl _⟩ ?_
        refine s_cpeek0b (by omega) hT0 (by omega) (by omega) ?_
        dsimp only [Option.toList, List.cons_append, List.nil_append, Nat.add_zero]
        refine v_istore_n_3 dX7_readSum_36 (by decide) rfl ?_
        refine v_aload_n dX7_readSum_37 rfl ?_
        refine v_dup dX7_readSum_38 rfl ?_
        refine v_getv (ci := 7) (j := 2) (ji := 2) (tg := 0) dX7_readSum_39 k_134 (by decide) kk_1 (by decide) rfl rfl (by decide) (cps_r2) ?_
        refine v_iconst dX7_readSum_42 (c32 rfl) ?_
        refine v_iaddE dX7_readSum_43 (by omega) ?_
        refine v_puti (ci := 7) (j := 2) (ji := 2) dX7_readSum_44 k_134 (by decide) kk_1 (by decide) rfl rfl rfl ?_
        rw [cps_w2]
        refine v_aload_n dX7_readSum_47 rfl ?_
        refine v_iload_n dX7_readSum_48 rfl ?_
        refine v_callv (M' := mX7_readTerm) (d' := d - 1) (mc' := 0) (ms' := 0) (ci := 7) (c := 1) (As := [_]) dX7_readSum_49 k_765 cm_X7_readTerm rfl (by omega) (by decide) kk_1 (Nat.le_of_ble_eq_true rfl) rfl ⟨Nat.le_refl _, Nat.le_refl _⟩ ?_
        refine hI (by omega) (by omega) (by omega) (by omega) hSL (List.append_nil _).symm (fun xe_8 xr_8 xa_8 xs_8 c49_3 c49_4 c49_5 c49_6 c49_7 c49_8 => ?_) (fun xa_14 xk_14 xr_14 xs_14 c49_9 c49_10 c49_11 c49_12 c49_13 c49_14 => ?_)
        · dsimp only [Option.toList, List.cons_append, List.nil_append, Nat.add_zero]
          refine v_aload_n dX7_readSum_52 rfl ?_
          refine v_iload_n dX7_readSum_53 rfl ?_
          refine v_ineg dX7_readSum_54 ?_
          refine v_callv (M' := mX7_put) (d' := d - 1) (mc' := 0) (ms' := 0) (ci := 7) (c := 1) (As := [_]) dX7_readSum_55 k_749 cm_X7_put rfl (by omega) (by decide) kk_1 (Nat.le_of_ble_eq_true rfl) rfl ⟨Nat.le_refl _, Nat.le_refl _⟩ ?_
          refine s_cputF (by omega) (by omega) (by omega) (fun xr_16 xs_16 c55_15 c55_16 => ?_)
          dsimp only [Option.toList, List.cons_append, List.nil_append, Nat.add_zero]
          refine v_iinc_2 dX7_readSum_58 (by decide) rfl ?_
          rw [iadd_eq (x := g) (y := 1) (by unfold ok32; omega)]
          refine v_goto (tgt := 7) dX7_readSum_61 (by decide) ?_
          refine v_iload_n dX7_readSum_7 rfl ?_
          refine v_sipush dX7_readSum_8 (c32 rfl) (by decide) ?_
          refine v_icmp_ge (tgt := 64) dX7_readSum_11 (by decide) (fun c11_17 => ?_) (fun c11_17 => ?_)
          · refine v_vret dX7_readSum_64 rfl (Nat.le_refl _) (Nat.le_refl _) ?_
            exact hf _ _ _ _ (pLoop_f (by rw [c20_2]; rfl) c49_3) (by omega) (by omega) (by omega) (by omega) (by omega)
          · refine v_aload_n dX7_readSum_14 rfl ?_
            have hpg := @sk_ge u n xa_8
            have hpl := @sk_le u n xa_8 (by omega)
            refine v_callv (M' := mX7_peek) (d' := d - 1) (mc' := 0) (ms' := 0) (ci := 7) (c := 1) (As := []) dX7_readSum_15 k_654 cm_X7_peek rfl (by omega) (by decide) kk_1 (Nat.le_of_ble_eq_true rfl) rfl ⟨Nat.le_refl _, Nat.le_refl _⟩ ?_
            refine s_cpeek1 (by omega) hT0 (by omega) (by omega) (by omega) ?_
            dsimp only [Option.toList, List.cons_append, List.nil_append, Nat.add_zero]
            refine v_bipush dX7_readSum_18 (c32 rfl) (by decide) ?_
            refine v_icmp_eq_f (tgt := 32) dX7_readSum_20 (by decide) (by decide) ?_
            refine v_aload_n dX7_readSum_23 rfl ?_
            refine v_callv (M' := mX7_peek) (d' := d - 1) (mc' := 0) (ms' := 0) (ci := 7) (c := 1) (As := []) dX7_readSum_24 k_654 cm_X7_peek rfl (by omega) (by decide) kk_1 (Nat.le_of_ble_eq_true rfl) rfl ⟨Nat.le_refl _, Nat.le_refl _⟩ ?_
            refine s_cpeek1b (by omega) hT0 (by omega) (by omega) (by omega) ?_
            dsimp only [Option.toList, List.cons_append, List.nil_append, Nat.add_zero]
            refine v_bipush dX7_readSum_27 (c32 rfl) (by decide) ?_
            refine v_icmp_ne_t (tgt := 64) dX7_readSum_29 (by decide) (by decide) ?_
            refine v_vret dX7_readSum_64 rfl (Nat.le_refl _) (Nat.le_refl _) ?_
            exact hf _ _ _ _ (pLoop_f (by rw [c20_2]; rfl) c49_3) (by omega) (by omega) (by omega) (by omega) (by omega)
        · dsimp only [Option.toList, List.cons_append, List.nil_append, Nat.add_zero]
          refine v_aload_n dX7_readSum_52 rfl ?_
          refine v_iload_n dX7_readSum_53 rfl ?_
          refine v_ineg dX7_readSum_54 ?_
          refine v_callv (M' := mX7_put) (d' := d - 1) (mc' := 0) (ms' := 0) (ci := 7) (c := 1) (As := [_]) dX7_readSum_55 k_749 cm_X7_put rfl (by omega) (by decide) kk_1 (Nat.le_of_ble_eq_true rfl) rfl ⟨Nat.le_refl _, Nat.le_refl _⟩ ?_
          refine s_cputN (by omega) (by omega) (by omega) ⟨by omega, by omega⟩ ?_
          dsimp only [Option.toList, List.cons_append, List.nil_append, Nat.add_zero]
          refine v_iinc_2 dX7_readSum_58 (by decide) rfl ?_
          rw [iadd_eq (x := g) (y := 1) (by unfold ok32; omega)]
          refine v_goto (tgt := 7) dX7_readSum_61 (by decide) ?_
          have el : pLoop u n oAdd P (m + 1) a k = pLoop u n oAdd P m xa_14 (k ++ xk_14 ++ [-(pk u n a)]) := pLoop_s (by rw [c20_2]; rfl) c49_9
          rw [el] at hf hsu
          have hSL9 : SL (fset xr_14 xs_14 (-(pk u n a))) (xs_14 + 1) (K ++ (k ++ xk_14 ++ [-(pk u n a)])) := SL_as (SL_put c49_14) (by simp only [List.append_assoc])
          refine v_loc (lo_k (lo_k (lo_k (lo_d lo_nil)))) ?_
          exact ih (by omega) (by omega) (by omega) (by omega) (by omega) (by omega) hSL9 hf (fun a9 k9 r9 s9 q1 q2 q3 q4 q5 q6 => hsu a9 k9 r9 s9 q1 (by omega) q3 (by omega) q5 q6)
      · refine v_aload_n dX7_readSum_23 rfl ?_
        refine v_callv (M' := mX7_peek) (d' := d - 1) (mc' := 0) (ms' := 0) (ci := 7) (c := 1) (As := []) dX7_readSum_24 k_654 cm_X7_peek rfl (by omega) (by decide) kk_1 (Nat.le_of_ble_eq_true rfl) rfl ⟨Nat.le_refl _, Nat.le_refl _⟩ ?_
        refine s_cpeek0b (by omega) hT0 (by omega) (by omega) ?_
        dsimp only [Option.toList, List.cons_append, List.nil_append, Nat.add_zero]
        refine v_bipush dX7_readSum_27 (c32 rfl) (by decide) ?_
        refine v_icmp_ne (tgt := 64) dX7_readSum_29 (by decide) (fun c29_18 => ?_) (fun c29_18 => ?_)
        · refine v_vret dX7_readSum_64 rfl (Nat.le_refl _) (Nat.le_refl _) ?_
          exact hsu _ _ _ _ (pLoop_no (oAdd_f c20_2 c29_18)) (by omega) (by omega) (by omega) (by omega) hSL
        · refine v_aload_n dX7_readSum_32 rfl ?_
          refine v_callv (M' := mX7_peek) (d' := d - 1) (mc' := 0) (ms' := 0) (ci := 7) (c := 1) (As := []) dX7_readSum_33 k_654 cm_X7_peek rfl (by omega) (by decide) kk_1 (Nat.le_of_ble_eq_true rfl) rfl ⟨Nat.le_refl _, Nat.le_refl _⟩ ?_
          refine s_cpeek0b (by omega) hT0 (by omega) (by omega) ?_
          dsimp only [Option.toList, List.cons_append, List.nil_append, Nat.add_zero]
          refine v_istore_n_3 dX7_readSum_36 (by decide) rfl ?_
          refine v_aload_n dX7_readSum_37 rfl ?_
          refine v_dup dX7_readSum_38 rfl ?_
          refine v_getv (ci := 7) (j := 2) (ji := 2) (tg := 0) dX7_readSum_39 k_134 (by decide) kk_1 (by decide) rfl rfl (by decide) (cps_r2) ?_
          refine v_iconst dX7_readSum_42 (c32 rfl) ?_
          refine v_iaddE dX7_readSum_43 (by omega) ?_
          refine v_puti (ci := 7) (j := 2) (ji := 2) dX7_readSum_44 k_134 (by decide) kk_1 (by decide) rfl rfl rfl ?_
          rw [cps_w2]
          refine v_aload_n dX7_readSum_47 rfl ?_
          refine v_iload_n dX7_readSum_48 rfl ?_
          refine v_callv (M' := mX7_readTerm) (d' := d - 1) (mc' := 0) (ms' := 0) (ci := 7) (c := 1) (As := [_]) dX7_readSum_49 k_765 cm_X7_readTerm rfl (by omega) (by decide) kk_1 (Nat.le_of_ble_eq_true rfl) rfl ⟨Nat.le_refl _, Nat.le_refl _⟩ ?_
          refine hI (by omega) (by omega) (by omega) (by omega) hSL (List.append_nil _).symm (fun xe_24 xr_24 xa_24 xs_24 c49_19 c49_20 c49_21 c49_22 c49_23 c49_24 => ?_) (fun xa_30 xk_30 xr_30 xs_30 c49_25 c49_26 c49_27 c49_28 c49_29 c49_30 => ?_)
          · dsimp only [Option.toList, List.cons_append, List.nil_append, Nat.add_zero]
            refine v_aload_n dX7_readSum_52 rfl ?_
            refine v_iload_n dX7_readSum_53 rfl ?_
            refine v_ineg dX7_readSum_54 ?_
            refine v_callv (M' := mX7_put) (d' := d - 1) (mc' := 0) (ms' := 0) (ci := 7) (c := 1) (As := [_]) dX7_readSum_55 k_749 cm_X7_put rfl (by omega) (by decide) kk_1 (Nat.le_of_ble_eq_true rfl) rfl ⟨Nat.le_refl _, Nat.le_refl _⟩ ?_
            refine s_cputF (by omega) (by omega) (by omega) (fun xr_32 xs_32 c55_31 c55_32 => ?_)
            dsimp only [Option.toList, List.cons_append, List.nil_append, Nat.add_zero]
            refine v_iinc_2 dX7_readSum_58 (by decide) rfl ?_
            rw [iadd_eq (x := g) (y := 1) (by unfold ok32; omega)]
            refine v_goto (tgt := 7) dX7_readSum_61 (by decide) ?_
            refine v_iload_n dX7_readSum_7 rfl ?_
            refine v_sipush dX7_readSum_8 (c32 rfl) (by decide) ?_
            refine v_icmp_ge (tgt := 64) dX7_readSum_11 (by decide) (fun c11_33 => ?_) (fun c11_33 => ?_)
            · refine v_vret dX7_readSum_64 rfl (Nat.le_refl _) (Nat.le_refl _) ?_
              exact hf _ _ _ _ (pLoop_f (by rw [c29_18]; rfl) c49_19) (by omega) (by omega) (by omega) (by omega) (by omega)
            · refine v_aload_n dX7_readSum_14 rfl ?_
              have hpg := @sk_ge u n xa_24
              have hpl := @sk_le u n xa_24 (by omega)
              refine v_callv (M' := mX7_peek) (d' := d - 1) (mc' := 0) (ms' := 0) (ci := 7) (c := 1) (As := []) dX7_readSum_15 k_654 cm_X7_peek rfl (by omega) (by decide) kk_1 (Nat.le_of_ble_eq_true rfl) rfl ⟨Nat.le_refl _, Nat.le_refl _⟩ ?_
              refine s_cpeek1 (by omega) hT0 (by omega) (by omega) (by omega) ?_
              dsimp only [Option.toList, List.cons_append, List.nil_append, Nat.add_zero]
              refine v_bipush dX7_readSum_18 (c32 rfl) (by decide) ?_
              refine v_icmp_eq_f (tgt := 32) dX7_readSum_20 (by decide) (by decide) ?_
              refine v_aload_n dX7_readSum_23 rfl ?_
              refine v_callv (M' := mX7_peek) (d' := d - 1) (mc' := 0) (ms' := 0) (ci := 7) (c := 1) (As := []) dX7_readSum_24 k_654 cm_X7_peek rfl (by omega) (by decide) kk_1 (Nat.le_of_ble_eq_true rfl) rfl ⟨Nat.le_refl _, Nat.le_refl _⟩ ?_
              refine s_cpeek1b (by omega) hT0 (by omega) (by omega) (by omega) ?_
              dsimp only [Option.toList, List.cons_append, List.nil_append, Nat.add_zero]
              refine v_bipush dX7_readSum_27 (c32 rfl) (by decide) ?_
              refine v_icmp_ne_t (tgt := 64) dX7_readSum_29 (by decide) (by decide) ?_
              refine v_vret dX7_readSum_64 rfl (Nat.le_refl _) (Nat.le_refl _) ?_
              exact hf _ _ _ _ (pLoop_f (by rw [c29_18]; rfl) c49_19) (by omega) (by omega) (by omega) (by omega) (by omega)
          · dsimp only [Option.toList, List.cons_append, List.nil_append, Nat.add_zero]
            refine v_aload_n dX7_readSum_52 rfl ?_
            refine v_iload_n dX7_readSum_53 rfl ?_
            refine v_ineg dX7_readSum_54 ?_
            refine v_callv (M' := mX7_put) (d' := d - 1) (mc' := 0) (ms' := 0) (ci := 7) (c := 1) (As := [_]) dX7_readSum_55 k_749 cm_X7_put rfl (by omega) (by decide) kk_1 (Nat.le_of_ble_eq_true rfl) rfl ⟨Nat.le_refl _, Nat.le_refl _⟩ ?_
            refine s_cputN (by omega) (by omega) (by omega) ⟨by omega, by omega⟩ ?_
            dsimp only [Option.toList, List.cons_append, List.nil_append, Nat.add_zero]
            refine v_iinc_2 dX7_readSum_58 (by decide) rfl ?_
            rw [iadd_eq (x := g) (y := 1) (by unfold ok32; omega)]
            refine v_goto (tgt := 7) dX7_readSum_61 (by decide) ?_
            have el : pLoop u n oAdd P (m + 1) a k = pLoop u n oAdd P m xa_30 (k ++ xk_30 ++ [-(pk u n a)]) := pLoop_s (by rw [c29_18]; rfl) c49_25
            rw [el] at hf hsu
            have hSL9 : SL (fset xr_30 xs_30 (-(pk u n a))) (xs_30 + 1) (K ++ (k ++ xk_30 ++ [-(pk u n a)])) := SL_as (SL_put c49_30) (by simp only [List.append_assoc])
            refine v_loc (lo_k (lo_k (lo_k (lo_d lo_nil)))) ?_
            exact ih (by omega) (by omega) (by omega) (by omega) (by omega) (by omega) hSL9 hf (fun a9 k9 r9 s9 q1 q2 q3 q4 q5 q6 => hsu a9 k9 r9 s9 q1 (by omega) q3 (by omega) q5 q6)

set_option maxHeartbeats 4000000 in
set_option maxRecDepth 100000 in
theorem c_sum {l : Launch} {G : GG} {h : AH} {n : Int} {u : Int → Int} {dp : Int} {N : Nat} {P : Int → PR} (hT : CT h u n) (hI : RdC l G h u n N mX7_readTerm [(0, dp)] [] P) (hN : 4 ≤ N) : RdC l G h u n (N + 1) mX7_readSum [(0, dp)] [] (fun a => pThen (P a) (pLoop u n oAdd P 201)) := by
  intro d a s R K1 K Q hd h0 h1 hsa hSL hK hf hsu
  rw [List.append_nil] at hK
  subst hK
  have hT0 := hT
  obtain ⟨⟨hn0, hn1⟩, hen, hu, hur⟩ := hT
  have hpk := @pk_rng u n a hur h0
  have hsg := @sk_ge u n a
  have hsl := @sk_le u n a h1
  have hs0 := SL_nn hSL
  refine sp_of (L := [(2, 1), (0, dp), (9, 0), (9, 0)]) pl_X7 (Nat.le_of_ble_eq_true rfl) (tg_c (by decide) (tg_c (by decide) tg_0)) rfl ?_
  refine v_aload_n dX7_readSum_0 rfl ?_
  refine v_iload_n dX7_readSum_1 rfl ?_
  refine v_callv (M' := mX7_readTerm) (d' := d - 1) (mc' := 0) (ms' := 0) (ci := 7) (c := 1) (As := [_]) dX7_readSum_2 k_765 cm_X7_readTerm rfl (by omega) (by decide) kk_1 (Nat.le_of_ble_eq_true rfl) rfl ⟨Nat.le_refl _, Nat.le_refl _⟩ ?_
  refine hI (by omega) (by omega) (by omega) (by omega) hSL (List.append_nil _).symm (fun xe_6 xr_6 xa_6 xs_6 c2_1 c2_2 c2_3 c2_4 c2_5 c2_6 => ?_) (fun xa_12 xk_12 xr_12 xs_12 c2_7 c2_8 c2_9 c2_10 c2_11 c2_12 => ?_)
  · dsimp only [Option.toList, List.cons_append, List.nil_append, Nat.add_zero]
    refine v_iconst dX7_readSum_5 (c32 rfl) ?_
    refine v_istore_n_2 dX7_readSum_6 (by decide) rfl ?_
    refine v_iload_n dX7_readSum_7 rfl ?_
    refine v_sipush dX7_readSum_8 (c32 rfl) (by decide) ?_
    refine v_icmp_ge_f (tgt := 64) dX7_readSum_11 (by decide) (by decide) ?_
    refine v_aload_n dX7_readSum_14 rfl ?_
    have hpg := @sk_ge u n xa_6
    have hpl := @sk_le u n xa_6 (by omega)
    refine v_callv (M' := mX7_peek) (d' := d - 1) (mc' := 0) (ms' := 0) (ci := 7) (c := 1) (As := []) dX7_readSum_15 k_654 cm_X7_peek rfl (by omega) (by decide) kk_1 (Nat.le_of_ble_eq_true rfl) rfl ⟨Nat.le_refl _, Nat.le_refl _⟩ ?_
    refine s_cpeek1 (by omega) hT0 (by omega) (by omega) (by omega) ?_
    dsimp only [Option.toList, List.cons_append, List.nil_append, Nat.add_zero]
    refine v_bipush dX7_readSum_18 (c32 rfl) (by decide) ?_
    refine v_icmp_eq_f (tgt := 32) dX7_readSum_20 (by decide) (by decide) ?_
    refine v_aload_n dX7_readSum_23 rfl ?_
    refine v_callv (M' := mX7_peek) (d' := d - 1) (mc' := 0) (ms' := 0) (ci := 7) (c := 1) (As := []) dX7_readSum_24 k_654 cm_X7_peek rfl (by omega) (by decide) kk_1 (Nat.le_of_ble_eq_true rfl) rfl ⟨Nat.le_refl _, Nat.le_refl _⟩ ?_
    refine s_cpeek1b (by omega) hT0 (by omega) (by omega) (by omega) ?_
    dsimp only [Option.toList, List.cons_append, List.nil_append, Nat.add_zero]
    refine v_bipush dX7_readSum_27 (c32 rfl) (by decide) ?_
    refine v_icmp_ne_t (tgt := 64) dX7_readSum_29 (by decide) (by decide) ?_
    refine v_vret dX7_readSum_64 rfl (Nat.le_refl _) (Nat.le_refl _) ?_
    exact hf _ _ _ _ (pThen_l c2_1) (by omega) (by omega) (by omega) (by omega) (by omega)
  · dsimp only [Option.toList, List.cons_append, List.nil_append, Nat.add_zero]
    refine v_iconst dX7_readSum_5 (c32 rfl) ?_
    refine v_istore_n_2 dX7_readSum_6 (by decide) rfl ?_
    refine v_loc (lo_k (lo_k (lo_k (lo_d lo_nil)))) ?_
    refine lp_csum (by omega) hT0 hI hN (m := 201) (by omega) (by omega) (by omega) (by omega) (by omega) (by omega) c2_12 (fun e9 r9 a9 s9 q1 => hf e9 r9 a9 s9 ((pThen_r c2_7).trans q1)) (fun a9 k9 r9 s9 q1 q2 q3 q4 q5 q6 => hsu a9 k9 r9 s9 ((pThen_r c2_7).trans q1) (by omega) q3 (by omega) q5 q6)

theorem c_sumL {l : Launch} {G : GG} {h : AH} {n : Int} {u : Int → Int} (hT : CT h u n) : ∀ {D : Nat} {dp : Int}, dp + D = 8 → 0 ≤ dp → RdC l G h u n (8 + 3 * D) mX7_readSum [(0, dp)] [] (sumL u n D) := by
  intro D
  induction D with
  | zero =>
    intro dp hD hdp
    have a1 := c_atom (l := l) (G := G) (D := 0) hD hdp hT (fun D' e => by omega)
    have a2 := c_term hT a1 (by omega)
    exact c_sum hT a2 (by omega)
  | succ D ih =>
    intro dp hD hdp
    have a1 := c_atom (l := l) (G := G) (D := D + 1) (dp := dp) hD hdp hT (fun D' e => by
      obtain rfl : D' = D := by omega
      exact ih (by omega) (by omega))
    have a2 := c_term hT a1 (by omega)
    have a3 := c_sum hT a2 (by omega)
    rw [show 6 + 3 * (D + 1) + 1 + 1 = 8 + 3 * (D + 1) by omega] at a3
    exact a3

