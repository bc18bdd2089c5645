/-! ===== the JDK: where a letter stands in a literal (written by wip/whole/p16.py) ===== -/
set_option maxHeartbeats 4000000 in
set_option maxRecDepth 100000 in
theorem s_J1_canEncode_9a6ad {l : Launch} {G : GG} {d : Nat} {h : AH} {Q : Option AV → List Kd → AH → Prop} {p0 : Int} (hd : 1 ≤ d) 
    (q_1 : p0 < 0 → Q (some (0, 0)) K0 h)
    (q_2 : 0 ≤ p0 → 255 < p0 → Q (some (0, 0)) K0 h)
    (q_3 : 0 ≤ p0 → p0 ≤ 255 → Q (some (0, 1)) K0 h) : Sp l G mJ1_canEncode_9a6ad d 0 0 K0 [(0, p0)] h Q := by
  refine sp_of (L := [(0, p0)]) pl_J1 (Nat.le_of_ble_eq_true rfl) (tg_c (by decide) tg_0) rfl ?_
  refine v_iload_n dJ1_canEncode_9a6ad_0 rfl ?_
  refine v_if_lt (tgt := 15) dJ1_canEncode_9a6ad_1 (by decide) (fun c1_1 => ?_) (fun c1_1 => ?_)
  · refine v_iconst dJ1_canEncode_9a6ad_15 (c32 rfl) ?_
    refine v_iretz dJ1_canEncode_9a6ad_16 rfl (by decide) (Nat.le_refl _) (Nat.le_refl _) ?_
    exact q_1 c1_1
  · refine v_iload_n dJ1_canEncode_9a6ad_4 rfl ?_
    refine v_sipush dJ1_canEncode_9a6ad_5 (c32 rfl) (by decide) ?_
    refine v_icmp_gt (tgt := 15) dJ1_canEncode_9a6ad_8 (by decide) (fun c8_2 => ?_) (fun c8_2 => ?_)
    · refine v_iconst dJ1_canEncode_9a6ad_15 (c32 rfl) ?_
      refine v_iretz dJ1_canEncode_9a6ad_16 rfl (by decide) (Nat.le_refl _) (Nat.le_refl _) ?_
      exact q_2 c1_1 c8_2
    · refine v_iconst dJ1_canEncode_9a6ad_11 (c32 rfl) ?_
      refine v_goto (tgt := 16) dJ1_canEncode_9a6ad_12 (by decide) ?_
      refine v_iretz dJ1_canEncode_9a6ad_16 rfl (by decide) (Nat.le_refl _) (Nat.le_refl _) ?_
      exact q_3 c1_1 c8_2

/-- a letter's place in rdsgz -/
def ix0 (c : Int) : Int := if c = 114 then 0 else if c = 100 then 1 else if c = 115 then 2 else if c = 103 then 3 else if c = 122 then 4 else -1
set_option maxHeartbeats 4000000 in
set_option maxRecDepth 100000 in
theorem s_coder_0 {l : Launch} {G : GG} {d : Nat} {h : AH} {Q : Option AV → List Kd → AH → Prop} (hd : 1 ≤ d) (hq : Q (some (0, 0)) K0 h) : Sp l G mJ0_coder_7d493 d 0 0 K0 [(3, adK G 0)] h Q := by
  refine sp_of (L := [(3, adK G 0)]) pl_J0 (Nat.le_of_ble_eq_true rfl) (tg_c (by decide) tg_0) rfl ?_
  refine v_getsC dJ0_coder_7d493_0 k_gsC ?_
  refine v_if_eq_f (tgt := 13) dJ0_coder_7d493_3 (by decide) (by decide) ?_
  refine v_aload3_n dJ0_coder_7d493_6 rfl ?_
  refine v_getSc (i := 0) dJ0_coder_7d493_7 k_2105 (by decide) ?_
  refine v_goto (tgt := 14) dJ0_coder_7d493_10 (by decide) ?_
  refine v_iretb dJ0_coder_7d493_14 rfl (by decide) (Nat.le_refl _) (Nat.le_refl _) ?_
  exact hq

set_option maxHeartbeats 4000000 in
set_option maxRecDepth 100000 in
theorem s_len_0 {l : Launch} {G : GG} {d : Nat} {h : AH} {Q : Option AV → List Kd → AH → Prop} (hd : 2 ≤ d) (hq : Q (some (0, 5)) K0 h) : Sp l G mJ0_length_8abf5 d 0 0 K0 [(3, adK G 0)] h Q := by
  refine sp_of (L := [(3, adK G 0)]) pl_J0 (Nat.le_of_ble_eq_true rfl) (tg_c (by decide) tg_0) rfl ?_
  refine v_aload3_n dJ0_length_8abf5_0 rfl ?_
  refine v_getSv (i := 0) dJ0_length_8abf5_1 k_2106 (by decide) ?_
  refine v_alenS (i := 0) (ni := 5) dJ0_length_8abf5_4 (by decide) rfl (c32 rfl) ?_
  refine v_aload3_n dJ0_length_8abf5_5 rfl ?_
  refine v_callvS (M' := mJ0_coder_7d493) (d' := d - 1) (i := 0) (As := []) dJ0_length_8abf5_6 k_677 cm_J0_coder_7d493 rfl (by omega) (by decide) (Nat.le_of_ble_eq_true rfl) rfl ⟨Nat.le_refl _, Nat.le_refl _⟩ ?_
  refine s_coder_0 (by omega) ?_
  dsimp only [Option.toList, List.cons_append, List.nil_append, Nat.add_zero]
  refine v_ishr dJ0_length_8abf5_9 ?_
  rw [show ishr 5 0 = 5 from by decide]
  refine v_ireti dJ0_length_8abf5_10 rfl (Nat.le_refl _) (Nat.le_refl _) ?_
  exact hq

set_option maxHeartbeats 4000000 in
set_option maxRecDepth 100000 in
theorem s_lat_0 {l : Launch} {G : GG} {d : Nat} {h : AH} {Q : Option AV → List Kd → AH → Prop} (hd : 1 ≤ d) (hq : Q (some (0, 1)) K0 h) : Sp l G mJ0_isLatin1_aae02 d 0 0 K0 [(3, adK G 0)] h Q := by
  refine sp_of (L := [(3, adK G 0)]) pl_J0 (Nat.le_of_ble_eq_true rfl) (tg_c (by decide) tg_0) rfl ?_
  refine v_getsC dJ0_isLatin1_aae02_0 k_gsC ?_
  refine v_if_eq_f (tgt := 17) dJ0_isLatin1_aae02_3 (by decide) (by decide) ?_
  refine v_aload3_n dJ0_isLatin1_aae02_6 rfl ?_
  refine v_getSc (i := 0) dJ0_isLatin1_aae02_7 k_2105 (by decide) ?_
  refine v_if_ne_f (tgt := 17) dJ0_isLatin1_aae02_10 (by decide) (by decide) ?_
  refine v_iconst dJ0_isLatin1_aae02_13 (c32 rfl) ?_
  refine v_goto (tgt := 18) dJ0_isLatin1_aae02_14 (by decide) ?_
  refine v_iretz dJ0_isLatin1_aae02_18 rfl (by decide) (Nat.le_refl _) (Nat.le_refl _) ?_
  exact hq

set_option maxHeartbeats 4000000 in
set_option maxRecDepth 100000 in
theorem s_chr_0 {l : Launch} {G : GG} {d : Nat} {h : AH} {Q : Option AV → List Kd → AH → Prop} {p1 : Int} (hd : 1 ≤ d) (e0 : 0 ≤ p1) (e1 : p1 < 256) (hq : Q (some (0, ix0 p1)) K0 h) : Sp l G mJ1_indexOfChar_4cfef d 0 0 K0 [(3, adV G 0), (0, p1), (0, 0), (0, 5)] h Q := by
  refine sp_of (L := [(3, adV G 0), (0, p1), (0, 0), (0, 5), (9, 0), (9, 0)]) pl_J1 (Nat.le_of_ble_eq_true rfl) (tg_c (by decide) (tg_c (by decide) (tg_c (by decide) (tg_c (by decide) tg_0)))) rfl ?_
  refine v_iload_n dJ1_indexOfChar_4cfef_0 rfl ?_
  refine v_i2b dJ1_indexOfChar_4cfef_1 ?_
  refine v_istore_4 dJ1_indexOfChar_4cfef_2 (by decide) rfl ?_
  refine v_iload_n dJ1_indexOfChar_4cfef_4 rfl ?_
  refine v_istore_5 dJ1_indexOfChar_4cfef_5 (by decide) rfl ?_
  refine v_iload dJ1_indexOfChar_4cfef_7 rfl ?_
  refine v_iload_n dJ1_indexOfChar_4cfef_9 rfl ?_
  refine v_icmp_ge_f (tgt := 31) dJ1_indexOfChar_4cfef_10 (by decide) (by decide) ?_
  refine v_aload3_n dJ1_indexOfChar_4cfef_13 rfl ?_
  refine v_iload dJ1_indexOfChar_4cfef_14 rfl ?_
  refine v_baloadS (i := 0) (j := 0) (z := 114) dJ1_indexOfChar_4cfef_16 (by decide) (by decide) (by decide) (by decide) (c32 rfl) ?_
  refine v_iload dJ1_indexOfChar_4cfef_17 rfl ?_
  refine v_icmp_ne (tgt := 25) dJ1_indexOfChar_4cfef_19 (by decide) (fun c19_1 => ?_) (fun c19_1 => ?_)
  · refine v_iinc_5 dJ1_indexOfChar_4cfef_25 (by decide) rfl ?_
    rw [show iadd 0 1 = 1 from by decide]
    refine v_goto (tgt := 7) dJ1_indexOfChar_4cfef_28 (by decide) ?_
    refine v_iload dJ1_indexOfChar_4cfef_7 rfl ?_
    refine v_iload_n dJ1_indexOfChar_4cfef_9 rfl ?_
    refine v_icmp_ge_f (tgt := 31) dJ1_indexOfChar_4cfef_10 (by decide) (by decide) ?_
    refine v_aload3_n dJ1_indexOfChar_4cfef_13 rfl ?_
    refine v_iload dJ1_indexOfChar_4cfef_14 rfl ?_
    refine v_baloadS (i := 0) (j := 1) (z := 100) dJ1_indexOfChar_4cfef_16 (by decide) (by decide) (by decide) (by decide) (c32 rfl) ?_
    refine v_iload dJ1_indexOfChar_4cfef_17 rfl ?_
    refine v_icmp_ne (tgt := 25) dJ1_indexOfChar_4cfef_19 (by decide) (fun c19_2 => ?_) (fun c19_2 => ?_)
    · refine v_iinc_5 dJ1_indexOfChar_4cfef_25 (by decide) rfl ?_
      rw [show iadd 1 1 = 2 from by decide]
      refine v_goto (tgt := 7) dJ1_indexOfChar_4cfef_28 (by decide) ?_
      refine v_iload dJ1_indexOfChar_4cfef_7 rfl ?_
      refine v_iload_n dJ1_indexOfChar_4cfef_9 rfl ?_
      refine v_icmp_ge_f (tgt := 31) dJ1_indexOfChar_4cfef_10 (by decide) (by decide) ?_
      refine v_aload3_n dJ1_indexOfChar_4cfef_13 rfl ?_
      refine v_iload dJ1_indexOfChar_4cfef_14 rfl ?_
      refine v_baloadS (i := 0) (j := 2) (z := 115) dJ1_indexOfChar_4cfef_16 (by decide) (by decide) (by decide) (by decide) (c32 rfl) ?_
      refine v_iload dJ1_indexOfChar_4cfef_17 rfl ?_
      refine v_icmp_ne (tgt := 25) dJ1_indexOfChar_4cfef_19 (by decide) (fun c19_3 => ?_) (fun c19_3 => ?_)
      · refine v_iinc_5 dJ1_indexOfChar_4cfef_25 (by decide) rfl ?_
        rw [show iadd 2 1 = 3 from by decide]
        refine v_goto (tgt := 7) dJ1_indexOfChar_4cfef_28 (by decide) ?_
        refine v_iload dJ1_indexOfChar_4cfef_7 rfl ?_
        refine v_iload_n dJ1_indexOfChar_4cfef_9 rfl ?_
        refine v_icmp_ge_f (tgt := 31) dJ1_indexOfChar_4cfef_10 (by decide) (by decide) ?_
        refine v_aload3_n dJ1_indexOfChar_4cfef_13 rfl ?_
        refine v_iload dJ1_indexOfChar_4cfef_14 rfl ?_
        refine v_baloadS (i := 0) (j := 3) (z := 103) dJ1_indexOfChar_4cfef_16 (by decide) (by decide) (by decide) (by decide) (c32 rfl) ?_
        refine v_iload dJ1_indexOfChar_4cfef_17 rfl ?_
        refine v_icmp_ne (tgt := 25) dJ1_indexOfChar_4cfef_19 (by decide) (fun c19_4 => ?_) (fun c19_4 => ?_)
        · refine v_iinc_5 dJ1_indexOfChar_4cfef_25 (by decide) rfl ?_
          rw [show iadd 3 1 = 4 from by decide]
          refine v_goto (tgt := 7) dJ1_indexOfChar_4cfef_28 (by decide) ?_
          refine v_iload dJ1_indexOfChar_4cfef_7 rfl ?_
          refine v_iload_n dJ1_indexOfChar_4cfef_9 rfl ?_
          refine v_icmp_ge_f (tgt := 31) dJ1_indexOfChar_4cfef_10 (by decide) (by decide) ?_
          refine v_aload3_n dJ1_indexOfChar_4cfef_13 rfl ?_
          refine v_iload dJ1_indexOfChar_4cfef_14 rfl ?_
          refine v_baloadS (i := 0) (j := 4) (z := 122) dJ1_indexOfChar_4cfef_16 (by decide) (by decide) (by decide) (by decide) (c32 rfl) ?_
          refine v_iload dJ1_indexOfChar_4cfef_17 rfl ?_
          refine v_icmp_ne (tgt := 25) dJ1_indexOfChar_4cfef_19 (by decide) (fun c19_5 => ?_) (fun c19_5 => ?_)
          · refine v_iinc_5 dJ1_indexOfChar_4cfef_25 (by decide) rfl ?_
            rw [show iadd 4 1 = 5 from by decide]
            refine v_goto (tgt := 7) dJ1_indexOfChar_4cfef_28 (by decide) ?_
            refine v_iload dJ1_indexOfChar_4cfef_7 rfl ?_
            refine v_iload_n dJ1_indexOfChar_4cfef_9 rfl ?_
            refine v_icmp_ge_t (tgt := 31) dJ1_indexOfChar_4cfef_10 (by decide) (by decide) ?_
            refine v_iconst dJ1_indexOfChar_4cfef_31 (c32 rfl) ?_
            refine v_ireti dJ1_indexOfChar_4cfef_32 rfl (Nat.le_refl _) (Nat.le_refl _) ?_
            have hib := i2b_c e0 e1
            have n_0 : ¬ p1 = 114 := by omega
            have n_1 : ¬ p1 = 100 := by omega
            have n_2 : ¬ p1 = 115 := by omega
            have n_3 : ¬ p1 = 103 := by omega
            have n_4 : ¬ p1 = 122 := by omega
            have e9 : ix0 p1 = -1 := by
              unfold ix0
              rw [if_neg n_0, if_neg n_1, if_neg n_2, if_neg n_3, if_neg n_4]
            rw [e9] at hq
            exact hq
          · refine v_iload dJ1_indexOfChar_4cfef_22 rfl ?_
            refine v_ireti dJ1_indexOfChar_4cfef_24 rfl (Nat.le_refl _) (Nat.le_refl _) ?_
            have hib := i2b_c e0 e1
            obtain rfl : p1 = 122 := by omega
            exact hq
        · refine v_iload dJ1_indexOfChar_4cfef_22 rfl ?_
          refine v_ireti dJ1_indexOfChar_4cfef_24 rfl (Nat.le_refl _) (Nat.le_refl _) ?_
          have hib := i2b_c e0 e1
          obtain rfl : p1 = 103 := by omega
          exact hq
      · refine v_iload dJ1_indexOfChar_4cfef_22 rfl ?_
        refine v_ireti dJ1_indexOfChar_4cfef_24 rfl (Nat.le_refl _) (Nat.le_refl _) ?_
        have hib := i2b_c e0 e1
        obtain rfl : p1 = 115 := by omega
        exact hq
    · refine v_iload dJ1_indexOfChar_4cfef_22 rfl ?_
      refine v_ireti dJ1_indexOfChar_4cfef_24 rfl (Nat.le_refl _) (Nat.le_refl _) ?_
      have hib := i2b_c e0 e1
      obtain rfl : p1 = 100 := by omega
      exact hq
  · refine v_iload dJ1_indexOfChar_4cfef_22 rfl ?_
    refine v_ireti dJ1_indexOfChar_4cfef_24 rfl (Nat.le_refl _) (Nat.le_refl _) ?_
    have hib := i2b_c e0 e1
    obtain rfl : p1 = 114 := by omega
    exact hq

set_option maxHeartbeats 4000000 in
set_option maxRecDepth 100000 in
theorem s_lix_0 {l : Launch} {G : GG} {d : Nat} {h : AH} {Q : Option AV → List Kd → AH → Prop} {p1 : Int} (hd : 2 ≤ d) (hq : Q (some (0, ix0 p1)) K0 h) : Sp l G mJ1_indexOf_4cfef d 0 0 K0 [(3, adV G 0), (0, p1), (0, 0), (0, 5)] h Q := by
  refine sp_of (L := [(3, adV G 0), (0, p1), (0, 0), (0, 5)]) pl_J1 (Nat.le_of_ble_eq_true rfl) (tg_c (by decide) (tg_c (by decide) (tg_c (by decide) (tg_c (by decide) tg_0)))) rfl ?_
  refine v_iload_n dJ1_indexOf_4cfef_0 rfl ?_
  refine v_calls (M' := mJ1_canEncode_9a6ad) (d' := d - 1) (mc' := 0) (ms' := 0) (As := [_]) dJ1_indexOf_4cfef_1 k_684 cm_J1_canEncode_9a6ad (by omega) (Nat.le_of_ble_eq_true rfl) rfl ⟨Nat.le_refl _, Nat.le_refl _⟩ ?_
  refine s_J1_canEncode_9a6ad (by omega) (fun c1_1 => ?_) (fun c1_2 c1_3 => ?_) (fun c1_4 c1_5 => ?_)
  · dsimp only [Option.toList, List.cons_append, List.nil_append, Nat.add_zero]
    refine v_if_ne_f (tgt := 9) dJ1_indexOf_4cfef_4 (by decide) (by decide) ?_
    refine v_iconst dJ1_indexOf_4cfef_7 (c32 rfl) ?_
    refine v_ireti dJ1_indexOf_4cfef_8 rfl (Nat.le_refl _) (Nat.le_refl _) ?_
    have n_0 : ¬ p1 = 114 := by omega
    have n_1 : ¬ p1 = 100 := by omega
    have n_2 : ¬ p1 = 115 := by omega
    have n_3 : ¬ p1 = 103 := by omega
    have n_4 : ¬ p1 = 122 := by omega
    have e9 : ix0 p1 = -1 := by
      unfold ix0
      rw [if_neg n_0, if_neg n_1, if_neg n_2, if_neg n_3, if_neg n_4]
    rw [e9] at hq
    exact hq
  · dsimp only [Option.toList, List.cons_append, List.nil_append, Nat.add_zero]
    refine v_if_ne_f (tgt := 9) dJ1_indexOf_4cfef_4 (by decide) (by decide) ?_
    refine v_iconst dJ1_indexOf_4cfef_7 (c32 rfl) ?_
    refine v_ireti dJ1_indexOf_4cfef_8 rfl (Nat.le_refl _) (Nat.le_refl _) ?_
    have n_0 : ¬ p1 = 114 := by omega
    have n_1 : ¬ p1 = 100 := by omega
    have n_2 : ¬ p1 = 115 := by omega
    have n_3 : ¬ p1 = 103 := by omega
    have n_4 : ¬ p1 = 122 := by omega
    have e9 : ix0 p1 = -1 := by
      unfold ix0
      rw [if_neg n_0, if_neg n_1, if_neg n_2, if_neg n_3, if_neg n_4]
    rw [e9] at hq
    exact hq
  · dsimp only [Option.toList, List.cons_append, List.nil_append, Nat.add_zero]
    refine v_if_ne_t (tgt := 9) dJ1_indexOf_4cfef_4 (by decide) (by decide) ?_
    refine v_iload_n dJ1_indexOf_4cfef_9 rfl ?_
    refine v_iconst dJ1_indexOf_4cfef_10 (c32 rfl) ?_
    refine v_mmax dJ1_indexOf_4cfef_11 k_687 (by omega) (Nat.le_of_ble_eq_true rfl) ⟨Nat.le_refl _, Nat.le_refl _⟩ ?_
    rw [show max (0 : Int) 0 = 0 from by decide]
    refine v_istore_n_2 dJ1_indexOf_4cfef_14 (by decide) rfl ?_
    refine v_iload_n dJ1_indexOf_4cfef_15 rfl ?_
    refine v_aload3_n dJ1_indexOf_4cfef_16 rfl ?_
    refine v_alenS (i := 0) (ni := 5) dJ1_indexOf_4cfef_17 (by decide) rfl (c32 rfl) ?_
    refine v_mmin dJ1_indexOf_4cfef_18 k_690 (by omega) (Nat.le_of_ble_eq_true rfl) ⟨Nat.le_refl _, Nat.le_refl _⟩ ?_
    rw [show min (5 : Int) 5 = 5 from by decide]
    refine v_istore_n_3 dJ1_indexOf_4cfef_21 (by decide) rfl ?_
    refine v_iload_n dJ1_indexOf_4cfef_22 rfl ?_
    refine v_iload_n dJ1_indexOf_4cfef_23 rfl ?_
    refine v_icmp_lt_t (tgt := 29) dJ1_indexOf_4cfef_24 (by decide) (by decide) ?_
    refine v_aload3_n dJ1_indexOf_4cfef_29 rfl ?_
    refine v_iload_n dJ1_indexOf_4cfef_30 rfl ?_
    refine v_iload_n dJ1_indexOf_4cfef_31 rfl ?_
    refine v_iload_n dJ1_indexOf_4cfef_32 rfl ?_
    refine v_calls (M' := mJ1_indexOfChar_4cfef) (d' := d - 1) (mc' := 0) (ms' := 0) (As := [_, _, _, _]) dJ1_indexOf_4cfef_33 k_693 cm_J1_indexOfChar_4cfef (by omega) (Nat.le_of_ble_eq_true rfl) rfl ⟨Nat.le_refl _, Nat.le_refl _⟩ ?_
    refine s_chr_0 (by omega) (by omega) (by omega) ?_
    dsimp only [Option.toList, List.cons_append, List.nil_append, Nat.add_zero]
    refine v_ireti dJ1_indexOf_4cfef_36 rfl (Nat.le_refl _) (Nat.le_refl _) ?_
    exact hq

set_option maxHeartbeats 4000000 in
set_option maxRecDepth 100000 in
theorem s_ix2_0 {l : Launch} {G : GG} {d : Nat} {h : AH} {Q : Option AV → List Kd → AH → Prop} {p0 : Int} (hd : 3 ≤ d) (hq : Q (some (0, ix0 p0)) K0 h) : Sp l G mJ0_indexOf_7cf53 d 0 0 K0 [(3, adK G 0), (0, p0), (0, 0)] h Q := by
  refine sp_of (L := [(3, adK G 0), (0, p0), (0, 0)]) pl_J0 (Nat.le_of_ble_eq_true rfl) (tg_c (by decide) (tg_c (by decide) (tg_c (by decide) tg_0))) rfl ?_
  refine v_aload3_n dJ0_indexOf_7cf53_0 rfl ?_
  refine v_callvS (M' := mJ0_isLatin1_aae02) (d' := d - 1) (i := 0) (As := []) dJ0_indexOf_7cf53_1 k_667 cm_J0_isLatin1_aae02 rfl (by omega) (by decide) (Nat.le_of_ble_eq_true rfl) rfl ⟨Nat.le_refl _, Nat.le_refl _⟩ ?_
  refine s_lat_0 (by omega) ?_
  dsimp only [Option.toList, List.cons_append, List.nil_append, Nat.add_zero]
  refine v_if_eq_f (tgt := 23) dJ0_indexOf_7cf53_4 (by decide) (by decide) ?_
  refine v_aload3_n dJ0_indexOf_7cf53_7 rfl ?_
  refine v_getSv (i := 0) dJ0_indexOf_7cf53_8 k_2106 (by decide) ?_
  refine v_iload_n dJ0_indexOf_7cf53_11 rfl ?_
  refine v_iload_n dJ0_indexOf_7cf53_12 rfl ?_
  refine v_aload3_n dJ0_indexOf_7cf53_13 rfl ?_
  refine v_callvS (M' := mJ0_length_8abf5) (d' := d - 1) (i := 0) (As := []) dJ0_indexOf_7cf53_14 k_673 cm_J0_length_8abf5 rfl (by omega) (by decide) (Nat.le_of_ble_eq_true rfl) rfl ⟨Nat.le_refl _, Nat.le_refl _⟩ ?_
  refine s_len_0 (by omega) ?_
  dsimp only [Option.toList, List.cons_append, List.nil_append, Nat.add_zero]
  refine v_calls (M' := mJ1_indexOf_4cfef) (d' := d - 1) (mc' := 0) (ms' := 0) (As := [_, _, _, _]) dJ0_indexOf_7cf53_17 k_681 cm_J1_indexOf_4cfef (by omega) (Nat.le_of_ble_eq_true rfl) rfl ⟨Nat.le_refl _, Nat.le_refl _⟩ ?_
  refine s_lix_0 (by omega) ?_
  dsimp only [Option.toList, List.cons_append, List.nil_append, Nat.add_zero]
  refine v_goto (tgt := 36) dJ0_indexOf_7cf53_20 (by decide) ?_
  refine v_ireti dJ0_indexOf_7cf53_36 rfl (Nat.le_refl _) (Nat.le_refl _) ?_
  exact hq

set_option maxHeartbeats 4000000 in
set_option maxRecDepth 100000 in
theorem s_indexOf_0 {l : Launch} {G : GG} {d : Nat} {h : AH} {Q : Option AV → List Kd → AH → Prop} {p0 : Int} (hd : 4 ≤ d) (hq : Q (some (0, ix0 p0)) K0 h) : Sp l G mJ0_indexOf_0f7a4 d 0 0 K0 [(3, adK G 0), (0, p0)] h Q := by
  refine sp_of (L := [(3, adK G 0), (0, p0)]) pl_J0 (Nat.le_of_ble_eq_true rfl) (tg_c (by decide) (tg_c (by decide) tg_0)) rfl ?_
  refine v_aload3_n dJ0_indexOf_0f7a4_0 rfl ?_
  refine v_iload_n dJ0_indexOf_0f7a4_1 rfl ?_
  refine v_iconst dJ0_indexOf_0f7a4_2 (c32 rfl) ?_
  refine v_callvS (M' := mJ0_indexOf_7cf53) (d' := d - 1) (i := 0) (As := [_, _]) dJ0_indexOf_0f7a4_3 k_663 cm_J0_indexOf_7cf53 rfl (by omega) (by decide) (Nat.le_of_ble_eq_true rfl) rfl ⟨Nat.le_refl _, Nat.le_refl _⟩ ?_
  refine s_ix2_0 (by omega) ?_
  dsimp only [Option.toList, List.cons_append, List.nil_append, Nat.add_zero]
  refine v_ireti dJ0_indexOf_0f7a4_6 rfl (Nat.le_refl _) (Nat.le_refl _) ?_
  exact hq

set_option maxHeartbeats 4000000 in
set_option maxRecDepth 100000 in
theorem s_coder_1 {l : Launch} {G : GG} {d : Nat} {h : AH} {Q : Option AV → List Kd → AH → Prop} (hd : 1 ≤ d) (hq : Q (some (0, 0)) K0 h) : Sp l G mJ0_coder_7d493 d 0 0 K0 [(3, adK G 1)] h Q := by
  refine sp_of (L := [(3, adK G 1)]) pl_J0 (Nat.le_of_ble_eq_true rfl) (tg_c (by decide) tg_0) rfl ?_
  refine v_getsC dJ0_coder_7d493_0 k_gsC ?_
  refine v_if_eq_f (tgt := 13) dJ0_coder_7d493_3 (by decide) (by decide) ?_
  refine v_aload3_n dJ0_coder_7d493_6 rfl ?_
  refine v_getSc (i := 1) dJ0_coder_7d493_7 k_2105 (by decide) ?_
  refine v_goto (tgt := 14) dJ0_coder_7d493_10 (by decide) ?_
  refine v_iretb dJ0_coder_7d493_14 rfl (by decide) (Nat.le_refl _) (Nat.le_refl _) ?_
  exact hq

set_option maxHeartbeats 4000000 in
set_option maxRecDepth 100000 in
theorem s_len_1 {l : Launch} {G : GG} {d : Nat} {h : AH} {Q : Option AV → List Kd → AH → Prop} (hd : 2 ≤ d) (hq : Q (some (0, 8)) K0 h) : Sp l G mJ0_length_8abf5 d 0 0 K0 [(3, adK G 1)] h Q := by
  refine sp_of (L := [(3, adK G 1)]) pl_J0 (Nat.le_of_ble_eq_true rfl) (tg_c (by decide) tg_0) rfl ?_
  refine v_aload3_n dJ0_length_8abf5_0 rfl ?_
  refine v_getSv (i := 1) dJ0_length_8abf5_1 k_2106 (by decide) ?_
  refine v_alenS (i := 1) (ni := 8) dJ0_length_8abf5_4 (by decide) rfl (c32 rfl) ?_
  refine v_aload3_n dJ0_length_8abf5_5 rfl ?_
  refine v_callvS (M' := mJ0_coder_7d493) (d' := d - 1) (i := 1) (As := []) dJ0_length_8abf5_6 k_677 cm_J0_coder_7d493 rfl (by omega) (by decide) (Nat.le_of_ble_eq_true rfl) rfl ⟨Nat.le_refl _, Nat.le_refl _⟩ ?_
  refine s_coder_1 (by omega) ?_
  dsimp only [Option.toList, List.cons_append, List.nil_append, Nat.add_zero]
  refine v_ishr dJ0_length_8abf5_9 ?_
  rw [show ishr 8 0 = 8 from by decide]
  refine v_ireti dJ0_length_8abf5_10 rfl (Nat.le_refl _) (Nat.le_refl _) ?_
  exact hq

set_option maxHeartbeats 4000000 in
set_option maxRecDepth 100000 in
theorem s_lat_1 {l : Launch} {G : GG} {d : Nat} {h : AH} {Q : Option AV → List Kd → AH → Prop} (hd : 1 ≤ d) (hq : Q (some (0, 1)) K0 h) : Sp l G mJ0_isLatin1_aae02 d 0 0 K0 [(3, adK G 1)] h Q := by
  refine sp_of (L := [(3, adK G 1)]) pl_J0 (Nat.le_of_ble_eq_true rfl) (tg_c (by decide) tg_0) rfl ?_
  refine v_getsC dJ0_isLatin1_aae02_0 k_gsC ?_
  refine v_if_eq_f (tgt := 17) dJ0_isLatin1_aae02_3 (by decide) (by decide) ?_
  refine v_aload3_n dJ0_isLatin1_aae02_6 rfl ?_
  refine v_getSc (i := 1) dJ0_isLatin1_aae02_7 k_2105 (by decide) ?_
  refine v_if_ne_f (tgt := 17) dJ0_isLatin1_aae02_10 (by decide) (by decide) ?_
  refine v_iconst dJ0_isLatin1_aae02_13 (c32 rfl) ?_
  refine v_goto (tgt := 18) dJ0_isLatin1_aae02_14 (by decide) ?_
  refine v_iretz dJ0_isLatin1_aae02_18 rfl (by decide) (Nat.le_refl _) (Nat.le_refl _) ?_
  exact hq

set_option maxHeartbeats 4000000 in
set_option maxRecDepth 100000 in
theorem s_chr_1 {l : Launch} {G : GG} {d : Nat} {h : AH} {Q : Option AV → List Kd → AH → Prop} {p1 : Int} (hd : 1 ≤ d) (e0 : 0 ≤ p1) (e1 : p1 < 256) (hq : Q (some (0, plc p1)) K0 h) : Sp l G mJ1_indexOfChar_4cfef d 0 0 K0 [(3, adV G 1), (0, p1), (0, 0), (0, 8)] h Q := by
  refine sp_of (L := [(3, adV G 1), (0, p1), (0, 0), (0, 8), (9, 0), (9, 0)]) pl_J1 (Nat.le_of_ble_eq_true rfl) (tg_c (by decide) (tg_c (by decide) (tg_c (by decide) (tg_c (by decide) tg_0)))) rfl ?_
  refine v_iload_n dJ1_indexOfChar_4cfef_0 rfl ?_
  refine v_i2b dJ1_indexOfChar_4cfef_1 ?_
  refine v_istore_4 dJ1_indexOfChar_4cfef_2 (by decide) rfl ?_
  refine v_iload_n dJ1_indexOfChar_4cfef_4 rfl ?_
  refine v_istore_5 dJ1_indexOfChar_4cfef_5 (by decide) rfl ?_
  refine v_iload dJ1_indexOfChar_4cfef_7 rfl ?_
  refine v_iload_n dJ1_indexOfChar_4cfef_9 rfl ?_
  refine v_icmp_ge_f (tgt := 31) dJ1_indexOfChar_4cfef_10 (by decide) (by decide) ?_
  refine v_aload3_n dJ1_indexOfChar_4cfef_13 rfl ?_
  refine v_iload dJ1_indexOfChar_4cfef_14 rfl ?_
  refine v_baloadS (i := 1) (j := 0) (z := 97) dJ1_indexOfChar_4cfef_16 (by decide) (by decide) (by decide) (by decide) (c32 rfl) ?_
  refine v_iload dJ1_indexOfChar_4cfef_17 rfl ?_
  refine v_icmp_ne (tgt := 25) dJ1_indexOfChar_4cfef_19 (by decide) (fun c19_1 => ?_) (fun c19_1 => ?_)
  · refine v_iinc_5 dJ1_indexOfChar_4cfef_25 (by decide) rfl ?_
    rw [show iadd 0 1 = 1 from by decide]
    refine v_goto (tgt := 7) dJ1_indexOfChar_4cfef_28 (by decide) ?_
    refine v_iload dJ1_indexOfChar_4cfef_7 rfl ?_
    refine v_iload_n dJ1_indexOfChar_4cfef_9 rfl ?_
    refine v_icmp_ge_f (tgt := 31) dJ1_indexOfChar_4cfef_10 (by decide) (by decide) ?_
    refine v_aload3_n dJ1_indexOfChar_4cfef_13 rfl ?_
    refine v_iload dJ1_indexOfChar_4cfef_14 rfl ?_
    refine v_baloadS (i := 1) (j := 1) (z := 110) dJ1_indexOfChar_4cfef_16 (by decide) (by decide) (by decide) (by decide) (c32 rfl) ?_
    refine v_iload dJ1_indexOfChar_4cfef_17 rfl ?_
    refine v_icmp_ne (tgt := 25) dJ1_indexOfChar_4cfef_19 (by decide) (fun c19_2 => ?_) (fun c19_2 => ?_)
    · refine v_iinc_5 dJ1_indexOfChar_4cfef_25 (by decide) rfl ?_
      rw [show iadd 1 1 = 2 from by decide]
      refine v_goto (tgt := 7) dJ1_indexOfChar_4cfef_28 (by decide) ?_
      refine v_iload dJ1_indexOfChar_4cfef_7 rfl ?_
      refine v_iload_n dJ1_indexOfChar_4cfef_9 rfl ?_
      refine v_icmp_ge_f (tgt := 31) dJ1_indexOfChar_4cfef_10 (by decide) (by decide) ?_
      refine v_aload3_n dJ1_indexOfChar_4cfef_13 rfl ?_
      refine v_iload dJ1_indexOfChar_4cfef_14 rfl ?_
      refine v_baloadS (i := 1) (j := 2) (z := 98) dJ1_indexOfChar_4cfef_16 (by decide) (by decide) (by decide) (by decide) (c32 rfl) ?_
      refine v_iload dJ1_indexOfChar_4cfef_17 rfl ?_
      refine v_icmp_ne (tgt := 25) dJ1_indexOfChar_4cfef_19 (by decide) (fun c19_3 => ?_) (fun c19_3 => ?_)
      · refine v_iinc_5 dJ1_indexOfChar_4cfef_25 (by decide) rfl ?_
        rw [show iadd 2 1 = 3 from by decide]
        refine v_goto (tgt := 7) dJ1_indexOfChar_4cfef_28 (by decide) ?_
        refine v_iload dJ1_indexOfChar_4cfef_7 rfl ?_
        refine v_iload_n dJ1_indexOfChar_4cfef_9 rfl ?_
        refine v_icmp_ge_f (tgt := 31) dJ1_indexOfChar_4cfef_10 (by decide) (by decide) ?_
        refine v_aload3_n dJ1_indexOfChar_4cfef_13 rfl ?_
        refine v_iload dJ1_indexOfChar_4cfef_14 rfl ?_
        refine v_baloadS (i := 1) (j := 3) (z := 111) dJ1_indexOfChar_4cfef_16 (by decide) (by decide) (by decide) (by decide) (c32 rfl) ?_
        refine v_iload dJ1_indexOfChar_4cfef_17 rfl ?_
        refine v_icmp_ne (tgt := 25) dJ1_indexOfChar_4cfef_19 (by decide) (fun c19_4 => ?_) (fun c19_4 => ?_)
        · refine v_iinc_5 dJ1_indexOfChar_4cfef_25 (by decide) rfl ?_
          rw [show iadd 3 1 = 4 from by decide]
          refine v_goto (tgt := 7) dJ1_indexOfChar_4cfef_28 (by decide) ?_
          refine v_iload dJ1_indexOfChar_4cfef_7 rfl ?_
          refine v_iload_n dJ1_indexOfChar_4cfef_9 rfl ?_
          refine v_icmp_ge_f (tgt := 31) dJ1_indexOfChar_4cfef_10 (by decide) (by decide) ?_
          refine v_aload3_n dJ1_indexOfChar_4cfef_13 rfl ?_
          refine v_iload dJ1_indexOfChar_4cfef_14 rfl ?_
          refine v_baloadS (i := 1) (j := 4) (z := 99) dJ1_indexOfChar_4cfef_16 (by decide) (by decide) (by decide) (by decide) (c32 rfl) ?_
          refine v_iload dJ1_indexOfChar_4cfef_17 rfl ?_
          refine v_icmp_ne (tgt := 25) dJ1_indexOfChar_4cfef_19 (by decide) (fun c19_5 => ?_) (fun c19_5 => ?_)
          · refine v_iinc_5 dJ1_indexOfChar_4cfef_25 (by decide) rfl ?_
            rw [show iadd 4 1 = 5 from by decide]
            refine v_goto (tgt := 7) dJ1_indexOfChar_4cfef_28 (by decide) ?_
            refine v_iload dJ1_indexOfChar_4cfef_7 rfl ?_
            refine v_iload_n dJ1_indexOfChar_4cfef_9 rfl ?_
            refine v_icmp_ge_f (tgt := 31) dJ1_indexOfChar_4cfef_10 (by decide) (by decide) ?_
            refine v_aload3_n dJ1_indexOfChar_4cfef_13 rfl ?_
            refine v_iload dJ1_indexOfChar_4cfef_14 rfl ?_
            refine v_baloadS (i := 1) (j := 5) (z := 104) dJ1_indexOfChar_4cfef_16 (by decide) (by decide) (by decide) (by decide) (c32 rfl) ?_
            refine v_iload dJ1_indexOfChar_4cfef_17 rfl ?_
            refine v_icmp_ne (tgt := 25) dJ1_indexOfChar_4cfef_19 (by decide) (fun c19_6 => ?_) (fun c19_6 => ?_)
            · refine v_iinc_5 dJ1_indexOfChar_4cfef_25 (by decide) rfl ?_
              rw [show iadd 5 1 = 6 from by decide]
              refine v_goto (tgt := 7) dJ1_indexOfChar_4cfef_28 (by decide) ?_
              refine v_iload dJ1_indexOfChar_4cfef_7 rfl ?_
              refine v_iload_n dJ1_indexOfChar_4cfef_9 rfl ?_
              refine v_icmp_ge_f (tgt := 31) dJ1_indexOfChar_4cfef_10 (by decide) (by decide) ?_
              refine v_aload3_n dJ1_indexOfChar_4cfef_13 rfl ?_
              refine v_iload dJ1_indexOfChar_4cfef_14 rfl ?_
              refine v_baloadS (i := 1) (j := 6) (z := 112) dJ1_indexOfChar_4cfef_16 (by decide) (by decide) (by decide) (by decide) (c32 rfl) ?_
              refine v_iload dJ1_indexOfChar_4cfef_17 rfl ?_
              refine v_icmp_ne (tgt := 25) dJ1_indexOfChar_4cfef_19 (by decide) (fun c19_7 => ?_) (fun c19_7 => ?_)
              · refine v_iinc_5 dJ1_indexOfChar_4cfef_25 (by decide) rfl ?_
                rw [show iadd 6 1 = 7 from by decide]
                refine v_goto (tgt := 7) dJ1_indexOfChar_4cfef_28 (by decide) ?_
                refine v_iload dJ1_indexOfChar_4cfef_7 rfl ?_
                refine v_iload_n dJ1_indexOfChar_4cfef_9 rfl ?_
                refine v_icmp_ge_f (tgt := 31) dJ1_indexOfChar_4cfef_10 (by decide) (by decide) ?_
                refine v_aload3_n dJ1_indexOfChar_4cfef_13 rfl ?_
                refine v_iload dJ1_indexOfChar_4cfef_14 rfl ?_
                refine v_baloadS (i := 1) (j := 7) (z := 121) dJ1_indexOfChar_4cfef_16 (by decide) (by decide) (by decide) (by decide) (c32 rfl) ?_
                refine v_iload dJ1_indexOfChar_4cfef_17 rfl ?_
                refine v_icmp_ne (tgt := 25) dJ1_indexOfChar_4cfef_19 (by decide) (fun c19_8 => ?_) (fun c19_8 => ?_)
                · refine v_iinc_5 dJ1_indexOfChar_4cfef_25 (by decide) rfl ?_
                  rw [show iadd 7 1 = 8 from by decide]
                  refine v_goto (tgt := 7) dJ1_indexOfChar_4cfef_28 (by decide) ?_
                  refine v_iload dJ1_indexOfChar_4cfef_7 rfl ?_
                  refine v_iload_n dJ1_indexOfChar_4cfef_9 rfl ?_
                  refine v_icmp_ge_t (tgt := 31) dJ1_indexOfChar_4cfef_10 (by decide) (by decide) ?_
                  refine v_iconst dJ1_indexOfChar_4cfef_31 (c32 rfl) ?_
                  refine v_ireti dJ1_indexOfChar_4cfef_32 rfl (Nat.le_refl _) (Nat.le_refl _) ?_
                  have hib := i2b_c e0 e1
                  have n_0 : ¬ p1 = 97 := by omega
                  have n_1 : ¬ p1 = 110 := by omega
                  have n_2 : ¬ p1 = 98 := by omega
                  have n_3 : ¬ p1 = 111 := by omega
                  have n_4 : ¬ p1 = 99 := by omega
                  have n_5 : ¬ p1 = 104 := by omega
                  have n_6 : ¬ p1 = 112 := by omega
                  have n_7 : ¬ p1 = 121 := by omega
                  have e9 : plc p1 = -1 := by
                    unfold plc
                    rw [if_neg n_0, if_neg n_1, if_neg n_2, if_neg n_3, if_neg n_4, if_neg n_5, if_neg n_6, if_neg n_7]
                  rw [e9] at hq
                  exact hq
                · refine v_iload dJ1_indexOfChar_4cfef_22 rfl ?_
                  refine v_ireti dJ1_indexOfChar_4cfef_24 rfl (Nat.le_refl _) (Nat.le_refl _) ?_
                  have hib := i2b_c e0 e1
                  obtain rfl : p1 = 121 := by omega
                  exact hq
              · refine v_iload dJ1_indexOfChar_4cfef_22 rfl ?_
                refine v_ireti dJ1_indexOfChar_4cfef_24 rfl (Nat.le_refl _) (Nat.le_refl _) ?_
                have hib := i2b_c e0 e1
                obtain rfl : p1 = 112 := by omega
                exact hq
            · refine v_iload dJ1_indexOfChar_4cfef_22 rfl ?_
              refine v_ireti dJ1_indexOfChar_4cfef_24 rfl (Nat.le_refl _) (Nat.le_refl _) ?_
              have hib := i2b_c e0 e1
              obtain rfl : p1 = 104 := by omega
              exact hq
          · refine v_iload dJ1_indexOfChar_4cfef_22 rfl ?_
            refine v_ireti dJ1_indexOfChar_4cfef_24 rfl (Nat.le_refl _) (Nat.le_refl _) ?_
            have hib := i2b_c e0 e1
            obtain rfl : p1 = 99 := by omega
            exact hq
        · refine v_iload dJ1_indexOfChar_4cfef_22 rfl ?_
          refine v_ireti dJ1_indexOfChar_4cfef_24 rfl (Nat.le_refl _) (Nat.le_refl _) ?_
          have hib := i2b_c e0 e1
          obtain rfl : p1 = 111 := by omega
          exact hq
      · refine v_iload dJ1_indexOfChar_4cfef_22 rfl ?_
        refine v_ireti dJ1_indexOfChar_4cfef_24 rfl (Nat.le_refl _) (Nat.le_refl _) ?_
        have hib := i2b_c e0 e1
        obtain rfl : p1 = 98 := by omega
        exact hq
    · refine v_iload dJ1_indexOfChar_4cfef_22 rfl ?_
      refine v_ireti dJ1_indexOfChar_4cfef_24 rfl (Nat.le_refl _) (Nat.le_refl _) ?_
      have hib := i2b_c e0 e1
      obtain rfl : p1 = 110 := by omega
      exact hq
  · refine v_iload dJ1_indexOfChar_4cfef_22 rfl ?_
    refine v_ireti dJ1_indexOfChar_4cfef_24 rfl (Nat.le_refl _) (Nat.le_refl _) ?_
    have hib := i2b_c e0 e1
    obtain rfl : p1 = 97 := by omega
    exact hq

set_option maxHeartbeats 4000000 in
set_option maxRecDepth 100000 in
theorem s_lix_1 {l : Launch} {G : GG} {d : Nat} {h : AH} {Q : Option AV → List Kd → AH → Prop} {p1 : Int} (hd : 2 ≤ d) (hq : Q (some (0, plc p1)) K0 h) : Sp l G mJ1_indexOf_4cfef d 0 0 K0 [(3, adV G 1), (0, p1), (0, 0), (0, 8)] h Q := by
  refine sp_of (L := [(3, adV G 1), (0, p1), (0, 0), (0, 8)]) pl_J1 (Nat.le_of_ble_eq_true rfl) (tg_c (by decide) (tg_c (by decide) (tg_c (by decide) (tg_c (by decide) tg_0)))) rfl ?_
  refine v_iload_n dJ1_indexOf_4cfef_0 rfl ?_
  refine v_calls (M' := mJ1_canEncode_9a6ad) (d' := d - 1) (mc' := 0) (ms' := 0) (As := [_]) dJ1_indexOf_4cfef_1 k_684 cm_J1_canEncode_9a6ad (by omega) (Nat.le_of_ble_eq_true rfl) rfl ⟨Nat.le_refl _, Nat.le_refl _⟩ ?_
  refine s_J1_canEncode_9a6ad (by omega) (fun c1_1 => ?_) (fun c1_2 c1_3 => ?_) (fun c1_4 c1_5 => ?_)
  · dsimp only [Option.toList, List.cons_append, List.nil_append, Nat.add_zero]
    refine v_if_ne_f (tgt := 9) dJ1_indexOf_4cfef_4 (by decide) (by decide) ?_
    refine v_iconst dJ1_indexOf_4cfef_7 (c32 rfl) ?_
    refine v_ireti dJ1_indexOf_4cfef_8 rfl (Nat.le_refl _) (Nat.le_refl _) ?_
    have n_0 : ¬ p1 = 97 := by omega
    have n_1 : ¬ p1 = 110 := by omega
    have n_2 : ¬ p1 = 98 := by omega
    have n_3 : ¬ p1 = 111 := by omega
    have n_4 : ¬ p1 = 99 := by omega
    have n_5 : ¬ p1 = 104 := by omega
    have n_6 : ¬ p1 = 112 := by omega
    have n_7 : ¬ p1 = 121 := by omega
    have e9 : plc p1 = -1 := by
      unfold plc
      rw [if_neg n_0, if_neg n_1, if_neg n_2, if_neg n_3, if_neg n_4, if_neg n_5, if_neg n_6, if_neg n_7]
    rw [e9] at hq
    exact hq
  · dsimp only [Option.toList, List.cons_append, List.nil_append, Nat.add_zero]
    refine v_if_ne_f (tgt := 9) dJ1_indexOf_4cfef_4 (by decide) (by decide) ?_
    refine v_iconst dJ1_indexOf_4cfef_7 (c32 rfl) ?_
    refine v_ireti dJ1_indexOf_4cfef_8 rfl (Nat.le_refl _) (Nat.le_refl _) ?_
    have n_0 : ¬ p1 = 97 := by omega
    have n_1 : ¬ p1 = 110 := by omega
    have n_2 : ¬ p1 = 98 := by omega
    have n_3 : ¬ p1 = 111 := by omega
    have n_4 : ¬ p1 = 99 := by omega
    have n_5 : ¬ p1 = 104 := by omega
    have n_6 : ¬ p1 = 112 := by omega
    have n_7 : ¬ p1 = 121 := by omega
    have e9 : plc p1 = -1 := by
      unfold plc
      rw [if_neg n_0, if_neg n_1, if_neg n_2, if_neg n_3, if_neg n_4, if_neg n_5, if_neg n_6, if_neg n_7]
    rw [e9] at hq
    exact hq
  · dsimp only [Option.toList, List.cons_append, List.nil_append, Nat.add_zero]
    refine v_if_ne_t (tgt := 9) dJ1_indexOf_4cfef_4 (by decide) (by decide) ?_
    refine v_iload_n dJ1_indexOf_4cfef_9 rfl ?_
    refine v_iconst dJ1_indexOf_4cfef_10 (c32 rfl) ?_
    refine v_mmax dJ1_indexOf_4cfef_11 k_687 (by omega) (Nat.le_of_ble_eq_true rfl) ⟨Nat.le_refl _, Nat.le_refl _⟩ ?_
    rw [show max (0 : Int) 0 = 0 from by decide]
    refine v_istore_n_2 dJ1_indexOf_4cfef_14 (by decide) rfl ?_
    refine v_iload_n dJ1_indexOf_4cfef_15 rfl ?_
    refine v_aload3_n dJ1_indexOf_4cfef_16 rfl ?_
    refine v_alenS (i := 1) (ni := 8) dJ1_indexOf_4cfef_17 (by decide) rfl (c32 rfl) ?_
    refine v_mmin dJ1_indexOf_4cfef_18 k_690 (by omega) (Nat.le_of_ble_eq_true rfl) ⟨Nat.le_refl _, Nat.le_refl _⟩ ?_
    rw [show min (8 : Int) 8 = 8 from by decide]
    refine v_istore_n_3 dJ1_indexOf_4cfef_21 (by decide) rfl ?_
    refine v_iload_n dJ1_indexOf_4cfef_22 rfl ?_
    refine v_iload_n dJ1_indexOf_4cfef_23 rfl ?_
    refine v_icmp_lt_t (tgt := 29) dJ1_indexOf_4cfef_24 (by decide) (by decide) ?_
    refine v_aload3_n dJ1_indexOf_4cfef_29 rfl ?_
    refine v_iload_n dJ1_indexOf_4cfef_30 rfl ?_
    refine v_iload_n dJ1_indexOf_4cfef_31 rfl ?_
    refine v_iload_n dJ1_indexOf_4cfef_32 rfl ?_
    refine v_calls (M' := mJ1_indexOfChar_4cfef) (d' := d - 1) (mc' := 0) (ms' := 0) (As := [_, _, _, _]) dJ1_indexOf_4cfef_33 k_693 cm_J1_indexOfChar_4cfef (by omega) (Nat.le_of_ble_eq_true rfl) rfl ⟨Nat.le_refl _, Nat.le_refl _⟩ ?_
    refine s_chr_1 (by omega) (by omega) (by omega) ?_
    dsimp only [Option.toList, List.cons_append, List.nil_append, Nat.add_zero]
    refine v_ireti dJ1_indexOf_4cfef_36 rfl (Nat.le_refl _) (Nat.le_refl _) ?_
    exact hq

set_option maxHeartbeats 4000000 in
set_option maxRecDepth 100000 in
theorem s_ix2_1 {l : Launch} {G : GG} {d : Nat} {h : AH} {Q : Option AV → List Kd → AH → Prop} {p0 : Int} (hd : 3 ≤ d) (hq : Q (some (0, plc p0)) K0 h) : Sp l G mJ0_indexOf_7cf53 d 0 0 K0 [(3, adK G 1), (0, p0), (0, 0)] h Q := by
  refine sp_of (L := [(3, adK G 1), (0, p0), (0, 0)]) pl_J0 (Nat.le_of_ble_eq_true rfl) (tg_c (by decide) (tg_c (by decide) (tg_c (by decide) tg_0))) rfl ?_
  refine v_aload3_n dJ0_indexOf_7cf53_0 rfl ?_
  refine v_callvS (M' := mJ0_isLatin1_aae02) (d' := d - 1) (i := 1) (As := []) dJ0_indexOf_7cf53_1 k_667 cm_J0_isLatin1_aae02 rfl (by omega) (by decide) (Nat.le_of_ble_eq_true rfl) rfl ⟨Nat.le_refl _, Nat.le_refl _⟩ ?_
  refine s_lat_1 (by omega) ?_
  dsimp only [Option.toList, List.cons_append, List.nil_append, Nat.add_zero]
  refine v_if_eq_f (tgt := 23) dJ0_indexOf_7cf53_4 (by decide) (by decide) ?_
  refine v_aload3_n dJ0_indexOf_7cf53_7 rfl ?_
  refine v_getSv (i := 1) dJ0_indexOf_7cf53_8 k_2106 (by decide) ?_
  refine v_iload_n dJ0_indexOf_7cf53_11 rfl ?_
  refine v_iload_n dJ0_indexOf_7cf53_12 rfl ?_
  refine v_aload3_n dJ0_indexOf_7cf53_13 rfl ?_
  refine v_callvS (M' := mJ0_length_8abf5) (d' := d - 1) (i := 1) (As := []) dJ0_indexOf_7cf53_14 k_673 cm_J0_length_8abf5 rfl (by omega) (by decide) (Nat.le_of_ble_eq_true rfl) rfl ⟨Nat.le_refl _, Nat.le_refl _⟩ ?_
  refine s_len_1 (by omega) ?_
  dsimp only [Option.toList, List.cons_append, List.nil_append, Nat.add_zero]
  refine v_calls (M' := mJ1_indexOf_4cfef) (d' := d - 1) (mc' := 0) (ms' := 0) (As := [_, _, _, _]) dJ0_indexOf_7cf53_17 k_681 cm_J1_indexOf_4cfef (by omega) (Nat.le_of_ble_eq_true rfl) rfl ⟨Nat.le_refl _, Nat.le_refl _⟩ ?_
  refine s_lix_1 (by omega) ?_
  dsimp only [Option.toList, List.cons_append, List.nil_append, Nat.add_zero]
  refine v_goto (tgt := 36) dJ0_indexOf_7cf53_20 (by decide) ?_
  refine v_ireti dJ0_indexOf_7cf53_36 rfl (Nat.le_refl _) (Nat.le_refl _) ?_
  exact hq

set_option maxHeartbeats 4000000 in
set_option maxRecDepth 100000 in
theorem s_indexOf_1 {l : Launch} {G : GG} {d : Nat} {h : AH} {Q : Option AV → List Kd → AH → Prop} {p0 : Int} (hd : 4 ≤ d) (hq : Q (some (0, plc p0)) K0 h) : Sp l G mJ0_indexOf_0f7a4 d 0 0 K0 [(3, adK G 1), (0, p0)] h Q := by
  refine sp_of (L := [(3, adK G 1), (0, p0)]) pl_J0 (Nat.le_of_ble_eq_true rfl) (tg_c (by decide) (tg_c (by decide) tg_0)) rfl ?_
  refine v_aload3_n dJ0_indexOf_0f7a4_0 rfl ?_
  refine v_iload_n dJ0_indexOf_0f7a4_1 rfl ?_
  refine v_iconst dJ0_indexOf_0f7a4_2 (c32 rfl) ?_
  refine v_callvS (M' := mJ0_indexOf_7cf53) (d' := d - 1) (i := 1) (As := [_, _]) dJ0_indexOf_0f7a4_3 k_663 cm_J0_indexOf_7cf53 rfl (by omega) (by decide) (Nat.le_of_ble_eq_true rfl) rfl ⟨Nat.le_refl _, Nat.le_refl _⟩ ?_
  refine s_ix2_1 (by omega) ?_
  dsimp only [Option.toList, List.cons_append, List.nil_append, Nat.add_zero]
  refine v_ireti dJ0_indexOf_0f7a4_6 rfl (Nat.le_refl _) (Nat.le_refl _) ?_
  exact hq

/-- a letter's place in hpanbocy -/
def ix2 (c : Int) : Int := if c = 104 then 0 else if c = 112 then 1 else if c = 97 then 2 else if c = 110 then 3 else if c = 98 then 4 else if c = 111 then 5 else if c = 99 then 6 else if c = 121 then 7 else -1
set_option maxHeartbeats 4000000 in
set_option maxRecDepth 100000 in
theorem s_coder_2 {l : Launch} {G : GG} {d : Nat} {h : AH} {Q : Option AV → List Kd → AH → Prop} (hd : 1 ≤ d) (hq : Q (some (0, 0)) K0 h) : Sp l G mJ0_coder_7d493 d 0 0 K0 [(3, adK G 2)] h Q := by
  refine sp_of (L := [(3, adK G 2)]) pl_J0 (Nat.le_of_ble_eq_true rfl) (tg_c (by decide) tg_0) rfl ?_
  refine v_getsC dJ0_coder_7d493_0 k_gsC ?_
  refine v_if_eq_f (tgt := 13) dJ0_coder_7d493_3 (by decide) (by decide) ?_
  refine v_aload3_n dJ0_coder_7d493_6 rfl ?_
  refine v_getSc (i := 2) dJ0_coder_7d493_7 k_2105 (by decide) ?_
  refine v_goto (tgt := 14) dJ0_coder_7d493_10 (by decide) ?_
  refine v_iretb dJ0_coder_7d493_14 rfl (by decide) (Nat.le_refl _) (Nat.le_refl _) ?_
  exact hq

set_option maxHeartbeats 4000000 in
set_option maxRecDepth 100000 in
theorem s_len_2 {l : Launch} {G : GG} {d : Nat} {h : AH} {Q : Option AV → List Kd → AH → Prop} (hd : 2 ≤ d) (hq : Q (some (0, 8)) K0 h) : Sp l G mJ0_length_8abf5 d 0 0 K0 [(3, adK G 2)] h Q := by
  refine sp_of (L := [(3, adK G 2)]) pl_J0 (Nat.le_of_ble_eq_true rfl) (tg_c (by decide) tg_0) rfl ?_
  refine v_aload3_n dJ0_length_8abf5_0 rfl ?_
  refine v_getSv (i := 2) dJ0_length_8abf5_1 k_2106 (by decide) ?_
  refine v_alenS (i := 2) (ni := 8) dJ0_length_8abf5_4 (by decide) rfl (c32 rfl) ?_
  refine v_aload3_n dJ0_length_8abf5_5 rfl ?_
  refine v_callvS (M' := mJ0_coder_7d493) (d' := d - 1) (i := 2) (As := []) dJ0_length_8abf5_6 k_677 cm_J0_coder_7d493 rfl (by omega) (by decide) (Nat.le_of_ble_eq_true rfl) rfl ⟨Nat.le_refl _, Nat.le_refl _⟩ ?_
  refine s_coder_2 (by omega) ?_
  dsimp only [Option.toList, List.cons_append, List.nil_append, Nat.add_zero]
  refine v_ishr dJ0_length_8abf5_9 ?_
  rw [show ishr 8 0 = 8 from by decide]
  refine v_ireti dJ0_length_8abf5_10 rfl (Nat.le_refl _) (Nat.le_refl _) ?_
  exact hq

set_option maxHeartbeats 4000000 in
set_option maxRecDepth 100000 in
theorem s_lat_2 {l : Launch} {G : GG} {d : Nat} {h : AH} {Q : Option AV → List Kd → AH → Prop} (hd : 1 ≤ d) (hq : Q (some (0, 1)) K0 h) : Sp l G mJ0_isLatin1_aae02 d 0 0 K0 [(3, adK G 2)] h Q := by
  refine sp_of (L := [(3, adK G 2)]) pl_J0 (Nat.le_of_ble_eq_true rfl) (tg_c (by decide) tg_0) rfl ?_
  refine v_getsC dJ0_isLatin1_aae02_0 k_gsC ?_
  refine v_if_eq_f (tgt := 17) dJ0_isLatin1_aae02_3 (by decide) (by decide) ?_
  refine v_aload3_n dJ0_isLatin1_aae02_6 rfl ?_
  refine v_getSc (i := 2) dJ0_isLatin1_aae02_7 k_2105 (by decide) ?_
  refine v_if_ne_f (tgt := 17) dJ0_isLatin1_aae02_10 (by decide) (by decide) ?_
  refine v_iconst dJ0_isLatin1_aae02_13 (c32 rfl) ?_
  refine v_goto (tgt := 18) dJ0_isLatin1_aae02_14 (by decide) ?_
  refine v_iretz dJ0_isLatin1_aae02_18 rfl (by decide) (Nat.le_refl _) (Nat.le_refl _) ?_
  exact hq

set_option maxHeartbeats 4000000 in
set_option maxRecDepth 100000 in
theorem s_chr_2 {l : Launch} {G : GG} {d : Nat} {h : AH} {Q : Option AV → List Kd → AH → Prop} {p1 : Int} (hd : 1 ≤ d) (e0 : 0 ≤ p1) (e1 : p1 < 256) (hq : Q (some (0, ix2 p1)) K0 h) : Sp l G mJ1_indexOfChar_4cfef d 0 0 K0 [(3, adV G 2), (0, p1), (0, 0), (0, 8)] h Q := by
  refine sp_of (L := [(3, adV G 2), (0, p1), (0, 0), (0, 8), (9, 0), (9, 0)]) pl_J1 (Nat.le_of_ble_eq_true rfl) (tg_c (by decide) (tg_c (by decide) (tg_c (by decide) (tg_c (by decide) tg_0)))) rfl ?_
  refine v_iload_n dJ1_indexOfChar_4cfef_0 rfl ?_
  refine v_i2b dJ1_indexOfChar_4cfef_1 ?_
  refine v_istore_4 dJ1_indexOfChar_4cfef_2 (by decide) rfl ?_
  refine v_iload_n dJ1_indexOfChar_4cfef_4 rfl ?_
  refine v_istore_5 dJ1_indexOfChar_4cfef_5 (by decide) rfl ?_
  refine v_iload dJ1_indexOfChar_4cfef_7 rfl ?_
  refine v_iload_n dJ1_indexOfChar_4cfef_9 rfl ?_
  refine v_icmp_ge_f (tgt := 31) dJ1_indexOfChar_4cfef_10 (by decide) (by decide) ?_
  refine v_aload3_n dJ1_indexOfChar_4cfef_13 rfl ?_
  refine v_iload dJ1_indexOfChar_4cfef_14 rfl ?_
  refine v_baloadS (i := 2) (j := 0) (z := 104) dJ1_indexOfChar_4cfef_16 (by decide) (by decide) (by decide) (by decide) (c32 rfl) ?_
  refine v_iload dJ1_indexOfChar_4cfef_17 rfl ?_
  refine v_icmp_ne (tgt := 25) dJ1_indexOfChar_4cfef_19 (by decide) (fun c19_1 => ?_) (fun c19_1 => ?_)
  · refine v_iinc_5 dJ1_indexOfChar_4cfef_25 (by decide) rfl ?_
    rw [show iadd 0 1 = 1 from by decide]
    refine v_goto (tgt := 7) dJ1_indexOfChar_4cfef_28 (by decide) ?_
    refine v_iload dJ1_indexOfChar_4cfef_7 rfl ?_
    refine v_iload_n dJ1_indexOfChar_4cfef_9 rfl ?_
    refine v_icmp_ge_f (tgt := 31) dJ1_indexOfChar_4cfef_10 (by decide) (by decide) ?_
    refine v_aload3_n dJ1_indexOfChar_4cfef_13 rfl ?_
    refine v_iload dJ1_indexOfChar_4cfef_14 rfl ?_
    refine v_baloadS (i := 2) (j := 1) (z := 112) dJ1_indexOfChar_4cfef_16 (by decide) (by decide) (by decide) (by decide) (c32 rfl) ?_
    refine v_iload dJ1_indexOfChar_4cfef_17 rfl ?_
    refine v_icmp_ne (tgt := 25) dJ1_indexOfChar_4cfef_19 (by decide) (fun c19_2 => ?_) (fun c19_2 => ?_)
    · refine v_iinc_5 dJ1_indexOfChar_4cfef_25 (by decide) rfl ?_
      rw [show iadd 1 1 = 2 from by decide]
      refine v_goto (tgt := 7) dJ1_indexOfChar_4cfef_28 (by decide) ?_
      refine v_iload dJ1_indexOfChar_4cfef_7 rfl ?_
      refine v_iload_n dJ1_indexOfChar_4cfef_9 rfl ?_
      refine v_icmp_ge_f (tgt := 31) dJ1_indexOfChar_4cfef_10 (by decide) (by decide) ?_
      refine v_aload3_n dJ1_indexOfChar_4cfef_13 rfl ?_
      refine v_iload dJ1_indexOfChar_4cfef_14 rfl ?_
      refine v_baloadS (i := 2) (j := 2) (z := 97) dJ1_indexOfChar_4cfef_16 (by decide) (by decide) (by decide) (by decide) (c32 rfl) ?_
      refine v_iload dJ1_indexOfChar_4cfef_17 rfl ?_
      refine v_icmp_ne (tgt := 25) dJ1_indexOfChar_4cfef_19 (by decide) (fun c19_3 => ?_) (fun c19_3 => ?_)
      · refine v_iinc_5 dJ1_indexOfChar_4cfef_25 (by decide) rfl ?_
        rw [show iadd 2 1 = 3 from by decide]
        refine v_goto (tgt := 7) dJ1_indexOfChar_4cfef_28 (by decide) ?_
        refine v_iload dJ1_indexOfChar_4cfef_7 rfl ?_
        refine v_iload_n dJ1_indexOfChar_4cfef_9 rfl ?_
        refine v_icmp_ge_f (tgt := 31) dJ1_indexOfChar_4cfef_10 (by decide) (by decide) ?_
        refine v_aload3_n dJ1_indexOfChar_4cfef_13 rfl ?_
        refine v_iload dJ1_indexOfChar_4cfef_14 rfl ?_
        refine v_baloadS (i := 2) (j := 3) (z := 110) dJ1_indexOfChar_4cfef_16 (by decide) (by decide) (by decide) (by decide) (c32 rfl) ?_
        refine v_iload dJ1_indexOfChar_4cfef_17 rfl ?_
        refine v_icmp_ne (tgt := 25) dJ1_indexOfChar_4cfef_19 (by decide) (fun c19_4 => ?_) (fun c19_4 => ?_)
        · refine v_iinc_5 dJ1_indexOfChar_4cfef_25 (by decide) rfl ?_
          rw [show iadd 3 1 = 4 from by decide]
          refine v_goto (tgt := 7) dJ1_indexOfChar_4cfef_28 (by decide) ?_
          refine v_iload dJ1_indexOfChar_4cfef_7 rfl ?_
          refine v_iload_n dJ1_indexOfChar_4cfef_9 rfl ?_
          refine v_icmp_ge_f (tgt := 31) dJ1_indexOfChar_4cfef_10 (by decide) (by decide) ?_
          refine v_aload3_n dJ1_indexOfChar_4cfef_13 rfl ?_
          refine v_iload dJ1_indexOfChar_4cfef_14 rfl ?_
          refine v_baloadS (i := 2) (j := 4) (z := 98) dJ1_indexOfChar_4cfef_16 (by decide) (by decide) (by decide) (by decide) (c32 rfl) ?_
          refine v_iload dJ1_indexOfChar_4cfef_17 rfl ?_
          refine v_icmp_ne (tgt := 25) dJ1_indexOfChar_4cfef_19 (by decide) (fun c19_5 => ?_) (fun c19_5 => ?_)
          · refine v_iinc_5 dJ1_indexOfChar_4cfef_25 (by decide) rfl ?_
            rw [show iadd 4 1 = 5 from by decide]
            refine v_goto (tgt := 7) dJ1_indexOfChar_4cfef_28 (by decide) ?_
            refine v_iload dJ1_indexOfChar_4cfef_7 rfl ?_
            refine v_iload_n dJ1_indexOfChar_4cfef_9 rfl ?_
            refine v_icmp_ge_f (tgt := 31) dJ1_indexOfChar_4cfef_10 (by decide) (by decide) ?_
            refine v_aload3_n dJ1_indexOfChar_4cfef_13 rfl ?_
            refine v_iload dJ1_indexOfChar_4cfef_14 rfl ?_
            refine v_baloadS (i := 2) (j := 5) (z := 111) dJ1_indexOfChar_4cfef_16 (by decide) (by decide) (by decide) (by decide) (c32 rfl) ?_
            refine v_iload dJ1_indexOfChar_4cfef_17 rfl ?_
            refine v_icmp_ne (tgt := 25) dJ1_indexOfChar_4cfef_19 (by decide) (fun c19_6 => ?_) (fun c19_6 => ?_)
            · refine v_iinc_5 dJ1_indexOfChar_4cfef_25 (by decide) rfl ?_
              rw [show iadd 5 1 = 6 from by decide]
              refine v_goto (tgt := 7) dJ1_indexOfChar_4cfef_28 (by decide) ?_
              refine v_iload dJ1_indexOfChar_4cfef_7 rfl ?_
              refine v_iload_n dJ1_indexOfChar_4cfef_9 rfl ?_
              refine v_icmp_ge_f (tgt := 31) dJ1_indexOfChar_4cfef_10 (by decide) (by decide) ?_
              refine v_aload3_n dJ1_indexOfChar_4cfef_13 rfl ?_
              refine v_iload dJ1_indexOfChar_4cfef_14 rfl ?_
              refine v_baloadS (i := 2) (j := 6) (z := 99) dJ1_indexOfChar_4cfef_16 (by decide) (by decide) (by decide) (by decide) (c32 rfl) ?_
              refine v_iload dJ1_indexOfChar_4cfef_17 rfl ?_
              refine v_icmp_ne (tgt := 25) dJ1_indexOfChar_4cfef_19 (by decide) (fun c19_7 => ?_) (fun c19_7 => ?_)
              · refine v_iinc_5 dJ1_indexOfChar_4cfef_25 (by decide) rfl ?_
                rw [show iadd 6 1 = 7 from by decide]
                refine v_goto (tgt := 7) dJ1_indexOfChar_4cfef_28 (by decide) ?_
                refine v_iload dJ1_indexOfChar_4cfef_7 rfl ?_
                refine v_iload_n dJ1_indexOfChar_4cfef_9 rfl ?_
                refine v_icmp_ge_f (tgt := 31) dJ1_indexOfChar_4cfef_10 (by decide) (by decide) ?_
                refine v_aload3_n dJ1_indexOfChar_4cfef_13 rfl ?_
                refine v_iload dJ1_indexOfChar_4cfef_14 rfl ?_
                refine v_baloadS (i := 2) (j := 7) (z := 121) dJ1_indexOfChar_4cfef_16 (by decide) (by decide) (by decide) (by decide) (c32 rfl) ?_
                refine v_iload dJ1_indexOfChar_4cfef_17 rfl ?_
                refine v_icmp_ne (tgt := 25) dJ1_indexOfChar_4cfef_19 (by decide) (fun c19_8 => ?_) (fun c19_8 => ?_)
                · refine v_iinc_5 dJ1_indexOfChar_4cfef_25 (by decide) rfl ?_
                  rw [show iadd 7 1 = 8 from by decide]
                  refine v_goto (tgt := 7) dJ1_indexOfChar_4cfef_28 (by decide) ?_
                  refine v_iload dJ1_indexOfChar_4cfef_7 rfl ?_
                  refine v_iload_n dJ1_indexOfChar_4cfef_9 rfl ?_
                  refine v_icmp_ge_t (tgt := 31) dJ1_indexOfChar_4cfef_10 (by decide) (by decide) ?_
                  refine v_iconst dJ1_indexOfChar_4cfef_31 (c32 rfl) ?_
                  refine v_ireti dJ1_indexOfChar_4cfef_32 rfl (Nat.le_refl _) (Nat.le_refl _) ?_
                  have hib := i2b_c e0 e1
                  have n_0 : ¬ p1 = 104 := by omega
                  have n_1 : ¬ p1 = 112 := by omega
                  have n_2 : ¬ p1 = 97 := by omega
                  have n_3 : ¬ p1 = 110 := by omega
                  have n_4 : ¬ p1 = 98 := by omega
                  have n_5 : ¬ p1 = 111 := by omega
                  have n_6 : ¬ p1 = 99 := by omega
                  have n_7 : ¬ p1 = 121 := by omega
                  have e9 : ix2 p1 = -1 := by
                    unfold ix2
                    rw [if_neg n_0, if_neg n_1, if_neg n_2, if_neg n_3, if_neg n_4, if_neg n_5, if_neg n_6, if_neg n_7]
                  rw [e9] at hq
                  exact hq
                · refine v_iload dJ1_indexOfChar_4cfef_22 rfl ?_
                  refine v_ireti dJ1_indexOfChar_4cfef_24 rfl (Nat.le_refl _) (Nat.le_refl _) ?_
                  have hib := i2b_c e0 e1
                  obtain rfl : p1 = 121 := by omega
                  exact hq
              · refine v_iload dJ1_indexOfChar_4cfef_22 rfl ?_
                refine v_ireti dJ1_indexOfChar_4cfef_24 rfl (Nat.le_refl _) (Nat.le_refl _) ?_
                have hib := i2b_c e0 e1
                obtain rfl : p1 = 99 := by omega
                exact hq
            · refine v_iload dJ1_indexOfChar_4cfef_22 rfl ?_
              refine v_ireti dJ1_indexOfChar_4cfef_24 rfl (Nat.le_refl _) (Nat.le_refl _) ?_
              have hib := i2b_c e0 e1
              obtain rfl : p1 = 111 := by omega
              exact hq
          · refine v_iload dJ1_indexOfChar_4cfef_22 rfl ?_
            refine v_ireti dJ1_indexOfChar_4cfef_24 rfl (Nat.le_refl _) (Nat.le_refl _) ?_
            have hib := i2b_c e0 e1
            obtain rfl : p1 = 98 := by omega
            exact hq
        · refine v_iload dJ1_indexOfChar_4cfef_22 rfl ?_
          refine v_ireti dJ1_indexOfChar_4cfef_24 rfl (Nat.le_refl _) (Nat.le_refl _) ?_
          have hib := i2b_c e0 e1
          obtain rfl : p1 = 110 := by omega
          exact hq
      · refine v_iload dJ1_indexOfChar_4cfef_22 rfl ?_
        refine v_ireti dJ1_indexOfChar_4cfef_24 rfl (Nat.le_refl _) (Nat.le_refl _) ?_
        have hib := i2b_c e0 e1
        obtain rfl : p1 = 97 := by omega
        exact hq
    · refine v_iload dJ1_indexOfChar_4cfef_22 rfl ?_
      refine v_ireti dJ1_indexOfChar_4cfef_24 rfl (Nat.le_refl _) (Nat.le_refl _) ?_
      have hib := i2b_c e0 e1
      obtain rfl : p1 = 112 := by omega
      exact hq
  · refine v_iload dJ1_indexOfChar_4cfef_22 rfl ?_
    refine v_ireti dJ1_indexOfChar_4cfef_24 rfl (Nat.le_refl _) (Nat.le_refl _) ?_
    have hib := i2b_c e0 e1
    obtain rfl : p1 = 104 := by omega
    exact hq

set_option maxHeartbeats 4000000 in
set_option maxRecDepth 100000 in
theorem s_lix_2 {l : Launch} {G : GG} {d : Nat} {h : AH} {Q : Option AV → List Kd → AH → Prop} {p1 : Int} (hd : 2 ≤ d) (hq : Q (some (0, ix2 p1)) K0 h) : Sp l G mJ1_indexOf_4cfef d 0 0 K0 [(3, adV G 2), (0, p1), (0, 0), (0, 8)] h Q := by
  refine sp_of (L := [(3, adV G 2), (0, p1), (0, 0), (0, 8)]) pl_J1 (Nat.le_of_ble_eq_true rfl) (tg_c (by decide) (tg_c (by decide) (tg_c (by decide) (tg_c (by decide) tg_0)))) rfl ?_
  refine v_iload_n dJ1_indexOf_4cfef_0 rfl ?_
  refine v_calls (M' := mJ1_canEncode_9a6ad) (d' := d - 1) (mc' := 0) (ms' := 0) (As := [_]) dJ1_indexOf_4cfef_1 k_684 cm_J1_canEncode_9a6ad (by omega) (Nat.le_of_ble_eq_true rfl) rfl ⟨Nat.le_refl _, Nat.le_refl _⟩ ?_
  refine s_J1_canEncode_9a6ad (by omega) (fun c1_1 => ?_) (fun c1_2 c1_3 => ?_) (fun c1_4 c1_5 => ?_)
  · dsimp only [Option.toList, List.cons_append, List.nil_append, Nat.add_zero]
    refine v_if_ne_f (tgt := 9) dJ1_indexOf_4cfef_4 (by decide) (by decide) ?_
    refine v_iconst dJ1_indexOf_4cfef_7 (c32 rfl) ?_
    refine v_ireti dJ1_indexOf_4cfef_8 rfl (Nat.le_refl _) (Nat.le_refl _) ?_
    have n_0 : ¬ p1 = 104 := by omega
    have n_1 : ¬ p1 = 112 := by omega
    have n_2 : ¬ p1 = 97 := by omega
    have n_3 : ¬ p1 = 110 := by omega
    have n_4 : ¬ p1 = 98 := by omega
    have n_5 : ¬ p1 = 111 := by omega
    have n_6 : ¬ p1 = 99 := by omega
    have n_7 : ¬ p1 = 121 := by omega
    have e9 : ix2 p1 = -1 := by
      unfold ix2
      rw [if_neg n_0, if_neg n_1, if_neg n_2, if_neg n_3, if_neg n_4, if_neg n_5, if_neg n_6, if_neg n_7]
    rw [e9] at hq
    exact hq
  · dsimp only [Option.toList, List.cons_append, List.nil_append, Nat.add_zero]
    refine v_if_ne_f (tgt := 9) dJ1_indexOf_4cfef_4 (by decide) (by decide) ?_
    refine v_iconst dJ1_indexOf_4cfef_7 (c32 rfl) ?_
    refine v_ireti dJ1_indexOf_4cfef_8 rfl (Nat.le_refl _) (Nat.le_refl _) ?_
    have n_0 : ¬ p1 = 104 := by omega
    have n_1 : ¬ p1 = 112 := by omega
    have n_2 : ¬ p1 = 97 := by omega
    have n_3 : ¬ p1 = 110 := by omega
    have n_4 : ¬ p1 = 98 := by omega
    have n_5 : ¬ p1 = 111 := by omega
    have n_6 : ¬ p1 = 99 := by omega
    have n_7 : ¬ p1 = 121 := by omega
    have e9 : ix2 p1 = -1 := by
      unfold ix2
      rw [if_neg n_0, if_neg n_1, if_neg n_2, if_neg n_3, if_neg n_4, if_neg n_5, if_neg n_6, if_neg n_7]
    rw [e9] at hq
    exact hq
  · dsimp only [Option.toList, List.cons_append, List.nil_append, Nat.add_zero]
    refine v_if_ne_t (tgt := 9) dJ1_indexOf_4cfef_4 (by decide) (by decide) ?_
    refine v_iload_n dJ1_indexOf_4cfef_9 rfl ?_
    refine v_iconst dJ1_indexOf_4cfef_10 (c32 rfl) ?_
    refine v_mmax dJ1_indexOf_4cfef_11 k_687 (by omega) (Nat.le_of_ble_eq_true rfl) ⟨Nat.le_refl _, Nat.le_refl _⟩ ?_
    rw [show max (0 : Int) 0 = 0 from by decide]
    refine v_istore_n_2 dJ1_indexOf_4cfef_14 (by decide) rfl ?_
    refine v_iload_n dJ1_indexOf_4cfef_15 rfl ?_
    refine v_aload3_n dJ1_indexOf_4cfef_16 rfl ?_
    refine v_alenS (i := 2) (ni := 8) dJ1_indexOf_4cfef_17 (by decide) rfl (c32 rfl) ?_
    refine v_mmin dJ1_indexOf_4cfef_18 k_690 (by omega) (Nat.le_of_ble_eq_true rfl) ⟨Nat.le_refl _, Nat.le_refl _⟩ ?_
    rw [show min (8 : Int) 8 = 8 from by decide]
    refine v_istore_n_3 dJ1_indexOf_4cfef_21 (by decide) rfl ?_
    refine v_iload_n dJ1_indexOf_4cfef_22 rfl ?_
    refine v_iload_n dJ1_indexOf_4cfef_23 rfl ?_
    refine v_icmp_lt_t (tgt := 29) dJ1_indexOf_4cfef_24 (by decide) (by decide) ?_
    refine v_aload3_n dJ1_indexOf_4cfef_29 rfl ?_
    refine v_iload_n dJ1_indexOf_4cfef_30 rfl ?_
    refine v_iload_n dJ1_indexOf_4cfef_31 rfl ?_
    refine v_iload_n dJ1_indexOf_4cfef_32 rfl ?_
    refine v_calls (M' := mJ1_indexOfChar_4cfef) (d' := d - 1) (mc' := 0) (ms' := 0) (As := [_, _, _, _]) dJ1_indexOf_4cfef_33 k_693 cm_J1_indexOfChar_4cfef (by omega) (Nat.le_of_ble_eq_true rfl) rfl ⟨Nat.le_refl _, Nat.le_refl _⟩ ?_
    refine s_chr_2 (by omega) (by omega) (by omega) ?_
    dsimp only [Option.toList, List.cons_append, List.nil_append, Nat.add_zero]
    refine v_ireti dJ1_indexOf_4cfef_36 rfl (Nat.le_refl _) (Nat.le_refl _) ?_
    exact hq

set_option maxHeartbeats 4000000 in
set_option maxRecDepth 100000 in
theorem s_ix2_2 {l : Launch} {G : GG} {d : Nat} {h : AH} {Q : Option AV → List Kd → AH → Prop} {p0 : Int} (hd : 3 ≤ d) (hq : Q (some (0, ix2 p0)) K0 h) : Sp l G mJ0_indexOf_7cf53 d 0 0 K0 [(3, adK G 2), (0, p0), (0, 0)] h Q := by
  refine sp_of (L := [(3, adK G 2), (0, p0), (0, 0)]) pl_J0 (Nat.le_of_ble_eq_true rfl) (tg_c (by decide) (tg_c (by decide) (tg_c (by decide) tg_0))) rfl ?_
  refine v_aload3_n dJ0_indexOf_7cf53_0 rfl ?_
  refine v_callvS (M' := mJ0_isLatin1_aae02) (d' := d - 1) (i := 2) (As := []) dJ0_indexOf_7cf53_1 k_667 cm_J0_isLatin1_aae02 rfl (by omega) (by decide) (Nat.le_of_ble_eq_true rfl) rfl ⟨Nat.le_refl _, Nat.le_refl _⟩ ?_
  refine s_lat_2 (by omega) ?_
  dsimp only [Option.toList, List.cons_append, List.nil_append, Nat.add_zero]
  refine v_if_eq_f (tgt := 23) dJ0_indexOf_7cf53_4 (by decide) (by decide) ?_
  refine v_aload3_n dJ0_indexOf_7cf53_7 rfl ?_
  refine v_getSv (i := 2) dJ0_indexOf_7cf53_8 k_2106 (by decide) ?_
  refine v_iload_n dJ0_indexOf_7cf53_11 rfl ?_
  refine v_iload_n dJ0_indexOf_7cf53_12 rfl ?_
  refine v_aload3_n dJ0_indexOf_7cf53_13 rfl ?_
  refine v_callvS (M' := mJ0_length_8abf5) (d' := d - 1) (i := 2) (As := []) dJ0_indexOf_7cf53_14 k_673 cm_J0_length_8abf5 rfl (by omega) (by decide) (Nat.le_of_ble_eq_true rfl) rfl ⟨Nat.le_refl _, Nat.le_refl _⟩ ?_
  refine s_len_2 (by omega) ?_
  dsimp only [Option.toList, List.cons_append, List.nil_append, Nat.add_zero]
  refine v_calls (M' := mJ1_indexOf_4cfef) (d' := d - 1) (mc' := 0) (ms' := 0) (As := [_, _, _, _]) dJ0_indexOf_7cf53_17 k_681 cm_J1_indexOf_4cfef (by omega) (Nat.le_of_ble_eq_true rfl) rfl ⟨Nat.le_refl _, Nat.le_refl _⟩ ?_
  refine s_lix_2 (by omega) ?_
  dsimp only [Option.toList, List.cons_append, List.nil_append, Nat.add_zero]
  refine v_goto (tgt := 36) dJ0_indexOf_7cf53_20 (by decide) ?_
  refine v_ireti dJ0_indexOf_7cf53_36 rfl (Nat.le_refl _) (Nat.le_refl _) ?_
  exact hq

set_option maxHeartbeats 4000000 in
set_option maxRecDepth 100000 in
theorem s_indexOf_2 {l : Launch} {G : GG} {d : Nat} {h : AH} {Q : Option AV → List Kd → AH → Prop} {p0 : Int} (hd : 4 ≤ d) (hq : Q (some (0, ix2 p0)) K0 h) : Sp l G mJ0_indexOf_0f7a4 d 0 0 K0 [(3, adK G 2), (0, p0)] h Q := by
  refine sp_of (L := [(3, adK G 2), (0, p0)]) pl_J0 (Nat.le_of_ble_eq_true rfl) (tg_c (by decide) (tg_c (by decide) tg_0)) rfl ?_
  refine v_aload3_n dJ0_indexOf_0f7a4_0 rfl ?_
  refine v_iload_n dJ0_indexOf_0f7a4_1 rfl ?_
  refine v_iconst dJ0_indexOf_0f7a4_2 (c32 rfl) ?_
  refine v_callvS (M' := mJ0_indexOf_7cf53) (d' := d - 1) (i := 2) (As := [_, _]) dJ0_indexOf_0f7a4_3 k_663 cm_J0_indexOf_7cf53 rfl (by omega) (by decide) (Nat.le_of_ble_eq_true rfl) rfl ⟨Nat.le_refl _, Nat.le_refl _⟩ ?_
  refine s_ix2_2 (by omega) ?_
  dsimp only [Option.toList, List.cons_append, List.nil_append, Nat.add_zero]
  refine v_ireti dJ0_indexOf_0f7a4_6 rfl (Nat.le_refl _) (Nat.le_refl _) ?_
  exact hq

/-- a letter's place in anbochp -/
def ix3 (c : Int) : Int := if c = 97 then 0 else if c = 110 then 1 else if c = 98 then 2 else if c = 111 then 3 else if c = 99 then 4 else if c = 104 then 5 else if c = 112 then 6 else -1
set_option maxHeartbeats 4000000 in
set_option maxRecDepth 100000 in
theorem s_coder_3 {l : Launch} {G : GG} {d : Nat} {h : AH} {Q : Option AV → List Kd → AH → Prop} (hd : 1 ≤ d) (hq : Q (some (0, 0)) K0 h) : Sp l G mJ0_coder_7d493 d 0 0 K0 [(3, adK G 3)] h Q := by
  refine sp_of (L := [(3, adK G 3)]) pl_J0 (Nat.le_of_ble_eq_true rfl) (tg_c (by decide) tg_0) rfl ?_
  refine v_getsC dJ0_coder_7d493_0 k_gsC ?_
  refine v_if_eq_f (tgt := 13) dJ0_coder_7d493_3 (by decide) (by decide) ?_
  refine v_aload3_n dJ0_coder_7d493_6 rfl ?_
  refine v_getSc (i := 3) dJ0_coder_7d493_7 k_2105 (by decide) ?_
  refine v_goto (tgt := 14) dJ0_coder_7d493_10 (by decide) ?_
  refine v_iretb dJ0_coder_7d493_14 rfl (by decide) (Nat.le_refl _) (Nat.le_refl _) ?_
  exact hq

set_option maxHeartbeats 4000000 in
set_option maxRecDepth 100000 in
theorem s_len_3 {l : Launch} {G : GG} {d : Nat} {h : AH} {Q : Option AV → List Kd → AH → Prop} (hd : 2 ≤ d) (hq : Q (some (0, 7)) K0 h) : Sp l G mJ0_length_8abf5 d 0 0 K0 [(3, adK G 3)] h Q := by
  refine sp_of (L := [(3, adK G 3)]) pl_J0 (Nat.le_of_ble_eq_true rfl) (tg_c (by decide) tg_0) rfl ?_
  refine v_aload3_n dJ0_length_8abf5_0 rfl ?_
  refine v_getSv (i := 3) dJ0_length_8abf5_1 k_2106 (by decide) ?_
  refine v_alenS (i := 3) (ni := 7) dJ0_length_8abf5_4 (by decide) rfl (c32 rfl) ?_
  refine v_aload3_n dJ0_length_8abf5_5 rfl ?_
  refine v_callvS (M' := mJ0_coder_7d493) (d' := d - 1) (i := 3) (As := []) dJ0_length_8abf5_6 k_677 cm_J0_coder_7d493 rfl (by omega) (by decide) (Nat.le_of_ble_eq_true rfl) rfl ⟨Nat.le_refl _, Nat.le_refl _⟩ ?_
  refine s_coder_3 (by omega) ?_
  dsimp only [Option.toList, List.cons_append, List.nil_append, Nat.add_zero]
  refine v_ishr dJ0_length_8abf5_9 ?_
  rw [show ishr 7 0 = 7 from by decide]
  refine v_ireti dJ0_length_8abf5_10 rfl (Nat.le_refl _) (Nat.le_refl _) ?_
  exact hq

set_option maxHeartbeats 4000000 in
set_option maxRecDepth 100000 in
theorem s_lat_3 {l : Launch} {G : GG} {d : Nat} {h : AH} {Q : Option AV → List Kd → AH → Prop} (hd : 1 ≤ d) (hq : Q (some (0, 1)) K0 h) : Sp l G mJ0_isLatin1_aae02 d 0 0 K0 [(3, adK G 3)] h Q := by
  refine sp_of (L := [(3, adK G 3)]) pl_J0 (Nat.le_of_ble_eq_true rfl) (tg_c (by decide) tg_0) rfl ?_
  refine v_getsC dJ0_isLatin1_aae02_0 k_gsC ?_
  refine v_if_eq_f (tgt := 17) dJ0_isLatin1_aae02_3 (by decide) (by decide) ?_
  refine v_aload3_n dJ0_isLatin1_aae02_6 rfl ?_
  refine v_getSc (i := 3) dJ0_isLatin1_aae02_7 k_2105 (by decide) ?_
  refine v_if_ne_f (tgt := 17) dJ0_isLatin1_aae02_10 (by decide) (by decide) ?_
  refine v_iconst dJ0_isLatin1_aae02_13 (c32 rfl) ?_
  refine v_goto (tgt := 18) dJ0_isLatin1_aae02_14 (by decide) ?_
  refine v_iretz dJ0_isLatin1_aae02_18 rfl (by decide) (Nat.le_refl _) (Nat.le_refl _) ?_
  exact hq

set_option maxHeartbeats 4000000 in
set_option maxRecDepth 100000 in
theorem s_chr_3 {l : Launch} {G : GG} {d : Nat} {h : AH} {Q : Option AV → List Kd → AH → Prop} {p1 : Int} (hd : 1 ≤ d) (e0 : 0 ≤ p1) (e1 : p1 < 256) (hq : Q (some (0, ix3 p1)) K0 h) : Sp l G mJ1_indexOfChar_4cfef d 0 0 K0 [(3, adV G 3), (0, p1), (0, 0), (0, 7)] h Q := by
  refine sp_of (L := [(3, adV G 3), (0, p1), (0, 0), (0, 7), (9, 0), (9, 0)]) pl_J1 (Nat.le_of_ble_eq_true rfl) (tg_c (by decide) (tg_c (by decide) (tg_c (by decide) (tg_c (by decide) tg_0)))) rfl ?_
  refine v_iload_n dJ1_indexOfChar_4cfef_0 rfl ?_
  refine v_i2b dJ1_indexOfChar_4cfef_1 ?_
  refine v_istore_4 dJ1_indexOfChar_4cfef_2 (by decide) rfl ?_
  refine v_iload_n dJ1_indexOfChar_4cfef_4 rfl ?_
  refine v_istore_5 dJ1_indexOfChar_4cfef_5 (by decide) rfl ?_
  refine v_iload dJ1_indexOfChar_4cfef_7 rfl ?_
  refine v_iload_n dJ1_indexOfChar_4cfef_9 rfl ?_
  refine v_icmp_ge_f (tgt := 31) dJ1_indexOfChar_4cfef_10 (by decide) (by decide) ?_
  refine v_aload3_n dJ1_indexOfChar_4cfef_13 rfl ?_
  refine v_iload dJ1_indexOfChar_4cfef_14 rfl ?_
  refine v_baloadS (i := 3) (j := 0) (z := 97) dJ1_indexOfChar_4cfef_16 (by decide) (by decide) (by decide) (by decide) (c32 rfl) ?_
  refine v_iload dJ1_indexOfChar_4cfef_17 rfl ?_
  refine v_icmp_ne (tgt := 25) dJ1_indexOfChar_4cfef_19 (by decide) (fun c19_1 => ?_) (fun c19_1 => ?_)
  · refine v_iinc_5 dJ1_indexOfChar_4cfef_25 (by decide) rfl ?_
    rw [show iadd 0 1 = 1 from by decide]
    refine v_goto (tgt := 7) dJ1_indexOfChar_4cfef_28 (by decide) ?_
    refine v_iload dJ1_indexOfChar_4cfef_7 rfl ?_
    refine v_iload_n dJ1_indexOfChar_4cfef_9 rfl ?_
    refine v_icmp_ge_f (tgt := 31) dJ1_indexOfChar_4cfef_10 (by decide) (by decide) ?_
    refine v_aload3_n dJ1_indexOfChar_4cfef_13 rfl ?_
    refine v_iload dJ1_indexOfChar_4cfef_14 rfl ?_
    refine v_baloadS (i := 3) (j := 1) (z := 110) dJ1_indexOfChar_4cfef_16 (by decide) (by decide) (by decide) (by decide) (c32 rfl) ?_
    refine v_iload dJ1_indexOfChar_4cfef_17 rfl ?_
    refine v_icmp_ne (tgt := 25) dJ1_indexOfChar_4cfef_19 (by decide) (fun c19_2 => ?_) (fun c19_2 => ?_)
    · refine v_iinc_5 dJ1_indexOfChar_4cfef_25 (by decide) rfl ?_
      rw [show iadd 1 1 = 2 from by decide]
      refine v_goto (tgt := 7) dJ1_indexOfChar_4cfef_28 (by decide) ?_
      refine v_iload dJ1_indexOfChar_4cfef_7 rfl ?_
      refine v_iload_n dJ1_indexOfChar_4cfef_9 rfl ?_
      refine v_icmp_ge_f (tgt := 31) dJ1_indexOfChar_4cfef_10 (by decide) (by decide) ?_
      refine v_aload3_n dJ1_indexOfChar_4cfef_13 rfl ?_
      refine v_iload dJ1_indexOfChar_4cfef_14 rfl ?_
      refine v_baloadS (i := 3) (j := 2) (z := 98) dJ1_indexOfChar_4cfef_16 (by decide) (by decide) (by decide) (by decide) (c32 rfl) ?_
      refine v_iload dJ1_indexOfChar_4cfef_17 rfl ?_
      refine v_icmp_ne (tgt := 25) dJ1_indexOfChar_4cfef_19 (by decide) (fun c19_3 => ?_) (fun c19_3 => ?_)
      · refine v_iinc_5 dJ1_indexOfChar_4cfef_25 (by decide) rfl ?_
        rw [show iadd 2 1 = 3 from by decide]
        refine v_goto (tgt := 7) dJ1_indexOfChar_4cfef_28 (by decide) ?_
        refine v_iload dJ1_indexOfChar_4cfef_7 rfl ?_
        refine v_iload_n dJ1_indexOfChar_4cfef_9 rfl ?_
        refine v_icmp_ge_f (tgt := 31) dJ1_indexOfChar_4cfef_10 (by decide) (by decide) ?_
        refine v_aload3_n dJ1_indexOfChar_4cfef_13 rfl ?_
        refine v_iload dJ1_indexOfChar_4cfef_14 rfl ?_
        refine v_baloadS (i := 3) (j := 3) (z := 111) dJ1_indexOfChar_4cfef_16 (by decide) (by decide) (by decide) (by decide) (c32 rfl) ?_
        refine v_iload dJ1_indexOfChar_4cfef_17 rfl ?_
        refine v_icmp_ne (tgt := 25) dJ1_indexOfChar_4cfef_19 (by decide) (fun c19_4 => ?_) (fun c19_4 => ?_)
        · refine v_iinc_5 dJ1_indexOfChar_4cfef_25 (by decide) rfl ?_
          rw [show iadd 3 1 = 4 from by decide]
          refine v_goto (tgt := 7) dJ1_indexOfChar_4cfef_28 (by decide) ?_
          refine v_iload dJ1_indexOfChar_4cfef_7 rfl ?_
          refine v_iload_n dJ1_indexOfChar_4cfef_9 rfl ?_
          refine v_icmp_ge_f (tgt := 31) dJ1_indexOfChar_4cfef_10 (by decide) (by decide) ?_
          refine v_aload3_n dJ1_indexOfChar_4cfef_13 rfl ?_
          refine v_iload dJ1_indexOfChar_4cfef_14 rfl ?_
          refine v_baloadS (i := 3) (j := 4) (z := 99) dJ1_indexOfChar_4cfef_16 (by decide) (by decide) (by decide) (by decide) (c32 rfl) ?_
          refine v_iload dJ1_indexOfChar_4cfef_17 rfl ?_
          refine v_icmp_ne (tgt := 25) dJ1_indexOfChar_4cfef_19 (by decide) (fun c19_5 => ?_) (fun c19_5 => ?_)
          · refine v_iinc_5 dJ1_indexOfChar_4cfef_25 (by decide) rfl ?_
            rw [show iadd 4 1 = 5 from by decide]
            refine v_goto (tgt := 7) dJ1_indexOfChar_4cfef_28 (by decide) ?_
            refine v_iload dJ1_indexOfChar_4cfef_7 rfl ?_
            refine v_iload_n dJ1_indexOfChar_4cfef_9 rfl ?_
            refine v_icmp_ge_f (tgt := 31) dJ1_indexOfChar_4cfef_10 (by decide) (by decide) ?_
            refine v_aload3_n dJ1_indexOfChar_4cfef_13 rfl ?_
            refine v_iload dJ1_indexOfChar_4cfef_14 rfl ?_
            refine v_baloadS (i := 3) (j := 5) (z := 104) dJ1_indexOfChar_4cfef_16 (by decide) (by decide) (by decide) (by decide) (c32 rfl) ?_
            refine v_iload dJ1_indexOfChar_4cfef_17 rfl ?_
            refine v_icmp_ne (tgt := 25) dJ1_indexOfChar_4cfef_19 (by decide) (fun c19_6 => ?_) (fun c19_6 => ?_)
            · refine v_iinc_5 dJ1_indexOfChar_4cfef_25 (by decide) rfl ?_
              rw [show iadd 5 1 = 6 from by decide]
              refine v_goto (tgt := 7) dJ1_indexOfChar_4cfef_28 (by decide) ?_
              refine v_iload dJ1_indexOfChar_4cfef_7 rfl ?_
              refine v_iload_n dJ1_indexOfChar_4cfef_9 rfl ?_
              refine v_icmp_ge_f (tgt := 31) dJ1_indexOfChar_4cfef_10 (by decide) (by decide) ?_
              refine v_aload3_n dJ1_indexOfChar_4cfef_13 rfl ?_
              refine v_iload dJ1_indexOfChar_4cfef_14 rfl ?_
              refine v_baloadS (i := 3) (j := 6) (z := 112) dJ1_indexOfChar_4cfef_16 (by decide) (by decide) (by decide) (by decide) (c32 rfl) ?_
              refine v_iload dJ1_indexOfChar_4cfef_17 rfl ?_
              refine v_icmp_ne (tgt := 25) dJ1_indexOfChar_4cfef_19 (by decide) (fun c19_7 => ?_) (fun c19_7 => ?_)
              · refine v_iinc_5 dJ1_indexOfChar_4cfef_25 (by decide) rfl ?_
                rw [show iadd 6 1 = 7 from by decide]
                refine v_goto (tgt := 7) dJ1_indexOfChar_4cfef_28 (by decide) ?_
                refine v_iload dJ1_indexOfChar_4cfef_7 rfl ?_
                refine v_iload_n dJ1_indexOfChar_4cfef_9 rfl ?_
                refine v_icmp_ge_t (tgt := 31) dJ1_indexOfChar_4cfef_10 (by decide) (by decide) ?_
                refine v_iconst dJ1_indexOfChar_4cfef_31 (c32 rfl) ?_
                refine v_ireti dJ1_indexOfChar_4cfef_32 rfl (Nat.le_refl _) (Nat.le_refl _) ?_
                have hib := i2b_c e0 e1
                have n_0 : ¬ p1 = 97 := by omega
                have n_1 : ¬ p1 = 110 := by omega
                have n_2 : ¬ p1 = 98 := by omega
                have n_3 : ¬ p1 = 111 := by omega
                have n_4 : ¬ p1 = 99 := by omega
                have n_5 : ¬ p1 = 104 := by omega
                have n_6 : ¬ p1 = 112 := by omega
                have e9 : ix3 p1 = -1 := by
                  unfold ix3
                  rw [if_neg n_0, if_neg n_1, if_neg n_2, if_neg n_3, if_neg n_4, if_neg n_5, if_neg n_6]
                rw [e9] at hq
                exact hq
              · refine v_iload dJ1_indexOfChar_4cfef_22 rfl ?_
                refine v_ireti dJ1_indexOfChar_4cfef_24 rfl (Nat.le_refl _) (Nat.le_refl _) ?_
                have hib := i2b_c e0 e1
                obtain rfl : p1 = 112 := by omega
                exact hq
            · refine v_iload dJ1_indexOfChar_4cfef_22 rfl ?_
              refine v_ireti dJ1_indexOfChar_4cfef_24 rfl (Nat.le_refl _) (Nat.le_refl _) ?_
              have hib := i2b_c e0 e1
              obtain rfl : p1 = 104 := by omega
              exact hq
          · refine v_iload dJ1_indexOfChar_4cfef_22 rfl ?_
            refine v_ireti dJ1_indexOfChar_4cfef_24 rfl (Nat.le_refl _) (Nat.le_refl _) ?_
            have hib := i2b_c e0 e1
            obtain rfl : p1 = 99 := by omega
            exact hq
        · refine v_iload dJ1_indexOfChar_4cfef_22 rfl ?_
          refine v_ireti dJ1_indexOfChar_4cfef_24 rfl (Nat.le_refl _) (Nat.le_refl _) ?_
          have hib := i2b_c e0 e1
          obtain rfl : p1 = 111 := by omega
          exact hq
      · refine v_iload dJ1_indexOfChar_4cfef_22 rfl ?_
        refine v_ireti dJ1_indexOfChar_4cfef_24 rfl (Nat.le_refl _) (Nat.le_refl _) ?_
        have hib := i2b_c e0 e1
        obtain rfl : p1 = 98 := by omega
        exact hq
    · refine v_iload dJ1_indexOfChar_4cfef_22 rfl ?_
      refine v_ireti dJ1_indexOfChar_4cfef_24 rfl (Nat.le_refl _) (Nat.le_refl _) ?_
      have hib := i2b_c e0 e1
      obtain rfl : p1 = 110 := by omega
      exact hq
  · refine v_iload dJ1_indexOfChar_4cfef_22 rfl ?_
    refine v_ireti dJ1_indexOfChar_4cfef_24 rfl (Nat.le_refl _) (Nat.le_refl _) ?_
    have hib := i2b_c e0 e1
    obtain rfl : p1 = 97 := by omega
    exact hq

set_option maxHeartbeats 4000000 in
set_option maxRecDepth 100000 in
theorem s_lix_3 {l : Launch} {G : GG} {d : Nat} {h : AH} {Q : Option AV → List Kd → AH → Prop} {p1 : Int} (hd : 2 ≤ d) (hq : Q (some (0, ix3 p1)) K0 h) : Sp l G mJ1_indexOf_4cfef d 0 0 K0 [(3, adV G 3), (0, p1), (0, 0), (0, 7)] h Q := by
  refine sp_of (L := [(3, adV G 3), (0, p1), (0, 0), (0, 7)]) pl_J1 (Nat.le_of_ble_eq_true rfl) (tg_c (by decide) (tg_c (by decide) (tg_c (by decide) (tg_c (by decide) tg_0)))) rfl ?_
  refine v_iload_n dJ1_indexOf_4cfef_0 rfl ?_
  refine v_calls (M' := mJ1_canEncode_9a6ad) (d' := d - 1) (mc' := 0) (ms' := 0) (As := [_]) dJ1_indexOf_4cfef_1 k_684 cm_J1_canEncode_9a6ad (by omega) (Nat.le_of_ble_eq_true rfl) rfl ⟨Nat.le_refl _, Nat.le_refl _⟩ ?_
  refine s_J1_canEncode_9a6ad (by omega) (fun c1_1 => ?_) (fun c1_2 c1_3 => ?_) (fun c1_4 c1_5 => ?_)
  · dsimp only [Option.toList, List.cons_append, List.nil_append, Nat.add_zero]
    refine v_if_ne_f (tgt := 9) dJ1_indexOf_4cfef_4 (by decide) (by decide) ?_
    refine v_iconst dJ1_indexOf_4cfef_7 (c32 rfl) ?_
    refine v_ireti dJ1_indexOf_4cfef_8 rfl (Nat.le_refl _) (Nat.le_refl _) ?_
    have n_0 : ¬ p1 = 97 := by omega
    have n_1 : ¬ p1 = 110 := by omega
    have n_2 : ¬ p1 = 98 := by omega
    have n_3 : ¬ p1 = 111 := by omega
    have n_4 : ¬ p1 = 99 := by omega
    have n_5 : ¬ p1 = 104 := by omega
    have n_6 : ¬ p1 = 112 := by omega
    have e9 : ix3 p1 = -1 := by
      unfold ix3
      rw [if_neg n_0, if_neg n_1, if_neg n_2, if_neg n_3, if_neg n_4, if_neg n_5, if_neg n_6]
    rw [e9] at hq
    exact hq
  · dsimp only [Option.toList, List.cons_append, List.nil_append, Nat.add_zero]
    refine v_if_ne_f (tgt := 9) dJ1_indexOf_4cfef_4 (by decide) (by decide) ?_
    refine v_iconst dJ1_indexOf_4cfef_7 (c32 rfl) ?_
    refine v_ireti dJ1_indexOf_4cfef_8 rfl (Nat.le_refl _) (Nat.le_refl _) ?_
    have n_0 : ¬ p1 = 97 := by omega
    have n_1 : ¬ p1 = 110 := by omega
    have n_2 : ¬ p1 = 98 := by omega
    have n_3 : ¬ p1 = 111 := by omega
    have n_4 : ¬ p1 = 99 := by omega
    have n_5 : ¬ p1 = 104 := by omega
    have n_6 : ¬ p1 = 112 := by omega
    have e9 : ix3 p1 = -1 := by
      unfold ix3
      rw [if_neg n_0, if_neg n_1, if_neg n_2, if_neg n_3, if_neg n_4, if_neg n_5, if_neg n_6]
    rw [e9] at hq
    exact hq
  · dsimp only [Option.toList, List.cons_append, List.nil_append, Nat.add_zero]
    refine v_if_ne_t (tgt := 9) dJ1_indexOf_4cfef_4 (by decide) (by decide) ?_
    refine v_iload_n dJ1_indexOf_4cfef_9 rfl ?_
    refine v_iconst dJ1_indexOf_4cfef_10 (c32 rfl) ?_
    refine v_mmax dJ1_indexOf_4cfef_11 k_687 (by omega) (Nat.le_of_ble_eq_true rfl) ⟨Nat.le_refl _, Nat.le_refl _⟩ ?_
    rw [show max (0 : Int) 0 = 0 from by decide]
    refine v_istore_n_2 dJ1_indexOf_4cfef_14 (by decide) rfl ?_
    refine v_iload_n dJ1_indexOf_4cfef_15 rfl ?_
    refine v_aload3_n dJ1_indexOf_4cfef_16 rfl ?_
    refine v_alenS (i := 3) (ni := 7) dJ1_indexOf_4cfef_17 (by decide) rfl (c32 rfl) ?_
    refine v_mmin dJ1_indexOf_4cfef_18 k_690 (by omega) (Nat.le_of_ble_eq_true rfl) ⟨Nat.le_refl _, Nat.le_refl _⟩ ?_
    rw [show min (7 : Int) 7 = 7 from by decide]
    refine v_istore_n_3 dJ1_indexOf_4cfef_21 (by decide) rfl ?_
    refine v_iload_n dJ1_indexOf_4cfef_22 rfl ?_
    refine v_iload_n dJ1_indexOf_4cfef_23 rfl ?_
    refine v_icmp_lt_t (tgt := 29) dJ1_indexOf_4cfef_24 (by decide) (by decide) ?_
    refine v_aload3_n dJ1_indexOf_4cfef_29 rfl ?_
    refine v_iload_n dJ1_indexOf_4cfef_30 rfl ?_
    refine v_iload_n dJ1_indexOf_4cfef_31 rfl ?_
    refine v_iload_n dJ1_indexOf_4cfef_32 rfl ?_
    refine v_calls (M' := mJ1_indexOfChar_4cfef) (d' := d - 1) (mc' := 0) (ms' := 0) (As := [_, _, _, _]) dJ1_indexOf_4cfef_33 k_693 cm_J1_indexOfChar_4cfef (by omega) (Nat.le_of_ble_eq_true rfl) rfl ⟨Nat.le_refl _, Nat.le_refl _⟩ ?_
    refine s_chr_3 (by omega) (by omega) (by omega) ?_
    dsimp only [Option.toList, List.cons_append, List.nil_append, Nat.add_zero]
    refine v_ireti dJ1_indexOf_4cfef_36 rfl (Nat.le_refl _) (Nat.le_refl _) ?_
    exact hq

set_option maxHeartbeats 4000000 in
set_option maxRecDepth 100000 in
theorem s_ix2_3 {l : Launch} {G : GG} {d : Nat} {h : AH} {Q : Option AV → List Kd → AH → Prop} {p0 : Int} (hd : 3 ≤ d) (hq : Q (some (0, ix3 p0)) K0 h) : Sp l G mJ0_indexOf_7cf53 d 0 0 K0 [(3, adK G 3), (0, p0), (0, 0)] h Q := by
  refine sp_of (L := [(3, adK G 3), (0, p0), (0, 0)]) pl_J0 (Nat.le_of_ble_eq_true rfl) (tg_c (by decide) (tg_c (by decide) (tg_c (by decide) tg_0))) rfl ?_
  refine v_aload3_n dJ0_indexOf_7cf53_0 rfl ?_
  refine v_callvS (M' := mJ0_isLatin1_aae02) (d' := d - 1) (i := 3) (As := []) dJ0_indexOf_7cf53_1 k_667 cm_J0_isLatin1_aae02 rfl (by omega) (by decide) (Nat.le_of_ble_eq_true rfl) rfl ⟨Nat.le_refl _, Nat.le_refl _⟩ ?_
  refine s_lat_3 (by omega) ?_
  dsimp only [Option.toList, List.cons_append, List.nil_append, Nat.add_zero]
  refine v_if_eq_f (tgt := 23) dJ0_indexOf_7cf53_4 (by decide) (by decide) ?_
  refine v_aload3_n dJ0_indexOf_7cf53_7 rfl ?_
  refine v_getSv (i := 3) dJ0_indexOf_7cf53_8 k_2106 (by decide) ?_
  refine v_iload_n dJ0_indexOf_7cf53_11 rfl ?_
  refine v_iload_n dJ0_indexOf_7cf53_12 rfl ?_
  refine v_aload3_n dJ0_indexOf_7cf53_13 rfl ?_
  refine v_callvS (M' := mJ0_length_8abf5) (d' := d - 1) (i := 3) (As := []) dJ0_indexOf_7cf53_14 k_673 cm_J0_length_8abf5 rfl (by omega) (by decide) (Nat.le_of_ble_eq_true rfl) rfl ⟨Nat.le_refl _, Nat.le_refl _⟩ ?_
  refine s_len_3 (by omega) ?_
  dsimp only [Option.toList, List.cons_append, List.nil_append, Nat.add_zero]
  refine v_calls (M' := mJ1_indexOf_4cfef) (d' := d - 1) (mc' := 0) (ms' := 0) (As := [_, _, _, _]) dJ0_indexOf_7cf53_17 k_681 cm_J1_indexOf_4cfef (by omega) (Nat.le_of_ble_eq_true rfl) rfl ⟨Nat.le_refl _, Nat.le_refl _⟩ ?_
  refine s_lix_3 (by omega) ?_
  dsimp only [Option.toList, List.cons_append, List.nil_append, Nat.add_zero]
  refine v_goto (tgt := 36) dJ0_indexOf_7cf53_20 (by decide) ?_
  refine v_ireti dJ0_indexOf_7cf53_36 rfl (Nat.le_refl _) (Nat.le_refl _) ?_
  exact hq

set_option maxHeartbeats 4000000 in
set_option maxRecDepth 100000 in
theorem s_indexOf_3 {l : Launch} {G : GG} {d : Nat} {h : AH} {Q : Option AV → List Kd → AH → Prop} {p0 : Int} (hd : 4 ≤ d) (hq : Q (some (0, ix3 p0)) K0 h) : Sp l G mJ0_indexOf_0f7a4 d 0 0 K0 [(3, adK G 3), (0, p0)] h Q := by
  refine sp_of (L := [(3, adK G 3), (0, p0)]) pl_J0 (Nat.le_of_ble_eq_true rfl) (tg_c (by decide) (tg_c (by decide) tg_0)) rfl ?_
  refine v_aload3_n dJ0_indexOf_0f7a4_0 rfl ?_
  refine v_iload_n dJ0_indexOf_0f7a4_1 rfl ?_
  refine v_iconst dJ0_indexOf_0f7a4_2 (c32 rfl) ?_
  refine v_callvS (M' := mJ0_indexOf_7cf53) (d' := d - 1) (i := 3) (As := [_, _]) dJ0_indexOf_0f7a4_3 k_663 cm_J0_indexOf_7cf53 rfl (by omega) (by decide) (Nat.le_of_ble_eq_true rfl) rfl ⟨Nat.le_refl _, Nat.le_refl _⟩ ?_
  refine s_ix2_3 (by omega) ?_
  dsimp only [Option.toList, List.cons_append, List.nil_append, Nat.add_zero]
  refine v_ireti dJ0_indexOf_0f7a4_6 rfl (Nat.le_refl _) (Nat.le_refl _) ?_
  exact hq

