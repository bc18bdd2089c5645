/-! ===== the reference: looking up (written by wip/whole/p12.py) ===== -/
set_option maxHeartbeats 4000000 in
set_option maxRecDepth 100000 in
theorem lp_X12_membersOn_6 {l : Launch} {G : GG} {d : Nat} {h : AH} {Q : Option AV → List Kd → AH → Prop} {p0 p1 p2 : Int} (hd : 1 ≤ d) (b0 : 0 ≤ (h 116 14)) (bN : (h 116 14) ≤ 40) (hq : Q (some (0, (if (ifc (h 117) (h 119) (h 120) p0 p1 p2 (h 116 14)) = -1 then 0 else h 118 (ifc (h 117) (h 119) (h 120) p0 p1 p2 (h 116 14))))) K0 h) : ∀ k, 0 ≤ k → k ≤ (h 116 14) → V l G mX12_membersOn d 0 0 0 0 K0 6 [(2, 116), (0, p0), (0, p1), (0, p2), (0, (ifc (h 117) (h 119) (h 120) p0 p1 p2 k)), (0, k)] [] h Q := by
  refine loop_m3 (fun k hk hkN ih => ?_)
  have hb := ifc_lt (w := (h 117)) (f := (h 119)) (t := (h 120)) (web := p0) (day := p1) (q := p2) hk
  refine v_iload dX12_membersOn_6 rfl ?_
  refine v_aload_n dX12_membersOn_8 rfl ?_
  refine v_get (ci := 12) (j := 14) (ji := 14) (tg := 0) dX12_membersOn_9 k_1430 (by decide) kk_116 (by decide) rfl rfl (by decide) ?_
  refine v_icmp_ge (tgt := 81) dX12_membersOn_12 (by decide) (fun c12_1 => ?_) (fun c12_1 => ?_)
  · obtain rfl : k = (h 116 14) := by omega
    refine v_iload dX12_membersOn_81 rfl ?_
    refine v_iconst dX12_membersOn_83 (c32 rfl) ?_
    refine v_icmp_ne (tgt := 91) dX12_membersOn_84 (by decide) (fun c84_2 => ?_) (fun c84_2 => ?_)
    · refine v_aload_n dX12_membersOn_91 rfl ?_
      refine v_getr (ci := 12) (j := 3) (ji := 3) (z := 118) dX12_membersOn_92 k_1419 (by decide) kk_116 (by decide) rfl rfl (fun r => rt_116_3 (r rfl)) (by decide) ?_
      refine v_iload dX12_membersOn_95 rfl ?_
      refine v_iaload dX12_membersOn_97 (by decide) kk_118 (by omega) (by omega) ?_
      refine v_ireti dX12_membersOn_98 rfl (Nat.le_refl _) (Nat.le_refl _) ?_
      first | (rw [if_pos (by omega)] at hq; exact hq) | (rw [if_neg (by omega)] at hq; exact hq)
    · refine v_iconst dX12_membersOn_87 (c32 rfl) ?_
      refine v_goto (tgt := 98) dX12_membersOn_88 (by decide) ?_
      refine v_ireti dX12_membersOn_98 rfl (Nat.le_refl _) (Nat.le_refl _) ?_
      first | (rw [if_pos (by omega)] at hq; exact hq) | (rw [if_neg (by omega)] at hq; exact hq)
  · refine v_aload_n dX12_membersOn_15 rfl ?_
    refine v_getr (ci := 12) (j := 2) (ji := 2) (z := 117) dX12_membersOn_16 k_1418 (by decide) kk_116 (by decide) rfl rfl (fun r => rt_116_2 (r rfl)) (by decide) ?_
    refine v_iload dX12_membersOn_19 rfl ?_
    refine v_iaload dX12_membersOn_21 (by decide) kk_117 (by omega) (by omega) ?_
    refine v_iload_n dX12_membersOn_22 rfl ?_
    refine v_icmp_ne (tgt := 75) dX12_membersOn_23 (by decide) (fun c23_3 => ?_) (fun c23_3 => ?_)
    · refine v_iinc_5 dX12_membersOn_75 (by decide) rfl ?_
      rw [iadd_eq (x := k) (y := 1) (by unfold ok32; omega)]
      refine v_goto (tgt := 6) dX12_membersOn_78 (by decide) ?_
      have ih := ih (by omega)
      have e4 : (ifc (h 117) (h 119) (h 120) p0 p1 p2 (k + 1)) = (ifc (h 117) (h 119) (h 120) p0 p1 p2 k) := by rw [ifc_s hk]; unfold inStep; first | (rw [if_pos (by omega)]; done) | (rw [if_neg (by omega)]; done)
      rw [e4] at ih
      exact ih
    · refine v_aload_n dX12_membersOn_26 rfl ?_
      refine v_getr (ci := 12) (j := 5) (ji := 5) (z := 120) dX12_membersOn_27 k_1421 (by decide) kk_116 (by decide) rfl rfl (fun r => rt_116_5 (r rfl)) (by decide) ?_
      refine v_iload dX12_membersOn_30 rfl ?_
      refine v_iaload dX12_membersOn_32 (by decide) kk_120 (by omega) (by omega) ?_
      refine v_iload_n dX12_membersOn_33 rfl ?_
      refine v_icmp_gt (tgt := 75) dX12_membersOn_34 (by decide) (fun c34_4 => ?_) (fun c34_4 => ?_)
      · refine v_iinc_5 dX12_membersOn_75 (by decide) rfl ?_
        rw [iadd_eq (x := k) (y := 1) (by unfold ok32; omega)]
        refine v_goto (tgt := 6) dX12_membersOn_78 (by decide) ?_
        have ih := ih (by omega)
        have e4 : (ifc (h 117) (h 119) (h 120) p0 p1 p2 (k + 1)) = (ifc (h 117) (h 119) (h 120) p0 p1 p2 k) := by rw [ifc_s hk]; unfold inStep; first | (rw [if_pos (by omega)]; done) | (rw [if_neg (by omega)]; done)
        rw [e4] at ih
        exact ih
      · refine v_aload_n dX12_membersOn_37 rfl ?_
        refine v_getr (ci := 12) (j := 4) (ji := 4) (z := 119) dX12_membersOn_38 k_1420 (by decide) kk_116 (by decide) rfl rfl (fun r => rt_116_4 (r rfl)) (by decide) ?_
        refine v_iload dX12_membersOn_41 rfl ?_
        refine v_iaload dX12_membersOn_43 (by decide) kk_119 (by omega) (by omega) ?_
        refine v_iload_n dX12_membersOn_44 rfl ?_
        refine v_icmp_gt (tgt := 75) dX12_membersOn_45 (by decide) (fun c45_5 => ?_) (fun c45_5 => ?_)
        · refine v_iinc_5 dX12_membersOn_75 (by decide) rfl ?_
          rw [iadd_eq (x := k) (y := 1) (by unfold ok32; omega)]
          refine v_goto (tgt := 6) dX12_membersOn_78 (by decide) ?_
          have ih := ih (by omega)
          have e4 : (ifc (h 117) (h 119) (h 120) p0 p1 p2 (k + 1)) = (ifc (h 117) (h 119) (h 120) p0 p1 p2 k) := by rw [ifc_s hk]; unfold inStep; first | (rw [if_pos (by omega)]; done) | (rw [if_neg (by omega)]; done)
          rw [e4] at ih
          exact ih
        · refine v_iload dX12_membersOn_48 rfl ?_
          refine v_iconst dX12_membersOn_50 (c32 rfl) ?_
          refine v_icmp_eq (tgt := 71) dX12_membersOn_51 (by decide) (fun c51_6 => ?_) (fun c51_6 => ?_)
          · refine v_iload dX12_membersOn_71 rfl ?_
            refine v_istore_4 dX12_membersOn_73 (by decide) rfl ?_
            refine v_iinc_5 dX12_membersOn_75 (by decide) rfl ?_
            rw [iadd_eq (x := k) (y := 1) (by unfold ok32; omega)]
            refine v_goto (tgt := 6) dX12_membersOn_78 (by decide) ?_
            have ih := ih (by omega)
            have e4 : (ifc (h 117) (h 119) (h 120) p0 p1 p2 (k + 1)) = k := by rw [ifc_s hk]; unfold inStep; first | (rw [if_pos (by omega)]; done) | (rw [if_neg (by omega)]; done)
            rw [e4] at ih
            exact ih
          · refine v_aload_n dX12_membersOn_54 rfl ?_
            refine v_getr (ci := 12) (j := 4) (ji := 4) (z := 119) dX12_membersOn_55 k_1420 (by decide) kk_116 (by decide) rfl rfl (fun r => rt_116_4 (r rfl)) (by decide) ?_
            refine v_iload dX12_membersOn_58 rfl ?_
            refine v_iaload dX12_membersOn_60 (by decide) kk_119 (by omega) (by omega) ?_
            refine v_aload_n dX12_membersOn_61 rfl ?_
            refine v_getr (ci := 12) (j := 4) (ji := 4) (z := 119) dX12_membersOn_62 k_1420 (by decide) kk_116 (by decide) rfl rfl (fun r => rt_116_4 (r rfl)) (by decide) ?_
            refine v_iload dX12_membersOn_65 rfl ?_
            refine v_iaload dX12_membersOn_67 (by decide) kk_119 (by omega) (by omega) ?_
            refine v_icmp_lt (tgt := 75) dX12_membersOn_68 (by decide) (fun c68_7 => ?_) (fun c68_7 => ?_)
            · refine v_iinc_5 dX12_membersOn_75 (by decide) rfl ?_
              rw [iadd_eq (x := k) (y := 1) (by unfold ok32; omega)]
              refine v_goto (tgt := 6) dX12_membersOn_78 (by decide) ?_
              have ih := ih (by omega)
              have e4 : (ifc (h 117) (h 119) (h 120) p0 p1 p2 (k + 1)) = (ifc (h 117) (h 119) (h 120) p0 p1 p2 k) := by rw [ifc_s hk]; unfold inStep; first | (rw [if_pos (by omega)]; done) | (rw [if_neg (by omega)]; done)
              rw [e4] at ih
              exact ih
            · refine v_iload dX12_membersOn_71 rfl ?_
              refine v_istore_4 dX12_membersOn_73 (by decide) rfl ?_
              refine v_iinc_5 dX12_membersOn_75 (by decide) rfl ?_
              rw [iadd_eq (x := k) (y := 1) (by unfold ok32; omega)]
              refine v_goto (tgt := 6) dX12_membersOn_78 (by decide) ?_
              have ih := ih (by omega)
              have e4 : (ifc (h 117) (h 119) (h 120) p0 p1 p2 (k + 1)) = k := by rw [ifc_s hk]; unfold inStep; first | (rw [if_pos (by omega)]; done) | (rw [if_neg (by omega)]; done)
              rw [e4] at ih
              exact ih

set_option maxHeartbeats 4000000 in
set_option maxRecDepth 100000 in
theorem s_X12_membersOn {l : Launch} {G : GG} {d : Nat} {h : AH} {Q : Option AV → List Kd → AH → Prop} {p0 p1 p2 : Int} (hd : 1 ≤ d) (b0 : 0 ≤ (h 116 14)) (bN : (h 116 14) ≤ 40) (hq : Q (some (0, (if (ifc (h 117) (h 119) (h 120) p0 p1 p2 (h 116 14)) = -1 then 0 else h 118 (ifc (h 117) (h 119) (h 120) p0 p1 p2 (h 116 14))))) K0 h) : Sp l G mX12_membersOn d 0 0 K0 [(2, 116), (0, p0), (0, p1), (0, p2)] h Q := by
  refine sp_of (L := [(2, 116), (0, p0), (0, p1), (0, p2), (9, 0), (9, 0)]) pl_X12 (Nat.le_of_ble_eq_true rfl) (tg_c (by decide) (tg_c (by decide) (tg_c (by decide) (tg_c (by decide) tg_0)))) rfl ?_
  refine v_iconst dX12_membersOn_0 (c32 rfl) ?_
  refine v_istore_4 dX12_membersOn_1 (by decide) rfl ?_
  refine v_iconst dX12_membersOn_3 (c32 rfl) ?_
  refine v_istore_5 dX12_membersOn_4 (by decide) rfl ?_
  exact lp_X12_membersOn_6 hd b0 bN hq 0 (Int.le_refl _) b0

set_option maxHeartbeats 4000000 in
set_option maxRecDepth 100000 in
theorem lp_X12_protocolOn_6 {l : Launch} {G : GG} {d : Nat} {h : AH} {Q : Option AV → List Kd → AH → Prop} {p0 p1 p2 : Int} (hd : 1 ≤ d) (b0 : 0 ≤ (h 116 15)) (bN : (h 116 15) ≤ 20) (hq : Q (some (0, (ifc (h 121) (h 122) (h 123) p0 p1 p2 (h 116 15)))) K0 h) : ∀ k, 0 ≤ k → k ≤ (h 116 15) → V l G mX12_protocolOn d 0 0 0 0 K0 6 [(2, 116), (0, p0), (0, p1), (0, p2), (0, (ifc (h 121) (h 122) (h 123) p0 p1 p2 k)), (0, k)] [] h Q := by
  refine loop_m3 (fun k hk hkN ih => ?_)
  have hb := ifc_lt (w := (h 121)) (f := (h 122)) (t := (h 123)) (web := p0) (day := p1) (q := p2) hk
  refine v_iload dX12_protocolOn_6 rfl ?_
  refine v_aload_n dX12_protocolOn_8 rfl ?_
  refine v_get (ci := 12) (j := 15) (ji := 15) (tg := 0) dX12_protocolOn_9 k_1431 (by decide) kk_116 (by decide) rfl rfl (by decide) ?_
  refine v_icmp_ge (tgt := 81) dX12_protocolOn_12 (by decide) (fun c12_1 => ?_) (fun c12_1 => ?_)
  · obtain rfl : k = (h 116 15) := by omega
    refine v_iload dX12_protocolOn_81 rfl ?_
    refine v_ireti dX12_protocolOn_83 rfl (Nat.le_refl _) (Nat.le_refl _) ?_
    exact hq
  · refine v_aload_n dX12_protocolOn_15 rfl ?_
    refine v_getr (ci := 12) (j := 6) (ji := 6) (z := 121) dX12_protocolOn_16 k_1422 (by decide) kk_116 (by decide) rfl rfl (fun r => rt_116_6 (r rfl)) (by decide) ?_
    refine v_iload dX12_protocolOn_19 rfl ?_
    refine v_iaload dX12_protocolOn_21 (by decide) kk_121 (by omega) (by omega) ?_
    refine v_iload_n dX12_protocolOn_22 rfl ?_
    refine v_icmp_ne (tgt := 75) dX12_protocolOn_23 (by decide) (fun c23_2 => ?_) (fun c23_2 => ?_)
    · refine v_iinc_5 dX12_protocolOn_75 (by decide) rfl ?_
      rw [iadd_eq (x := k) (y := 1) (by unfold ok32; omega)]
      refine v_goto (tgt := 6) dX12_protocolOn_78 (by decide) ?_
      have ih := ih (by omega)
      have e4 : (ifc (h 121) (h 122) (h 123) p0 p1 p2 (k + 1)) = (ifc (h 121) (h 122) (h 123) p0 p1 p2 k) := by rw [ifc_s hk]; unfold inStep; first | (rw [if_pos (by omega)]; done) | (rw [if_neg (by omega)]; done)
      rw [e4] at ih
      exact ih
    · refine v_aload_n dX12_protocolOn_26 rfl ?_
      refine v_getr (ci := 12) (j := 8) (ji := 8) (z := 123) dX12_protocolOn_27 k_1424 (by decide) kk_116 (by decide) rfl rfl (fun r => rt_116_8 (r rfl)) (by decide) ?_
      refine v_iload dX12_protocolOn_30 rfl ?_
      refine v_iaload dX12_protocolOn_32 (by decide) kk_123 (by omega) (by omega) ?_
      refine v_iload_n dX12_protocolOn_33 rfl ?_
      refine v_icmp_gt (tgt := 75) dX12_protocolOn_34 (by decide) (fun c34_3 => ?_) (fun c34_3 => ?_)
      · refine v_iinc_5 dX12_protocolOn_75 (by decide) rfl ?_
        rw [iadd_eq (x := k) (y := 1) (by unfold ok32; omega)]
        refine v_goto (tgt := 6) dX12_protocolOn_78 (by decide) ?_
        have ih := ih (by omega)
        have e4 : (ifc (h 121) (h 122) (h 123) p0 p1 p2 (k + 1)) = (ifc (h 121) (h 122) (h 123) p0 p1 p2 k) := by rw [ifc_s hk]; unfold inStep; first | (rw [if_pos (by omega)]; done) | (rw [if_neg (by omega)]; done)
        rw [e4] at ih
        exact ih
      · refine v_aload_n dX12_protocolOn_37 rfl ?_
        refine v_getr (ci := 12) (j := 7) (ji := 7) (z := 122) dX12_protocolOn_38 k_1423 (by decide) kk_116 (by decide) rfl rfl (fun r => rt_116_7 (r rfl)) (by decide) ?_
        refine v_iload dX12_protocolOn_41 rfl ?_
        refine v_iaload dX12_protocolOn_43 (by decide) kk_122 (by omega) (by omega) ?_
        refine v_iload_n dX12_protocolOn_44 rfl ?_
        refine v_icmp_gt (tgt := 75) dX12_protocolOn_45 (by decide) (fun c45_4 => ?_) (fun c45_4 => ?_)
        · refine v_iinc_5 dX12_protocolOn_75 (by decide) rfl ?_
          rw [iadd_eq (x := k) (y := 1) (by unfold ok32; omega)]
          refine v_goto (tgt := 6) dX12_protocolOn_78 (by decide) ?_
          have ih := ih (by omega)
          have e4 : (ifc (h 121) (h 122) (h 123) p0 p1 p2 (k + 1)) = (ifc (h 121) (h 122) (h 123) p0 p1 p2 k) := by rw [ifc_s hk]; unfold inStep; first | (rw [if_pos (by omega)]; done) | (rw [if_neg (by omega)]; done)
          rw [e4] at ih
          exact ih
        · refine v_iload dX12_protocolOn_48 rfl ?_
          refine v_iconst dX12_protocolOn_50 (c32 rfl) ?_
          refine v_icmp_eq (tgt := 71) dX12_protocolOn_51 (by decide) (fun c51_5 => ?_) (fun c51_5 => ?_)
          · refine v_iload dX12_protocolOn_71 rfl ?_
            refine v_istore_4 dX12_protocolOn_73 (by decide) rfl ?_
            refine v_iinc_5 dX12_protocolOn_75 (by decide) rfl ?_
            rw [iadd_eq (x := k) (y := 1) (by unfold ok32; omega)]
            refine v_goto (tgt := 6) dX12_protocolOn_78 (by decide) ?_
            have ih := ih (by omega)
            have e4 : (ifc (h 121) (h 122) (h 123) p0 p1 p2 (k + 1)) = k := by rw [ifc_s hk]; unfold inStep; first | (rw [if_pos (by omega)]; done) | (rw [if_neg (by omega)]; done)
            rw [e4] at ih
            exact ih
          · refine v_aload_n dX12_protocolOn_54 rfl ?_
            refine v_getr (ci := 12) (j := 7) (ji := 7) (z := 122) dX12_protocolOn_55 k_1423 (by decide) kk_116 (by decide) rfl rfl (fun r => rt_116_7 (r rfl)) (by decide) ?_
            refine v_iload dX12_protocolOn_58 rfl ?_
            refine v_iaload dX12_protocolOn_60 (by decide) kk_122 (by omega) (by omega) ?_
            refine v_aload_n dX12_protocolOn_61 rfl ?_
            refine v_getr (ci := 12) (j := 7) (ji := 7) (z := 122) dX12_protocolOn_62 k_1423 (by decide) kk_116 (by decide) rfl rfl (fun r => rt_116_7 (r rfl)) (by decide) ?_
            refine v_iload dX12_protocolOn_65 rfl ?_
            refine v_iaload dX12_protocolOn_67 (by decide) kk_122 (by omega) (by omega) ?_
            refine v_icmp_lt (tgt := 75) dX12_protocolOn_68 (by decide) (fun c68_6 => ?_) (fun c68_6 => ?_)
            · refine v_iinc_5 dX12_protocolOn_75 (by decide) rfl ?_
              rw [iadd_eq (x := k) (y := 1) (by unfold ok32; omega)]
              refine v_goto (tgt := 6) dX12_protocolOn_78 (by decide) ?_
              have ih := ih (by omega)
              have e4 : (ifc (h 121) (h 122) (h 123) p0 p1 p2 (k + 1)) = (ifc (h 121) (h 122) (h 123) p0 p1 p2 k) := by rw [ifc_s hk]; unfold inStep; first | (rw [if_pos (by omega)]; done) | (rw [if_neg (by omega)]; done)
              rw [e4] at ih
              exact ih
            · refine v_iload dX12_protocolOn_71 rfl ?_
              refine v_istore_4 dX12_protocolOn_73 (by decide) rfl ?_
              refine v_iinc_5 dX12_protocolOn_75 (by decide) rfl ?_
              rw [iadd_eq (x := k) (y := 1) (by unfold ok32; omega)]
              refine v_goto (tgt := 6) dX12_protocolOn_78 (by decide) ?_
              have ih := ih (by omega)
              have e4 : (ifc (h 121) (h 122) (h 123) p0 p1 p2 (k + 1)) = k := by rw [ifc_s hk]; unfold inStep; first | (rw [if_pos (by omega)]; done) | (rw [if_neg (by omega)]; done)
              rw [e4] at ih
              exact ih

set_option maxHeartbeats 4000000 in
set_option maxRecDepth 100000 in
theorem s_X12_protocolOn {l : Launch} {G : GG} {d : Nat} {h : AH} {Q : Option AV → List Kd → AH → Prop} {p0 p1 p2 : Int} (hd : 1 ≤ d) (b0 : 0 ≤ (h 116 15)) (bN : (h 116 15) ≤ 20) (hq : Q (some (0, (ifc (h 121) (h 122) (h 123) p0 p1 p2 (h 116 15)))) K0 h) : Sp l G mX12_protocolOn d 0 0 K0 [(2, 116), (0, p0), (0, p1), (0, p2)] h Q := by
  refine sp_of (L := [(2, 116), (0, p0), (0, p1), (0, p2), (9, 0), (9, 0)]) pl_X12 (Nat.le_of_ble_eq_true rfl) (tg_c (by decide) (tg_c (by decide) (tg_c (by decide) (tg_c (by decide) tg_0)))) rfl ?_
  refine v_iconst dX12_protocolOn_0 (c32 rfl) ?_
  refine v_istore_4 dX12_protocolOn_1 (by decide) rfl ?_
  refine v_iconst dX12_protocolOn_3 (c32 rfl) ?_
  refine v_istore_5 dX12_protocolOn_4 (by decide) rfl ?_
  exact lp_X12_protocolOn_6 hd b0 bN hq 0 (Int.le_refl _) b0

set_option maxHeartbeats 4000000 in
set_option maxRecDepth 100000 in
theorem lp_X12_lying_4 {l : Launch} {G : GG} {d : Nat} {h : AH} {Q : Option AV → List Kd → AH → Prop} {p0 : Int} (hd : 1 ≤ d) (b0 : 0 ≤ (h 116 47)) (bN : (h 116 47) ≤ 100) (hq : Q (some (0, (lyF (h 143) (h 142) p0 (h 116 47)))) K0 h) : ∀ k, 0 ≤ k → k ≤ (h 116 47) → V l G mX12_lying d 0 0 0 0 K0 4 [(2, 116), (0, p0), (0, (lyF (h 143) (h 142) p0 k)), (0, k)] [] h Q := by
  refine loop_m3 (fun k hk hkN ih => ?_)
  refine v_iload_n dX12_lying_4 rfl ?_
  refine v_aload_n dX12_lying_5 rfl ?_
  refine v_get (ci := 12) (j := 47) (ji := 47) (tg := 0) dX12_lying_6 k_1463 (by decide) kk_116 (by decide) rfl rfl (by decide) ?_
  refine v_icmp_ge (tgt := 41) dX12_lying_9 (by decide) (fun c9_1 => ?_) (fun c9_1 => ?_)
  · obtain rfl : k = (h 116 47) := by omega
    refine v_iload_n dX12_lying_41 rfl ?_
    refine v_ireti dX12_lying_42 rfl (Nat.le_refl _) (Nat.le_refl _) ?_
    exact hq
  · refine v_iload_n dX12_lying_12 rfl ?_
    refine v_aload_n dX12_lying_13 rfl ?_
    refine v_getr (ci := 12) (j := 40) (ji := 40) (z := 143) dX12_lying_14 k_1456 (by decide) kk_116 (by decide) rfl rfl (fun r => rt_116_40 (r rfl)) (by decide) ?_
    refine v_iload_n dX12_lying_17 rfl ?_
    refine v_iaload dX12_lying_18 (by decide) kk_143 (by omega) (by omega) ?_
    refine v_iload_n dX12_lying_19 rfl ?_
    refine v_icmp_ne (tgt := 32) dX12_lying_20 (by decide) (fun c20_2 => ?_) (fun c20_2 => ?_)
    · refine v_iconst dX12_lying_32 (c32 rfl) ?_
      refine v_iadd dX12_lying_33 ?_
      refine v_istore_n_2 dX12_lying_34 (by decide) rfl ?_
      refine v_iinc_3 dX12_lying_35 (by decide) rfl ?_
      rw [iadd_eq (x := k) (y := 1) (by unfold ok32; omega)]
      refine v_goto (tgt := 4) dX12_lying_38 (by decide) ?_
      have ih := ih (by omega)
      have e2 : (lyF (h 143) (h 142) p0 (k + 1)) = (iadd (lyF (h 143) (h 142) p0 k) 0) := by rw [lyF_s hk]; unfold lySt; first | (rw [if_pos (by omega)]; done) | (rw [if_neg (by omega)]; done)
      rw [e2] at ih
      exact ih
    · refine v_aload_n dX12_lying_23 rfl ?_
      refine v_getr (ci := 12) (j := 39) (ji := 39) (z := 142) dX12_lying_24 k_1455 (by decide) kk_116 (by decide) rfl rfl (fun r => rt_116_39 (r rfl)) (by decide) ?_
      refine v_iload_n dX12_lying_27 rfl ?_
      refine v_iaload dX12_lying_28 (by decide) kk_142 (by omega) (by omega) ?_
      refine v_goto (tgt := 33) dX12_lying_29 (by decide) ?_
      refine v_iadd dX12_lying_33 ?_
      refine v_istore_n_2 dX12_lying_34 (by decide) rfl ?_
      refine v_iinc_3 dX12_lying_35 (by decide) rfl ?_
      rw [iadd_eq (x := k) (y := 1) (by unfold ok32; omega)]
      refine v_goto (tgt := 4) dX12_lying_38 (by decide) ?_
      have ih := ih (by omega)
      have e2 : (lyF (h 143) (h 142) p0 (k + 1)) = (iadd (lyF (h 143) (h 142) p0 k) (h 142 k)) := by rw [lyF_s hk]; unfold lySt; first | (rw [if_pos (by omega)]; done) | (rw [if_neg (by omega)]; done)
      rw [e2] at ih
      exact ih

set_option maxHeartbeats 4000000 in
set_option maxRecDepth 100000 in
theorem s_X12_lying {l : Launch} {G : GG} {d : Nat} {h : AH} {Q : Option AV → List Kd → AH → Prop} {p0 : Int} (hd : 1 ≤ d) (b0 : 0 ≤ (h 116 47)) (bN : (h 116 47) ≤ 100) (hq : Q (some (0, (lyF (h 143) (h 142) p0 (h 116 47)))) K0 h) : Sp l G mX12_lying d 0 0 K0 [(2, 116), (0, p0)] h Q := by
  refine sp_of (L := [(2, 116), (0, p0), (9, 0), (9, 0)]) pl_X12 (Nat.le_of_ble_eq_true rfl) (tg_c (by decide) (tg_c (by decide) tg_0)) rfl ?_
  refine v_iconst dX12_lying_0 (c32 rfl) ?_
  refine v_istore_n_2 dX12_lying_1 (by decide) rfl ?_
  refine v_iconst dX12_lying_2 (c32 rfl) ?_
  refine v_istore_n_3 dX12_lying_3 (by decide) rfl ?_
  exact lp_X12_lying_4 hd b0 bN hq 0 (Int.le_refl _) b0

set_option maxHeartbeats 4000000 in
set_option maxRecDepth 100000 in
theorem lp_X12_priceOf_10 {l : Launch} {G : GG} {d : Nat} {h : AH} {Q : Option AV → List Kd → AH → Prop} {p0 p1 : Int} (hd : 1 ≤ d) (b0 : 0 ≤ (h 116 48)) (bN : (h 116 48) ≤ 100) (hq : Q (some (0, (laF (h 145) (h 147) (h 146) p0 p1 (h 131 p0) (h 116 48)))) K0 h) : ∀ k, 0 ≤ k → k ≤ (h 116 48) → V l G mX12_priceOf d 0 0 0 0 K0 10 [(2, 116), (0, p0), (0, p1), (0, (laF (h 145) (h 147) (h 146) p0 p1 (h 131 p0) k)), (0, k)] [] h Q := by
  refine loop_m3 (fun k hk hkN ih => ?_)
  refine v_iload dX12_priceOf_10 rfl ?_
  refine v_aload_n dX12_priceOf_12 rfl ?_
  refine v_get (ci := 12) (j := 48) (ji := 48) (tg := 0) dX12_priceOf_13 k_1464 (by decide) kk_116 (by decide) rfl rfl (by decide) ?_
  refine v_icmp_ge (tgt := 55) dX12_priceOf_16 (by decide) (fun c16_1 => ?_) (fun c16_1 => ?_)
  · obtain rfl : k = (h 116 48) := by omega
    refine v_iload_n dX12_priceOf_55 rfl ?_
    refine v_ireti dX12_priceOf_56 rfl (Nat.le_refl _) (Nat.le_refl _) ?_
    exact hq
  · refine v_aload_n dX12_priceOf_19 rfl ?_
    refine v_getr (ci := 12) (j := 42) (ji := 42) (z := 145) dX12_priceOf_20 k_1458 (by decide) kk_116 (by decide) rfl rfl (fun r => rt_116_42 (r rfl)) (by decide) ?_
    refine v_iload dX12_priceOf_23 rfl ?_
    refine v_iaload dX12_priceOf_25 (by decide) kk_145 (by omega) (by omega) ?_
    refine v_iload_n dX12_priceOf_26 rfl ?_
    refine v_icmp_ne (tgt := 49) dX12_priceOf_27 (by decide) (fun c27_2 => ?_) (fun c27_2 => ?_)
    · refine v_iinc_4 dX12_priceOf_49 (by decide) rfl ?_
      rw [iadd_eq (x := k) (y := 1) (by unfold ok32; omega)]
      refine v_goto (tgt := 10) dX12_priceOf_52 (by decide) ?_
      have ih := ih (by omega)
      have e3 : (laF (h 145) (h 147) (h 146) p0 p1 (h 131 p0) (k + 1)) = (laF (h 145) (h 147) (h 146) p0 p1 (h 131 p0) k) := by rw [laF_s hk]; unfold laSt; first | (rw [if_pos (by omega)]; done) | (rw [if_neg (by omega)]; done)
      rw [e3] at ih
      exact ih
    · refine v_aload_n dX12_priceOf_30 rfl ?_
      refine v_getr (ci := 12) (j := 44) (ji := 44) (z := 147) dX12_priceOf_31 k_1460 (by decide) kk_116 (by decide) rfl rfl (fun r => rt_116_44 (r rfl)) (by decide) ?_
      refine v_iload dX12_priceOf_34 rfl ?_
      refine v_iaload dX12_priceOf_36 (by decide) kk_147 (by omega) (by omega) ?_
      refine v_iload_n dX12_priceOf_37 rfl ?_
      refine v_icmp_gt (tgt := 49) dX12_priceOf_38 (by decide) (fun c38_3 => ?_) (fun c38_3 => ?_)
      · refine v_iinc_4 dX12_priceOf_49 (by decide) rfl ?_
        rw [iadd_eq (x := k) (y := 1) (by unfold ok32; omega)]
        refine v_goto (tgt := 10) dX12_priceOf_52 (by decide) ?_
        have ih := ih (by omega)
        have e3 : (laF (h 145) (h 147) (h 146) p0 p1 (h 131 p0) (k + 1)) = (laF (h 145) (h 147) (h 146) p0 p1 (h 131 p0) k) := by rw [laF_s hk]; unfold laSt; first | (rw [if_pos (by omega)]; done) | (rw [if_neg (by omega)]; done)
        rw [e3] at ih
        exact ih
      · refine v_aload_n dX12_priceOf_41 rfl ?_
        refine v_getr (ci := 12) (j := 43) (ji := 43) (z := 146) dX12_priceOf_42 k_1459 (by decide) kk_116 (by decide) rfl rfl (fun r => rt_116_43 (r rfl)) (by decide) ?_
        refine v_iload dX12_priceOf_45 rfl ?_
        refine v_iaload dX12_priceOf_47 (by decide) kk_146 (by omega) (by omega) ?_
        refine v_istore_n_3 dX12_priceOf_48 (by decide) rfl ?_
        refine v_iinc_4 dX12_priceOf_49 (by decide) rfl ?_
        rw [iadd_eq (x := k) (y := 1) (by unfold ok32; omega)]
        refine v_goto (tgt := 10) dX12_priceOf_52 (by decide) ?_
        have ih := ih (by omega)
        have e3 : (laF (h 145) (h 147) (h 146) p0 p1 (h 131 p0) (k + 1)) = (h 146 k) := by rw [laF_s hk]; unfold laSt; first | (rw [if_pos (by omega)]; done) | (rw [if_neg (by omega)]; done)
        rw [e3] at ih
        exact ih

set_option maxHeartbeats 4000000 in
set_option maxRecDepth 100000 in
theorem s_X12_priceOf {l : Launch} {G : GG} {d : Nat} {h : AH} {Q : Option AV → List Kd → AH → Prop} {p0 p1 : Int} (hd : 1 ≤ d) (b0 : 0 ≤ (h 116 48)) (bN : (h 116 48) ≤ 100) (bp : 0 ≤ p0 ∧ p0 < 100) (hq : Q (some (0, (laF (h 145) (h 147) (h 146) p0 p1 (h 131 p0) (h 116 48)))) K0 h) : Sp l G mX12_priceOf d 0 0 K0 [(2, 116), (0, p0), (0, p1)] h Q := by
  refine sp_of (L := [(2, 116), (0, p0), (0, p1), (9, 0), (9, 0)]) pl_X12 (Nat.le_of_ble_eq_true rfl) (tg_c (by decide) (tg_c (by decide) (tg_c (by decide) tg_0))) rfl ?_
  refine v_aload_n dX12_priceOf_0 rfl ?_
  refine v_getr (ci := 12) (j := 28) (ji := 28) (z := 131) dX12_priceOf_1 k_1444 (by decide) kk_116 (by decide) rfl rfl (fun r => rt_116_28 (r rfl)) (by decide) ?_
  refine v_iload_n dX12_priceOf_4 rfl ?_
  refine v_iaload dX12_priceOf_5 (by decide) kk_131 (by omega) (by omega) ?_
  refine v_istore_n_3 dX12_priceOf_6 (by decide) rfl ?_
  refine v_iconst dX12_priceOf_7 (c32 rfl) ?_
  refine v_istore_4 dX12_priceOf_8 (by decide) rfl ?_
  exact lp_X12_priceOf_10 hd b0 bN hq 0 (Int.le_refl _) b0

set_option maxHeartbeats 4000000 in
set_option maxRecDepth 100000 in
theorem s_X12_isMember {l : Launch} {G : GG} {d : Nat} {h : AH} {Q : Option AV → List Kd → AH → Prop} {p0 p1 p2 p3 : Int} (hd : 2 ≤ d) (b0 : 0 ≤ (h 116 14)) (bN : (h 116 14) ≤ 40)
    (q_1 : (iand (ishr (if (ifc (h 117) (h 119) (h 120) p1 p2 p3 (h 116 14)) = -1 then 0 else h 118 (ifc (h 117) (h 119) (h 120) p1 p2 p3 (h 116 14))) p0) 1) ≠ 1 → Q (some (0, 0)) K0 h)
    (q_2 : (iand (ishr (if (ifc (h 117) (h 119) (h 120) p1 p2 p3 (h 116 14)) = -1 then 0 else h 118 (ifc (h 117) (h 119) (h 120) p1 p2 p3 (h 116 14))) p0) 1) = 1 → Q (some (0, 1)) K0 h) : Sp l G mX12_isMember d 0 0 K0 [(2, 116), (0, p0), (0, p1), (0, p2), (0, p3)] h Q := by
  refine sp_of (L := [(2, 116), (0, p0), (0, p1), (0, p2), (0, p3)]) pl_X12 (Nat.le_of_ble_eq_true rfl) (tg_c (by decide) (tg_c (by decide) (tg_c (by decide) (tg_c (by decide) (tg_c (by decide) tg_0))))) rfl ?_
  refine v_aload_n dX12_isMember_0 rfl ?_
  refine v_iload_n dX12_isMember_1 rfl ?_
  refine v_iload_n dX12_isMember_2 rfl ?_
  refine v_iload dX12_isMember_3 rfl ?_
  refine v_callv (M' := mX12_membersOn) (d' := d - 1) (mc' := 0) (ms' := 0) (ci := 12) (c := 116) (As := [_, _, _]) dX12_isMember_5 k_1724 cm_X12_membersOn rfl (by omega) (by decide) kk_116 (Nat.le_of_ble_eq_true rfl) rfl ⟨Nat.le_refl _, Nat.le_refl _⟩ ?_
  refine s_X12_membersOn (by omega) (by omega) (by omega) ?_
  dsimp only [Option.toList, List.cons_append, List.nil_append, Nat.add_zero]
  refine v_iload_n dX12_isMember_8 rfl ?_
  refine v_ishr dX12_isMember_9 ?_
  refine v_iconst dX12_isMember_10 (c32 rfl) ?_
  refine v_iand dX12_isMember_11 ?_
  refine v_iconst dX12_isMember_12 (c32 rfl) ?_
  refine v_icmp_ne (tgt := 20) dX12_isMember_13 (by decide) (fun c13_1 => ?_) (fun c13_1 => ?_)
  · refine v_iconst dX12_isMember_20 (c32 rfl) ?_
    refine v_iretz dX12_isMember_21 rfl (by decide) (Nat.le_refl _) (Nat.le_refl _) ?_
    exact q_1 c13_1
  · refine v_iconst dX12_isMember_16 (c32 rfl) ?_
    refine v_goto (tgt := 21) dX12_isMember_17 (by decide) ?_
    refine v_iretz dX12_isMember_21 rfl (by decide) (Nat.le_refl _) (Nat.le_refl _) ?_
    exact q_2 c13_1

