/-! ===== the reference's reader: numbers, letters, sums (written by wip/whole/p18.py) ===== -/
theorem s_stop0 {l : Launch} {G : GG} {d : Nat} {h : AH} {Q : Option AV → List Kd → AH → Prop} {a dp : Int} (hd : 1 ≤ d) (hq : Q (some (0, 0)) K0 (pst h a a dp)) : Sp l G mX12_stop d 0 0 K0 [(2, 116)] (pst h a (-1) dp) Q := by
  refine s_stop hd ?_ ?_
  all_goals first | exact (fun _ => hq) | exact (fun q => absurd rfl q)

theorem s_stop1 {l : Launch} {G : GG} {d : Nat} {h : AH} {Q : Option AV → List Kd → AH → Prop} {a f dp : Int} (hd : 1 ≤ d) (hf : f ≠ -1) (hq : Q (some (0, 0)) K0 (pst h a f dp)) : Sp l G mX12_stop d 0 0 K0 [(2, 116)] (pst h a f dp) Q := by
  refine s_stop hd ?_ ?_
  all_goals first | exact (fun _ => hq) | exact (fun q => absurd q hf)

set_option maxHeartbeats 4000000 in
set_option maxRecDepth 100000 in
theorem s_goesIn {l : Launch} {G : GG} {d : Nat} {h : AH} {Q : Option AV → List Kd → AH → Prop} {t b n : Int} {u : Int → Int} {tn : Nat} {a dp : Int} (hd : 2 ≤ d) (hT : MT h t b n u tn) (h0 : 0 ≤ a) (h1 : a ≤ n) (hdp : 0 ≤ dp ∧ dp ≤ 8) (q_1 : dp ≠ 8 → Q (some (0, 1)) K0 (pst h (a + 1) (-1) (dp + 1))) (q_2 : dp = 8 → Q (some (0, 0)) K0 (pst h a a dp)) : Sp l G mX12_goesIn d 0 0 K0 [(2, 116)] (pst h a (-1) dp) Q := by
  have hT0 := hT
  obtain ⟨htt, hkt, hbn, htx, hbg, hen, hb0, hb1, hn0, hn1, hur, hu⟩ := hT
  refine sp_of (L := [(2, 116)]) pl_X12 (Nat.le_of_ble_eq_true rfl) (tg_c (by decide) tg_0) rfl ?_
  refine v_aload_n dX12_goesIn_0 rfl ?_
  refine v_getv (ci := 12) (j := 22) (ji := 22) (tg := 0) dX12_goesIn_1 k_1438 (by decide) kk_116 (by decide) rfl rfl (by decide) (pst_r22) ?_
  refine v_bipush dX12_goesIn_4 (c32 rfl) (by decide) ?_
  refine v_icmp_ne (tgt := 14) dX12_goesIn_6 (by decide) (fun c6_1 => ?_) (fun c6_1 => ?_)
  · refine v_aload_n dX12_goesIn_14 rfl ?_
    refine v_dup dX12_goesIn_15 rfl ?_
    refine v_getv (ci := 12) (j := 22) (ji := 22) (tg := 0) dX12_goesIn_16 k_1438 (by decide) kk_116 (by decide) rfl rfl (by decide) (pst_r22) ?_
    refine v_iconst dX12_goesIn_19 (c32 rfl) ?_
    refine v_iaddE dX12_goesIn_20 (by omega) ?_
    refine v_puti (ci := 12) (j := 22) (ji := 22) dX12_goesIn_21 k_1438 (by decide) kk_116 (by decide) rfl rfl rfl ?_
    rw [pst_w22]
    refine v_aload_n dX12_goesIn_24 rfl ?_
    refine v_dup dX12_goesIn_25 rfl ?_
    refine v_getv (ci := 12) (j := 20) (ji := 20) (tg := 0) dX12_goesIn_26 k_1436 (by decide) kk_116 (by decide) rfl rfl (by decide) (pst_r20) ?_
    refine v_iconst dX12_goesIn_29 (c32 rfl) ?_
    refine v_iaddE dX12_goesIn_30 (by omega) ?_
    refine v_puti (ci := 12) (j := 20) (ji := 20) dX12_goesIn_31 k_1436 (by decide) kk_116 (by decide) rfl rfl rfl ?_
    rw [pst_w20]
    refine v_iconst dX12_goesIn_34 (c32 rfl) ?_
    refine v_iretz dX12_goesIn_35 rfl (by decide) (Nat.le_refl _) (Nat.le_refl _) ?_
    exact q_1 c6_1
  · refine v_aload_n dX12_goesIn_9 rfl ?_
    refine v_callv (M' := mX12_stop) (d' := d - 1) (mc' := 0) (ms' := 0) (ci := 12) (c := 116) (As := []) dX12_goesIn_10 k_1761 cm_X12_stop rfl (by omega) (by decide) kk_116 (Nat.le_of_ble_eq_true rfl) rfl ⟨Nat.le_refl _, Nat.le_refl _⟩ ?_
    refine s_stop0 (by omega) ?_
    dsimp only [Option.toList, List.cons_append, List.nil_append, Nat.add_zero]
    refine v_iretz dX12_goesIn_13 rfl (by decide) (Nat.le_refl _) (Nat.le_refl _) ?_
    exact q_2 c6_1

set_option maxHeartbeats 4000000 in
set_option maxRecDepth 100000 in
theorem s_takes {l : Launch} {G : GG} {d : Nat} {h : AH} {Q : Option AV → List Kd → AH → Prop} {t b n : Int} {u : Int → Int} {tn : Nat} {a dp p1 : Int} (hd : 2 ≤ d) (hT : MT h t b n u tn) (h0 : 0 ≤ a) (h1 : a ≤ n) (q_1 : (pk u n a) = p1 → Q (some (0, 1)) K0 (pst h ((sk u n a) + 1) (-1) dp)) (q_2 : (pk u n a) ≠ p1 → Q (some (0, 0)) K0 (pst h (sk u n a) (sk u n a) dp)) : Sp l G mX12_takes d 0 0 K0 [(2, 116), (0, p1)] (pst h a (-1) dp) Q := by
  have hT0 := hT
  obtain ⟨htt, hkt, hbn, htx, hbg, hen, hb0, hb1, hn0, hn1, hur, hu⟩ := hT
  have hpk := @pk_rng u n a hur h0
  have hsg := @sk_ge u n a
  have hsl := @sk_le u n a h1
  refine sp_of (L := [(2, 116), (0, p1)]) pl_X12 (Nat.le_of_ble_eq_true rfl) (tg_c (by decide) (tg_c (by decide) tg_0)) rfl ?_
  refine v_aload_n dX12_takes_0 rfl ?_
  refine v_getv (ci := 12) (j := 21) (ji := 21) (tg := 0) dX12_takes_1 k_1437 (by decide) kk_116 (by decide) rfl rfl (by decide) (pst_r21) ?_
  refine v_iconst dX12_takes_4 (c32 rfl) ?_
  refine v_icmp_ne_f (tgt := 16) dX12_takes_5 (by decide) (by decide) ?_
  refine v_aload_n dX12_takes_8 rfl ?_
  refine v_callv (M' := mX12_look) (d' := d - 1) (mc' := 0) (ms' := 0) (ci := 12) (c := 116) (As := []) dX12_takes_9 k_1755 cm_X12_look rfl (by omega) (by decide) kk_116 (Nat.le_of_ble_eq_true rfl) rfl ⟨Nat.le_refl _, Nat.le_refl _⟩ ?_
  refine s_look (by omega) hT0 (by omega) (by omega) ?_
  dsimp only [Option.toList, List.cons_append, List.nil_append, Nat.add_zero]
  refine v_iload_n dX12_takes_12 rfl ?_
  refine v_icmp_eq (tgt := 21) dX12_takes_13 (by decide) (fun c13_1 => ?_) (fun c13_1 => ?_)
  · refine v_aload_n dX12_takes_21 rfl ?_
    refine v_dup dX12_takes_22 rfl ?_
    refine v_getv (ci := 12) (j := 20) (ji := 20) (tg := 0) dX12_takes_23 k_1436 (by decide) kk_116 (by decide) rfl rfl (by decide) (pst_r20) ?_
    refine v_iconst dX12_takes_26 (c32 rfl) ?_
    refine v_iaddE dX12_takes_27 (by omega) ?_
    refine v_puti (ci := 12) (j := 20) (ji := 20) dX12_takes_28 k_1436 (by decide) kk_116 (by decide) rfl rfl rfl ?_
    rw [pst_w20]
    refine v_iconst dX12_takes_31 (c32 rfl) ?_
    refine v_iretz dX12_takes_32 rfl (by decide) (Nat.le_refl _) (Nat.le_refl _) ?_
    exact q_1 c13_1
  · refine v_aload_n dX12_takes_16 rfl ?_
    refine v_callv (M' := mX12_stop) (d' := d - 1) (mc' := 0) (ms' := 0) (ci := 12) (c := 116) (As := []) dX12_takes_17 k_1761 cm_X12_stop rfl (by omega) (by decide) kk_116 (Nat.le_of_ble_eq_true rfl) rfl ⟨Nat.le_refl _, Nat.le_refl _⟩ ?_
    refine s_stop0 (by omega) ?_
    dsimp only [Option.toList, List.cons_append, List.nil_append, Nat.add_zero]
    refine v_iretz dX12_takes_20 rfl (by decide) (Nat.le_refl _) (Nat.le_refl _) ?_
    exact q_2 c13_1

set_option maxHeartbeats 4000000 in
set_option maxRecDepth 100000 in
theorem s_takes1 {l : Launch} {G : GG} {d : Nat} {h : AH} {Q : Option AV → List Kd → AH → Prop} {a f dp p1 : Int} (hd : 2 ≤ d) (hf : f ≠ -1) (q_1 : Q (some (0, 0)) K0 (pst h a f dp)) : Sp l G mX12_takes d 0 0 K0 [(2, 116), (0, p1)] (pst h a f dp) Q := by
  refine sp_of (L := [(2, 116), (0, p1)]) pl_X12 (Nat.le_of_ble_eq_true rfl) (tg_c (by decide) (tg_c (by decide) tg_0)) rfl ?_
  refine v_aload_n dX12_takes_0 rfl ?_
  refine v_getv (ci := 12) (j := 21) (ji := 21) (tg := 0) dX12_takes_1 k_1437 (by decide) kk_116 (by decide) rfl rfl (by decide) (pst_r21) ?_
  refine v_iconst dX12_takes_4 (c32 rfl) ?_
  refine v_icmp_ne_t (tgt := 16) dX12_takes_5 (by decide) (by omega) ?_
  refine v_aload_n dX12_takes_16 rfl ?_
  refine v_callv (M' := mX12_stop) (d' := d - 1) (mc' := 0) (ms' := 0) (ci := 12) (c := 116) (As := []) dX12_takes_17 k_1761 cm_X12_stop rfl (by omega) (by decide) kk_116 (Nat.le_of_ble_eq_true rfl) rfl ⟨Nat.le_refl _, Nat.le_refl _⟩ ?_
  refine s_stop1 (by omega) (by omega) ?_
  dsimp only [Option.toList, List.cons_append, List.nil_append, Nat.add_zero]
  refine v_iretz dX12_takes_20 rfl (by decide) (Nat.le_refl _) (Nat.le_refl _) ?_
  exact q_1 

theorem s_bd {l : Launch} {G : GG} {d : Nat} {h : AH} {Q : Option AV → List Kd → AH → Prop} {p0 : Int} (hd : 1 ≤ d) (hq : Q (some (0, bd p0)) K0 h) : Sp l G mX12_bound d 0 0 K0 [(1, p0)] h Q := s_X12_bound hd (by rw [l2i_bd]; exact hq)

set_option maxHeartbeats 4000000 in
set_option maxRecDepth 100000 in
theorem lp_num {l : Launch} {G : GG} {d : Nat} {h : AH} {Q : Option AV → List Kd → AH → Prop} {t b n : Int} {u : Int → Int} {tn : Nat} {dp c : Int} (hd : 5 ≤ d) (hT : MT h t b n u tn) : ∀ {m : Nat} {g v a : Int}, g = 5 - m → m ≤ 5 → 0 ≤ a → a ≤ n → 0 ≤ v → v ≤ nB m →
    ((numF u n m v a).2 < n ∧ 48 ≤ u (numF u n m v a).2 ∧ u (numF u n m v a).2 ≤ 57 → Q (some (0, 0)) K0 (pst h (numF u n m v a).2 (numF u n m v a).2 dp)) →
    (¬ ((numF u n m v a).2 < n ∧ 48 ≤ u (numF u n m v a).2 ∧ u (numF u n m v a).2 ≤ 57) → Q (some (0, (numF u n m v a).1)) K0 (pst h (numF u n m v a).2 (-1) dp)) →
    V l G mX12_atom d 0 0 0 0 K0 96 [(2, 116), (0, c), (0, v), (0, g)] [] (pst h a (-1) dp) Q := by
  have hT0 := hT
  obtain ⟨htt, hkt, hbn, htx, hbg, hen, hb0, hb1, hn0, hn1, hur, hu⟩ := hT
  intro m
  induction m with
  | zero =>
    intro g v a hg hm h0 h1 hv0 hv1 hf hs
    refine v_aload_n dX12_atom_96 rfl ?_
    refine v_callv (M' := mX12_isDigit) (d' := d - 1) (mc' := 0) (ms' := 0) (ci := 12) (c := 116) (As := []) dX12_atom_97 k_1798 cm_X12_isDigit rfl (by omega) (by decide) kk_116 (Nat.le_of_ble_eq_true rfl) rfl ⟨Nat.le_refl _, Nat.le_refl _⟩ ?_
    refine s_isDigit (by omega) hT0 (by omega) (by omega) (fun c97_1 => ?_) (fun c97_2 c97_3 => ?_) (fun c97_4 c97_5 c97_6 => ?_) (fun c97_7 c97_8 c97_9 => ?_)
    · dsimp only [Option.toList, List.cons_append, List.nil_append, Nat.add_zero]
      refine v_if_eq_t (tgt := 162) dX12_atom_100 (by decide) (by decide) ?_
      refine v_iload_n dX12_atom_162 rfl ?_
      refine v_ireti dX12_atom_163 rfl (Nat.le_refl _) (Nat.le_refl _) ?_
      have hs8 := @s8_c (u a)
      have hnd : ¬ (a < n ∧ 48 ≤ u a ∧ u a ≤ 57) := by omega
      rw [show numF u n 0 v a = (v, a) from rfl] at hs
      exact hs hnd
    · dsimp only [Option.toList, List.cons_append, List.nil_append, Nat.add_zero]
      refine v_if_eq_t (tgt := 162) dX12_atom_100 (by decide) (by decide) ?_
      refine v_iload_n dX12_atom_162 rfl ?_
      refine v_ireti dX12_atom_163 rfl (Nat.le_refl _) (Nat.le_refl _) ?_
      have hs8 := @s8_c (u a)
      have hnd : ¬ (a < n ∧ 48 ≤ u a ∧ u a ≤ 57) := by omega
      rw [show numF u n 0 v a = (v, a) from rfl] at hs
      exact hs hnd
    · dsimp only [Option.toList, List.cons_append, List.nil_append, Nat.add_zero]
      refine v_if_eq_t (tgt := 162) dX12_atom_100 (by decide) (by decide) ?_
      refine v_iload_n dX12_atom_162 rfl ?_
      refine v_ireti dX12_atom_163 rfl (Nat.le_refl _) (Nat.le_refl _) ?_
      have hs8 := @s8_c (u a)
      have hnd : ¬ (a < n ∧ 48 ≤ u a ∧ u a ≤ 57) := by omega
      rw [show numF u n 0 v a = (v, a) from rfl] at hs
      exact hs hnd
    · dsimp only [Option.toList, List.cons_append, List.nil_append, Nat.add_zero]
      refine v_if_eq_f (tgt := 162) dX12_atom_100 (by decide) (by decide) ?_
      refine v_aload_n dX12_atom_103 rfl ?_
      refine v_getv (ci := 12) (j := 21) (ji := 21) (tg := 0) dX12_atom_104 k_1437 (by decide) kk_116 (by decide) rfl rfl (by decide) (pst_r21) ?_
      refine v_iconst dX12_atom_107 (c32 rfl) ?_
      refine v_icmp_ne_f (tgt := 162) dX12_atom_108 (by decide) (by decide) ?_
      refine v_iload_n dX12_atom_111 rfl ?_
      refine v_iconst dX12_atom_112 (c32 rfl) ?_
      refine v_icmp_ne_f (tgt := 123) dX12_atom_113 (by decide) (by omega) ?_
      refine v_aload_n dX12_atom_116 rfl ?_
      refine v_callv (M' := mX12_stop) (d' := d - 1) (mc' := 0) (ms' := 0) (ci := 12) (c := 116) (As := []) dX12_atom_117 k_1761 cm_X12_stop rfl (by omega) (by decide) kk_116 (Nat.le_of_ble_eq_true rfl) rfl ⟨Nat.le_refl _, Nat.le_refl _⟩ ?_
      refine s_stop0 (by omega) ?_
      dsimp only [Option.toList, List.cons_append, List.nil_append, Nat.add_zero]
      refine v_pop dX12_atom_120 rfl ?_
      refine v_iconst dX12_atom_121 (c32 rfl) ?_
      refine v_ireti dX12_atom_122 rfl (Nat.le_refl _) (Nat.le_refl _) ?_
      have hs8 := @s8_c (u a)
      have hr := hur a (by omega) (by omega)
      exact hf (show a < n ∧ 48 ≤ u a ∧ u a ≤ 57 from ⟨by omega, by omega, by omega⟩)
  | succ m ih =>
    intro g v a hg hm h0 h1 hv0 hv1 hf hs
    refine v_aload_n dX12_atom_96 rfl ?_
    refine v_callv (M' := mX12_isDigit) (d' := d - 1) (mc' := 0) (ms' := 0) (ci := 12) (c := 116) (As := []) dX12_atom_97 k_1798 cm_X12_isDigit rfl (by omega) (by decide) kk_116 (Nat.le_of_ble_eq_true rfl) rfl ⟨Nat.le_refl _, Nat.le_refl _⟩ ?_
    refine s_isDigit (by omega) hT0 (by omega) (by omega) (fun c97_1 => ?_) (fun c97_2 c97_3 => ?_) (fun c97_4 c97_5 c97_6 => ?_) (fun c97_7 c97_8 c97_9 => ?_)
    · dsimp only [Option.toList, List.cons_append, List.nil_append, Nat.add_zero]
      refine v_if_eq_t (tgt := 162) dX12_atom_100 (by decide) (by decide) ?_
      refine v_iload_n dX12_atom_162 rfl ?_
      refine v_ireti dX12_atom_163 rfl (Nat.le_refl _) (Nat.le_refl _) ?_
      have hs8 := @s8_c (u a)
      have hnd : ¬ (a < n ∧ 48 ≤ u a ∧ u a ≤ 57) := by omega
      have en : numF u n (m + 1) v a = (v, a) := by rw [numF, if_neg hnd]
      rw [en] at hs
      exact hs hnd
    · dsimp only [Option.toList, List.cons_append, List.nil_append, Nat.add_zero]
      refine v_if_eq_t (tgt := 162) dX12_atom_100 (by decide) (by decide) ?_
      refine v_iload_n dX12_atom_162 rfl ?_
      refine v_ireti dX12_atom_163 rfl (Nat.le_refl _) (Nat.le_refl _) ?_
      have hs8 := @s8_c (u a)
      have hnd : ¬ (a < n ∧ 48 ≤ u a ∧ u a ≤ 57) := by omega
      have en : numF u n (m + 1) v a = (v, a) := by rw [numF, if_neg hnd]
      rw [en] at hs
      exact hs hnd
    · dsimp only [Option.toList, List.cons_append, List.nil_append, Nat.add_zero]
      refine v_if_eq_t (tgt := 162) dX12_atom_100 (by decide) (by decide) ?_
      refine v_iload_n dX12_atom_162 rfl ?_
      refine v_ireti dX12_atom_163 rfl (Nat.le_refl _) (Nat.le_refl _) ?_
      have hs8 := @s8_c (u a)
      have hnd : ¬ (a < n ∧ 48 ≤ u a ∧ u a ≤ 57) := by omega
      have en : numF u n (m + 1) v a = (v, a) := by rw [numF, if_neg hnd]
      rw [en] at hs
      exact hs hnd
    · dsimp only [Option.toList, List.cons_append, List.nil_append, Nat.add_zero]
      refine v_if_eq_f (tgt := 162) dX12_atom_100 (by decide) (by decide) ?_
      refine v_aload_n dX12_atom_103 rfl ?_
      refine v_getv (ci := 12) (j := 21) (ji := 21) (tg := 0) dX12_atom_104 k_1437 (by decide) kk_116 (by decide) rfl rfl (by decide) (pst_r21) ?_
      refine v_iconst dX12_atom_107 (c32 rfl) ?_
      refine v_icmp_ne_f (tgt := 162) dX12_atom_108 (by decide) (by decide) ?_
      have hs8q := @s8_c (u a)
      have hrq := hur a (by omega) (by omega)
      have hBq := @nB_le m
      have hBs := @nB_s m (by omega)
      refine v_iload_n dX12_atom_111 rfl ?_
      refine v_iconst dX12_atom_112 (c32 rfl) ?_
      refine v_icmp_ne_t (tgt := 123) dX12_atom_113 (by decide) (by omega) ?_
      refine v_bipush dX12_atom_123 (c32 rfl) (by decide) ?_
      refine v_iload_n dX12_atom_125 rfl ?_
      refine v_imulE dX12_atom_126 (by omega) ?_
      refine v_aload_n dX12_atom_127 rfl ?_
      refine v_getr (ci := 12) (j := 17) (ji := 17) (z := t) dX12_atom_128 k_1433 (by decide) kk_116 (by decide) rfl rfl (fun _ => ((pst_j (by decide)).trans (htx))) (by omega) ?_
      refine v_aload_n dX12_atom_131 rfl ?_
      refine v_getv (ci := 12) (j := 18) (ji := 18) (tg := 0) dX12_atom_132 k_1434 (by decide) kk_116 (by decide) rfl rfl (by decide) ((pst_j (by decide)).trans (hbg)) ?_
      refine v_aload_n dX12_atom_135 rfl ?_
      refine v_getv (ci := 12) (j := 20) (ji := 20) (tg := 0) dX12_atom_136 k_1436 (by decide) kk_116 (by decide) rfl rfl (by decide) (pst_r20) ?_
      refine v_iaddE dX12_atom_139 (by omega) ?_
      refine v_baloadv dX12_atom_140 (by omega) hkt (by omega) (by omega) ((pst_c (by omega)).trans (hu a (by omega) (by omega))) ?_
      refine v_iaddE dX12_atom_141 (by omega) ?_
      refine v_bipush dX12_atom_142 (c32 rfl) (by decide) ?_
      refine v_isubE dX12_atom_144 (by omega) ?_
      refine v_istore_n_2 dX12_atom_145 (by decide) rfl ?_
      refine v_aload_n dX12_atom_146 rfl ?_
      refine v_dup dX12_atom_147 rfl ?_
      refine v_getv (ci := 12) (j := 20) (ji := 20) (tg := 0) dX12_atom_148 k_1436 (by decide) kk_116 (by decide) rfl rfl (by decide) (pst_r20) ?_
      refine v_iconst dX12_atom_151 (c32 rfl) ?_
      refine v_iaddE dX12_atom_152 (by omega) ?_
      refine v_puti (ci := 12) (j := 20) (ji := 20) dX12_atom_153 k_1436 (by decide) kk_116 (by decide) rfl rfl rfl ?_
      rw [pst_w20]
      refine v_iinc_3 dX12_atom_156 (by decide) rfl ?_
      rw [iadd_eq (x := g) (y := 1) (by unfold ok32; omega)]
      refine v_goto (tgt := 96) dX12_atom_159 (by decide) ?_
      have hs8 := @s8_c (u a)
      have hr := hur a (by omega) (by omega)
      have hB := @nB_s m (by omega)
      have en : numF u n (m + 1) v a = numF u n m (v * 10 + u a - 48) (a + 1) := by rw [numF, if_pos ⟨by omega, by omega, by omega⟩]
      rw [en] at hf hs
      rw [show (((10 * v) + (s8 (u a))) - 48) = v * 10 + u a - 48 by omega]
      exact ih (by omega) (by omega) (by omega) (by omega) (by omega) (by omega) hf hs

set_option maxHeartbeats 4000000 in
set_option maxRecDepth 100000 in
theorem lp_nond {l : Launch} {G : GG} {d : Nat} {h : AH} {Q : Option AV → List Kd → AH → Prop} {t b n : Int} {u : Int → Int} {tn : Nat} {a f dp c v g : Int} (hd : 5 ≤ d) (hT : MT h t b n u tn) (h0 : 0 ≤ a) (h1 : a ≤ n) (hnd : ¬ (a < n ∧ 48 ≤ u a ∧ u a ≤ 57)) (hq : Q (some (0, v)) K0 (pst h a f dp)) : V l G mX12_atom d 0 0 0 0 K0 96 [(2, 116), (0, c), (0, v), (0, g)] [] (pst h a f dp) Q := by
  have hT0 := hT
  obtain ⟨htt, hkt, hbn, htx, hbg, hen, hb0, hb1, hn0, hn1, hur, hu⟩ := hT
  refine v_aload_n dX12_atom_96 rfl ?_
  refine v_callv (M' := mX12_isDigit) (d' := d - 1) (mc' := 0) (ms' := 0) (ci := 12) (c := 116) (As := []) dX12_atom_97 k_1798 cm_X12_isDigit rfl (by omega) (by decide) kk_116 (Nat.le_of_ble_eq_true rfl) rfl ⟨Nat.le_refl _, Nat.le_refl _⟩ ?_
  refine s_isDigit (by omega) hT0 (by omega) (by omega) (fun c97_1 => ?_) (fun c97_2 c97_3 => ?_) (fun c97_4 c97_5 c97_6 => ?_) (fun c97_7 c97_8 c97_9 => ?_)
  · dsimp only [Option.toList, List.cons_append, List.nil_append, Nat.add_zero]
    refine v_if_eq_t (tgt := 162) dX12_atom_100 (by decide) (by decide) ?_
    refine v_iload_n dX12_atom_162 rfl ?_
    refine v_ireti dX12_atom_163 rfl (Nat.le_refl _) (Nat.le_refl _) ?_
    exact hq
  · dsimp only [Option.toList, List.cons_append, List.nil_append, Nat.add_zero]
    refine v_if_eq_t (tgt := 162) dX12_atom_100 (by decide) (by decide) ?_
    refine v_iload_n dX12_atom_162 rfl ?_
    refine v_ireti dX12_atom_163 rfl (Nat.le_refl _) (Nat.le_refl _) ?_
    exact hq
  · dsimp only [Option.toList, List.cons_append, List.nil_append, Nat.add_zero]
    refine v_if_eq_t (tgt := 162) dX12_atom_100 (by decide) (by decide) ?_
    refine v_iload_n dX12_atom_162 rfl ?_
    refine v_ireti dX12_atom_163 rfl (Nat.le_refl _) (Nat.le_refl _) ?_
    exact hq
  · dsimp only [Option.toList, List.cons_append, List.nil_append, Nat.add_zero]
    refine v_if_eq_f (tgt := 162) dX12_atom_100 (by decide) (by decide) ?_
    exact absurd hnd (by have := @s8_c (u a); have := hur a (by omega) (by omega); omega)

theorem numF_rng {u : Int → Int} {n : Int} : ∀ {m : Nat} {v a : Int}, a ≤ n → a ≤ (numF u n m v a).2 ∧ (numF u n m v a).2 ≤ n := by
  intro m
  induction m with
  | zero => intro v a h; exact ⟨Int.le_refl _, h⟩
  | succ m ih =>
    intro v a h
    rw [numF]
    split
    · have q := @ih (v * 10 + u a - 48) (a + 1) (by omega)
      exact ⟨by omega, q.2⟩
    · exact ⟨Int.le_refl _, h⟩
theorem numF_gt {u : Int → Int} {n : Int} {m : Nat} {v a : Int} (h : a < n) (h2 : 48 ≤ u a ∧ u a ≤ 57) : a < (numF u n (m + 1) v a).2 := by
  rw [numF, if_pos ⟨h, h2⟩]
  have q := @numF_rng u n m (v * 10 + u a - 48) (a + 1) (by omega)
  omega
theorem numF_val {u : Int → Int} {n : Int} : ∀ {m : Nat} {v a : Int}, m ≤ 5 → 0 ≤ v → v ≤ nB m → 0 ≤ (numF u n m v a).1 ∧ (numF u n m v a).1 ≤ 99999 := by
  intro m
  induction m with
  | zero => intro v a _ h h2; exact ⟨h, by have := @nB_le 0; exact Int.le_trans h2 this⟩
  | succ m ih =>
    intro v a hm h h2
    rw [numF]
    split
    · have q := @nB_s m (by omega)
      exact ih (by omega) (by omega) (by omega)
    · exact ⟨h, by have := @nB_le (m + 1); exact Int.le_trans h2 this⟩

set_option maxHeartbeats 4000000 in
set_option maxRecDepth 100000 in
theorem r_atom {l : Launch} {G : GG} {h : AH} {t b n : Int} {u : Int → Int} {tn : Nat} {dp : Int} {D : Nat} (hD : dp + D = 8) (hdp : 0 ≤ dp) (hT : MT h t b n u tn) (hL : LTB h) (hs : ∀ D', D = D' + 1 → RdS l G h u n (dp + 1) (7 + 3 * D') (3 + 2 * D') mX12_sum (sumL u n D')) : RdS l G h u n dp (5 + 3 * D) (1 + 2 * D) mX12_atom (pAtom u n (nestL u n D)) := by
  intro d a Q hd h0 h1 hf hsu
  have hT0 := hT
  obtain ⟨htt, hkt, hbn, htx, hbg, hen, hb0, hb1, hn0, hn1, hur, hu⟩ := hT
  have hpk := @pk_rng u n a hur h0
  have hsg := @sk_ge u n a
  have hsl := @sk_le u n a h1
  have hx := @ix2_cases (pk u n a)
  have hd5 : 5 ≤ d := by omega
  refine sp_of (L := [(2, 116), (9, 0), (9, 0), (9, 0)]) pl_X12 (Nat.le_of_ble_eq_true rfl) (tg_c (by decide) tg_0) rfl ?_
  refine v_aload_n dX12_atom_0 rfl ?_
  refine v_callv (M' := mX12_look) (d' := d - 1) (mc' := 0) (ms' := 0) (ci := 12) (c := 116) (As := []) dX12_atom_1 k_1755 cm_X12_look rfl (by omega) (by decide) kk_116 (Nat.le_of_ble_eq_true rfl) rfl ⟨Nat.le_refl _, Nat.le_refl _⟩ ?_
  refine s_look (by omega) hT0 (by omega) (by omega) ?_
  dsimp only [Option.toList, List.cons_append, List.nil_append, Nat.add_zero]
  refine v_istore_n_1 dX12_atom_4 (by decide) rfl ?_
  refine v_iload_n dX12_atom_5 rfl ?_
  refine v_iconst dX12_atom_6 (c32 rfl) ?_
  refine v_icmp_eq (tgt := 37) dX12_atom_7 (by decide) (fun c7_1 => ?_) (fun c7_1 => ?_)
  · refine v_iload_n dX12_atom_37 rfl ?_
    refine v_bipush dX12_atom_38 (c32 rfl) (by decide) ?_
    refine v_icmp_ne (tgt := 80) dX12_atom_40 (by decide) (fun c40_2 => ?_) (fun c40_2 => ?_)
    · refine v_aload_n dX12_atom_80 rfl ?_
      refine v_callv (M' := mX12_isDigit) (d' := d - 1) (mc' := 0) (ms' := 0) (ci := 12) (c := 116) (As := []) dX12_atom_81 k_1798 cm_X12_isDigit rfl (by omega) (by decide) kk_116 (Nat.le_of_ble_eq_true rfl) rfl ⟨Nat.le_refl _, Nat.le_refl _⟩ ?_
      refine s_isDigit (by omega) hT0 (by omega) (by omega) (fun c81_3 => ?_) (fun c81_4 c81_5 => ?_) (fun c81_6 c81_7 c81_8 => ?_) (fun c81_9 c81_10 c81_11 => ?_)
      · dsimp only [Option.toList, List.cons_append, List.nil_append, Nat.add_zero]
        refine v_if_ne_f (tgt := 92) dX12_atom_84 (by decide) (by decide) ?_
        refine v_aload_n dX12_atom_87 rfl ?_
        refine v_callv (M' := mX12_stop) (d' := d - 1) (mc' := 0) (ms' := 0) (ci := 12) (c := 116) (As := []) dX12_atom_88 k_1761 cm_X12_stop rfl (by omega) (by decide) kk_116 (Nat.le_of_ble_eq_true rfl) rfl ⟨Nat.le_refl _, Nat.le_refl _⟩ ?_
        refine s_stop0 (by omega) ?_
        dsimp only [Option.toList, List.cons_append, List.nil_append, Nat.add_zero]
        refine v_pop dX12_atom_91 rfl ?_
        refine v_iconst dX12_atom_92 (c32 rfl) ?_
        refine v_istore_n_2 dX12_atom_93 (by decide) rfl ?_
        refine v_iconst dX12_atom_94 (c32 rfl) ?_
        refine v_istore_n_3 dX12_atom_95 (by decide) rfl ?_
        have hs8 := @s8_c (u (sk u n a))
        have hndg : ¬ (48 ≤ pk u n a ∧ pk u n a ≤ 57) := by omega
        refine lp_nond hd5 hT0 (by omega) (by omega) (by omega) ?_
        exact hf _ _ _ _ (pAtom_bad hndg (by omega) c40_2) (by omega) (by omega) (by omega)
      · dsimp only [Option.toList, List.cons_append, List.nil_append, Nat.add_zero]
        refine v_if_ne_f (tgt := 92) dX12_atom_84 (by decide) (by decide) ?_
        refine v_aload_n dX12_atom_87 rfl ?_
        refine v_callv (M' := mX12_stop) (d' := d - 1) (mc' := 0) (ms' := 0) (ci := 12) (c := 116) (As := []) dX12_atom_88 k_1761 cm_X12_stop rfl (by omega) (by decide) kk_116 (Nat.le_of_ble_eq_true rfl) rfl ⟨Nat.le_refl _, Nat.le_refl _⟩ ?_
        refine s_stop0 (by omega) ?_
        dsimp only [Option.toList, List.cons_append, List.nil_append, Nat.add_zero]
        refine v_pop dX12_atom_91 rfl ?_
        refine v_iconst dX12_atom_92 (c32 rfl) ?_
        refine v_istore_n_2 dX12_atom_93 (by decide) rfl ?_
        refine v_iconst dX12_atom_94 (c32 rfl) ?_
        refine v_istore_n_3 dX12_atom_95 (by decide) rfl ?_
        have hs8 := @s8_c (u (sk u n a))
        have hndg : ¬ (48 ≤ pk u n a ∧ pk u n a ≤ 57) := by omega
        refine lp_nond hd5 hT0 (by omega) (by omega) (by omega) ?_
        exact hf _ _ _ _ (pAtom_bad hndg (by omega) c40_2) (by omega) (by omega) (by omega)
      · dsimp only [Option.toList, List.cons_append, List.nil_append, Nat.add_zero]
        refine v_if_ne_f (tgt := 92) dX12_atom_84 (by decide) (by decide) ?_
        refine v_aload_n dX12_atom_87 rfl ?_
        refine v_callv (M' := mX12_stop) (d' := d - 1) (mc' := 0) (ms' := 0) (ci := 12) (c := 116) (As := []) dX12_atom_88 k_1761 cm_X12_stop rfl (by omega) (by decide) kk_116 (Nat.le_of_ble_eq_true rfl) rfl ⟨Nat.le_refl _, Nat.le_refl _⟩ ?_
        refine s_stop0 (by omega) ?_
        dsimp only [Option.toList, List.cons_append, List.nil_append, Nat.add_zero]
        refine v_pop dX12_atom_91 rfl ?_
        refine v_iconst dX12_atom_92 (c32 rfl) ?_
        refine v_istore_n_2 dX12_atom_93 (by decide) rfl ?_
        refine v_iconst dX12_atom_94 (c32 rfl) ?_
        refine v_istore_n_3 dX12_atom_95 (by decide) rfl ?_
        have hs8 := @s8_c (u (sk u n a))
        have hndg : ¬ (48 ≤ pk u n a ∧ pk u n a ≤ 57) := by omega
        refine lp_nond hd5 hT0 (by omega) (by omega) (by omega) ?_
        exact hf _ _ _ _ (pAtom_bad hndg (by omega) c40_2) (by omega) (by omega) (by omega)
      · dsimp only [Option.toList, List.cons_append, List.nil_append, Nat.add_zero]
        refine v_if_ne_t (tgt := 92) dX12_atom_84 (by decide) (by decide) ?_
        refine v_iconst dX12_atom_92 (c32 rfl) ?_
        refine v_istore_n_2 dX12_atom_93 (by decide) rfl ?_
        refine v_iconst dX12_atom_94 (c32 rfl) ?_
        refine v_istore_n_3 dX12_atom_95 (by decide) rfl ?_
        have hs8 := @s8_c (u (sk u n a))
        have hdg : 48 ≤ pk u n a ∧ pk u n a ≤ 57 := by omega
        have hr5 := @numF_rng u n 5 0 (sk u n a) (by omega)
        have hv5 := @numF_val u n 5 0 (sk u n a) (by omega) (by decide) (by decide)
        have hg5 : sk u n a < (numF u n 5 0 (sk u n a)).2 := numF_gt (m := 4) (by omega) (by omega)
        refine lp_num hd5 hT0 (m := 5) (by omega) (by omega) (by omega) (by omega) (by omega) (by decide) (fun q => ?_) (fun q => ?_)
        · exact hf _ _ _ _ (by rw [pAtom_num hdg]; unfold pNum; rw [if_pos q]) (by omega) (by omega) (by omega)
        · exact hsu _ _ _ (by rw [pAtom_num hdg]; unfold pNum; rw [if_neg q]) (by omega) (by omega) ((VH_num hv5.1 (by omega)).mono (by omega)) (by omega) (by omega)
    · refine v_aload_n dX12_atom_43 rfl ?_
      refine v_callv (M' := mX12_goesIn) (d' := d - 1) (mc' := 0) (ms' := 0) (ci := 12) (c := 116) (As := []) dX12_atom_44 k_1794 cm_X12_goesIn rfl (by omega) (by decide) kk_116 (Nat.le_of_ble_eq_true rfl) rfl ⟨Nat.le_refl _, Nat.le_refl _⟩ ?_
      refine s_goesIn (by omega) hT0 (by omega) (by omega) (by omega) (fun c44_12 => ?_) (fun c44_13 => ?_)
      · dsimp only [Option.toList, List.cons_append, List.nil_append, Nat.add_zero]
        refine v_if_ne_t (tgt := 52) dX12_atom_47 (by decide) (by decide) ?_
        obtain ⟨D', rfl⟩ : ∃ D', D = D' + 1 := ⟨D - 1, by omega⟩
        have hsum := hs D' rfl
        refine v_aload_n dX12_atom_52 rfl ?_
        refine v_callv (M' := mX12_sum) (d' := d - 1) (mc' := 0) (ms' := 0) (ci := 12) (c := 116) (As := []) dX12_atom_53 k_1781 cm_X12_sum rfl (by omega) (by decide) kk_116 (Nat.le_of_ble_eq_true rfl) rfl ⟨Nat.le_refl _, Nat.le_refl _⟩ ?_
        refine hsum (by omega) (by omega) (by omega) (fun xe_17 xv_17 xa_17 xd_17 c53_14 c53_15 c53_16 c53_17 => ?_) (fun xa_23 xk_23 xv_23 c53_18 c53_19 c53_20 c53_21 c53_22 c53_23 => ?_)
        · dsimp only [Option.toList, List.cons_append, List.nil_append, Nat.add_zero]
          refine v_istore_n_2 dX12_atom_56 (by decide) rfl ?_
          refine v_aload_n dX12_atom_57 rfl ?_
          refine v_bipush dX12_atom_58 (c32 rfl) (by decide) ?_
          refine v_callv (M' := mX12_takes) (d' := d - 1) (mc' := 0) (ms' := 0) (ci := 12) (c := 116) (As := [_]) dX12_atom_60 k_1765 cm_X12_takes rfl (by omega) (by decide) kk_116 (Nat.le_of_ble_eq_true rfl) rfl ⟨Nat.le_refl _, Nat.le_refl _⟩ ?_
          refine s_takes1 (by omega) (by omega) ?_
          dsimp only [Option.toList, List.cons_append, List.nil_append, Nat.add_zero]
          refine v_if_ne_f (tgt := 68) dX12_atom_63 (by decide) (by decide) ?_
          refine v_iconst dX12_atom_66 (c32 rfl) ?_
          refine v_ireti dX12_atom_67 rfl (Nat.le_refl _) (Nat.le_refl _) ?_
          exact hf _ _ _ _ (pAtom_nf c40_2 c53_14) (by omega) (by omega) (by omega)
        · dsimp only [Option.toList, List.cons_append, List.nil_append, Nat.add_zero]
          refine v_istore_n_2 dX12_atom_56 (by decide) rfl ?_
          refine v_aload_n dX12_atom_57 rfl ?_
          refine v_bipush dX12_atom_58 (c32 rfl) (by decide) ?_
          refine v_callv (M' := mX12_takes) (d' := d - 1) (mc' := 0) (ms' := 0) (ci := 12) (c := 116) (As := [_]) dX12_atom_60 k_1765 cm_X12_takes rfl (by omega) (by decide) kk_116 (Nat.le_of_ble_eq_true rfl) rfl ⟨Nat.le_refl _, Nat.le_refl _⟩ ?_
          refine s_takes (by omega) hT0 (by omega) (by omega) (fun c60_24 => ?_) (fun c60_25 => ?_)
          · dsimp only [Option.toList, List.cons_append, List.nil_append, Nat.add_zero]
            refine v_if_ne_t (tgt := 68) dX12_atom_63 (by decide) (by decide) ?_
            refine v_aload_n dX12_atom_68 rfl ?_
            refine v_dup dX12_atom_69 rfl ?_
            refine v_getv (ci := 12) (j := 22) (ji := 22) (tg := 0) dX12_atom_70 k_1438 (by decide) kk_116 (by decide) rfl rfl (by decide) (pst_r22) ?_
            refine v_iconst dX12_atom_73 (c32 rfl) ?_
            refine v_isubE dX12_atom_74 (by omega) ?_
            refine v_puti (ci := 12) (j := 22) (ji := 22) dX12_atom_75 k_1438 (by decide) kk_116 (by decide) rfl rfl rfl ?_
            rw [pst_w22]
            refine v_iload_n dX12_atom_78 rfl ?_
            refine v_ireti dX12_atom_79 rfl (Nat.le_refl _) (Nat.le_refl _) ?_
            rw [show dp + 1 - 1 = dp by omega]
            exact hsu _ _ _ (pAtom_ns c40_2 c53_18 c60_24) (by have := @sk_ge u n xa_23; omega) (by have := @pk_rng u n xa_23 hur (by omega); omega) (c53_21.mono (by omega)) (by omega) (by omega)
          · dsimp only [Option.toList, List.cons_append, List.nil_append, Nat.add_zero]
            refine v_if_ne_f (tgt := 68) dX12_atom_63 (by decide) (by decide) ?_
            refine v_iconst dX12_atom_66 (c32 rfl) ?_
            refine v_ireti dX12_atom_67 rfl (Nat.le_refl _) (Nat.le_refl _) ?_
            exact hf _ _ _ _ (pAtom_nc c40_2 c53_18 c60_25) (by have := @sk_ge u n xa_23; omega) (by omega) (by omega)
      · dsimp only [Option.toList, List.cons_append, List.nil_append, Nat.add_zero]
        refine v_if_ne_f (tgt := 52) dX12_atom_47 (by decide) (by decide) ?_
        refine v_iconst dX12_atom_50 (c32 rfl) ?_
        refine v_ireti dX12_atom_51 rfl (Nat.le_refl _) (Nat.le_refl _) ?_
        obtain rfl : D = 0 := by omega
        exact hf _ _ _ _ (pAtom_none c40_2) (by omega) (by omega) (by omega)
  · refine v_ldcwS (i := 2) dX12_atom_10 (fun _ q => q.2.2.2.2.2.1) ?_
    refine v_iload_n dX12_atom_13 rfl ?_
    refine v_callvS (M' := mJ0_indexOf_0f7a4) (d' := d - 1) (i := 2) (As := [_]) dX12_atom_14 k_1760 cm_J0_indexOf_0f7a4 rfl (by omega) (by decide) (Nat.le_of_ble_eq_true rfl) rfl ⟨Nat.le_refl _, Nat.le_refl _⟩ ?_
    refine s_indexOf_2 (by omega) ?_
    dsimp only [Option.toList, List.cons_append, List.nil_append, Nat.add_zero]
    refine v_if_lt (tgt := 37) dX12_atom_17 (by decide) (fun c17_26 => ?_) (fun c17_26 => ?_)
    · refine v_iload_n dX12_atom_37 rfl ?_
      refine v_bipush dX12_atom_38 (c32 rfl) (by decide) ?_
      refine v_icmp_ne (tgt := 80) dX12_atom_40 (by decide) (fun c40_27 => ?_) (fun c40_27 => ?_)
      · refine v_aload_n dX12_atom_80 rfl ?_
        refine v_callv (M' := mX12_isDigit) (d' := d - 1) (mc' := 0) (ms' := 0) (ci := 12) (c := 116) (As := []) dX12_atom_81 k_1798 cm_X12_isDigit rfl (by omega) (by decide) kk_116 (Nat.le_of_ble_eq_true rfl) rfl ⟨Nat.le_refl _, Nat.le_refl _⟩ ?_
        refine s_isDigit (by omega) hT0 (by omega) (by omega) (fun c81_28 => ?_) (fun c81_29 c81_30 => ?_) (fun c81_31 c81_32 c81_33 => ?_) (fun c81_34 c81_35 c81_36 => ?_)
        · dsimp only [Option.toList, List.cons_append, List.nil_append, Nat.add_zero]
          refine v_if_ne_f (tgt := 92) dX12_atom_84 (by decide) (by decide) ?_
          refine v_aload_n dX12_atom_87 rfl ?_
          refine v_callv (M' := mX12_stop) (d' := d - 1) (mc' := 0) (ms' := 0) (ci := 12) (c := 116) (As := []) dX12_atom_88 k_1761 cm_X12_stop rfl (by omega) (by decide) kk_116 (Nat.le_of_ble_eq_true rfl) rfl ⟨Nat.le_refl _, Nat.le_refl _⟩ ?_
          refine s_stop0 (by omega) ?_
          dsimp only [Option.toList, List.cons_append, List.nil_append, Nat.add_zero]
          refine v_pop dX12_atom_91 rfl ?_
          refine v_iconst dX12_atom_92 (c32 rfl) ?_
          refine v_istore_n_2 dX12_atom_93 (by decide) rfl ?_
          refine v_iconst dX12_atom_94 (c32 rfl) ?_
          refine v_istore_n_3 dX12_atom_95 (by decide) rfl ?_
          have hs8 := @s8_c (u (sk u n a))
          have hndg : ¬ (48 ≤ pk u n a ∧ pk u n a ≤ 57) := by omega
          refine lp_nond hd5 hT0 (by omega) (by omega) (by omega) ?_
          exact hf _ _ _ _ (pAtom_bad hndg (by omega) c40_27) (by omega) (by omega) (by omega)
        · dsimp only [Option.toList, List.cons_append, List.nil_append, Nat.add_zero]
          refine v_if_ne_f (tgt := 92) dX12_atom_84 (by decide) (by decide) ?_
          refine v_aload_n dX12_atom_87 rfl ?_
          refine v_callv (M' := mX12_stop) (d' := d - 1) (mc' := 0) (ms' := 0) (ci := 12) (c := 116) (As := []) dX12_atom_88 k_1761 cm_X12_stop rfl (by omega) (by decide) kk_116 (Nat.le_of_ble_eq_true rfl) rfl ⟨Nat.le_refl _, Nat.le_refl _⟩ ?_
          refine s_stop0 (by omega) ?_
          dsimp only [Option.toList, List.cons_append, List.nil_append, Nat.add_zero]
          refine v_pop dX12_atom_91 rfl ?_
          refine v_iconst dX12_atom_92 (c32 rfl) ?_
          refine v_istore_n_2 dX12_atom_93 (by decide) rfl ?_
          refine v_iconst dX12_atom_94 (c32 rfl) ?_
          refine v_istore_n_3 dX12_atom_95 (by decide) rfl ?_
          have hs8 := @s8_c (u (sk u n a))
          have hndg : ¬ (48 ≤ pk u n a ∧ pk u n a ≤ 57) := by omega
          refine lp_nond hd5 hT0 (by omega) (by omega) (by omega) ?_
          exact hf _ _ _ _ (pAtom_bad hndg (by omega) c40_27) (by omega) (by omega) (by omega)
        · dsimp only [Option.toList, List.cons_append, List.nil_append, Nat.add_zero]
          refine v_if_ne_f (tgt := 92) dX12_atom_84 (by decide) (by decide) ?_
          refine v_aload_n dX12_atom_87 rfl ?_
          refine v_callv (M' := mX12_stop) (d' := d - 1) (mc' := 0) (ms' := 0) (ci := 12) (c := 116) (As := []) dX12_atom_88 k_1761 cm_X12_stop rfl (by omega) (by decide) kk_116 (Nat.le_of_ble_eq_true rfl) rfl ⟨Nat.le_refl _, Nat.le_refl _⟩ ?_
          refine s_stop0 (by omega) ?_
          dsimp only [Option.toList, List.cons_append, List.nil_append, Nat.add_zero]
          refine v_pop dX12_atom_91 rfl ?_
          refine v_iconst dX12_atom_92 (c32 rfl) ?_
          refine v_istore_n_2 dX12_atom_93 (by decide) rfl ?_
          refine v_iconst dX12_atom_94 (c32 rfl) ?_
          refine v_istore_n_3 dX12_atom_95 (by decide) rfl ?_
          have hs8 := @s8_c (u (sk u n a))
          have hndg : ¬ (48 ≤ pk u n a ∧ pk u n a ≤ 57) := by omega
          refine lp_nond hd5 hT0 (by omega) (by omega) (by omega) ?_
          exact hf _ _ _ _ (pAtom_bad hndg (by omega) c40_27) (by omega) (by omega) (by omega)
        · dsimp only [Option.toList, List.cons_append, List.nil_append, Nat.add_zero]
          refine v_if_ne_t (tgt := 92) dX12_atom_84 (by decide) (by decide) ?_
          refine v_iconst dX12_atom_92 (c32 rfl) ?_
          refine v_istore_n_2 dX12_atom_93 (by decide) rfl ?_
          refine v_iconst dX12_atom_94 (c32 rfl) ?_
          refine v_istore_n_3 dX12_atom_95 (by decide) rfl ?_
          have hs8 := @s8_c (u (sk u n a))
          have hdg : 48 ≤ pk u n a ∧ pk u n a ≤ 57 := by omega
          have hr5 := @numF_rng u n 5 0 (sk u n a) (by omega)
          have hv5 := @numF_val u n 5 0 (sk u n a) (by omega) (by decide) (by decide)
          have hg5 : sk u n a < (numF u n 5 0 (sk u n a)).2 := numF_gt (m := 4) (by omega) (by omega)
          refine lp_num hd5 hT0 (m := 5) (by omega) (by omega) (by omega) (by omega) (by omega) (by decide) (fun q => ?_) (fun q => ?_)
          · exact hf _ _ _ _ (by rw [pAtom_num hdg]; unfold pNum; rw [if_pos q]) (by omega) (by omega) (by omega)
          · exact hsu _ _ _ (by rw [pAtom_num hdg]; unfold pNum; rw [if_neg q]) (by omega) (by omega) ((VH_num hv5.1 (by omega)).mono (by omega)) (by omega) (by omega)
      · refine v_aload_n dX12_atom_43 rfl ?_
        refine v_callv (M' := mX12_goesIn) (d' := d - 1) (mc' := 0) (ms' := 0) (ci := 12) (c := 116) (As := []) dX12_atom_44 k_1794 cm_X12_goesIn rfl (by omega) (by decide) kk_116 (Nat.le_of_ble_eq_true rfl) rfl ⟨Nat.le_refl _, Nat.le_refl _⟩ ?_
        refine s_goesIn (by omega) hT0 (by omega) (by omega) (by omega) (fun c44_37 => ?_) (fun c44_38 => ?_)
        · dsimp only [Option.toList, List.cons_append, List.nil_append, Nat.add_zero]
          refine v_if_ne_t (tgt := 52) dX12_atom_47 (by decide) (by decide) ?_
          obtain ⟨D', rfl⟩ : ∃ D', D = D' + 1 := ⟨D - 1, by omega⟩
          have hsum := hs D' rfl
          refine v_aload_n dX12_atom_52 rfl ?_
          refine v_callv (M' := mX12_sum) (d' := d - 1) (mc' := 0) (ms' := 0) (ci := 12) (c := 116) (As := []) dX12_atom_53 k_1781 cm_X12_sum rfl (by omega) (by decide) kk_116 (Nat.le_of_ble_eq_true rfl) rfl ⟨Nat.le_refl _, Nat.le_refl _⟩ ?_
          refine hsum (by omega) (by omega) (by omega) (fun xe_42 xv_42 xa_42 xd_42 c53_39 c53_40 c53_41 c53_42 => ?_) (fun xa_48 xk_48 xv_48 c53_43 c53_44 c53_45 c53_46 c53_47 c53_48 => ?_)
          · dsimp only [Option.toList, List.cons_append, List.nil_append, Nat.add_zero]
            refine v_istore_n_2 dX12_atom_56 (by decide) rfl ?_
            refine v_aload_n dX12_atom_57 rfl ?_
            refine v_bipush dX12_atom_58 (c32 rfl) (by decide) ?_
            refine v_callv (M' := mX12_takes) (d' := d - 1) (mc' := 0) (ms' := 0) (ci := 12) (c := 116) (As := [_]) dX12_atom_60 k_1765 cm_X12_takes rfl (by omega) (by decide) kk_116 (Nat.le_of_ble_eq_true rfl) rfl ⟨Nat.le_refl _, Nat.le_refl _⟩ ?_
            refine s_takes1 (by omega) (by omega) ?_
            dsimp only [Option.toList, List.cons_append, List.nil_append, Nat.add_zero]
            refine v_if_ne_f (tgt := 68) dX12_atom_63 (by decide) (by decide) ?_
            refine v_iconst dX12_atom_66 (c32 rfl) ?_
            refine v_ireti dX12_atom_67 rfl (Nat.le_refl _) (Nat.le_refl _) ?_
            exact hf _ _ _ _ (pAtom_nf c40_27 c53_39) (by omega) (by omega) (by omega)
          · dsimp only [Option.toList, List.cons_append, List.nil_append, Nat.add_zero]
            refine v_istore_n_2 dX12_atom_56 (by decide) rfl ?_
            refine v_aload_n dX12_atom_57 rfl ?_
            refine v_bipush dX12_atom_58 (c32 rfl) (by decide) ?_
            refine v_callv (M' := mX12_takes) (d' := d - 1) (mc' := 0) (ms' := 0) (ci := 12) (c := 116) (As := [_]) dX12_atom_60 k_1765 cm_X12_takes rfl (by omega) (by decide) kk_116 (Nat.le_of_ble_eq_true rfl) rfl ⟨Nat.le_refl _, Nat.le_refl _⟩ ?_
            refine s_takes (by omega) hT0 (by omega) (by omega) (fun c60_49 => ?_) (fun c60_50 => ?_)
            · dsimp only [Option.toList, List.cons_append, List.nil_append, Nat.add_zero]
              refine v_if_ne_t (tgt := 68) dX12_atom_63 (by decide) (by decide) ?_
              refine v_aload_n dX12_atom_68 rfl ?_
              refine v_dup dX12_atom_69 rfl ?_
              refine v_getv (ci := 12) (j := 22) (ji := 22) (tg := 0) dX12_atom_70 k_1438 (by decide) kk_116 (by decide) rfl rfl (by decide) (pst_r22) ?_
              refine v_iconst dX12_atom_73 (c32 rfl) ?_
              refine v_isubE dX12_atom_74 (by omega) ?_
              refine v_puti (ci := 12) (j := 22) (ji := 22) dX12_atom_75 k_1438 (by decide) kk_116 (by decide) rfl rfl rfl ?_
              rw [pst_w22]
              refine v_iload_n dX12_atom_78 rfl ?_
              refine v_ireti dX12_atom_79 rfl (Nat.le_refl _) (Nat.le_refl _) ?_
              rw [show dp + 1 - 1 = dp by omega]
              exact hsu _ _ _ (pAtom_ns c40_27 c53_43 c60_49) (by have := @sk_ge u n xa_48; omega) (by have := @pk_rng u n xa_48 hur (by omega); omega) (c53_46.mono (by omega)) (by omega) (by omega)
            · dsimp only [Option.toList, List.cons_append, List.nil_append, Nat.add_zero]
              refine v_if_ne_f (tgt := 68) dX12_atom_63 (by decide) (by decide) ?_
              refine v_iconst dX12_atom_66 (c32 rfl) ?_
              refine v_ireti dX12_atom_67 rfl (Nat.le_refl _) (Nat.le_refl _) ?_
              exact hf _ _ _ _ (pAtom_nc c40_27 c53_43 c60_50) (by have := @sk_ge u n xa_48; omega) (by omega) (by omega)
        · dsimp only [Option.toList, List.cons_append, List.nil_append, Nat.add_zero]
          refine v_if_ne_f (tgt := 52) dX12_atom_47 (by decide) (by decide) ?_
          refine v_iconst dX12_atom_50 (c32 rfl) ?_
          refine v_ireti dX12_atom_51 rfl (Nat.le_refl _) (Nat.le_refl _) ?_
          obtain rfl : D = 0 := by omega
          exact hf _ _ _ _ (pAtom_none c40_27) (by omega) (by omega) (by omega)
    · refine v_aload_n dX12_atom_20 rfl ?_
      refine v_dup dX12_atom_21 rfl ?_
      refine v_getv (ci := 12) (j := 20) (ji := 20) (tg := 0) dX12_atom_22 k_1436 (by decide) kk_116 (by decide) rfl rfl (by decide) (pst_r20) ?_
      refine v_iconst dX12_atom_25 (c32 rfl) ?_
      refine v_iaddE dX12_atom_26 (by omega) ?_
      refine v_puti (ci := 12) (j := 20) (ji := 20) dX12_atom_27 k_1436 (by decide) kk_116 (by decide) rfl rfl rfl ?_
      rw [pst_w20]
      refine v_aload_n dX12_atom_30 rfl ?_
      refine v_getr (ci := 12) (j := 11) (ji := 11) (z := 126) dX12_atom_31 k_1427 (by decide) kk_116 (by decide) rfl rfl (fun r => rt_116_11 (r rfl)) (by decide) ?_
      refine v_iload_n dX12_atom_34 rfl ?_
      refine v_ialoadv dX12_atom_35 (by decide) kk_126 (by omega) (by omega) (pst_c (by decide)) ?_
      refine v_ireti dX12_atom_36 rfl (Nat.le_refl _) (Nat.le_refl _) ?_
      obtain ⟨y1, y2, y3, y4, y5, y6, y7⟩ : 0 ≤ ix2 (pk u n a) ∧ plc (pk u n a) ≠ -1 ∧ 97 ≤ pk u n a ∧ pk u n a ≤ 121 ∧ lch (plc (pk u n a)) = pk u n a ∧ 0 ≤ plc (pk u n a) ∧ plc (pk u n a) < 8 := by
        rcases hx with q | q
        · omega
        · exact q
      have e9 : ltr h (plc (pk u n a)) = h 126 (pk u n a) := by unfold ltr; rw [y5]
      have b9 := hL _ y6 y7
      have w9 := (VH_let (lt := ltr h) y6 y7 (bd_id b9.1 b9.2)).mono (m' := 1 + 2 * D) (by omega)
      rw [e9] at b9 w9
      exact hsu _ _ _ (pAtom_let y2 y3) (by omega) (by omega) w9 b9.1 b9.2

