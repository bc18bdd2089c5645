/-! ===== the class: small methods (written by wip/whole/p20.py) ===== -/
set_option maxHeartbeats 4000000 in
set_option maxRecDepth 100000 in
theorem s_X11_within {l : Launch} {G : GG} {d : Nat} {h : AH} {Q : Option AV → List Kd → AH → Prop} {p0 p1 p2 : Int} (hd : 1 ≤ d) 
    (q_1 : p0 < p1 → Q (some (0, 0)) K0 h)
    (q_2 : p1 ≤ p0 → p2 < p0 → Q (some (0, 0)) K0 h)
    (q_3 : p1 ≤ p0 → p0 ≤ p2 → Q (some (0, 1)) K0 h) : Sp l G mX11_within d 0 0 K0 [(0, p0), (0, p1), (0, p2)] h Q := by
  refine sp_of (L := [(0, p0), (0, p1), (0, p2)]) pl_X11 (Nat.le_of_ble_eq_true rfl) (tg_c (by decide) (tg_c (by decide) (tg_c (by decide) tg_0))) rfl ?_
  refine v_iload_n dX11_within_0 rfl ?_
  refine v_iload_n dX11_within_1 rfl ?_
  refine v_icmp_lt (tgt := 14) dX11_within_2 (by decide) (fun c2_1 => ?_) (fun c2_1 => ?_)
  · refine v_iconst dX11_within_14 (c32 rfl) ?_
    refine v_iretz dX11_within_15 rfl (by decide) (Nat.le_refl _) (Nat.le_refl _) ?_
    exact q_1 c2_1
  · refine v_iload_n dX11_within_5 rfl ?_
    refine v_iload_n dX11_within_6 rfl ?_
    refine v_icmp_gt (tgt := 14) dX11_within_7 (by decide) (fun c7_2 => ?_) (fun c7_2 => ?_)
    · refine v_iconst dX11_within_14 (c32 rfl) ?_
      refine v_iretz dX11_within_15 rfl (by decide) (Nat.le_refl _) (Nat.le_refl _) ?_
      exact q_2 c2_1 c7_2
    · refine v_iconst dX11_within_10 (c32 rfl) ?_
      refine v_goto (tgt := 15) dX11_within_11 (by decide) ?_
      refine v_iretz dX11_within_15 rfl (by decide) (Nat.le_refl _) (Nat.le_refl _) ?_
      exact q_3 c2_1 c7_2

set_option maxHeartbeats 4000000 in
set_option maxRecDepth 100000 in
theorem s_X11_isPlace {l : Launch} {G : GG} {d : Nat} {h : AH} {Q : Option AV → List Kd → AH → Prop} {p0 p1 : Int} (hd : 2 ≤ d) 
    (q_1 : p0 < 0 → Q (some (0, 0)) K0 h)
    (q_2 : 0 ≤ p0 → 7 < p0 → Q (some (0, 0)) K0 h)
    (q_3 : 0 ≤ p0 → p0 ≤ 7 → p1 < 0 → Q (some (0, 0)) K0 h)
    (q_4 : 0 ≤ p0 → p0 ≤ 7 → 0 ≤ p1 → 99 < p1 → Q (some (0, 0)) K0 h)
    (q_5 : 0 ≤ p0 → p0 ≤ 7 → 0 ≤ p1 → p1 ≤ 99 → Q (some (0, 1)) K0 h) : Sp l G mX11_isPlace d 0 0 K0 [(0, p0), (0, p1)] h Q := by
  refine sp_of (L := [(0, p0), (0, p1)]) pl_X11 (Nat.le_of_ble_eq_true rfl) (tg_c (by decide) (tg_c (by decide) tg_0)) rfl ?_
  refine v_iload_n dX11_isPlace_0 rfl ?_
  refine v_iconst dX11_isPlace_1 (c32 rfl) ?_
  refine v_bipush dX11_isPlace_2 (c32 rfl) (by decide) ?_
  refine v_calls (M' := mX11_within) (d' := d - 1) (mc' := 0) (ms' := 0) (As := [_, _, _]) dX11_isPlace_4 k_586 cm_X11_within (by omega) (Nat.le_of_ble_eq_true rfl) rfl ⟨Nat.le_refl _, Nat.le_refl _⟩ ?_
  refine s_X11_within (by omega) (fun c4_1 => ?_) (fun c4_2 c4_3 => ?_) (fun c4_4 c4_5 => ?_)
  · dsimp only [Option.toList, List.cons_append, List.nil_append, Nat.add_zero]
    refine v_if_eq_t (tgt := 24) dX11_isPlace_7 (by decide) (by decide) ?_
    refine v_iconst dX11_isPlace_24 (c32 rfl) ?_
    refine v_iretz dX11_isPlace_25 rfl (by decide) (Nat.le_refl _) (Nat.le_refl _) ?_
    exact q_1 c4_1
  · dsimp only [Option.toList, List.cons_append, List.nil_append, Nat.add_zero]
    refine v_if_eq_t (tgt := 24) dX11_isPlace_7 (by decide) (by decide) ?_
    refine v_iconst dX11_isPlace_24 (c32 rfl) ?_
    refine v_iretz dX11_isPlace_25 rfl (by decide) (Nat.le_refl _) (Nat.le_refl _) ?_
    exact q_2 c4_2 c4_3
  · dsimp only [Option.toList, List.cons_append, List.nil_append, Nat.add_zero]
    refine v_if_eq_f (tgt := 24) dX11_isPlace_7 (by decide) (by decide) ?_
    refine v_iload_n dX11_isPlace_10 rfl ?_
    refine v_iconst dX11_isPlace_11 (c32 rfl) ?_
    refine v_bipush dX11_isPlace_12 (c32 rfl) (by decide) ?_
    refine v_calls (M' := mX11_within) (d' := d - 1) (mc' := 0) (ms' := 0) (As := [_, _, _]) dX11_isPlace_14 k_586 cm_X11_within (by omega) (Nat.le_of_ble_eq_true rfl) rfl ⟨Nat.le_refl _, Nat.le_refl _⟩ ?_
    refine s_X11_within (by omega) (fun c14_6 => ?_) (fun c14_7 c14_8 => ?_) (fun c14_9 c14_10 => ?_)
    · dsimp only [Option.toList, List.cons_append, List.nil_append, Nat.add_zero]
      refine v_if_eq_t (tgt := 24) dX11_isPlace_17 (by decide) (by decide) ?_
      refine v_iconst dX11_isPlace_24 (c32 rfl) ?_
      refine v_iretz dX11_isPlace_25 rfl (by decide) (Nat.le_refl _) (Nat.le_refl _) ?_
      exact q_3 c4_4 c4_5 c14_6
    · dsimp only [Option.toList, List.cons_append, List.nil_append, Nat.add_zero]
      refine v_if_eq_t (tgt := 24) dX11_isPlace_17 (by decide) (by decide) ?_
      refine v_iconst dX11_isPlace_24 (c32 rfl) ?_
      refine v_iretz dX11_isPlace_25 rfl (by decide) (Nat.le_refl _) (Nat.le_refl _) ?_
      exact q_4 c4_4 c4_5 c14_7 c14_8
    · dsimp only [Option.toList, List.cons_append, List.nil_append, Nat.add_zero]
      refine v_if_eq_f (tgt := 24) dX11_isPlace_17 (by decide) (by decide) ?_
      refine v_iconst dX11_isPlace_20 (c32 rfl) ?_
      refine v_goto (tgt := 25) dX11_isPlace_21 (by decide) ?_
      refine v_iretz dX11_isPlace_25 rfl (by decide) (Nat.le_refl _) (Nat.le_refl _) ?_
      exact q_5 c4_4 c4_5 c14_9 c14_10

set_option maxHeartbeats 4000000 in
set_option maxRecDepth 100000 in
theorem s_X11_isGood {l : Launch} {G : GG} {d : Nat} {h : AH} {Q : Option AV → List Kd → AH → Prop} {p0 p1 p2 p3 : Int} (hd : 3 ≤ d) 
    (q_1 : p0 < 0 → Q (some (0, 0)) K0 h)
    (q_2 : 0 ≤ p0 → 7 < p0 → Q (some (0, 0)) K0 h)
    (q_3 : 0 ≤ p0 → p0 ≤ 7 → p1 < 0 → Q (some (0, 0)) K0 h)
    (q_4 : 0 ≤ p0 → p0 ≤ 7 → 0 ≤ p1 → 99 < p1 → Q (some (0, 0)) K0 h)
    (q_5 : 0 ≤ p0 → p0 ≤ 7 → 0 ≤ p1 → p1 ≤ 99 → p2 < 1 → Q (some (0, 0)) K0 h)
    (q_6 : 0 ≤ p0 → p0 ≤ 7 → 0 ≤ p1 → p1 ≤ 99 → 1 ≤ p2 → 10000 < p2 → Q (some (0, 0)) K0 h)
    (q_7 : 0 ≤ p0 → p0 ≤ 7 → 0 ≤ p1 → p1 ≤ 99 → 1 ≤ p2 → p2 ≤ 10000 → p3 < 1 → Q (some (0, 0)) K0 h)
    (q_8 : 0 ≤ p0 → p0 ≤ 7 → 0 ≤ p1 → p1 ≤ 99 → 1 ≤ p2 → p2 ≤ 10000 → 1 ≤ p3 → 10000 < p3 → Q (some (0, 0)) K0 h)
    (q_9 : 0 ≤ p0 → p0 ≤ 7 → 0 ≤ p1 → p1 ≤ 99 → 1 ≤ p2 → p2 ≤ 10000 → 1 ≤ p3 → p3 ≤ 10000 → Q (some (0, 1)) K0 h) : Sp l G mX11_isGood d 0 0 K0 [(0, p0), (0, p1), (0, p2), (0, p3)] h Q := by
  refine sp_of (L := [(0, p0), (0, p1), (0, p2), (0, p3)]) pl_X11 (Nat.le_of_ble_eq_true rfl) (tg_c (by decide) (tg_c (by decide) (tg_c (by decide) (tg_c (by decide) tg_0)))) rfl ?_
  refine v_iload_n dX11_isGood_0 rfl ?_
  refine v_iload_n dX11_isGood_1 rfl ?_
  refine v_calls (M' := mX11_isPlace) (d' := d - 1) (mc' := 0) (ms' := 0) (As := [_, _]) dX11_isGood_2 k_825 cm_X11_isPlace (by omega) (Nat.le_of_ble_eq_true rfl) rfl ⟨Nat.le_refl _, Nat.le_refl _⟩ ?_
  refine s_X11_isPlace (by omega) (fun c2_1 => ?_) (fun c2_2 c2_3 => ?_) (fun c2_4 c2_5 c2_6 => ?_) (fun c2_7 c2_8 c2_9 c2_10 => ?_) (fun c2_11 c2_12 c2_13 c2_14 => ?_)
  · dsimp only [Option.toList, List.cons_append, List.nil_append, Nat.add_zero]
    refine v_if_eq_t (tgt := 34) dX11_isGood_5 (by decide) (by decide) ?_
    refine v_iconst dX11_isGood_34 (c32 rfl) ?_
    refine v_iretz dX11_isGood_35 rfl (by decide) (Nat.le_refl _) (Nat.le_refl _) ?_
    exact q_1 c2_1
  · dsimp only [Option.toList, List.cons_append, List.nil_append, Nat.add_zero]
    refine v_if_eq_t (tgt := 34) dX11_isGood_5 (by decide) (by decide) ?_
    refine v_iconst dX11_isGood_34 (c32 rfl) ?_
    refine v_iretz dX11_isGood_35 rfl (by decide) (Nat.le_refl _) (Nat.le_refl _) ?_
    exact q_2 c2_2 c2_3
  · dsimp only [Option.toList, List.cons_append, List.nil_append, Nat.add_zero]
    refine v_if_eq_t (tgt := 34) dX11_isGood_5 (by decide) (by decide) ?_
    refine v_iconst dX11_isGood_34 (c32 rfl) ?_
    refine v_iretz dX11_isGood_35 rfl (by decide) (Nat.le_refl _) (Nat.le_refl _) ?_
    exact q_3 c2_4 c2_5 c2_6
  · dsimp only [Option.toList, List.cons_append, List.nil_append, Nat.add_zero]
    refine v_if_eq_t (tgt := 34) dX11_isGood_5 (by decide) (by decide) ?_
    refine v_iconst dX11_isGood_34 (c32 rfl) ?_
    refine v_iretz dX11_isGood_35 rfl (by decide) (Nat.le_refl _) (Nat.le_refl _) ?_
    exact q_4 c2_7 c2_8 c2_9 c2_10
  · dsimp only [Option.toList, List.cons_append, List.nil_append, Nat.add_zero]
    refine v_if_eq_f (tgt := 34) dX11_isGood_5 (by decide) (by decide) ?_
    refine v_iload_n dX11_isGood_8 rfl ?_
    refine v_iconst dX11_isGood_9 (c32 rfl) ?_
    refine v_sipush dX11_isGood_10 (c32 rfl) (by decide) ?_
    refine v_calls (M' := mX11_within) (d' := d - 1) (mc' := 0) (ms' := 0) (As := [_, _, _]) dX11_isGood_13 k_586 cm_X11_within (by omega) (Nat.le_of_ble_eq_true rfl) rfl ⟨Nat.le_refl _, Nat.le_refl _⟩ ?_
    refine s_X11_within (by omega) (fun c13_15 => ?_) (fun c13_16 c13_17 => ?_) (fun c13_18 c13_19 => ?_)
    · dsimp only [Option.toList, List.cons_append, List.nil_append, Nat.add_zero]
      refine v_if_eq_t (tgt := 34) dX11_isGood_16 (by decide) (by decide) ?_
      refine v_iconst dX11_isGood_34 (c32 rfl) ?_
      refine v_iretz dX11_isGood_35 rfl (by decide) (Nat.le_refl _) (Nat.le_refl _) ?_
      exact q_5 c2_11 c2_12 c2_13 c2_14 c13_15
    · dsimp only [Option.toList, List.cons_append, List.nil_append, Nat.add_zero]
      refine v_if_eq_t (tgt := 34) dX11_isGood_16 (by decide) (by decide) ?_
      refine v_iconst dX11_isGood_34 (c32 rfl) ?_
      refine v_iretz dX11_isGood_35 rfl (by decide) (Nat.le_refl _) (Nat.le_refl _) ?_
      exact q_6 c2_11 c2_12 c2_13 c2_14 c13_16 c13_17
    · dsimp only [Option.toList, List.cons_append, List.nil_append, Nat.add_zero]
      refine v_if_eq_f (tgt := 34) dX11_isGood_16 (by decide) (by decide) ?_
      refine v_iload_n dX11_isGood_19 rfl ?_
      refine v_iconst dX11_isGood_20 (c32 rfl) ?_
      refine v_sipush dX11_isGood_21 (c32 rfl) (by decide) ?_
      refine v_calls (M' := mX11_within) (d' := d - 1) (mc' := 0) (ms' := 0) (As := [_, _, _]) dX11_isGood_24 k_586 cm_X11_within (by omega) (Nat.le_of_ble_eq_true rfl) rfl ⟨Nat.le_refl _, Nat.le_refl _⟩ ?_
      refine s_X11_within (by omega) (fun c24_20 => ?_) (fun c24_21 c24_22 => ?_) (fun c24_23 c24_24 => ?_)
      · dsimp only [Option.toList, List.cons_append, List.nil_append, Nat.add_zero]
        refine v_if_eq_t (tgt := 34) dX11_isGood_27 (by decide) (by decide) ?_
        refine v_iconst dX11_isGood_34 (c32 rfl) ?_
        refine v_iretz dX11_isGood_35 rfl (by decide) (Nat.le_refl _) (Nat.le_refl _) ?_
        exact q_7 c2_11 c2_12 c2_13 c2_14 c13_18 c13_19 c24_20
      · dsimp only [Option.toList, List.cons_append, List.nil_append, Nat.add_zero]
        refine v_if_eq_t (tgt := 34) dX11_isGood_27 (by decide) (by decide) ?_
        refine v_iconst dX11_isGood_34 (c32 rfl) ?_
        refine v_iretz dX11_isGood_35 rfl (by decide) (Nat.le_refl _) (Nat.le_refl _) ?_
        exact q_8 c2_11 c2_12 c2_13 c2_14 c13_18 c13_19 c24_21 c24_22
      · dsimp only [Option.toList, List.cons_append, List.nil_append, Nat.add_zero]
        refine v_if_eq_f (tgt := 34) dX11_isGood_27 (by decide) (by decide) ?_
        refine v_iconst dX11_isGood_30 (c32 rfl) ?_
        refine v_goto (tgt := 35) dX11_isGood_31 (by decide) ?_
        refine v_iretz dX11_isGood_35 rfl (by decide) (Nat.le_refl _) (Nat.le_refl _) ?_
        exact q_9 c2_11 c2_12 c2_13 c2_14 c13_18 c13_19 c24_23 c24_24

set_option maxHeartbeats 4000000 in
set_option maxRecDepth 100000 in
theorem s_X11_isAsked {l : Launch} {G : GG} {d : Nat} {h : AH} {Q : Option AV → List Kd → AH → Prop} {p0 p1 p2 : Int} (hd : 2 ≤ d) 
    (q_1 : p0 < 0 → Q (some (0, 0)) K0 h)
    (q_2 : 0 ≤ p0 → 3 < p0 → Q (some (0, 0)) K0 h)
    (q_3 : 0 ≤ p0 → p0 ≤ 3 → p1 < 0 → Q (some (0, 0)) K0 h)
    (q_4 : 0 ≤ p0 → p0 ≤ 3 → 0 ≤ p1 → 2000 < p1 → Q (some (0, 0)) K0 h)
    (q_5 : 0 ≤ p0 → p0 ≤ 3 → 0 ≤ p1 → p1 ≤ 2000 → p2 < 0 → Q (some (0, 0)) K0 h)
    (q_6 : 0 ≤ p0 → p0 ≤ 3 → 0 ≤ p1 → p1 ≤ 2000 → 0 ≤ p2 → (h 0 0) < p2 → Q (some (0, 0)) K0 h)
    (q_7 : 0 ≤ p0 → p0 ≤ 3 → 0 ≤ p1 → p1 ≤ 2000 → 0 ≤ p2 → p2 ≤ (h 0 0) → Q (some (0, 1)) K0 h) : Sp l G mX11_isAsked d 0 0 K0 [(2, 0), (0, p0), (0, p1), (0, p2)] h Q := by
  refine sp_of (L := [(2, 0), (0, p0), (0, p1), (0, p2)]) pl_X11 (Nat.le_of_ble_eq_true rfl) (tg_c (by decide) (tg_c (by decide) (tg_c (by decide) (tg_c (by decide) tg_0)))) rfl ?_
  refine v_iload_n dX11_isAsked_0 rfl ?_
  refine v_iconst dX11_isAsked_1 (c32 rfl) ?_
  refine v_iconst dX11_isAsked_2 (c32 rfl) ?_
  refine v_calls (M' := mX11_within) (d' := d - 1) (mc' := 0) (ms' := 0) (As := [_, _, _]) dX11_isAsked_3 k_586 cm_X11_within (by omega) (Nat.le_of_ble_eq_true rfl) rfl ⟨Nat.le_refl _, Nat.le_refl _⟩ ?_
  refine s_X11_within (by omega) (fun c3_1 => ?_) (fun c3_2 c3_3 => ?_) (fun c3_4 c3_5 => ?_)
  · dsimp only [Option.toList, List.cons_append, List.nil_append, Nat.add_zero]
    refine v_if_eq_t (tgt := 36) dX11_isAsked_6 (by decide) (by decide) ?_
    refine v_iconst dX11_isAsked_36 (c32 rfl) ?_
    refine v_iretz dX11_isAsked_37 rfl (by decide) (Nat.le_refl _) (Nat.le_refl _) ?_
    exact q_1 c3_1
  · dsimp only [Option.toList, List.cons_append, List.nil_append, Nat.add_zero]
    refine v_if_eq_t (tgt := 36) dX11_isAsked_6 (by decide) (by decide) ?_
    refine v_iconst dX11_isAsked_36 (c32 rfl) ?_
    refine v_iretz dX11_isAsked_37 rfl (by decide) (Nat.le_refl _) (Nat.le_refl _) ?_
    exact q_2 c3_2 c3_3
  · dsimp only [Option.toList, List.cons_append, List.nil_append, Nat.add_zero]
    refine v_if_eq_f (tgt := 36) dX11_isAsked_6 (by decide) (by decide) ?_
    refine v_iload_n dX11_isAsked_9 rfl ?_
    refine v_iconst dX11_isAsked_10 (c32 rfl) ?_
    refine v_sipush dX11_isAsked_11 (c32 rfl) (by decide) ?_
    refine v_calls (M' := mX11_within) (d' := d - 1) (mc' := 0) (ms' := 0) (As := [_, _, _]) dX11_isAsked_14 k_586 cm_X11_within (by omega) (Nat.le_of_ble_eq_true rfl) rfl ⟨Nat.le_refl _, Nat.le_refl _⟩ ?_
    refine s_X11_within (by omega) (fun c14_6 => ?_) (fun c14_7 c14_8 => ?_) (fun c14_9 c14_10 => ?_)
    · dsimp only [Option.toList, List.cons_append, List.nil_append, Nat.add_zero]
      refine v_if_eq_t (tgt := 36) dX11_isAsked_17 (by decide) (by decide) ?_
      refine v_iconst dX11_isAsked_36 (c32 rfl) ?_
      refine v_iretz dX11_isAsked_37 rfl (by decide) (Nat.le_refl _) (Nat.le_refl _) ?_
      exact q_3 c3_4 c3_5 c14_6
    · dsimp only [Option.toList, List.cons_append, List.nil_append, Nat.add_zero]
      refine v_if_eq_t (tgt := 36) dX11_isAsked_17 (by decide) (by decide) ?_
      refine v_iconst dX11_isAsked_36 (c32 rfl) ?_
      refine v_iretz dX11_isAsked_37 rfl (by decide) (Nat.le_refl _) (Nat.le_refl _) ?_
      exact q_4 c3_4 c3_5 c14_7 c14_8
    · dsimp only [Option.toList, List.cons_append, List.nil_append, Nat.add_zero]
      refine v_if_eq_f (tgt := 36) dX11_isAsked_17 (by decide) (by decide) ?_
      refine v_iload_n dX11_isAsked_20 rfl ?_
      refine v_iconst dX11_isAsked_21 (c32 rfl) ?_
      refine v_aload_n dX11_isAsked_22 rfl ?_
      refine v_get (ci := 11) (j := 0) (ji := 0) (tg := 0) dX11_isAsked_23 k_554 (by decide) kk_0 (by decide) rfl rfl (by decide) ?_
      refine v_calls (M' := mX11_within) (d' := d - 1) (mc' := 0) (ms' := 0) (As := [_, _, _]) dX11_isAsked_26 k_586 cm_X11_within (by omega) (Nat.le_of_ble_eq_true rfl) rfl ⟨Nat.le_refl _, Nat.le_refl _⟩ ?_
      refine s_X11_within (by omega) (fun c26_11 => ?_) (fun c26_12 c26_13 => ?_) (fun c26_14 c26_15 => ?_)
      · dsimp only [Option.toList, List.cons_append, List.nil_append, Nat.add_zero]
        refine v_if_eq_t (tgt := 36) dX11_isAsked_29 (by decide) (by decide) ?_
        refine v_iconst dX11_isAsked_36 (c32 rfl) ?_
        refine v_iretz dX11_isAsked_37 rfl (by decide) (Nat.le_refl _) (Nat.le_refl _) ?_
        exact q_5 c3_4 c3_5 c14_9 c14_10 c26_11
      · dsimp only [Option.toList, List.cons_append, List.nil_append, Nat.add_zero]
        refine v_if_eq_t (tgt := 36) dX11_isAsked_29 (by decide) (by decide) ?_
        refine v_iconst dX11_isAsked_36 (c32 rfl) ?_
        refine v_iretz dX11_isAsked_37 rfl (by decide) (Nat.le_refl _) (Nat.le_refl _) ?_
        exact q_6 c3_4 c3_5 c14_9 c14_10 c26_12 c26_13
      · dsimp only [Option.toList, List.cons_append, List.nil_append, Nat.add_zero]
        refine v_if_eq_f (tgt := 36) dX11_isAsked_29 (by decide) (by decide) ?_
        refine v_iconst dX11_isAsked_32 (c32 rfl) ?_
        refine v_goto (tgt := 37) dX11_isAsked_33 (by decide) ?_
        refine v_iretz dX11_isAsked_37 rfl (by decide) (Nat.le_refl _) (Nat.le_refl _) ?_
        exact q_7 c3_4 c3_5 c14_9 c14_10 c26_14 c26_15

set_option maxHeartbeats 4000000 in
set_option maxRecDepth 100000 in
theorem s_X1_has_7 {l : Launch} {G : GG} {d : Nat} {h : AH} {Q : Option AV → List Kd → AH → Prop} {p0 : Int} (hd : 2 ≤ d) (z0 : 0 ≤ (h 7 4)) (c0 : (h 7 4) ≤ 40)
    (q_1 : p0 < 0 → Q (some (0, 0)) K0 h)
    (q_2 : 0 ≤ p0 → ((h 7 4) - 1) < p0 → Q (some (0, 0)) K0 h)
    (q_3 : 0 ≤ p0 → p0 ≤ ((h 7 4) - 1) → Q (some (0, 1)) K0 h) : Sp l G mX1_has d 0 0 K0 [(2, 7), (0, p0)] h Q := by
  refine sp_of (L := [(2, 7), (0, p0)]) pl_X1 (Nat.le_of_ble_eq_true rfl) (tg_c (by decide) (tg_c (by decide) tg_0)) rfl ?_
  refine v_iload_n dX1_has_0 rfl ?_
  refine v_iconst dX1_has_1 (c32 rfl) ?_
  refine v_aload_n dX1_has_2 rfl ?_
  refine v_get (ci := 1) (j := 4) (ji := 4) (tg := 0) dX1_has_3 k_182 (by decide) kk_7 (by decide) rfl rfl (by decide) ?_
  refine v_iconst dX1_has_6 (c32 rfl) ?_
  refine v_isubE dX1_has_7 (by omega) ?_
  refine v_callsN (M' := mX11_within) (d' := d - 1) (mc' := 0) (ms' := 0) (As := [_, _, _]) dX1_has_8 k_601 cm_X11_within (by omega) (Nat.le_of_ble_eq_true rfl) rfl ⟨Nat.le_refl _, Nat.le_refl _⟩ ?_
  refine s_X11_within (by omega) (fun c8_1 => ?_) (fun c8_2 c8_3 => ?_) (fun c8_4 c8_5 => ?_)
  · dsimp only [Option.toList, List.cons_append, List.nil_append, Nat.add_zero]
    refine v_iretz dX1_has_11 rfl (by decide) (Nat.le_refl _) (Nat.le_refl _) ?_
    exact q_1 c8_1
  · dsimp only [Option.toList, List.cons_append, List.nil_append, Nat.add_zero]
    refine v_iretz dX1_has_11 rfl (by decide) (Nat.le_refl _) (Nat.le_refl _) ?_
    exact q_2 c8_2 c8_3
  · dsimp only [Option.toList, List.cons_append, List.nil_append, Nat.add_zero]
    refine v_iretz dX1_has_11 rfl (by decide) (Nat.le_refl _) (Nat.le_refl _) ?_
    exact q_3 c8_4 c8_5

set_option maxHeartbeats 4000000 in
set_option maxRecDepth 100000 in
theorem s_X1_webOf_7 {l : Launch} {G : GG} {d : Nat} {h : AH} {Q : Option AV → List Kd → AH → Prop} {p0 : Int} (hd : 3 ≤ d) (z0 : 0 ≤ (h 7 4)) (c0 : (h 7 4) ≤ 40)
    (q_1 : p0 < 0 → Q (some (0, (-1))) K0 h)
    (q_2 : 0 ≤ p0 → ((h 7 4) - 1) < p0 → Q (some (0, (-1))) K0 h)
    (q_3 : 0 ≤ p0 → p0 ≤ ((h 7 4) - 1) → Q (some (0, (h 8 p0))) K0 h) : Sp l G mX1_webOf d 0 0 K0 [(2, 7), (0, p0)] h Q := by
  refine sp_of (L := [(2, 7), (0, p0)]) pl_X1 (Nat.le_of_ble_eq_true rfl) (tg_c (by decide) (tg_c (by decide) tg_0)) rfl ?_
  refine v_aload_n dX1_webOf_0 rfl ?_
  refine v_iload_n dX1_webOf_1 rfl ?_
  refine v_callv (M' := mX1_has) (d' := d - 1) (mc' := 0) (ms' := 0) (ci := 1) (c := 7) (As := [_]) dX1_webOf_2 k_1259 cm_X1_has rfl (by omega) (by decide) kk_7 (Nat.le_of_ble_eq_true rfl) rfl ⟨Nat.le_refl _, Nat.le_refl _⟩ ?_
  refine s_X1_has_7 (by omega) (by omega) (by omega) (fun c2_1 => ?_) (fun c2_2 c2_3 => ?_) (fun c2_4 c2_5 => ?_)
  · dsimp only [Option.toList, List.cons_append, List.nil_append, Nat.add_zero]
    refine v_if_eq_t (tgt := 17) dX1_webOf_5 (by decide) (by decide) ?_
    refine v_iconst dX1_webOf_17 (c32 rfl) ?_
    refine v_ireti dX1_webOf_18 rfl (Nat.le_refl _) (Nat.le_refl _) ?_
    exact q_1 c2_1
  · dsimp only [Option.toList, List.cons_append, List.nil_append, Nat.add_zero]
    refine v_if_eq_t (tgt := 17) dX1_webOf_5 (by decide) (by decide) ?_
    refine v_iconst dX1_webOf_17 (c32 rfl) ?_
    refine v_ireti dX1_webOf_18 rfl (Nat.le_refl _) (Nat.le_refl _) ?_
    exact q_2 c2_2 c2_3
  · dsimp only [Option.toList, List.cons_append, List.nil_append, Nat.add_zero]
    refine v_if_eq_f (tgt := 17) dX1_webOf_5 (by decide) (by decide) ?_
    refine v_aload_n dX1_webOf_8 rfl ?_
    refine v_getr (ci := 1) (j := 1) (ji := 1) (z := 8) dX1_webOf_9 k_179 (by decide) kk_7 (by decide) rfl rfl (fun r => rt_7_1 (r rfl)) (by decide) ?_
    refine v_iload_n dX1_webOf_12 rfl ?_
    refine v_iaload dX1_webOf_13 (by decide) kk_8 (by omega) (by omega) ?_
    refine v_goto (tgt := 18) dX1_webOf_14 (by decide) ?_
    refine v_ireti dX1_webOf_18 rfl (Nat.le_refl _) (Nat.le_refl _) ?_
    exact q_3 c2_4 c2_5

set_option maxHeartbeats 4000000 in
set_option maxRecDepth 100000 in
theorem s_X1_add_7 {l : Launch} {G : GG} {d : Nat} {h : AH} {Q : Option AV → List Kd → AH → Prop} {p0 p1 p2 : Int} (hd : 2 ≤ d) (z0 : 0 ≤ (h 7 4)) (c0 : (h 7 4) ≤ 40) (m0 : (h 7 0) = 40)
    (q_1 : (h 7 0) ≤ (h 7 4) → Q (some (0, (-1))) K0 h)
    (q_2 : (h 7 4) < (h 7 0) → p0 < 0 → Q (some (0, (-1))) K0 h)
    (q_3 : (h 7 4) < (h 7 0) → 0 ≤ p0 → 3 < p0 → Q (some (0, (-1))) K0 h)
    (q_4 : (h 7 4) < (h 7 0) → 0 ≤ p0 → p0 ≤ 3 → p1 < 0 → Q (some (0, (-1))) K0 h)
    (q_5 : (h 7 4) < (h 7 0) → 0 ≤ p0 → p0 ≤ 3 → 0 ≤ p1 → 2000 < p1 → Q (some (0, (-1))) K0 h)
    (q_6 : (h 7 4) < (h 7 0) → 0 ≤ p0 → p0 ≤ 3 → 0 ≤ p1 → p1 ≤ 2000 → Q (some (0, (((h 7 4) + 1) - 1))) K0 (hset (hset (hset (hset h 8 (h 7 4) p0) 9 (h 7 4) p1) 10 (h 7 4) p2) 7 4 ((h 7 4) + 1))) : Sp l G mX1_add d 0 0 K0 [(2, 7), (0, p0), (0, p1), (0, p2)] h Q := by
  refine sp_of (L := [(2, 7), (0, p0), (0, p1), (0, p2)]) pl_X1 (Nat.le_of_ble_eq_true rfl) (tg_c (by decide) (tg_c (by decide) (tg_c (by decide) (tg_c (by decide) tg_0)))) rfl ?_
  refine v_aload_n dX1_add_0 rfl ?_
  refine v_get (ci := 1) (j := 4) (ji := 4) (tg := 0) dX1_add_1 k_182 (by decide) kk_7 (by decide) rfl rfl (by decide) ?_
  refine v_aload_n dX1_add_4 rfl ?_
  refine v_get (ci := 1) (j := 0) (ji := 0) (tg := 0) dX1_add_5 k_178 (by decide) kk_7 (by decide) rfl rfl (by decide) ?_
  refine v_icmp_ge (tgt := 31) dX1_add_8 (by decide) (fun c8_1 => ?_) (fun c8_1 => ?_)
  · refine v_iconst dX1_add_31 (c32 rfl) ?_
    refine v_ireti dX1_add_32 rfl (Nat.le_refl _) (Nat.le_refl _) ?_
    exact q_1 c8_1
  · refine v_iload_n dX1_add_11 rfl ?_
    refine v_iconst dX1_add_12 (c32 rfl) ?_
    refine v_iconst dX1_add_13 (c32 rfl) ?_
    refine v_callsN (M' := mX11_within) (d' := d - 1) (mc' := 0) (ms' := 0) (As := [_, _, _]) dX1_add_14 k_601 cm_X11_within (by omega) (Nat.le_of_ble_eq_true rfl) rfl ⟨Nat.le_refl _, Nat.le_refl _⟩ ?_
    refine s_X11_within (by omega) (fun c14_2 => ?_) (fun c14_3 c14_4 => ?_) (fun c14_5 c14_6 => ?_)
    · dsimp only [Option.toList, List.cons_append, List.nil_append, Nat.add_zero]
      refine v_if_eq_t (tgt := 31) dX1_add_17 (by decide) (by decide) ?_
      refine v_iconst dX1_add_31 (c32 rfl) ?_
      refine v_ireti dX1_add_32 rfl (Nat.le_refl _) (Nat.le_refl _) ?_
      exact q_2 c8_1 c14_2
    · dsimp only [Option.toList, List.cons_append, List.nil_append, Nat.add_zero]
      refine v_if_eq_t (tgt := 31) dX1_add_17 (by decide) (by decide) ?_
      refine v_iconst dX1_add_31 (c32 rfl) ?_
      refine v_ireti dX1_add_32 rfl (Nat.le_refl _) (Nat.le_refl _) ?_
      exact q_3 c8_1 c14_3 c14_4
    · dsimp only [Option.toList, List.cons_append, List.nil_append, Nat.add_zero]
      refine v_if_eq_f (tgt := 31) dX1_add_17 (by decide) (by decide) ?_
      refine v_iload_n dX1_add_20 rfl ?_
      refine v_iconst dX1_add_21 (c32 rfl) ?_
      refine v_sipush dX1_add_22 (c32 rfl) (by decide) ?_
      refine v_callsN (M' := mX11_within) (d' := d - 1) (mc' := 0) (ms' := 0) (As := [_, _, _]) dX1_add_25 k_601 cm_X11_within (by omega) (Nat.le_of_ble_eq_true rfl) rfl ⟨Nat.le_refl _, Nat.le_refl _⟩ ?_
      refine s_X11_within (by omega) (fun c25_7 => ?_) (fun c25_8 c25_9 => ?_) (fun c25_10 c25_11 => ?_)
      · dsimp only [Option.toList, List.cons_append, List.nil_append, Nat.add_zero]
        refine v_if_ne_f (tgt := 33) dX1_add_28 (by decide) (by decide) ?_
        refine v_iconst dX1_add_31 (c32 rfl) ?_
        refine v_ireti dX1_add_32 rfl (Nat.le_refl _) (Nat.le_refl _) ?_
        exact q_4 c8_1 c14_5 c14_6 c25_7
      · dsimp only [Option.toList, List.cons_append, List.nil_append, Nat.add_zero]
        refine v_if_ne_f (tgt := 33) dX1_add_28 (by decide) (by decide) ?_
        refine v_iconst dX1_add_31 (c32 rfl) ?_
        refine v_ireti dX1_add_32 rfl (Nat.le_refl _) (Nat.le_refl _) ?_
        exact q_5 c8_1 c14_5 c14_6 c25_8 c25_9
      · dsimp only [Option.toList, List.cons_append, List.nil_append, Nat.add_zero]
        refine v_if_ne_t (tgt := 33) dX1_add_28 (by decide) (by decide) ?_
        refine v_aload_n dX1_add_33 rfl ?_
        refine v_getr (ci := 1) (j := 1) (ji := 1) (z := 8) dX1_add_34 k_179 (by decide) kk_7 (by decide) rfl rfl (fun r => rt_7_1 (r rfl)) (by decide) ?_
        refine v_aload_n dX1_add_37 rfl ?_
        refine v_get (ci := 1) (j := 4) (ji := 4) (tg := 0) dX1_add_38 k_182 (by decide) kk_7 (by decide) rfl rfl (by decide) ?_
        refine v_iload_n dX1_add_41 rfl ?_
        refine v_iastore dX1_add_42 (by decide) kk_8 (by omega) (by omega) ?_
        refine v_aload_n dX1_add_43 rfl ?_
        refine v_getr (ci := 1) (j := 2) (ji := 2) (z := 9) dX1_add_44 k_180 (by decide) kk_7 (by decide) rfl rfl (fun r => rt_7_2 (r rfl)) (by decide) ?_
        refine v_aload_n dX1_add_47 rfl ?_
        refine v_getv (ci := 1) (j := 4) (ji := 4) (tg := 0) dX1_add_48 k_182 (by decide) kk_7 (by decide) rfl rfl (by decide) (hset_c (by decide)) ?_
        refine v_iload_n dX1_add_51 rfl ?_
        refine v_iastore dX1_add_52 (by decide) kk_9 (by omega) (by omega) ?_
        refine v_aload_n dX1_add_53 rfl ?_
        refine v_getr (ci := 1) (j := 3) (ji := 3) (z := 10) dX1_add_54 k_181 (by decide) kk_7 (by decide) rfl rfl (fun r => rt_7_3 (r rfl)) (by decide) ?_
        refine v_aload_n dX1_add_57 rfl ?_
        refine v_getv (ci := 1) (j := 4) (ji := 4) (tg := 0) dX1_add_58 k_182 (by decide) kk_7 (by decide) rfl rfl (by decide) ((hset_c (by decide)).trans (hset_c (by decide))) ?_
        refine v_iload_n dX1_add_61 rfl ?_
        refine v_iastore dX1_add_62 (by decide) kk_10 (by omega) (by omega) ?_
        refine v_aload_n dX1_add_63 rfl ?_
        refine v_dup dX1_add_64 rfl ?_
        refine v_getv (ci := 1) (j := 4) (ji := 4) (tg := 0) dX1_add_65 k_182 (by decide) kk_7 (by decide) rfl rfl (by decide) ((hset_c (by decide)).trans ((hset_c (by decide)).trans (hset_c (by decide)))) ?_
        refine v_iconst dX1_add_68 (c32 rfl) ?_
        refine v_iaddE dX1_add_69 (by omega) ?_
        refine v_puti (ci := 1) (j := 4) (ji := 4) dX1_add_70 k_182 (by decide) kk_7 (by decide) rfl rfl rfl ?_
        refine v_aload_n dX1_add_73 rfl ?_
        refine v_getv (ci := 1) (j := 4) (ji := 4) (tg := 0) dX1_add_74 k_182 (by decide) kk_7 (by decide) rfl rfl (by decide) (hset_same _ _ _ _) ?_
        refine v_iconst dX1_add_77 (c32 rfl) ?_
        refine v_isubE dX1_add_78 (by omega) ?_
        refine v_ireti dX1_add_79 rfl (Nat.le_refl _) (Nat.le_refl _) ?_
        exact q_6 c8_1 c14_5 c14_6 c25_10 c25_11

set_option maxHeartbeats 4000000 in
set_option maxRecDepth 100000 in
theorem lp_X1_inForce_7 {l : Launch} {G : GG} {d : Nat} {h : AH} {Q : Option AV → List Kd → AH → Prop} {p0 p1 p2 : Int} (hd : 1 ≤ d) (b0 : 0 ≤ (h 7 4)) (bN : (h 7 4) ≤ 40) (hq : Q (some (0, (ifc (h 8) (h 9) (h 10) p0 p1 p2 (h 7 4)))) K0 h) : ∀ k, 0 ≤ k → k ≤ (h 7 4) → V l G mX1_inForce d 0 0 0 0 K0 6 [(2, 7), (0, p0), (0, p1), (0, p2), (0, (ifc (h 8) (h 9) (h 10) p0 p1 p2 k)), (0, k), (9, 0)] [] h Q := by
  refine loop_m3 (fun k hk hkN ih => ?_)
  have hb := ifc_lt (w := (h 8)) (f := (h 9)) (t := (h 10)) (web := p0) (day := p1) (q := p2) hk
  refine v_iload dX1_inForce_6 rfl ?_
  refine v_aload_n dX1_inForce_8 rfl ?_
  refine v_get (ci := 1) (j := 4) (ji := 4) (tg := 0) dX1_inForce_9 k_182 (by decide) kk_7 (by decide) rfl rfl (by decide) ?_
  refine v_icmp_ge (tgt := 93) dX1_inForce_12 (by decide) (fun c12_1 => ?_) (fun c12_1 => ?_)
  · obtain rfl : k = (h 7 4) := by omega
    refine v_iload dX1_inForce_93 rfl ?_
    refine v_ireti dX1_inForce_95 rfl (Nat.le_refl _) (Nat.le_refl _) ?_
    exact hq
  · refine v_aload_n dX1_inForce_15 rfl ?_
    refine v_getr (ci := 1) (j := 1) (ji := 1) (z := 8) dX1_inForce_16 k_179 (by decide) kk_7 (by decide) rfl rfl (fun r => rt_7_1 (r rfl)) (by decide) ?_
    refine v_iload dX1_inForce_19 rfl ?_
    refine v_iaload dX1_inForce_21 (by decide) kk_8 (by omega) (by omega) ?_
    refine v_iload_n dX1_inForce_22 rfl ?_
    refine v_icmp_ne (tgt := 52) dX1_inForce_23 (by decide) (fun c23_2 => ?_) (fun c23_2 => ?_)
    · refine v_iconst dX1_inForce_52 (c32 rfl) ?_
      refine v_istore_6 dX1_inForce_53 (by decide) rfl ?_
      refine v_iload dX1_inForce_55 rfl ?_
      refine v_if_eq_t (tgt := 87) dX1_inForce_57 (by decide) (by decide) ?_
      refine v_iinc_5 dX1_inForce_87 (by decide) rfl ?_
      rw [iadd_eq (x := k) (y := 1) (by unfold ok32; omega)]
      refine v_goto (tgt := 6) dX1_inForce_90 (by decide) ?_
      have ih := ih (by omega)
      have e4 : (ifc (h 8) (h 9) (h 10) p0 p1 p2 (k + 1)) = (ifc (h 8) (h 9) (h 10) p0 p1 p2 k) := by rw [ifc_s hk]; unfold inStep; first | (rw [if_pos (by omega)]; done) | (rw [if_neg (by omega)]; done)
      rw [e4] at ih
      refine v_loc (lo_k (lo_k (lo_k (lo_k (lo_k (lo_k (lo_d lo_nil))))))) ?_
      exact ih
    · refine v_aload_n dX1_inForce_26 rfl ?_
      refine v_getr (ci := 1) (j := 3) (ji := 3) (z := 10) dX1_inForce_27 k_181 (by decide) kk_7 (by decide) rfl rfl (fun r => rt_7_3 (r rfl)) (by decide) ?_
      refine v_iload dX1_inForce_30 rfl ?_
      refine v_iaload dX1_inForce_32 (by decide) kk_10 (by omega) (by omega) ?_
      refine v_iload_n dX1_inForce_33 rfl ?_
      refine v_icmp_gt (tgt := 52) dX1_inForce_34 (by decide) (fun c34_3 => ?_) (fun c34_3 => ?_)
      · refine v_iconst dX1_inForce_52 (c32 rfl) ?_
        refine v_istore_6 dX1_inForce_53 (by decide) rfl ?_
        refine v_iload dX1_inForce_55 rfl ?_
        refine v_if_eq_t (tgt := 87) dX1_inForce_57 (by decide) (by decide) ?_
        refine v_iinc_5 dX1_inForce_87 (by decide) rfl ?_
        rw [iadd_eq (x := k) (y := 1) (by unfold ok32; omega)]
        refine v_goto (tgt := 6) dX1_inForce_90 (by decide) ?_
        have ih := ih (by omega)
        have e4 : (ifc (h 8) (h 9) (h 10) p0 p1 p2 (k + 1)) = (ifc (h 8) (h 9) (h 10) p0 p1 p2 k) := by rw [ifc_s hk]; unfold inStep; first | (rw [if_pos (by omega)]; done) | (rw [if_neg (by omega)]; done)
        rw [e4] at ih
        refine v_loc (lo_k (lo_k (lo_k (lo_k (lo_k (lo_k (lo_d lo_nil))))))) ?_
        exact ih
      · refine v_aload_n dX1_inForce_37 rfl ?_
        refine v_getr (ci := 1) (j := 2) (ji := 2) (z := 9) dX1_inForce_38 k_180 (by decide) kk_7 (by decide) rfl rfl (fun r => rt_7_2 (r rfl)) (by decide) ?_
        refine v_iload dX1_inForce_41 rfl ?_
        refine v_iaload dX1_inForce_43 (by decide) kk_9 (by omega) (by omega) ?_
        refine v_iload_n dX1_inForce_44 rfl ?_
        refine v_icmp_gt (tgt := 52) dX1_inForce_45 (by decide) (fun c45_4 => ?_) (fun c45_4 => ?_)
        · refine v_iconst dX1_inForce_52 (c32 rfl) ?_
          refine v_istore_6 dX1_inForce_53 (by decide) rfl ?_
          refine v_iload dX1_inForce_55 rfl ?_
          refine v_if_eq_t (tgt := 87) dX1_inForce_57 (by decide) (by decide) ?_
          refine v_iinc_5 dX1_inForce_87 (by decide) rfl ?_
          rw [iadd_eq (x := k) (y := 1) (by unfold ok32; omega)]
          refine v_goto (tgt := 6) dX1_inForce_90 (by decide) ?_
          have ih := ih (by omega)
          have e4 : (ifc (h 8) (h 9) (h 10) p0 p1 p2 (k + 1)) = (ifc (h 8) (h 9) (h 10) p0 p1 p2 k) := by rw [ifc_s hk]; unfold inStep; first | (rw [if_pos (by omega)]; done) | (rw [if_neg (by omega)]; done)
          rw [e4] at ih
          refine v_loc (lo_k (lo_k (lo_k (lo_k (lo_k (lo_k (lo_d lo_nil))))))) ?_
          exact ih
        · refine v_iconst dX1_inForce_48 (c32 rfl) ?_
          refine v_goto (tgt := 53) dX1_inForce_49 (by decide) ?_
          refine v_istore_6 dX1_inForce_53 (by decide) rfl ?_
          refine v_iload dX1_inForce_55 rfl ?_
          refine v_if_eq_f (tgt := 87) dX1_inForce_57 (by decide) (by decide) ?_
          refine v_iload dX1_inForce_60 rfl ?_
          refine v_iconst dX1_inForce_62 (c32 rfl) ?_
          refine v_icmp_eq (tgt := 83) dX1_inForce_63 (by decide) (fun c63_5 => ?_) (fun c63_5 => ?_)
          · refine v_iload dX1_inForce_83 rfl ?_
            refine v_istore_4 dX1_inForce_85 (by decide) rfl ?_
            refine v_iinc_5 dX1_inForce_87 (by decide) rfl ?_
            rw [iadd_eq (x := k) (y := 1) (by unfold ok32; omega)]
            refine v_goto (tgt := 6) dX1_inForce_90 (by decide) ?_
            have ih := ih (by omega)
            have e4 : (ifc (h 8) (h 9) (h 10) p0 p1 p2 (k + 1)) = k := by rw [ifc_s hk]; unfold inStep; first | (rw [if_pos (by omega)]; done) | (rw [if_neg (by omega)]; done)
            rw [e4] at ih
            refine v_loc (lo_k (lo_k (lo_k (lo_k (lo_k (lo_k (lo_d lo_nil))))))) ?_
            exact ih
          · refine v_aload_n dX1_inForce_66 rfl ?_
            refine v_getr (ci := 1) (j := 2) (ji := 2) (z := 9) dX1_inForce_67 k_180 (by decide) kk_7 (by decide) rfl rfl (fun r => rt_7_2 (r rfl)) (by decide) ?_
            refine v_iload dX1_inForce_70 rfl ?_
            refine v_iaload dX1_inForce_72 (by decide) kk_9 (by omega) (by omega) ?_
            refine v_aload_n dX1_inForce_73 rfl ?_
            refine v_getr (ci := 1) (j := 2) (ji := 2) (z := 9) dX1_inForce_74 k_180 (by decide) kk_7 (by decide) rfl rfl (fun r => rt_7_2 (r rfl)) (by decide) ?_
            refine v_iload dX1_inForce_77 rfl ?_
            refine v_iaload dX1_inForce_79 (by decide) kk_9 (by omega) (by omega) ?_
            refine v_icmp_lt (tgt := 87) dX1_inForce_80 (by decide) (fun c80_6 => ?_) (fun c80_6 => ?_)
            · refine v_iinc_5 dX1_inForce_87 (by decide) rfl ?_
              rw [iadd_eq (x := k) (y := 1) (by unfold ok32; omega)]
              refine v_goto (tgt := 6) dX1_inForce_90 (by decide) ?_
              have ih := ih (by omega)
              have e4 : (ifc (h 8) (h 9) (h 10) p0 p1 p2 (k + 1)) = (ifc (h 8) (h 9) (h 10) p0 p1 p2 k) := by rw [ifc_s hk]; unfold inStep; first | (rw [if_pos (by omega)]; done) | (rw [if_neg (by omega)]; done)
              rw [e4] at ih
              refine v_loc (lo_k (lo_k (lo_k (lo_k (lo_k (lo_k (lo_d lo_nil))))))) ?_
              exact ih
            · refine v_iload dX1_inForce_83 rfl ?_
              refine v_istore_4 dX1_inForce_85 (by decide) rfl ?_
              refine v_iinc_5 dX1_inForce_87 (by decide) rfl ?_
              rw [iadd_eq (x := k) (y := 1) (by unfold ok32; omega)]
              refine v_goto (tgt := 6) dX1_inForce_90 (by decide) ?_
              have ih := ih (by omega)
              have e4 : (ifc (h 8) (h 9) (h 10) p0 p1 p2 (k + 1)) = k := by rw [ifc_s hk]; unfold inStep; first | (rw [if_pos (by omega)]; done) | (rw [if_neg (by omega)]; done)
              rw [e4] at ih
              refine v_loc (lo_k (lo_k (lo_k (lo_k (lo_k (lo_k (lo_d lo_nil))))))) ?_
              exact ih

set_option maxHeartbeats 4000000 in
set_option maxRecDepth 100000 in
theorem s_X1_inForce_7 {l : Launch} {G : GG} {d : Nat} {h : AH} {Q : Option AV → List Kd → AH → Prop} {p0 p1 p2 : Int} (hd : 1 ≤ d) (b0 : 0 ≤ (h 7 4)) (bN : (h 7 4) ≤ 40) (hq : Q (some (0, (ifc (h 8) (h 9) (h 10) p0 p1 p2 (h 7 4)))) K0 h) : Sp l G mX1_inForce d 0 0 K0 [(2, 7), (0, p0), (0, p1), (0, p2)] h Q := by
  refine sp_of (L := [(2, 7), (0, p0), (0, p1), (0, p2), (9, 0), (9, 0), (9, 0)]) pl_X1 (Nat.le_of_ble_eq_true rfl) (tg_c (by decide) (tg_c (by decide) (tg_c (by decide) (tg_c (by decide) tg_0)))) rfl ?_
  refine v_iconst dX1_inForce_0 (c32 rfl) ?_
  refine v_istore_4 dX1_inForce_1 (by decide) rfl ?_
  refine v_iconst dX1_inForce_3 (c32 rfl) ?_
  refine v_istore_5 dX1_inForce_4 (by decide) rfl ?_
  exact lp_X1_inForce_7 hd b0 bN hq 0 (Int.le_refl _) b0

set_option maxHeartbeats 4000000 in
set_option maxRecDepth 100000 in
theorem s_X1_has_12 {l : Launch} {G : GG} {d : Nat} {h : AH} {Q : Option AV → List Kd → AH → Prop} {p0 : Int} (hd : 2 ≤ d) (z0 : 0 ≤ (h 12 4)) (c0 : (h 12 4) ≤ 20)
    (q_1 : p0 < 0 → Q (some (0, 0)) K0 h)
    (q_2 : 0 ≤ p0 → ((h 12 4) - 1) < p0 → Q (some (0, 0)) K0 h)
    (q_3 : 0 ≤ p0 → p0 ≤ ((h 12 4) - 1) → Q (some (0, 1)) K0 h) : Sp l G mX1_has d 0 0 K0 [(2, 12), (0, p0)] h Q := by
  refine sp_of (L := [(2, 12), (0, p0)]) pl_X1 (Nat.le_of_ble_eq_true rfl) (tg_c (by decide) (tg_c (by decide) tg_0)) rfl ?_
  refine v_iload_n dX1_has_0 rfl ?_
  refine v_iconst dX1_has_1 (c32 rfl) ?_
  refine v_aload_n dX1_has_2 rfl ?_
  refine v_get (ci := 1) (j := 4) (ji := 4) (tg := 0) dX1_has_3 k_182 (by decide) kk_12 (by decide) rfl rfl (by decide) ?_
  refine v_iconst dX1_has_6 (c32 rfl) ?_
  refine v_isubE dX1_has_7 (by omega) ?_
  refine v_callsN (M' := mX11_within) (d' := d - 1) (mc' := 0) (ms' := 0) (As := [_, _, _]) dX1_has_8 k_601 cm_X11_within (by omega) (Nat.le_of_ble_eq_true rfl) rfl ⟨Nat.le_refl _, Nat.le_refl _⟩ ?_
  refine s_X11_within (by omega) (fun c8_1 => ?_) (fun c8_2 c8_3 => ?_) (fun c8_4 c8_5 => ?_)
  · dsimp only [Option.toList, List.cons_append, List.nil_append, Nat.add_zero]
    refine v_iretz dX1_has_11 rfl (by decide) (Nat.le_refl _) (Nat.le_refl _) ?_
    exact q_1 c8_1
  · dsimp only [Option.toList, List.cons_append, List.nil_append, Nat.add_zero]
    refine v_iretz dX1_has_11 rfl (by decide) (Nat.le_refl _) (Nat.le_refl _) ?_
    exact q_2 c8_2 c8_3
  · dsimp only [Option.toList, List.cons_append, List.nil_append, Nat.add_zero]
    refine v_iretz dX1_has_11 rfl (by decide) (Nat.le_refl _) (Nat.le_refl _) ?_
    exact q_3 c8_4 c8_5

set_option maxHeartbeats 4000000 in
set_option maxRecDepth 100000 in
theorem s_X1_webOf_12 {l : Launch} {G : GG} {d : Nat} {h : AH} {Q : Option AV → List Kd → AH → Prop} {p0 : Int} (hd : 3 ≤ d) (z0 : 0 ≤ (h 12 4)) (c0 : (h 12 4) ≤ 20)
    (q_1 : p0 < 0 → Q (some (0, (-1))) K0 h)
    (q_2 : 0 ≤ p0 → ((h 12 4) - 1) < p0 → Q (some (0, (-1))) K0 h)
    (q_3 : 0 ≤ p0 → p0 ≤ ((h 12 4) - 1) → Q (some (0, (h 13 p0))) K0 h) : Sp l G mX1_webOf d 0 0 K0 [(2, 12), (0, p0)] h Q := by
  refine sp_of (L := [(2, 12), (0, p0)]) pl_X1 (Nat.le_of_ble_eq_true rfl) (tg_c (by decide) (tg_c (by decide) tg_0)) rfl ?_
  refine v_aload_n dX1_webOf_0 rfl ?_
  refine v_iload_n dX1_webOf_1 rfl ?_
  refine v_callv (M' := mX1_has) (d' := d - 1) (mc' := 0) (ms' := 0) (ci := 1) (c := 12) (As := [_]) dX1_webOf_2 k_1259 cm_X1_has rfl (by omega) (by decide) kk_12 (Nat.le_of_ble_eq_true rfl) rfl ⟨Nat.le_refl _, Nat.le_refl _⟩ ?_
  refine s_X1_has_12 (by omega) (by omega) (by omega) (fun c2_1 => ?_) (fun c2_2 c2_3 => ?_) (fun c2_4 c2_5 => ?_)
  · dsimp only [Option.toList, List.cons_append, List.nil_append, Nat.add_zero]
    refine v_if_eq_t (tgt := 17) dX1_webOf_5 (by decide) (by decide) ?_
    refine v_iconst dX1_webOf_17 (c32 rfl) ?_
    refine v_ireti dX1_webOf_18 rfl (Nat.le_refl _) (Nat.le_refl _) ?_
    exact q_1 c2_1
  · dsimp only [Option.toList, List.cons_append, List.nil_append, Nat.add_zero]
    refine v_if_eq_t (tgt := 17) dX1_webOf_5 (by decide) (by decide) ?_
    refine v_iconst dX1_webOf_17 (c32 rfl) ?_
    refine v_ireti dX1_webOf_18 rfl (Nat.le_refl _) (Nat.le_refl _) ?_
    exact q_2 c2_2 c2_3
  · dsimp only [Option.toList, List.cons_append, List.nil_append, Nat.add_zero]
    refine v_if_eq_f (tgt := 17) dX1_webOf_5 (by decide) (by decide) ?_
    refine v_aload_n dX1_webOf_8 rfl ?_
    refine v_getr (ci := 1) (j := 1) (ji := 1) (z := 13) dX1_webOf_9 k_179 (by decide) kk_12 (by decide) rfl rfl (fun r => rt_12_1 (r rfl)) (by decide) ?_
    refine v_iload_n dX1_webOf_12 rfl ?_
    refine v_iaload dX1_webOf_13 (by decide) kk_13 (by omega) (by omega) ?_
    refine v_goto (tgt := 18) dX1_webOf_14 (by decide) ?_
    refine v_ireti dX1_webOf_18 rfl (Nat.le_refl _) (Nat.le_refl _) ?_
    exact q_3 c2_4 c2_5

set_option maxHeartbeats 4000000 in
set_option maxRecDepth 100000 in
theorem s_X1_add_12 {l : Launch} {G : GG} {d : Nat} {h : AH} {Q : Option AV → List Kd → AH → Prop} {p0 p1 p2 : Int} (hd : 2 ≤ d) (z0 : 0 ≤ (h 12 4)) (c0 : (h 12 4) ≤ 20) (m0 : (h 12 0) = 20)
    (q_1 : (h 12 0) ≤ (h 12 4) → Q (some (0, (-1))) K0 h)
    (q_2 : (h 12 4) < (h 12 0) → p0 < 0 → Q (some (0, (-1))) K0 h)
    (q_3 : (h 12 4) < (h 12 0) → 0 ≤ p0 → 3 < p0 → Q (some (0, (-1))) K0 h)
    (q_4 : (h 12 4) < (h 12 0) → 0 ≤ p0 → p0 ≤ 3 → p1 < 0 → Q (some (0, (-1))) K0 h)
    (q_5 : (h 12 4) < (h 12 0) → 0 ≤ p0 → p0 ≤ 3 → 0 ≤ p1 → 2000 < p1 → Q (some (0, (-1))) K0 h)
    (q_6 : (h 12 4) < (h 12 0) → 0 ≤ p0 → p0 ≤ 3 → 0 ≤ p1 → p1 ≤ 2000 → Q (some (0, (((h 12 4) + 1) - 1))) K0 (hset (hset (hset (hset h 13 (h 12 4) p0) 14 (h 12 4) p1) 15 (h 12 4) p2) 12 4 ((h 12 4) + 1))) : Sp l G mX1_add d 0 0 K0 [(2, 12), (0, p0), (0, p1), (0, p2)] h Q := by
  refine sp_of (L := [(2, 12), (0, p0), (0, p1), (0, p2)]) pl_X1 (Nat.le_of_ble_eq_true rfl) (tg_c (by decide) (tg_c (by decide) (tg_c (by decide) (tg_c (by decide) tg_0)))) rfl ?_
  refine v_aload_n dX1_add_0 rfl ?_
  refine v_get (ci := 1) (j := 4) (ji := 4) (tg := 0) dX1_add_1 k_182 (by decide) kk_12 (by decide) rfl rfl (by decide) ?_
  refine v_aload_n dX1_add_4 rfl ?_
  refine v_get (ci := 1) (j := 0) (ji := 0) (tg := 0) dX1_add_5 k_178 (by decide) kk_12 (by decide) rfl rfl (by decide) ?_
  refine v_icmp_ge (tgt := 31) dX1_add_8 (by decide) (fun c8_1 => ?_) (fun c8_1 => ?_)
  · refine v_iconst dX1_add_31 (c32 rfl) ?_
    refine v_ireti dX1_add_32 rfl (Nat.le_refl _) (Nat.le_refl _) ?_
    exact q_1 c8_1
  · refine v_iload_n dX1_add_11 rfl ?_
    refine v_iconst dX1_add_12 (c32 rfl) ?_
    refine v_iconst dX1_add_13 (c32 rfl) ?_
    refine v_callsN (M' := mX11_within) (d' := d - 1) (mc' := 0) (ms' := 0) (As := [_, _, _]) dX1_add_14 k_601 cm_X11_within (by omega) (Nat.le_of_ble_eq_true rfl) rfl ⟨Nat.le_refl _, Nat.le_refl _⟩ ?_
    refine s_X11_within (by omega) (fun c14_2 => ?_) (fun c14_3 c14_4 => ?_) (fun c14_5 c14_6 => ?_)
    · dsimp only [Option.toList, List.cons_append, List.nil_append, Nat.add_zero]
      refine v_if_eq_t (tgt := 31) dX1_add_17 (by decide) (by decide) ?_
      refine v_iconst dX1_add_31 (c32 rfl) ?_
      refine v_ireti dX1_add_32 rfl (Nat.le_refl _) (Nat.le_refl _) ?_
      exact q_2 c8_1 c14_2
    · dsimp only [Option.toList, List.cons_append, List.nil_append, Nat.add_zero]
      refine v_if_eq_t (tgt := 31) dX1_add_17 (by decide) (by decide) ?_
      refine v_iconst dX1_add_31 (c32 rfl) ?_
      refine v_ireti dX1_add_32 rfl (Nat.le_refl _) (Nat.le_refl _) ?_
      exact q_3 c8_1 c14_3 c14_4
    · dsimp only [Option.toList, List.cons_append, List.nil_append, Nat.add_zero]
      refine v_if_eq_f (tgt := 31) dX1_add_17 (by decide) (by decide) ?_
      refine v_iload_n dX1_add_20 rfl ?_
      refine v_iconst dX1_add_21 (c32 rfl) ?_
      refine v_sipush dX1_add_22 (c32 rfl) (by decide) ?_
      refine v_callsN (M' := mX11_within) (d' := d - 1) (mc' := 0) (ms' := 0) (As := [_, _, _]) dX1_add_25 k_601 cm_X11_within (by omega) (Nat.le_of_ble_eq_true rfl) rfl ⟨Nat.le_refl _, Nat.le_refl _⟩ ?_
      refine s_X11_within (by omega) (fun c25_7 => ?_) (fun c25_8 c25_9 => ?_) (fun c25_10 c25_11 => ?_)
      · dsimp only [Option.toList, List.cons_append, List.nil_append, Nat.add_zero]
        refine v_if_ne_f (tgt := 33) dX1_add_28 (by decide) (by decide) ?_
        refine v_iconst dX1_add_31 (c32 rfl) ?_
        refine v_ireti dX1_add_32 rfl (Nat.le_refl _) (Nat.le_refl _) ?_
        exact q_4 c8_1 c14_5 c14_6 c25_7
      · dsimp only [Option.toList, List.cons_append, List.nil_append, Nat.add_zero]
        refine v_if_ne_f (tgt := 33) dX1_add_28 (by decide) (by decide) ?_
        refine v_iconst dX1_add_31 (c32 rfl) ?_
        refine v_ireti dX1_add_32 rfl (Nat.le_refl _) (Nat.le_refl _) ?_
        exact q_5 c8_1 c14_5 c14_6 c25_8 c25_9
      · dsimp only [Option.toList, List.cons_append, List.nil_append, Nat.add_zero]
        refine v_if_ne_t (tgt := 33) dX1_add_28 (by decide) (by decide) ?_
        refine v_aload_n dX1_add_33 rfl ?_
        refine v_getr (ci := 1) (j := 1) (ji := 1) (z := 13) dX1_add_34 k_179 (by decide) kk_12 (by decide) rfl rfl (fun r => rt_12_1 (r rfl)) (by decide) ?_
        refine v_aload_n dX1_add_37 rfl ?_
        refine v_get (ci := 1) (j := 4) (ji := 4) (tg := 0) dX1_add_38 k_182 (by decide) kk_12 (by decide) rfl rfl (by decide) ?_
        refine v_iload_n dX1_add_41 rfl ?_
        refine v_iastore dX1_add_42 (by decide) kk_13 (by omega) (by omega) ?_
        refine v_aload_n dX1_add_43 rfl ?_
        refine v_getr (ci := 1) (j := 2) (ji := 2) (z := 14) dX1_add_44 k_180 (by decide) kk_12 (by decide) rfl rfl (fun r => rt_12_2 (r rfl)) (by decide) ?_
        refine v_aload_n dX1_add_47 rfl ?_
        refine v_getv (ci := 1) (j := 4) (ji := 4) (tg := 0) dX1_add_48 k_182 (by decide) kk_12 (by decide) rfl rfl (by decide) (hset_c (by decide)) ?_
        refine v_iload_n dX1_add_51 rfl ?_
        refine v_iastore dX1_add_52 (by decide) kk_14 (by omega) (by omega) ?_
        refine v_aload_n dX1_add_53 rfl ?_
        refine v_getr (ci := 1) (j := 3) (ji := 3) (z := 15) dX1_add_54 k_181 (by decide) kk_12 (by decide) rfl rfl (fun r => rt_12_3 (r rfl)) (by decide) ?_
        refine v_aload_n dX1_add_57 rfl ?_
        refine v_getv (ci := 1) (j := 4) (ji := 4) (tg := 0) dX1_add_58 k_182 (by decide) kk_12 (by decide) rfl rfl (by decide) ((hset_c (by decide)).trans (hset_c (by decide))) ?_
        refine v_iload_n dX1_add_61 rfl ?_
        refine v_iastore dX1_add_62 (by decide) kk_15 (by omega) (by omega) ?_
        refine v_aload_n dX1_add_63 rfl ?_
        refine v_dup dX1_add_64 rfl ?_
        refine v_getv (ci := 1) (j := 4) (ji := 4) (tg := 0) dX1_add_65 k_182 (by decide) kk_12 (by decide) rfl rfl (by decide) ((hset_c (by decide)).trans ((hset_c (by decide)).trans (hset_c (by decide)))) ?_
        refine v_iconst dX1_add_68 (c32 rfl) ?_
        refine v_iaddE dX1_add_69 (by omega) ?_
        refine v_puti (ci := 1) (j := 4) (ji := 4) dX1_add_70 k_182 (by decide) kk_12 (by decide) rfl rfl rfl ?_
        refine v_aload_n dX1_add_73 rfl ?_
        refine v_getv (ci := 1) (j := 4) (ji := 4) (tg := 0) dX1_add_74 k_182 (by decide) kk_12 (by decide) rfl rfl (by decide) (hset_same _ _ _ _) ?_
        refine v_iconst dX1_add_77 (c32 rfl) ?_
        refine v_isubE dX1_add_78 (by omega) ?_
        refine v_ireti dX1_add_79 rfl (Nat.le_refl _) (Nat.le_refl _) ?_
        exact q_6 c8_1 c14_5 c14_6 c25_10 c25_11

set_option maxHeartbeats 4000000 in
set_option maxRecDepth 100000 in
theorem lp_X1_inForce_12 {l : Launch} {G : GG} {d : Nat} {h : AH} {Q : Option AV → List Kd → AH → Prop} {p0 p1 p2 : Int} (hd : 1 ≤ d) (b0 : 0 ≤ (h 12 4)) (bN : (h 12 4) ≤ 20) (hq : Q (some (0, (ifc (h 13) (h 14) (h 15) p0 p1 p2 (h 12 4)))) K0 h) : ∀ k, 0 ≤ k → k ≤ (h 12 4) → V l G mX1_inForce d 0 0 0 0 K0 6 [(2, 12), (0, p0), (0, p1), (0, p2), (0, (ifc (h 13) (h 14) (h 15) p0 p1 p2 k)), (0, k), (9, 0)] [] h Q := by
  refine loop_m3 (fun k hk hkN ih => ?_)
  have hb := ifc_lt (w := (h 13)) (f := (h 14)) (t := (h 15)) (web := p0) (day := p1) (q := p2) hk
  refine v_iload dX1_inForce_6 rfl ?_
  refine v_aload_n dX1_inForce_8 rfl ?_
  refine v_get (ci := 1) (j := 4) (ji := 4) (tg := 0) dX1_inForce_9 k_182 (by decide) kk_12 (by decide) rfl rfl (by decide) ?_
  refine v_icmp_ge (tgt := 93) dX1_inForce_12 (by decide) (fun c12_1 => ?_) (fun c12_1 => ?_)
  · obtain rfl : k = (h 12 4) := by omega
    refine v_iload dX1_inForce_93 rfl ?_
    refine v_ireti dX1_inForce_95 rfl (Nat.le_refl _) (Nat.le_refl _) ?_
    exact hq
  · refine v_aload_n dX1_inForce_15 rfl ?_
    refine v_getr (ci := 1) (j := 1) (ji := 1) (z := 13) dX1_inForce_16 k_179 (by decide) kk_12 (by decide) rfl rfl (fun r => rt_12_1 (r rfl)) (by decide) ?_
    refine v_iload dX1_inForce_19 rfl ?_
    refine v_iaload dX1_inForce_21 (by decide) kk_13 (by omega) (by omega) ?_
    refine v_iload_n dX1_inForce_22 rfl ?_
    refine v_icmp_ne (tgt := 52) dX1_inForce_23 (by decide) (fun c23_2 => ?_) (fun c23_2 => ?_)
    · refine v_iconst dX1_inForce_52 (c32 rfl) ?_
      refine v_istore_6 dX1_inForce_53 (by decide) rfl ?_
      refine v_iload dX1_inForce_55 rfl ?_
      refine v_if_eq_t (tgt := 87) dX1_inForce_57 (by decide) (by decide) ?_
      refine v_iinc_5 dX1_inForce_87 (by decide) rfl ?_
      rw [iadd_eq (x := k) (y := 1) (by unfold ok32; omega)]
      refine v_goto (tgt := 6) dX1_inForce_90 (by decide) ?_
      have ih := ih (by omega)
      have e4 : (ifc (h 13) (h 14) (h 15) p0 p1 p2 (k + 1)) = (ifc (h 13) (h 14) (h 15) p0 p1 p2 k) := by rw [ifc_s hk]; unfold inStep; first | (rw [if_pos (by omega)]; done) | (rw [if_neg (by omega)]; done)
      rw [e4] at ih
      refine v_loc (lo_k (lo_k (lo_k (lo_k (lo_k (lo_k (lo_d lo_nil))))))) ?_
      exact ih
    · refine v_aload_n dX1_inForce_26 rfl ?_
      refine v_getr (ci := 1) (j := 3) (ji := 3) (z := 15) dX1_inForce_27 k_181 (by decide) kk_12 (by decide) rfl rfl (fun r => rt_12_3 (r rfl)) (by decide) ?_
      refine v_iload dX1_inForce_30 rfl ?_
      refine v_iaload dX1_inForce_32 (by decide) kk_15 (by omega) (by omega) ?_
      refine v_iload_n dX1_inForce_33 rfl ?_
      refine v_icmp_gt (tgt := 52) dX1_inForce_34 (by decide) (fun c34_3 => ?_) (fun c34_3 => ?_)
      · refine v_iconst dX1_inForce_52 (c32 rfl) ?_
        refine v_istore_6 dX1_inForce_53 (by decide) rfl ?_
        refine v_iload dX1_inForce_55 rfl ?_
        refine v_if_eq_t (tgt := 87) dX1_inForce_57 (by decide) (by decide) ?_
        refine v_iinc_5 dX1_inForce_87 (by decide) rfl ?_
        rw [iadd_eq (x := k) (y := 1) (by unfold ok32; omega)]
        refine v_goto (tgt := 6) dX1_inForce_90 (by decide) ?_
        have ih := ih (by omega)
        have e4 : (ifc (h 13) (h 14) (h 15) p0 p1 p2 (k + 1)) = (ifc (h 13) (h 14) (h 15) p0 p1 p2 k) := by rw [ifc_s hk]; unfold inStep; first | (rw [if_pos (by omega)]; done) | (rw [if_neg (by omega)]; done)
        rw [e4] at ih
        refine v_loc (lo_k (lo_k (lo_k (lo_k (lo_k (lo_k (lo_d lo_nil))))))) ?_
        exact ih
      · refine v_aload_n dX1_inForce_37 rfl ?_
        refine v_getr (ci := 1) (j := 2) (ji := 2) (z := 14) dX1_inForce_38 k_180 (by decide) kk_12 (by decide) rfl rfl (fun r => rt_12_2 (r rfl)) (by decide) ?_
        refine v_iload dX1_inForce_41 rfl ?_
        refine v_iaload dX1_inForce_43 (by decide) kk_14 (by omega) (by omega) ?_
        refine v_iload_n dX1_inForce_44 rfl ?_
        refine v_icmp_gt (tgt := 52) dX1_inForce_45 (by decide) (fun c45_4 => ?_) (fun c45_4 => ?_)
        · refine v_iconst dX1_inForce_52 (c32 rfl) ?_
          refine v_istore_6 dX1_inForce_53 (by decide) rfl ?_
          refine v_iload dX1_inForce_55 rfl ?_
          refine v_if_eq_t (tgt := 87) dX1_inForce_57 (by decide) (by decide) ?_
          refine v_iinc_5 dX1_inForce_87 (by decide) rfl ?_
          rw [iadd_eq (x := k) (y := 1) (by unfold ok32; omega)]
          refine v_goto (tgt := 6) dX1_inForce_90 (by decide) ?_
          have ih := ih (by omega)
          have e4 : (ifc (h 13) (h 14) (h 15) p0 p1 p2 (k + 1)) = (ifc (h 13) (h 14) (h 15) p0 p1 p2 k) := by rw [ifc_s hk]; unfold inStep; first | (rw [if_pos (by omega)]; done) | (rw [if_neg (by omega)]; done)
          rw [e4] at ih
          refine v_loc (lo_k (lo_k (lo_k (lo_k (lo_k (lo_k (lo_d lo_nil))))))) ?_
          exact ih
        · refine v_iconst dX1_inForce_48 (c32 rfl) ?_
          refine v_goto (tgt := 53) dX1_inForce_49 (by decide) ?_
          refine v_istore_6 dX1_inForce_53 (by decide) rfl ?_
          refine v_iload dX1_inForce_55 rfl ?_
          refine v_if_eq_f (tgt := 87) dX1_inForce_57 (by decide) (by decide) ?_
          refine v_iload dX1_inForce_60 rfl ?_
          refine v_iconst dX1_inForce_62 (c32 rfl) ?_
          refine v_icmp_eq (tgt := 83) dX1_inForce_63 (by decide) (fun c63_5 => ?_) (fun c63_5 => ?_)
          · refine v_iload dX1_inForce_83 rfl ?_
            refine v_istore_4 dX1_inForce_85 (by decide) rfl ?_
            refine v_iinc_5 dX1_inForce_87 (by decide) rfl ?_
            rw [iadd_eq (x := k) (y := 1) (by unfold ok32; omega)]
            refine v_goto (tgt := 6) dX1_inForce_90 (by decide) ?_
            have ih := ih (by omega)
            have e4 : (ifc (h 13) (h 14) (h 15) p0 p1 p2 (k + 1)) = k := by rw [ifc_s hk]; unfold inStep; first | (rw [if_pos (by omega)]; done) | (rw [if_neg (by omega)]; done)
            rw [e4] at ih
            refine v_loc (lo_k (lo_k (lo_k (lo_k (lo_k (lo_k (lo_d lo_nil))))))) ?_
            exact ih
          · refine v_aload_n dX1_inForce_66 rfl ?_
            refine v_getr (ci := 1) (j := 2) (ji := 2) (z := 14) dX1_inForce_67 k_180 (by decide) kk_12 (by decide) rfl rfl (fun r => rt_12_2 (r rfl)) (by decide) ?_
            refine v_iload dX1_inForce_70 rfl ?_
            refine v_iaload dX1_inForce_72 (by decide) kk_14 (by omega) (by omega) ?_
            refine v_aload_n dX1_inForce_73 rfl ?_
            refine v_getr (ci := 1) (j := 2) (ji := 2) (z := 14) dX1_inForce_74 k_180 (by decide) kk_12 (by decide) rfl rfl (fun r => rt_12_2 (r rfl)) (by decide) ?_
            refine v_iload dX1_inForce_77 rfl ?_
            refine v_iaload dX1_inForce_79 (by decide) kk_14 (by omega) (by omega) ?_
            refine v_icmp_lt (tgt := 87) dX1_inForce_80 (by decide) (fun c80_6 => ?_) (fun c80_6 => ?_)
            · refine v_iinc_5 dX1_inForce_87 (by decide) rfl ?_
              rw [iadd_eq (x := k) (y := 1) (by unfold ok32; omega)]
              refine v_goto (tgt := 6) dX1_inForce_90 (by decide) ?_
              have ih := ih (by omega)
              have e4 : (ifc (h 13) (h 14) (h 15) p0 p1 p2 (k + 1)) = (ifc (h 13) (h 14) (h 15) p0 p1 p2 k) := by rw [ifc_s hk]; unfold inStep; first | (rw [if_pos (by omega)]; done) | (rw [if_neg (by omega)]; done)
              rw [e4] at ih
              refine v_loc (lo_k (lo_k (lo_k (lo_k (lo_k (lo_k (lo_d lo_nil))))))) ?_
              exact ih
            · refine v_iload dX1_inForce_83 rfl ?_
              refine v_istore_4 dX1_inForce_85 (by decide) rfl ?_
              refine v_iinc_5 dX1_inForce_87 (by decide) rfl ?_
              rw [iadd_eq (x := k) (y := 1) (by unfold ok32; omega)]
              refine v_goto (tgt := 6) dX1_inForce_90 (by decide) ?_
              have ih := ih (by omega)
              have e4 : (ifc (h 13) (h 14) (h 15) p0 p1 p2 (k + 1)) = k := by rw [ifc_s hk]; unfold inStep; first | (rw [if_pos (by omega)]; done) | (rw [if_neg (by omega)]; done)
              rw [e4] at ih
              refine v_loc (lo_k (lo_k (lo_k (lo_k (lo_k (lo_k (lo_d lo_nil))))))) ?_
              exact ih

set_option maxHeartbeats 4000000 in
set_option maxRecDepth 100000 in
theorem s_X1_inForce_12 {l : Launch} {G : GG} {d : Nat} {h : AH} {Q : Option AV → List Kd → AH → Prop} {p0 p1 p2 : Int} (hd : 1 ≤ d) (b0 : 0 ≤ (h 12 4)) (bN : (h 12 4) ≤ 20) (hq : Q (some (0, (ifc (h 13) (h 14) (h 15) p0 p1 p2 (h 12 4)))) K0 h) : Sp l G mX1_inForce d 0 0 K0 [(2, 12), (0, p0), (0, p1), (0, p2)] h Q := by
  refine sp_of (L := [(2, 12), (0, p0), (0, p1), (0, p2), (9, 0), (9, 0), (9, 0)]) pl_X1 (Nat.le_of_ble_eq_true rfl) (tg_c (by decide) (tg_c (by decide) (tg_c (by decide) (tg_c (by decide) tg_0)))) rfl ?_
  refine v_iconst dX1_inForce_0 (c32 rfl) ?_
  refine v_istore_4 dX1_inForce_1 (by decide) rfl ?_
  refine v_iconst dX1_inForce_3 (c32 rfl) ?_
  refine v_istore_5 dX1_inForce_4 (by decide) rfl ?_
  exact lp_X1_inForce_12 hd b0 bN hq 0 (Int.le_refl _) b0

set_option maxHeartbeats 4000000 in
set_option maxRecDepth 100000 in
theorem s_X3_tell_53 {l : Launch} {G : GG} {d : Nat} {h : AH} {Q : Option AV → List Kd → AH → Prop} {p0 p1 p2 : Int} (hd : 2 ≤ d) (z0 : 0 ≤ (h 53 3)) (c0 : (h 53 3) ≤ 100)
    (q_1 : (h 53 3) < 100 → Q (some (0, 1)) K0 (hset (hset (hset (hset h 54 (h 53 3) p0) 55 (h 53 3) p1) 56 (h 53 3) p2) 53 3 ((h 53 3) + 1)))
    (q_2 : 100 ≤ (h 53 3) → Q (some (0, 0)) K0 h) : Sp l G mX3_tell d 0 0 K0 [(2, 53), (0, p0), (0, p1), (0, p2)] h Q := by
  refine sp_of (L := [(2, 53), (0, p0), (0, p1), (0, p2)]) pl_X3 (Nat.le_of_ble_eq_true rfl) (tg_c (by decide) (tg_c (by decide) (tg_c (by decide) (tg_c (by decide) tg_0)))) rfl ?_
  refine v_aload_n dX3_tell_0 rfl ?_
  refine v_get (ci := 3) (j := 3) (ji := 3) (tg := 0) dX3_tell_1 k_280 (by decide) kk_53 (by decide) rfl rfl (by decide) ?_
  refine v_bipush dX3_tell_4 (c32 rfl) (by decide) ?_
  refine v_icmp_lt (tgt := 11) dX3_tell_6 (by decide) (fun c6_1 => ?_) (fun c6_1 => ?_)
  · refine v_aload_n dX3_tell_11 rfl ?_
    refine v_getr (ci := 3) (j := 0) (ji := 0) (z := 54) dX3_tell_12 k_274 (by decide) kk_53 (by decide) rfl rfl (fun r => rt_53_0 (r rfl)) (by decide) ?_
    refine v_aload_n dX3_tell_15 rfl ?_
    refine v_get (ci := 3) (j := 3) (ji := 3) (tg := 0) dX3_tell_16 k_280 (by decide) kk_53 (by decide) rfl rfl (by decide) ?_
    refine v_iload_n dX3_tell_19 rfl ?_
    refine v_iastore dX3_tell_20 (by decide) kk_54 (by omega) (by omega) ?_
    refine v_aload_n dX3_tell_21 rfl ?_
    refine v_getr (ci := 3) (j := 1) (ji := 1) (z := 55) dX3_tell_22 k_276 (by decide) kk_53 (by decide) rfl rfl (fun r => rt_53_1 (r rfl)) (by decide) ?_
    refine v_aload_n dX3_tell_25 rfl ?_
    refine v_getv (ci := 3) (j := 3) (ji := 3) (tg := 0) dX3_tell_26 k_280 (by decide) kk_53 (by decide) rfl rfl (by decide) (hset_c (by decide)) ?_
    refine v_iload_n dX3_tell_29 rfl ?_
    refine v_iastore dX3_tell_30 (by decide) kk_55 (by omega) (by omega) ?_
    refine v_aload_n dX3_tell_31 rfl ?_
    refine v_getr (ci := 3) (j := 2) (ji := 2) (z := 56) dX3_tell_32 k_278 (by decide) kk_53 (by decide) rfl rfl (fun r => rt_53_2 (r rfl)) (by decide) ?_
    refine v_aload_n dX3_tell_35 rfl ?_
    refine v_getv (ci := 3) (j := 3) (ji := 3) (tg := 0) dX3_tell_36 k_280 (by decide) kk_53 (by decide) rfl rfl (by decide) ((hset_c (by decide)).trans (hset_c (by decide))) ?_
    refine v_iload_n dX3_tell_39 rfl ?_
    refine v_iastore dX3_tell_40 (by decide) kk_56 (by omega) (by omega) ?_
    refine v_aload_n dX3_tell_41 rfl ?_
    refine v_dup dX3_tell_42 rfl ?_
    refine v_getv (ci := 3) (j := 3) (ji := 3) (tg := 0) dX3_tell_43 k_280 (by decide) kk_53 (by decide) rfl rfl (by decide) ((hset_c (by decide)).trans ((hset_c (by decide)).trans (hset_c (by decide)))) ?_
    refine v_iconst dX3_tell_46 (c32 rfl) ?_
    refine v_iaddE dX3_tell_47 (by omega) ?_
    refine v_puti (ci := 3) (j := 3) (ji := 3) dX3_tell_48 k_280 (by decide) kk_53 (by decide) rfl rfl rfl ?_
    refine v_iconst dX3_tell_51 (c32 rfl) ?_
    refine v_iretz dX3_tell_52 rfl (by decide) (Nat.le_refl _) (Nat.le_refl _) ?_
    exact q_1 c6_1
  · refine v_iconst dX3_tell_9 (c32 rfl) ?_
    refine v_iretz dX3_tell_10 rfl (by decide) (Nat.le_refl _) (Nat.le_refl _) ?_
    exact q_2 c6_1

set_option maxHeartbeats 4000000 in
set_option maxRecDepth 100000 in
theorem s_X3_tell_70 {l : Launch} {G : GG} {d : Nat} {h : AH} {Q : Option AV → List Kd → AH → Prop} {p0 p1 p2 : Int} (hd : 2 ≤ d) (z0 : 0 ≤ (h 70 3)) (c0 : (h 70 3) ≤ 100)
    (q_1 : (h 70 3) < 100 → Q (some (0, 1)) K0 (hset (hset (hset (hset h 71 (h 70 3) p0) 72 (h 70 3) p1) 73 (h 70 3) p2) 70 3 ((h 70 3) + 1)))
    (q_2 : 100 ≤ (h 70 3) → Q (some (0, 0)) K0 h) : Sp l G mX3_tell d 0 0 K0 [(2, 70), (0, p0), (0, p1), (0, p2)] h Q := by
  refine sp_of (L := [(2, 70), (0, p0), (0, p1), (0, p2)]) pl_X3 (Nat.le_of_ble_eq_true rfl) (tg_c (by decide) (tg_c (by decide) (tg_c (by decide) (tg_c (by decide) tg_0)))) rfl ?_
  refine v_aload_n dX3_tell_0 rfl ?_
  refine v_get (ci := 3) (j := 3) (ji := 3) (tg := 0) dX3_tell_1 k_280 (by decide) kk_70 (by decide) rfl rfl (by decide) ?_
  refine v_bipush dX3_tell_4 (c32 rfl) (by decide) ?_
  refine v_icmp_lt (tgt := 11) dX3_tell_6 (by decide) (fun c6_1 => ?_) (fun c6_1 => ?_)
  · refine v_aload_n dX3_tell_11 rfl ?_
    refine v_getr (ci := 3) (j := 0) (ji := 0) (z := 71) dX3_tell_12 k_274 (by decide) kk_70 (by decide) rfl rfl (fun r => rt_70_0 (r rfl)) (by decide) ?_
    refine v_aload_n dX3_tell_15 rfl ?_
    refine v_get (ci := 3) (j := 3) (ji := 3) (tg := 0) dX3_tell_16 k_280 (by decide) kk_70 (by decide) rfl rfl (by decide) ?_
    refine v_iload_n dX3_tell_19 rfl ?_
    refine v_iastore dX3_tell_20 (by decide) kk_71 (by omega) (by omega) ?_
    refine v_aload_n dX3_tell_21 rfl ?_
    refine v_getr (ci := 3) (j := 1) (ji := 1) (z := 72) dX3_tell_22 k_276 (by decide) kk_70 (by decide) rfl rfl (fun r => rt_70_1 (r rfl)) (by decide) ?_
    refine v_aload_n dX3_tell_25 rfl ?_
    refine v_getv (ci := 3) (j := 3) (ji := 3) (tg := 0) dX3_tell_26 k_280 (by decide) kk_70 (by decide) rfl rfl (by decide) (hset_c (by decide)) ?_
    refine v_iload_n dX3_tell_29 rfl ?_
    refine v_iastore dX3_tell_30 (by decide) kk_72 (by omega) (by omega) ?_
    refine v_aload_n dX3_tell_31 rfl ?_
    refine v_getr (ci := 3) (j := 2) (ji := 2) (z := 73) dX3_tell_32 k_278 (by decide) kk_70 (by decide) rfl rfl (fun r => rt_70_2 (r rfl)) (by decide) ?_
    refine v_aload_n dX3_tell_35 rfl ?_
    refine v_getv (ci := 3) (j := 3) (ji := 3) (tg := 0) dX3_tell_36 k_280 (by decide) kk_70 (by decide) rfl rfl (by decide) ((hset_c (by decide)).trans (hset_c (by decide))) ?_
    refine v_iload_n dX3_tell_39 rfl ?_
    refine v_iastore dX3_tell_40 (by decide) kk_73 (by omega) (by omega) ?_
    refine v_aload_n dX3_tell_41 rfl ?_
    refine v_dup dX3_tell_42 rfl ?_
    refine v_getv (ci := 3) (j := 3) (ji := 3) (tg := 0) dX3_tell_43 k_280 (by decide) kk_70 (by decide) rfl rfl (by decide) ((hset_c (by decide)).trans ((hset_c (by decide)).trans (hset_c (by decide)))) ?_
    refine v_iconst dX3_tell_46 (c32 rfl) ?_
    refine v_iaddE dX3_tell_47 (by omega) ?_
    refine v_puti (ci := 3) (j := 3) (ji := 3) dX3_tell_48 k_280 (by decide) kk_70 (by decide) rfl rfl rfl ?_
    refine v_iconst dX3_tell_51 (c32 rfl) ?_
    refine v_iretz dX3_tell_52 rfl (by decide) (Nat.le_refl _) (Nat.le_refl _) ?_
    exact q_1 c6_1
  · refine v_iconst dX3_tell_9 (c32 rfl) ?_
    refine v_iretz dX3_tell_10 rfl (by decide) (Nat.le_refl _) (Nat.le_refl _) ?_
    exact q_2 c6_1

set_option maxHeartbeats 4000000 in
set_option maxRecDepth 100000 in
theorem s_X8_tellMembers {l : Launch} {G : GG} {d : Nat} {h : AH} {Q : Option AV → List Kd → AH → Prop} {p0 p1 p2 p3 : Int} (hd : 3 ≤ d) (z0 : 0 ≤ (h 7 4)) (c0 : (h 7 4) ≤ 40) (m0 : (h 7 0) = 40)
    (q_1 : (h 7 0) ≤ (h 7 4) → Q (some (0, 0)) K0 h)
    (q_2 : (h 7 4) < (h 7 0) → p0 < 0 → Q (some (0, 0)) K0 h)
    (q_3 : (h 7 4) < (h 7 0) → 0 ≤ p0 → 3 < p0 → Q (some (0, 0)) K0 h)
    (q_4 : (h 7 4) < (h 7 0) → 0 ≤ p0 → p0 ≤ 3 → p2 < 0 → Q (some (0, 0)) K0 h)
    (q_5 : (h 7 4) < (h 7 0) → 0 ≤ p0 → p0 ≤ 3 → 0 ≤ p2 → 2000 < p2 → Q (some (0, 0)) K0 h)
    (q_6 : (h 7 4) < (h 7 0) → 0 ≤ p0 → p0 ≤ 3 → 0 ≤ p2 → p2 ≤ 2000 → (((h 7 4) + 1) - 1) ≠ (-1) → Q (some (0, 1)) K0 (hset (hset (hset (hset (hset h 8 (h 7 4) p0) 9 (h 7 4) p2) 10 (h 7 4) p3) 7 4 ((h 7 4) + 1)) 11 (((h 7 4) + 1) - 1) p1))
    (q_7 : (h 7 4) < (h 7 0) → 0 ≤ p0 → p0 ≤ 3 → 0 ≤ p2 → p2 ≤ 2000 → (((h 7 4) + 1) - 1) = (-1) → Q (some (0, 0)) K0 (hset (hset (hset (hset h 8 (h 7 4) p0) 9 (h 7 4) p2) 10 (h 7 4) p3) 7 4 ((h 7 4) + 1))) : Sp l G mX8_tellMembers d 0 0 K0 [(2, 6), (0, p0), (0, p1), (0, p2), (0, p3)] h Q := by
  refine sp_of (L := [(2, 6), (0, p0), (0, p1), (0, p2), (0, p3), (9, 0)]) pl_X8 (Nat.le_of_ble_eq_true rfl) (tg_c (by decide) (tg_c (by decide) (tg_c (by decide) (tg_c (by decide) (tg_c (by decide) tg_0))))) rfl ?_
  refine v_aload_n dX8_tellMembers_0 rfl ?_
  refine v_getr (ci := 8) (j := 0) (ji := 0) (z := 7) dX8_tellMembers_1 k_230 (by decide) kk_6 (by decide) rfl rfl (fun r => rt_6_0 (r rfl)) (by decide) ?_
  refine v_iload_n dX8_tellMembers_4 rfl ?_
  refine v_iload_n dX8_tellMembers_5 rfl ?_
  refine v_iload dX8_tellMembers_6 rfl ?_
  refine v_callv (M' := mX1_add) (d' := d - 1) (mc' := 0) (ms' := 0) (ci := 1) (c := 7) (As := [_, _, _]) dX8_tellMembers_8 k_597 cm_X1_add rfl (by omega) (by decide) kk_7 (Nat.le_of_ble_eq_true rfl) rfl ⟨Nat.le_refl _, Nat.le_refl _⟩ ?_
  refine s_X1_add_7 (by omega) (by omega) (by omega) (by omega) (fun c8_1 => ?_) (fun c8_2 c8_3 => ?_) (fun c8_4 c8_5 c8_6 => ?_) (fun c8_7 c8_8 c8_9 c8_10 => ?_) (fun c8_11 c8_12 c8_13 c8_14 c8_15 => ?_) (fun c8_16 c8_17 c8_18 c8_19 c8_20 => ?_)
  · dsimp only [Option.toList, List.cons_append, List.nil_append, Nat.add_zero]
    refine v_istore_5 dX8_tellMembers_11 (by decide) rfl ?_
    refine v_iload dX8_tellMembers_13 rfl ?_
    refine v_iconst dX8_tellMembers_15 (c32 rfl) ?_
    refine v_icmp_ne_f (tgt := 21) dX8_tellMembers_16 (by decide) (by decide) ?_
    refine v_iconst dX8_tellMembers_19 (c32 rfl) ?_
    refine v_iretz dX8_tellMembers_20 rfl (by decide) (Nat.le_refl _) (Nat.le_refl _) ?_
    exact q_1 c8_1
  · dsimp only [Option.toList, List.cons_append, List.nil_append, Nat.add_zero]
    refine v_istore_5 dX8_tellMembers_11 (by decide) rfl ?_
    refine v_iload dX8_tellMembers_13 rfl ?_
    refine v_iconst dX8_tellMembers_15 (c32 rfl) ?_
    refine v_icmp_ne_f (tgt := 21) dX8_tellMembers_16 (by decide) (by decide) ?_
    refine v_iconst dX8_tellMembers_19 (c32 rfl) ?_
    refine v_iretz dX8_tellMembers_20 rfl (by decide) (Nat.le_refl _) (Nat.le_refl _) ?_
    exact q_2 c8_2 c8_3
  · dsimp only [Option.toList, List.cons_append, List.nil_append, Nat.add_zero]
    refine v_istore_5 dX8_tellMembers_11 (by decide) rfl ?_
    refine v_iload dX8_tellMembers_13 rfl ?_
    refine v_iconst dX8_tellMembers_15 (c32 rfl) ?_
    refine v_icmp_ne_f (tgt := 21) dX8_tellMembers_16 (by decide) (by decide) ?_
    refine v_iconst dX8_tellMembers_19 (c32 rfl) ?_
    refine v_iretz dX8_tellMembers_20 rfl (by decide) (Nat.le_refl _) (Nat.le_refl _) ?_
    exact q_3 c8_4 c8_5 c8_6
  · dsimp only [Option.toList, List.cons_append, List.nil_append, Nat.add_zero]
    refine v_istore_5 dX8_tellMembers_11 (by decide) rfl ?_
    refine v_iload dX8_tellMembers_13 rfl ?_
    refine v_iconst dX8_tellMembers_15 (c32 rfl) ?_
    refine v_icmp_ne_f (tgt := 21) dX8_tellMembers_16 (by decide) (by decide) ?_
    refine v_iconst dX8_tellMembers_19 (c32 rfl) ?_
    refine v_iretz dX8_tellMembers_20 rfl (by decide) (Nat.le_refl _) (Nat.le_refl _) ?_
    exact q_4 c8_7 c8_8 c8_9 c8_10
  · dsimp only [Option.toList, List.cons_append, List.nil_append, Nat.add_zero]
    refine v_istore_5 dX8_tellMembers_11 (by decide) rfl ?_
    refine v_iload dX8_tellMembers_13 rfl ?_
    refine v_iconst dX8_tellMembers_15 (c32 rfl) ?_
    refine v_icmp_ne_f (tgt := 21) dX8_tellMembers_16 (by decide) (by decide) ?_
    refine v_iconst dX8_tellMembers_19 (c32 rfl) ?_
    refine v_iretz dX8_tellMembers_20 rfl (by decide) (Nat.le_refl _) (Nat.le_refl _) ?_
    exact q_5 c8_11 c8_12 c8_13 c8_14 c8_15
  · dsimp only [Option.toList, List.cons_append, List.nil_append, Nat.add_zero]
    refine v_istore_5 dX8_tellMembers_11 (by decide) rfl ?_
    refine v_iload dX8_tellMembers_13 rfl ?_
    refine v_iconst dX8_tellMembers_15 (c32 rfl) ?_
    refine v_icmp_ne (tgt := 21) dX8_tellMembers_16 (by decide) (fun c16_21 => ?_) (fun c16_21 => ?_)
    · refine v_aload_n dX8_tellMembers_21 rfl ?_
      refine v_getr (ci := 8) (j := 1) (ji := 1) (z := 11) dX8_tellMembers_22 k_231 (by decide) kk_6 (by decide) rfl rfl (fun r => rt_6_1 (r rfl)) (by decide) ?_
      refine v_iload dX8_tellMembers_25 rfl ?_
      refine v_iload_n dX8_tellMembers_27 rfl ?_
      refine v_iastore dX8_tellMembers_28 (by decide) kk_11 (by omega) (by omega) ?_
      refine v_iconst dX8_tellMembers_29 (c32 rfl) ?_
      refine v_iretz dX8_tellMembers_30 rfl (by decide) (Nat.le_refl _) (Nat.le_refl _) ?_
      exact q_6 c8_16 c8_17 c8_18 c8_19 c8_20 c16_21
    · refine v_iconst dX8_tellMembers_19 (c32 rfl) ?_
      refine v_iretz dX8_tellMembers_20 rfl (by decide) (Nat.le_refl _) (Nat.le_refl _) ?_
      exact q_7 c8_16 c8_17 c8_18 c8_19 c8_20 c16_21

set_option maxHeartbeats 4000000 in
set_option maxRecDepth 100000 in
theorem s_X8_membersOn {l : Launch} {G : GG} {d : Nat} {h : AH} {Q : Option AV → List Kd → AH → Prop} {p0 p1 p2 : Int} (hd : 2 ≤ d) (z0 : 0 ≤ (h 7 4)) (c0 : (h 7 4) ≤ 40)
    (q_1 : (ifc (h 8) (h 9) (h 10) p0 p1 p2 (h 7 4)) ≠ (-1) → Q (some (0, (h 11 (ifc (h 8) (h 9) (h 10) p0 p1 p2 (h 7 4))))) K0 h)
    (q_2 : (ifc (h 8) (h 9) (h 10) p0 p1 p2 (h 7 4)) = (-1) → Q (some (0, 0)) K0 h) : Sp l G mX8_membersOn d 0 0 K0 [(2, 6), (0, p0), (0, p1), (0, p2)] h Q := by
  refine sp_of (L := [(2, 6), (0, p0), (0, p1), (0, p2), (9, 0)]) pl_X8 (Nat.le_of_ble_eq_true rfl) (tg_c (by decide) (tg_c (by decide) (tg_c (by decide) (tg_c (by decide) tg_0)))) rfl ?_
  refine v_aload_n dX8_membersOn_0 rfl ?_
  refine v_getr (ci := 8) (j := 0) (ji := 0) (z := 7) dX8_membersOn_1 k_230 (by decide) kk_6 (by decide) rfl rfl (fun r => rt_6_0 (r rfl)) (by decide) ?_
  refine v_iload_n dX8_membersOn_4 rfl ?_
  refine v_iload_n dX8_membersOn_5 rfl ?_
  refine v_iload_n dX8_membersOn_6 rfl ?_
  refine v_callv (M' := mX1_inForce) (d' := d - 1) (mc' := 0) (ms' := 0) (ci := 1) (c := 7) (As := [_, _, _]) dX8_membersOn_7 k_614 cm_X1_inForce rfl (by omega) (by decide) kk_7 (Nat.le_of_ble_eq_true rfl) rfl ⟨Nat.le_refl _, Nat.le_refl _⟩ ?_
  refine s_X1_inForce_7 (by omega) (by omega) (by omega) ?_
  dsimp only [Option.toList, List.cons_append, List.nil_append, Nat.add_zero]
  refine v_istore_4 dX8_membersOn_10 (by decide) rfl ?_
  refine v_iload dX8_membersOn_12 rfl ?_
  refine v_iconst dX8_membersOn_14 (c32 rfl) ?_
  refine v_icmp_ne (tgt := 22) dX8_membersOn_15 (by decide) (fun c15_1 => ?_) (fun c15_1 => ?_)
  · refine v_aload_n dX8_membersOn_22 rfl ?_
    refine v_getr (ci := 8) (j := 1) (ji := 1) (z := 11) dX8_membersOn_23 k_231 (by decide) kk_6 (by decide) rfl rfl (fun r => rt_6_1 (r rfl)) (by decide) ?_
    refine v_iload dX8_membersOn_26 rfl ?_
    have hb := ifc_lt (w := (h 8)) (f := (h 9)) (t := (h 10)) (web := p0) (day := p1) (q := p2) z0
    refine v_iaload dX8_membersOn_28 (by decide) kk_11 (by omega) (by omega) ?_
    refine v_ireti dX8_membersOn_29 rfl (Nat.le_refl _) (Nat.le_refl _) ?_
    exact q_1 c15_1
  · refine v_iconst dX8_membersOn_18 (c32 rfl) ?_
    refine v_goto (tgt := 29) dX8_membersOn_19 (by decide) ?_
    refine v_ireti dX8_membersOn_29 rfl (Nat.le_refl _) (Nat.le_refl _) ?_
    exact q_2 c15_1

set_option maxHeartbeats 4000000 in
set_option maxRecDepth 100000 in
theorem s_X8_isMember {l : Launch} {G : GG} {d : Nat} {h : AH} {Q : Option AV → List Kd → AH → Prop} {p0 p1 p2 p3 : Int} (hd : 3 ≤ d) (z0 : 0 ≤ (h 7 4)) (c0 : (h 7 4) ≤ 40)
    (q_1 : (ifc (h 8) (h 9) (h 10) p0 p2 p3 (h 7 4)) ≠ (-1) → (iand (iushr (h 11 (ifc (h 8) (h 9) (h 10) p0 p2 p3 (h 7 4))) p1) 1) = 0 → Q (some (0, 0)) K0 h)
    (q_2 : (ifc (h 8) (h 9) (h 10) p0 p2 p3 (h 7 4)) ≠ (-1) → (iand (iushr (h 11 (ifc (h 8) (h 9) (h 10) p0 p2 p3 (h 7 4))) p1) 1) ≠ 0 → Q (some (0, 1)) K0 h)
    (q_3 : (ifc (h 8) (h 9) (h 10) p0 p2 p3 (h 7 4)) = (-1) → (iand (iushr 0 p1) 1) = 0 → Q (some (0, 0)) K0 h)
    (q_4 : (ifc (h 8) (h 9) (h 10) p0 p2 p3 (h 7 4)) = (-1) → (iand (iushr 0 p1) 1) ≠ 0 → Q (some (0, 1)) K0 h) : Sp l G mX8_isMember d 0 0 K0 [(2, 6), (0, p0), (0, p1), (0, p2), (0, p3)] h Q := by
  refine sp_of (L := [(2, 6), (0, p0), (0, p1), (0, p2), (0, p3)]) pl_X8 (Nat.le_of_ble_eq_true rfl) (tg_c (by decide) (tg_c (by decide) (tg_c (by decide) (tg_c (by decide) (tg_c (by decide) tg_0))))) rfl ?_
  refine v_aload_n dX8_isMember_0 rfl ?_
  refine v_iload_n dX8_isMember_1 rfl ?_
  refine v_iload_n dX8_isMember_2 rfl ?_
  refine v_iload dX8_isMember_3 rfl ?_
  refine v_callv (M' := mX8_membersOn) (d' := d - 1) (mc' := 0) (ms' := 0) (ci := 8) (c := 6) (As := [_, _, _]) dX8_isMember_5 k_968 cm_X8_membersOn rfl (by omega) (by decide) kk_6 (Nat.le_of_ble_eq_true rfl) rfl ⟨Nat.le_refl _, Nat.le_refl _⟩ ?_
  refine s_X8_membersOn (by omega) (by omega) (by omega) (fun c5_1 => ?_) (fun c5_2 => ?_)
  · dsimp only [Option.toList, List.cons_append, List.nil_append, Nat.add_zero]
    refine v_iload_n dX8_isMember_8 rfl ?_
    refine v_iushr dX8_isMember_9 ?_
    refine v_iconst dX8_isMember_10 (c32 rfl) ?_
    refine v_iand dX8_isMember_11 ?_
    refine v_if_eq (tgt := 19) dX8_isMember_12 (by decide) (fun c12_3 => ?_) (fun c12_3 => ?_)
    · refine v_iconst dX8_isMember_19 (c32 rfl) ?_
      refine v_iretz dX8_isMember_20 rfl (by decide) (Nat.le_refl _) (Nat.le_refl _) ?_
      exact q_1 c5_1 c12_3
    · refine v_iconst dX8_isMember_15 (c32 rfl) ?_
      refine v_goto (tgt := 20) dX8_isMember_16 (by decide) ?_
      refine v_iretz dX8_isMember_20 rfl (by decide) (Nat.le_refl _) (Nat.le_refl _) ?_
      exact q_2 c5_1 c12_3
  · dsimp only [Option.toList, List.cons_append, List.nil_append, Nat.add_zero]
    refine v_iload_n dX8_isMember_8 rfl ?_
    refine v_iushr dX8_isMember_9 ?_
    refine v_iconst dX8_isMember_10 (c32 rfl) ?_
    refine v_iand dX8_isMember_11 ?_
    refine v_if_eq (tgt := 19) dX8_isMember_12 (by decide) (fun c12_4 => ?_) (fun c12_4 => ?_)
    · refine v_iconst dX8_isMember_19 (c32 rfl) ?_
      refine v_iretz dX8_isMember_20 rfl (by decide) (Nat.le_refl _) (Nat.le_refl _) ?_
      exact q_3 c5_2 c12_4
    · refine v_iconst dX8_isMember_15 (c32 rfl) ?_
      refine v_goto (tgt := 20) dX8_isMember_16 (by decide) ?_
      refine v_iretz dX8_isMember_20 rfl (by decide) (Nat.le_refl _) (Nat.le_refl _) ?_
      exact q_4 c5_2 c12_4

set_option maxHeartbeats 4000000 in
set_option maxRecDepth 100000 in
theorem s_X8_areTwoMembers {l : Launch} {G : GG} {d : Nat} {h : AH} {Q : Option AV → List Kd → AH → Prop} {p0 p1 p2 p3 p4 : Int} (hd : 3 ≤ d) (z0 : 0 ≤ (h 7 4)) (c0 : (h 7 4) ≤ 40)
    (q_1 : (ifc (h 8) (h 9) (h 10) p0 p3 p4 (h 7 4)) ≠ (-1) → p1 = p2 → Q (some (0, 0)) K0 h)
    (q_2 : (ifc (h 8) (h 9) (h 10) p0 p3 p4 (h 7 4)) ≠ (-1) → p1 ≠ p2 → (iand (iand (iushr (h 11 (ifc (h 8) (h 9) (h 10) p0 p3 p4 (h 7 4))) p1) (iushr (h 11 (ifc (h 8) (h 9) (h 10) p0 p3 p4 (h 7 4))) p2)) 1) = 0 → Q (some (0, 0)) K0 h)
    (q_3 : (ifc (h 8) (h 9) (h 10) p0 p3 p4 (h 7 4)) ≠ (-1) → p1 ≠ p2 → (iand (iand (iushr (h 11 (ifc (h 8) (h 9) (h 10) p0 p3 p4 (h 7 4))) p1) (iushr (h 11 (ifc (h 8) (h 9) (h 10) p0 p3 p4 (h 7 4))) p2)) 1) ≠ 0 → Q (some (0, 1)) K0 h)
    (q_4 : (ifc (h 8) (h 9) (h 10) p0 p3 p4 (h 7 4)) = (-1) → p1 = p2 → Q (some (0, 0)) K0 h)
    (q_5 : (ifc (h 8) (h 9) (h 10) p0 p3 p4 (h 7 4)) = (-1) → p1 ≠ p2 → (iand (iand (iushr 0 p1) (iushr 0 p2)) 1) = 0 → Q (some (0, 0)) K0 h)
    (q_6 : (ifc (h 8) (h 9) (h 10) p0 p3 p4 (h 7 4)) = (-1) → p1 ≠ p2 → (iand (iand (iushr 0 p1) (iushr 0 p2)) 1) ≠ 0 → Q (some (0, 1)) K0 h) : Sp l G mX8_areTwoMembers d 0 0 K0 [(2, 6), (0, p0), (0, p1), (0, p2), (0, p3), (0, p4)] h Q := by
  refine sp_of (L := [(2, 6), (0, p0), (0, p1), (0, p2), (0, p3), (0, p4), (9, 0)]) pl_X8 (Nat.le_of_ble_eq_true rfl) (tg_c (by decide) (tg_c (by decide) (tg_c (by decide) (tg_c (by decide) (tg_c (by decide) (tg_c (by decide) tg_0)))))) rfl ?_
  refine v_aload_n dX8_areTwoMembers_0 rfl ?_
  refine v_iload_n dX8_areTwoMembers_1 rfl ?_
  refine v_iload dX8_areTwoMembers_2 rfl ?_
  refine v_iload dX8_areTwoMembers_4 rfl ?_
  refine v_callv (M' := mX8_membersOn) (d' := d - 1) (mc' := 0) (ms' := 0) (ci := 8) (c := 6) (As := [_, _, _]) dX8_areTwoMembers_6 k_968 cm_X8_membersOn rfl (by omega) (by decide) kk_6 (Nat.le_of_ble_eq_true rfl) rfl ⟨Nat.le_refl _, Nat.le_refl _⟩ ?_
  refine s_X8_membersOn (by omega) (by omega) (by omega) (fun c6_1 => ?_) (fun c6_2 => ?_)
  · dsimp only [Option.toList, List.cons_append, List.nil_append, Nat.add_zero]
    refine v_istore_6 dX8_areTwoMembers_9 (by decide) rfl ?_
    refine v_iload_n dX8_areTwoMembers_11 rfl ?_
    refine v_iload_n dX8_areTwoMembers_12 rfl ?_
    refine v_icmp_eq (tgt := 34) dX8_areTwoMembers_13 (by decide) (fun c13_3 => ?_) (fun c13_3 => ?_)
    · refine v_iconst dX8_areTwoMembers_34 (c32 rfl) ?_
      refine v_iretz dX8_areTwoMembers_35 rfl (by decide) (Nat.le_refl _) (Nat.le_refl _) ?_
      exact q_1 c6_1 c13_3
    · refine v_iload dX8_areTwoMembers_16 rfl ?_
      refine v_iload_n dX8_areTwoMembers_18 rfl ?_
      refine v_iushr dX8_areTwoMembers_19 ?_
      refine v_iload dX8_areTwoMembers_20 rfl ?_
      refine v_iload_n dX8_areTwoMembers_22 rfl ?_
      refine v_iushr dX8_areTwoMembers_23 ?_
      refine v_iand dX8_areTwoMembers_24 ?_
      refine v_iconst dX8_areTwoMembers_25 (c32 rfl) ?_
      refine v_iand dX8_areTwoMembers_26 ?_
      refine v_if_eq (tgt := 34) dX8_areTwoMembers_27 (by decide) (fun c27_4 => ?_) (fun c27_4 => ?_)
      · refine v_iconst dX8_areTwoMembers_34 (c32 rfl) ?_
        refine v_iretz dX8_areTwoMembers_35 rfl (by decide) (Nat.le_refl _) (Nat.le_refl _) ?_
        exact q_2 c6_1 c13_3 c27_4
      · refine v_iconst dX8_areTwoMembers_30 (c32 rfl) ?_
        refine v_goto (tgt := 35) dX8_areTwoMembers_31 (by decide) ?_
        refine v_iretz dX8_areTwoMembers_35 rfl (by decide) (Nat.le_refl _) (Nat.le_refl _) ?_
        exact q_3 c6_1 c13_3 c27_4
  · dsimp only [Option.toList, List.cons_append, List.nil_append, Nat.add_zero]
    refine v_istore_6 dX8_areTwoMembers_9 (by decide) rfl ?_
    refine v_iload_n dX8_areTwoMembers_11 rfl ?_
    refine v_iload_n dX8_areTwoMembers_12 rfl ?_
    refine v_icmp_eq (tgt := 34) dX8_areTwoMembers_13 (by decide) (fun c13_5 => ?_) (fun c13_5 => ?_)
    · refine v_iconst dX8_areTwoMembers_34 (c32 rfl) ?_
      refine v_iretz dX8_areTwoMembers_35 rfl (by decide) (Nat.le_refl _) (Nat.le_refl _) ?_
      exact q_4 c6_2 c13_5
    · refine v_iload dX8_areTwoMembers_16 rfl ?_
      refine v_iload_n dX8_areTwoMembers_18 rfl ?_
      refine v_iushr dX8_areTwoMembers_19 ?_
      refine v_iload dX8_areTwoMembers_20 rfl ?_
      refine v_iload_n dX8_areTwoMembers_22 rfl ?_
      refine v_iushr dX8_areTwoMembers_23 ?_
      refine v_iand dX8_areTwoMembers_24 ?_
      refine v_iconst dX8_areTwoMembers_25 (c32 rfl) ?_
      refine v_iand dX8_areTwoMembers_26 ?_
      refine v_if_eq (tgt := 34) dX8_areTwoMembers_27 (by decide) (fun c27_6 => ?_) (fun c27_6 => ?_)
      · refine v_iconst dX8_areTwoMembers_34 (c32 rfl) ?_
        refine v_iretz dX8_areTwoMembers_35 rfl (by decide) (Nat.le_refl _) (Nat.le_refl _) ?_
        exact q_5 c6_2 c13_5 c27_6
      · refine v_iconst dX8_areTwoMembers_30 (c32 rfl) ?_
        refine v_goto (tgt := 35) dX8_areTwoMembers_31 (by decide) ?_
        refine v_iretz dX8_areTwoMembers_35 rfl (by decide) (Nat.le_refl _) (Nat.le_refl _) ?_
        exact q_6 c6_2 c13_5 c27_6

set_option maxHeartbeats 4000000 in
set_option maxRecDepth 100000 in
theorem s_X6_has {l : Launch} {G : GG} {d : Nat} {h : AH} {Q : Option AV → List Kd → AH → Prop} {p0 : Int} (hd : 2 ≤ d) (z0 : 0 ≤ (h 41 12)) (c0 : (h 41 12) ≤ 100)
    (q_1 : p0 < 0 → Q (some (0, 0)) K0 h)
    (q_2 : 0 ≤ p0 → ((h 41 12) - 1) < p0 → Q (some (0, 0)) K0 h)
    (q_3 : 0 ≤ p0 → p0 ≤ ((h 41 12) - 1) → Q (some (0, 1)) K0 h) : Sp l G mX6_has d 0 0 K0 [(2, 41), (0, p0)] h Q := by
  refine sp_of (L := [(2, 41), (0, p0)]) pl_X6 (Nat.le_of_ble_eq_true rfl) (tg_c (by decide) (tg_c (by decide) tg_0)) rfl ?_
  refine v_iload_n dX6_has_0 rfl ?_
  refine v_iconst dX6_has_1 (c32 rfl) ?_
  refine v_aload_n dX6_has_2 rfl ?_
  refine v_get (ci := 6) (j := 12) (ji := 12) (tg := 0) dX6_has_3 k_318 (by decide) kk_41 (by decide) rfl rfl (by decide) ?_
  refine v_iconst dX6_has_6 (c32 rfl) ?_
  refine v_isubE dX6_has_7 (by omega) ?_
  refine v_callsN (M' := mX11_within) (d' := d - 1) (mc' := 0) (ms' := 0) (As := [_, _, _]) dX6_has_8 k_859 cm_X11_within (by omega) (Nat.le_of_ble_eq_true rfl) rfl ⟨Nat.le_refl _, Nat.le_refl _⟩ ?_
  refine s_X11_within (by omega) (fun c8_1 => ?_) (fun c8_2 c8_3 => ?_) (fun c8_4 c8_5 => ?_)
  · dsimp only [Option.toList, List.cons_append, List.nil_append, Nat.add_zero]
    refine v_iretz dX6_has_11 rfl (by decide) (Nat.le_refl _) (Nat.le_refl _) ?_
    exact q_1 c8_1
  · dsimp only [Option.toList, List.cons_append, List.nil_append, Nat.add_zero]
    refine v_iretz dX6_has_11 rfl (by decide) (Nat.le_refl _) (Nat.le_refl _) ?_
    exact q_2 c8_2 c8_3
  · dsimp only [Option.toList, List.cons_append, List.nil_append, Nat.add_zero]
    refine v_iretz dX6_has_11 rfl (by decide) (Nat.le_refl _) (Nat.le_refl _) ?_
    exact q_3 c8_4 c8_5

set_option maxHeartbeats 4000000 in
set_option maxRecDepth 100000 in
theorem s_X6_add {l : Launch} {G : GG} {d : Nat} {h : AH} {Q : Option AV → List Kd → AH → Prop} {p0 p1 p2 p3 p4 : Int} (hd : 2 ≤ d) (z0 : 0 ≤ (h 41 12)) (c0 : (h 41 12) ≤ 100)
    (q_1 : (h 41 12) < 100 → Q (some (0, (((h 41 12) + 1) - 1))) K0 (hset (hset (hset (hset (hset (hset (hset (hset (hset (hset h 42 (h 41 12) p0) 43 (h 41 12) p1) 44 (h 41 12) p2) 45 (h 41 12) p3) 46 (h 41 12) p3) 47 (h 41 12) p4) 48 (h 41 12) (-1)) 49 (h 41 12) (-1)) 50 (h 41 12) 0) 41 12 ((h 41 12) + 1)))
    (q_2 : 100 ≤ (h 41 12) → Q (some (0, (-1))) K0 h) : Sp l G mX6_add d 0 0 K0 [(2, 41), (0, p0), (0, p1), (0, p2), (0, p3), (0, p4)] h Q := by
  refine sp_of (L := [(2, 41), (0, p0), (0, p1), (0, p2), (0, p3), (0, p4)]) pl_X6 (Nat.le_of_ble_eq_true rfl) (tg_c (by decide) (tg_c (by decide) (tg_c (by decide) (tg_c (by decide) (tg_c (by decide) (tg_c (by decide) tg_0)))))) rfl ?_
  refine v_aload_n dX6_add_0 rfl ?_
  refine v_get (ci := 6) (j := 12) (ji := 12) (tg := 0) dX6_add_1 k_318 (by decide) kk_41 (by decide) rfl rfl (by decide) ?_
  refine v_bipush dX6_add_4 (c32 rfl) (by decide) ?_
  refine v_icmp_lt (tgt := 11) dX6_add_6 (by decide) (fun c6_1 => ?_) (fun c6_1 => ?_)
  · refine v_aload_n dX6_add_11 rfl ?_
    refine v_getr (ci := 6) (j := 0) (ji := 0) (z := 42) dX6_add_12 k_291 (by decide) kk_41 (by decide) rfl rfl (fun r => rt_41_0 (r rfl)) (by decide) ?_
    refine v_aload_n dX6_add_15 rfl ?_
    refine v_get (ci := 6) (j := 12) (ji := 12) (tg := 0) dX6_add_16 k_318 (by decide) kk_41 (by decide) rfl rfl (by decide) ?_
    refine v_iload_n dX6_add_19 rfl ?_
    refine v_iastore dX6_add_20 (by decide) kk_42 (by omega) (by omega) ?_
    refine v_aload_n dX6_add_21 rfl ?_
    refine v_getr (ci := 6) (j := 1) (ji := 1) (z := 43) dX6_add_22 k_294 (by decide) kk_41 (by decide) rfl rfl (fun r => rt_41_1 (r rfl)) (by decide) ?_
    refine v_aload_n dX6_add_25 rfl ?_
    refine v_getv (ci := 6) (j := 12) (ji := 12) (tg := 0) dX6_add_26 k_318 (by decide) kk_41 (by decide) rfl rfl (by decide) (hset_c (by decide)) ?_
    refine v_iload_n dX6_add_29 rfl ?_
    refine v_iastore dX6_add_30 (by decide) kk_43 (by omega) (by omega) ?_
    refine v_aload_n dX6_add_31 rfl ?_
    refine v_getr (ci := 6) (j := 2) (ji := 2) (z := 44) dX6_add_32 k_297 (by decide) kk_41 (by decide) rfl rfl (fun r => rt_41_2 (r rfl)) (by decide) ?_
    refine v_aload_n dX6_add_35 rfl ?_
    refine v_getv (ci := 6) (j := 12) (ji := 12) (tg := 0) dX6_add_36 k_318 (by decide) kk_41 (by decide) rfl rfl (by decide) ((hset_c (by decide)).trans (hset_c (by decide))) ?_
    refine v_iload_n dX6_add_39 rfl ?_
    refine v_iastore dX6_add_40 (by decide) kk_44 (by omega) (by omega) ?_
    refine v_aload_n dX6_add_41 rfl ?_
    refine v_getr (ci := 6) (j := 3) (ji := 3) (z := 45) dX6_add_42 k_298 (by decide) kk_41 (by decide) rfl rfl (fun r => rt_41_3 (r rfl)) (by decide) ?_
    refine v_aload_n dX6_add_45 rfl ?_
    refine v_getv (ci := 6) (j := 12) (ji := 12) (tg := 0) dX6_add_46 k_318 (by decide) kk_41 (by decide) rfl rfl (by decide) ((hset_c (by decide)).trans ((hset_c (by decide)).trans (hset_c (by decide)))) ?_
    refine v_iload dX6_add_49 rfl ?_
    refine v_iastore dX6_add_51 (by decide) kk_45 (by omega) (by omega) ?_
    refine v_aload_n dX6_add_52 rfl ?_
    refine v_getr (ci := 6) (j := 4) (ji := 4) (z := 46) dX6_add_53 k_301 (by decide) kk_41 (by decide) rfl rfl (fun r => rt_41_4 (r rfl)) (by decide) ?_
    refine v_aload_n dX6_add_56 rfl ?_
    refine v_getv (ci := 6) (j := 12) (ji := 12) (tg := 0) dX6_add_57 k_318 (by decide) kk_41 (by decide) rfl rfl (by decide) ((hset_c (by decide)).trans ((hset_c (by decide)).trans ((hset_c (by decide)).trans (hset_c (by decide))))) ?_
    refine v_iload dX6_add_60 rfl ?_
    refine v_iastore dX6_add_62 (by decide) kk_46 (by omega) (by omega) ?_
    refine v_aload_n dX6_add_63 rfl ?_
    refine v_getr (ci := 6) (j := 5) (ji := 5) (z := 47) dX6_add_64 k_304 (by decide) kk_41 (by decide) rfl rfl (fun r => rt_41_5 (r rfl)) (by decide) ?_
    refine v_aload_n dX6_add_67 rfl ?_
    refine v_getv (ci := 6) (j := 12) (ji := 12) (tg := 0) dX6_add_68 k_318 (by decide) kk_41 (by decide) rfl rfl (by decide) ((hset_c (by decide)).trans ((hset_c (by decide)).trans ((hset_c (by decide)).trans ((hset_c (by decide)).trans (hset_c (by decide)))))) ?_
    refine v_iload dX6_add_71 rfl ?_
    refine v_iastore dX6_add_73 (by decide) kk_47 (by omega) (by omega) ?_
    refine v_aload_n dX6_add_74 rfl ?_
    refine v_getr (ci := 6) (j := 6) (ji := 6) (z := 48) dX6_add_75 k_307 (by decide) kk_41 (by decide) rfl rfl (fun r => rt_41_6 (r rfl)) (by decide) ?_
    refine v_aload_n dX6_add_78 rfl ?_
    refine v_getv (ci := 6) (j := 12) (ji := 12) (tg := 0) dX6_add_79 k_318 (by decide) kk_41 (by decide) rfl rfl (by decide) ((hset_c (by decide)).trans ((hset_c (by decide)).trans ((hset_c (by decide)).trans ((hset_c (by decide)).trans ((hset_c (by decide)).trans (hset_c (by decide))))))) ?_
    refine v_iconst dX6_add_82 (c32 rfl) ?_
    refine v_iastore dX6_add_83 (by decide) kk_48 (by omega) (by omega) ?_
    refine v_aload_n dX6_add_84 rfl ?_
    refine v_getr (ci := 6) (j := 7) (ji := 7) (z := 49) dX6_add_85 k_310 (by decide) kk_41 (by decide) rfl rfl (fun r => rt_41_7 (r rfl)) (by decide) ?_
    refine v_aload_n dX6_add_88 rfl ?_
    refine v_getv (ci := 6) (j := 12) (ji := 12) (tg := 0) dX6_add_89 k_318 (by decide) kk_41 (by decide) rfl rfl (by decide) ((hset_c (by decide)).trans ((hset_c (by decide)).trans ((hset_c (by decide)).trans ((hset_c (by decide)).trans ((hset_c (by decide)).trans ((hset_c (by decide)).trans (hset_c (by decide)))))))) ?_
    refine v_iconst dX6_add_92 (c32 rfl) ?_
    refine v_iastore dX6_add_93 (by decide) kk_49 (by omega) (by omega) ?_
    refine v_aload_n dX6_add_94 rfl ?_
    refine v_getr (ci := 6) (j := 8) (ji := 8) (z := 50) dX6_add_95 k_311 (by decide) kk_41 (by decide) rfl rfl (fun r => rt_41_8 (r rfl)) (by decide) ?_
    refine v_aload_n dX6_add_98 rfl ?_
    refine v_getv (ci := 6) (j := 12) (ji := 12) (tg := 0) dX6_add_99 k_318 (by decide) kk_41 (by decide) rfl rfl (by decide) ((hset_c (by decide)).trans ((hset_c (by decide)).trans ((hset_c (by decide)).trans ((hset_c (by decide)).trans ((hset_c (by decide)).trans ((hset_c (by decide)).trans ((hset_c (by decide)).trans (hset_c (by decide))))))))) ?_
    refine v_iconst dX6_add_102 (c32 rfl) ?_
    refine v_iastore dX6_add_103 (by decide) kk_50 (by omega) (by omega) ?_
    refine v_aload_n dX6_add_104 rfl ?_
    refine v_dup dX6_add_105 rfl ?_
    refine v_getv (ci := 6) (j := 12) (ji := 12) (tg := 0) dX6_add_106 k_318 (by decide) kk_41 (by decide) rfl rfl (by decide) ((hset_c (by decide)).trans ((hset_c (by decide)).trans ((hset_c (by decide)).trans ((hset_c (by decide)).trans ((hset_c (by decide)).trans ((hset_c (by decide)).trans ((hset_c (by decide)).trans ((hset_c (by decide)).trans (hset_c (by decide)))))))))) ?_
    refine v_iconst dX6_add_109 (c32 rfl) ?_
    refine v_iaddE dX6_add_110 (by omega) ?_
    refine v_puti (ci := 6) (j := 12) (ji := 12) dX6_add_111 k_318 (by decide) kk_41 (by decide) rfl rfl rfl ?_
    refine v_aload_n dX6_add_114 rfl ?_
    refine v_getv (ci := 6) (j := 12) (ji := 12) (tg := 0) dX6_add_115 k_318 (by decide) kk_41 (by decide) rfl rfl (by decide) (hset_same _ _ _ _) ?_
    refine v_iconst dX6_add_118 (c32 rfl) ?_
    refine v_isubE dX6_add_119 (by omega) ?_
    refine v_ireti dX6_add_120 rfl (Nat.le_refl _) (Nat.le_refl _) ?_
    exact q_1 c6_1
  · refine v_iconst dX6_add_9 (c32 rfl) ?_
    refine v_ireti dX6_add_10 rfl (Nat.le_refl _) (Nat.le_refl _) ?_
    exact q_2 c6_1

set_option maxHeartbeats 4000000 in
set_option maxRecDepth 100000 in
theorem s_X6_isGrown {l : Launch} {G : GG} {d : Nat} {h : AH} {Q : Option AV → List Kd → AH → Prop} {p0 : Int} (hd : 1 ≤ d) (y0 : 0 ≤ p0 ∧ p0 < 100)
    (q_1 : (h 48 p0) ≠ (-1) → Q (some (0, 0)) K0 h)
    (q_2 : (h 48 p0) = (-1) → Q (some (0, 1)) K0 h) : Sp l G mX6_isGrown d 0 0 K0 [(2, 41), (0, p0)] h Q := by
  refine sp_of (L := [(2, 41), (0, p0)]) pl_X6 (Nat.le_of_ble_eq_true rfl) (tg_c (by decide) (tg_c (by decide) tg_0)) rfl ?_
  refine v_aload_n dX6_isGrown_0 rfl ?_
  refine v_getr (ci := 6) (j := 6) (ji := 6) (z := 48) dX6_isGrown_1 k_307 (by decide) kk_41 (by decide) rfl rfl (fun r => rt_41_6 (r rfl)) (by decide) ?_
  refine v_iload_n dX6_isGrown_4 rfl ?_
  refine v_iaload dX6_isGrown_5 (by decide) kk_48 (by omega) (by omega) ?_
  refine v_iconst dX6_isGrown_6 (c32 rfl) ?_
  refine v_icmp_ne (tgt := 14) dX6_isGrown_7 (by decide) (fun c7_1 => ?_) (fun c7_1 => ?_)
  · refine v_iconst dX6_isGrown_14 (c32 rfl) ?_
    refine v_iretz dX6_isGrown_15 rfl (by decide) (Nat.le_refl _) (Nat.le_refl _) ?_
    exact q_1 c7_1
  · refine v_iconst dX6_isGrown_10 (c32 rfl) ?_
    refine v_goto (tgt := 15) dX6_isGrown_11 (by decide) ?_
    refine v_iretz dX6_isGrown_15 rfl (by decide) (Nat.le_refl _) (Nat.le_refl _) ?_
    exact q_2 c7_1

set_option maxHeartbeats 4000000 in
set_option maxRecDepth 100000 in
theorem s_X6_isUndone {l : Launch} {G : GG} {d : Nat} {h : AH} {Q : Option AV → List Kd → AH → Prop} {p0 p1 : Int} (hd : 1 ≤ d) (y0 : 0 ≤ p0 ∧ p0 < 100)
    (q_1 : (h 49 p0) = (-1) → Q (some (0, 0)) K0 h)
    (q_2 : (h 49 p0) ≠ (-1) → p1 < (h 49 p0) → Q (some (0, 0)) K0 h)
    (q_3 : (h 49 p0) ≠ (-1) → (h 49 p0) ≤ p1 → Q (some (0, 1)) K0 h) : Sp l G mX6_isUndone d 0 0 K0 [(2, 41), (0, p0), (0, p1)] h Q := by
  refine sp_of (L := [(2, 41), (0, p0), (0, p1)]) pl_X6 (Nat.le_of_ble_eq_true rfl) (tg_c (by decide) (tg_c (by decide) (tg_c (by decide) tg_0))) rfl ?_
  refine v_aload_n dX6_isUndone_0 rfl ?_
  refine v_getr (ci := 6) (j := 7) (ji := 7) (z := 49) dX6_isUndone_1 k_310 (by decide) kk_41 (by decide) rfl rfl (fun r => rt_41_7 (r rfl)) (by decide) ?_
  refine v_iload_n dX6_isUndone_4 rfl ?_
  refine v_iaload dX6_isUndone_5 (by decide) kk_49 (by omega) (by omega) ?_
  refine v_iconst dX6_isUndone_6 (c32 rfl) ?_
  refine v_icmp_eq (tgt := 24) dX6_isUndone_7 (by decide) (fun c7_1 => ?_) (fun c7_1 => ?_)
  · refine v_iconst dX6_isUndone_24 (c32 rfl) ?_
    refine v_iretz dX6_isUndone_25 rfl (by decide) (Nat.le_refl _) (Nat.le_refl _) ?_
    exact q_1 c7_1
  · refine v_aload_n dX6_isUndone_10 rfl ?_
    refine v_getr (ci := 6) (j := 7) (ji := 7) (z := 49) dX6_isUndone_11 k_310 (by decide) kk_41 (by decide) rfl rfl (fun r => rt_41_7 (r rfl)) (by decide) ?_
    refine v_iload_n dX6_isUndone_14 rfl ?_
    refine v_iaload dX6_isUndone_15 (by decide) kk_49 (by omega) (by omega) ?_
    refine v_iload_n dX6_isUndone_16 rfl ?_
    refine v_icmp_gt (tgt := 24) dX6_isUndone_17 (by decide) (fun c17_2 => ?_) (fun c17_2 => ?_)
    · refine v_iconst dX6_isUndone_24 (c32 rfl) ?_
      refine v_iretz dX6_isUndone_25 rfl (by decide) (Nat.le_refl _) (Nat.le_refl _) ?_
      exact q_2 c7_1 c17_2
    · refine v_iconst dX6_isUndone_20 (c32 rfl) ?_
      refine v_goto (tgt := 25) dX6_isUndone_21 (by decide) ?_
      refine v_iretz dX6_isUndone_25 rfl (by decide) (Nat.le_refl _) (Nat.le_refl _) ?_
      exact q_3 c7_1 c17_2

set_option maxHeartbeats 4000000 in
set_option maxRecDepth 100000 in
theorem s_X6_undoProof {l : Launch} {G : GG} {d : Nat} {h : AH} {Q : Option AV → List Kd → AH → Prop} {p0 p1 : Int} (hd : 2 ≤ d) (y0 : 0 ≤ p0 ∧ p0 < 100)
    (q_1 : (h 48 p0) ≠ (-1) → Q (some (0, 0)) K0 h)
    (q_2 : (h 48 p0) = (-1) → (h 49 p0) = (-1) → Q (some (0, 1)) K0 (hset (hset h 49 p0 p1) 41 13 (iadd (h 41 13) 1)))
    (q_3 : (h 48 p0) = (-1) → (h 49 p0) ≠ (-1) → Q (some (0, 0)) K0 h) : Sp l G mX6_undoProof d 0 0 K0 [(2, 41), (0, p0), (0, p1)] h Q := by
  refine sp_of (L := [(2, 41), (0, p0), (0, p1)]) pl_X6 (Nat.le_of_ble_eq_true rfl) (tg_c (by decide) (tg_c (by decide) (tg_c (by decide) tg_0))) rfl ?_
  refine v_aload_n dX6_undoProof_0 rfl ?_
  refine v_iload_n dX6_undoProof_1 rfl ?_
  refine v_callv (M' := mX6_isGrown) (d' := d - 1) (mc' := 0) (ms' := 0) (ci := 6) (c := 41) (As := [_]) dX6_undoProof_2 k_927 cm_X6_isGrown rfl (by omega) (by decide) kk_41 (Nat.le_of_ble_eq_true rfl) rfl ⟨Nat.le_refl _, Nat.le_refl _⟩ ?_
  refine s_X6_isGrown (by omega) (by omega) (fun c2_1 => ?_) (fun c2_2 => ?_)
  · dsimp only [Option.toList, List.cons_append, List.nil_append, Nat.add_zero]
    refine v_if_eq_t (tgt := 18) dX6_undoProof_5 (by decide) (by decide) ?_
    refine v_iconst dX6_undoProof_18 (c32 rfl) ?_
    refine v_iretz dX6_undoProof_19 rfl (by decide) (Nat.le_refl _) (Nat.le_refl _) ?_
    exact q_1 c2_1
  · dsimp only [Option.toList, List.cons_append, List.nil_append, Nat.add_zero]
    refine v_if_eq_f (tgt := 18) dX6_undoProof_5 (by decide) (by decide) ?_
    refine v_aload_n dX6_undoProof_8 rfl ?_
    refine v_getr (ci := 6) (j := 7) (ji := 7) (z := 49) dX6_undoProof_9 k_310 (by decide) kk_41 (by decide) rfl rfl (fun r => rt_41_7 (r rfl)) (by decide) ?_
    refine v_iload_n dX6_undoProof_12 rfl ?_
    refine v_iaload dX6_undoProof_13 (by decide) kk_49 (by omega) (by omega) ?_
    refine v_iconst dX6_undoProof_14 (c32 rfl) ?_
    refine v_icmp_eq (tgt := 20) dX6_undoProof_15 (by decide) (fun c15_3 => ?_) (fun c15_3 => ?_)
    · refine v_aload_n dX6_undoProof_20 rfl ?_
      refine v_getr (ci := 6) (j := 7) (ji := 7) (z := 49) dX6_undoProof_21 k_310 (by decide) kk_41 (by decide) rfl rfl (fun r => rt_41_7 (r rfl)) (by decide) ?_
      refine v_iload_n dX6_undoProof_24 rfl ?_
      refine v_iload_n dX6_undoProof_25 rfl ?_
      refine v_iastore dX6_undoProof_26 (by decide) kk_49 (by omega) (by omega) ?_
      refine v_aload_n dX6_undoProof_27 rfl ?_
      refine v_dup dX6_undoProof_28 rfl ?_
      refine v_getv (ci := 6) (j := 13) (ji := 13) (tg := 0) dX6_undoProof_29 k_321 (by decide) kk_41 (by decide) rfl rfl (by decide) (hset_c (by decide)) ?_
      refine v_iconst dX6_undoProof_32 (c32 rfl) ?_
      refine v_iadd dX6_undoProof_33 ?_
      refine v_puti (ci := 6) (j := 13) (ji := 13) dX6_undoProof_34 k_321 (by decide) kk_41 (by decide) rfl rfl rfl ?_
      refine v_iconst dX6_undoProof_37 (c32 rfl) ?_
      refine v_iretz dX6_undoProof_38 rfl (by decide) (Nat.le_refl _) (Nat.le_refl _) ?_
      exact q_2 c2_2 c15_3
    · refine v_iconst dX6_undoProof_18 (c32 rfl) ?_
      refine v_iretz dX6_undoProof_19 rfl (by decide) (Nat.le_refl _) (Nat.le_refl _) ?_
      exact q_3 c2_2 c15_3

set_option maxHeartbeats 4000000 in
set_option maxRecDepth 100000 in
theorem s_X6_partOf {l : Launch} {G : GG} {d : Nat} {h : AH} {Q : Option AV → List Kd → AH → Prop} {p0 p1 : Int} (hd : 1 ≤ d) (y0 : 0 ≤ p0 ∧ p0 < 100) (y1 : 0 ≤ p1 ∧ p1 < 6)
    (q_1 : Q (some (0, (h 51 ((p0 * 6) + p1)))) K0 h) : Sp l G mX6_partOf d 0 0 K0 [(2, 41), (0, p0), (0, p1)] h Q := by
  refine sp_of (L := [(2, 41), (0, p0), (0, p1)]) pl_X6 (Nat.le_of_ble_eq_true rfl) (tg_c (by decide) (tg_c (by decide) (tg_c (by decide) tg_0))) rfl ?_
  refine v_aload_n dX6_partOf_0 rfl ?_
  refine v_getr (ci := 6) (j := 9) (ji := 9) (z := 51) dX6_partOf_1 k_314 (by decide) kk_41 (by decide) rfl rfl (fun r => rt_41_9 (r rfl)) (by decide) ?_
  refine v_iload_n dX6_partOf_4 rfl ?_
  refine v_bipush dX6_partOf_5 (c32 rfl) (by decide) ?_
  refine v_imulE dX6_partOf_7 (by omega) ?_
  refine v_iload_n dX6_partOf_8 rfl ?_
  refine v_iaddE dX6_partOf_9 (by omega) ?_
  refine v_iaload dX6_partOf_10 (by decide) kk_51 (by omega) (by omega) ?_
  refine v_ireti dX6_partOf_11 rfl (Nat.le_refl _) (Nat.le_refl _) ?_
  exact q_1 

set_option maxHeartbeats 4000000 in
set_option maxRecDepth 100000 in
theorem s_X6_manyOf {l : Launch} {G : GG} {d : Nat} {h : AH} {Q : Option AV → List Kd → AH → Prop} {p0 p1 : Int} (hd : 1 ≤ d) (y0 : 0 ≤ p0 ∧ p0 < 100) (y1 : 0 ≤ p1 ∧ p1 < 6)
    (q_1 : Q (some (0, (h 52 ((p0 * 6) + p1)))) K0 h) : Sp l G mX6_manyOf d 0 0 K0 [(2, 41), (0, p0), (0, p1)] h Q := by
  refine sp_of (L := [(2, 41), (0, p0), (0, p1)]) pl_X6 (Nat.le_of_ble_eq_true rfl) (tg_c (by decide) (tg_c (by decide) (tg_c (by decide) tg_0))) rfl ?_
  refine v_aload_n dX6_manyOf_0 rfl ?_
  refine v_getr (ci := 6) (j := 10) (ji := 10) (z := 52) dX6_manyOf_1 k_315 (by decide) kk_41 (by decide) rfl rfl (fun r => rt_41_10 (r rfl)) (by decide) ?_
  refine v_iload_n dX6_manyOf_4 rfl ?_
  refine v_bipush dX6_manyOf_5 (c32 rfl) (by decide) ?_
  refine v_imulE dX6_manyOf_7 (by omega) ?_
  refine v_iload_n dX6_manyOf_8 rfl ?_
  refine v_iaddE dX6_manyOf_9 (by omega) ?_
  refine v_iaload dX6_manyOf_10 (by decide) kk_52 (by omega) (by omega) ?_
  refine v_ireti dX6_manyOf_11 rfl (Nat.le_refl _) (Nat.le_refl _) ?_
  exact q_1 

set_option maxHeartbeats 4000000 in
set_option maxRecDepth 100000 in
theorem s_X6_canTake {l : Launch} {G : GG} {d : Nat} {h : AH} {Q : Option AV → List Kd → AH → Prop} {p0 p1 : Int} (hd : 3 ≤ d) (z0 : 0 ≤ (h 41 12)) (c0 : (h 41 12) ≤ 100)
    (q_1 : p0 < 0 → Q (some (0, 0)) K0 h)
    (q_2 : 0 ≤ p0 → ((h 41 12) - 1) < p0 → Q (some (0, 0)) K0 h)
    (q_3 : 0 ≤ p0 → p0 ≤ ((h 41 12) - 1) → p1 < 1 → Q (some (0, 0)) K0 h)
    (q_4 : 0 ≤ p0 → p0 ≤ ((h 41 12) - 1) → 1 ≤ p1 → (h 46 p0) < p1 → Q (some (0, 0)) K0 h)
    (q_5 : 0 ≤ p0 → p0 ≤ ((h 41 12) - 1) → 1 ≤ p1 → p1 ≤ (h 46 p0) → Q (some (0, 1)) K0 h) : Sp l G mX6_canTake d 0 0 K0 [(2, 41), (0, p0), (0, p1)] h Q := by
  refine sp_of (L := [(2, 41), (0, p0), (0, p1)]) pl_X6 (Nat.le_of_ble_eq_true rfl) (tg_c (by decide) (tg_c (by decide) (tg_c (by decide) tg_0))) rfl ?_
  refine v_aload_n dX6_canTake_0 rfl ?_
  refine v_iload_n dX6_canTake_1 rfl ?_
  refine v_callv (M' := mX6_has) (d' := d - 1) (mc' := 0) (ms' := 0) (ci := 6) (c := 41) (As := [_]) dX6_canTake_2 k_855 cm_X6_has rfl (by omega) (by decide) kk_41 (Nat.le_of_ble_eq_true rfl) rfl ⟨Nat.le_refl _, Nat.le_refl _⟩ ?_
  refine s_X6_has (by omega) (by omega) (by omega) (fun c2_1 => ?_) (fun c2_2 c2_3 => ?_) (fun c2_4 c2_5 => ?_)
  · dsimp only [Option.toList, List.cons_append, List.nil_append, Nat.add_zero]
    refine v_if_eq_t (tgt := 26) dX6_canTake_5 (by decide) (by decide) ?_
    refine v_iconst dX6_canTake_26 (c32 rfl) ?_
    refine v_iretz dX6_canTake_27 rfl (by decide) (Nat.le_refl _) (Nat.le_refl _) ?_
    exact q_1 c2_1
  · dsimp only [Option.toList, List.cons_append, List.nil_append, Nat.add_zero]
    refine v_if_eq_t (tgt := 26) dX6_canTake_5 (by decide) (by decide) ?_
    refine v_iconst dX6_canTake_26 (c32 rfl) ?_
    refine v_iretz dX6_canTake_27 rfl (by decide) (Nat.le_refl _) (Nat.le_refl _) ?_
    exact q_2 c2_2 c2_3
  · dsimp only [Option.toList, List.cons_append, List.nil_append, Nat.add_zero]
    refine v_if_eq_f (tgt := 26) dX6_canTake_5 (by decide) (by decide) ?_
    refine v_iload_n dX6_canTake_8 rfl ?_
    refine v_iconst dX6_canTake_9 (c32 rfl) ?_
    refine v_aload_n dX6_canTake_10 rfl ?_
    refine v_getr (ci := 6) (j := 4) (ji := 4) (z := 46) dX6_canTake_11 k_301 (by decide) kk_41 (by decide) rfl rfl (fun r => rt_41_4 (r rfl)) (by decide) ?_
    refine v_iload_n dX6_canTake_14 rfl ?_
    refine v_iaload dX6_canTake_15 (by decide) kk_46 (by omega) (by omega) ?_
    refine v_callsN (M' := mX11_within) (d' := d - 1) (mc' := 0) (ms' := 0) (As := [_, _, _]) dX6_canTake_16 k_859 cm_X11_within (by omega) (Nat.le_of_ble_eq_true rfl) rfl ⟨Nat.le_refl _, Nat.le_refl _⟩ ?_
    refine s_X11_within (by omega) (fun c16_6 => ?_) (fun c16_7 c16_8 => ?_) (fun c16_9 c16_10 => ?_)
    · dsimp only [Option.toList, List.cons_append, List.nil_append, Nat.add_zero]
      refine v_if_eq_t (tgt := 26) dX6_canTake_19 (by decide) (by decide) ?_
      refine v_iconst dX6_canTake_26 (c32 rfl) ?_
      refine v_iretz dX6_canTake_27 rfl (by decide) (Nat.le_refl _) (Nat.le_refl _) ?_
      exact q_3 c2_4 c2_5 c16_6
    · dsimp only [Option.toList, List.cons_append, List.nil_append, Nat.add_zero]
      refine v_if_eq_t (tgt := 26) dX6_canTake_19 (by decide) (by decide) ?_
      refine v_iconst dX6_canTake_26 (c32 rfl) ?_
      refine v_iretz dX6_canTake_27 rfl (by decide) (Nat.le_refl _) (Nat.le_refl _) ?_
      exact q_4 c2_4 c2_5 c16_7 c16_8
    · dsimp only [Option.toList, List.cons_append, List.nil_append, Nat.add_zero]
      refine v_if_eq_f (tgt := 26) dX6_canTake_19 (by decide) (by decide) ?_
      refine v_iconst dX6_canTake_22 (c32 rfl) ?_
      refine v_goto (tgt := 27) dX6_canTake_23 (by decide) ?_
      refine v_iretz dX6_canTake_27 rfl (by decide) (Nat.le_refl _) (Nat.le_refl _) ?_
      exact q_5 c2_4 c2_5 c16_9 c16_10

set_option maxHeartbeats 4000000 in
set_option maxRecDepth 100000 in
theorem s_X10_putOnBench {l : Launch} {G : GG} {d : Nat} {h : AH} {Q : Option AV → List Kd → AH → Prop} {p0 p1 : Int} (hd : 1 ≤ d) (z0 : 0 ≤ (h 81 2)) (c0 : (h 81 2) ≤ 6)
    (q_1 : 6 ≤ (h 81 2) → Q none K0 h)
    (q_2 : (h 81 2) < 6 → Q none K0 (hset (hset (hset h 82 (h 81 2) p0) 83 (h 81 2) p1) 81 2 ((h 81 2) + 1))) : Sp l G mX10_putOnBench d 0 0 K0 [(2, 81), (0, p0), (0, p1)] h Q := by
  refine sp_of (L := [(2, 81), (0, p0), (0, p1)]) pl_X10 (Nat.le_of_ble_eq_true rfl) (tg_c (by decide) (tg_c (by decide) (tg_c (by decide) tg_0))) rfl ?_
  refine v_aload_n dX10_putOnBench_0 rfl ?_
  refine v_get (ci := 10) (j := 2) (ji := 2) (tg := 0) dX10_putOnBench_1 k_443 (by decide) kk_81 (by decide) rfl rfl (by decide) ?_
  refine v_bipush dX10_putOnBench_4 (c32 rfl) (by decide) ?_
  refine v_icmp_ge (tgt := 39) dX10_putOnBench_6 (by decide) (fun c6_1 => ?_) (fun c6_1 => ?_)
  · refine v_vret dX10_putOnBench_39 rfl (Nat.le_refl _) (Nat.le_refl _) ?_
    exact q_1 c6_1
  · refine v_aload_n dX10_putOnBench_9 rfl ?_
    refine v_getr (ci := 10) (j := 0) (ji := 0) (z := 82) dX10_putOnBench_10 k_441 (by decide) kk_81 (by decide) rfl rfl (fun r => rt_81_0 (r rfl)) (by decide) ?_
    refine v_aload_n dX10_putOnBench_13 rfl ?_
    refine v_get (ci := 10) (j := 2) (ji := 2) (tg := 0) dX10_putOnBench_14 k_443 (by decide) kk_81 (by decide) rfl rfl (by decide) ?_
    refine v_iload_n dX10_putOnBench_17 rfl ?_
    refine v_iastore dX10_putOnBench_18 (by decide) kk_82 (by omega) (by omega) ?_
    refine v_aload_n dX10_putOnBench_19 rfl ?_
    refine v_getr (ci := 10) (j := 1) (ji := 1) (z := 83) dX10_putOnBench_20 k_442 (by decide) kk_81 (by decide) rfl rfl (fun r => rt_81_1 (r rfl)) (by decide) ?_
    refine v_aload_n dX10_putOnBench_23 rfl ?_
    refine v_getv (ci := 10) (j := 2) (ji := 2) (tg := 0) dX10_putOnBench_24 k_443 (by decide) kk_81 (by decide) rfl rfl (by decide) (hset_c (by decide)) ?_
    refine v_iload_n dX10_putOnBench_27 rfl ?_
    refine v_iastore dX10_putOnBench_28 (by decide) kk_83 (by omega) (by omega) ?_
    refine v_aload_n dX10_putOnBench_29 rfl ?_
    refine v_dup dX10_putOnBench_30 rfl ?_
    refine v_getv (ci := 10) (j := 2) (ji := 2) (tg := 0) dX10_putOnBench_31 k_443 (by decide) kk_81 (by decide) rfl rfl (by decide) ((hset_c (by decide)).trans (hset_c (by decide))) ?_
    refine v_iconst dX10_putOnBench_34 (c32 rfl) ?_
    refine v_iaddE dX10_putOnBench_35 (by omega) ?_
    refine v_puti (ci := 10) (j := 2) (ji := 2) dX10_putOnBench_36 k_443 (by decide) kk_81 (by decide) rfl rfl rfl ?_
    refine v_vret dX10_putOnBench_39 rfl (Nat.le_refl _) (Nat.le_refl _) ?_
    exact q_2 c6_1

set_option maxHeartbeats 4000000 in
set_option maxRecDepth 100000 in
theorem s_X10_layLeft {l : Launch} {G : GG} {d : Nat} {h : AH} {Q : Option AV → List Kd → AH → Prop} {p1 p2 : Int} (hd : 4 ≤ d) (z0 : 0 ≤ (h 81 2)) (c0 : (h 81 2) ≤ 6) (z1 : 0 ≤ (h 41 12)) (c1 : (h 41 12) ≤ 100)
    (q_1 : p1 < 0 → Q (some (0, (-1))) K0 h)
    (q_2 : 0 ≤ p1 → ((h 41 12) - 1) < p1 → Q (some (0, (-1))) K0 h)
    (q_3 : 0 ≤ p1 → p1 ≤ ((h 41 12) - 1) → p2 < 1 → Q (some (0, (-1))) K0 h)
    (q_4 : 0 ≤ p1 → p1 ≤ ((h 41 12) - 1) → 1 ≤ p2 → (h 46 p1) < p2 → Q (some (0, (-1))) K0 h)
    (q_5 : 0 ≤ p1 → p1 ≤ ((h 41 12) - 1) → 1 ≤ p2 → p2 ≤ (h 46 p1) → (h 81 2) < 6 → 6 ≤ (h 81 2) → Q (some (0, (h 81 2))) K0 (hset h 46 p1 (isub (h 46 p1) p2)))
    (q_6 : 0 ≤ p1 → p1 ≤ ((h 41 12) - 1) → 1 ≤ p2 → p2 ≤ (h 46 p1) → (h 81 2) < 6 → (h 81 2) < 6 → Q (some (0, (((hset h 46 p1 (isub (h 46 p1) p2)) 81 2) + 1))) K0 (hset (hset (hset (hset h 46 p1 (isub (h 46 p1) p2)) 82 ((hset h 46 p1 (isub (h 46 p1) p2)) 81 2) p1) 83 ((hset h 46 p1 (isub (h 46 p1) p2)) 81 2) p2) 81 2 (((hset h 46 p1 (isub (h 46 p1) p2)) 81 2) + 1)))
    (q_7 : 0 ≤ p1 → p1 ≤ ((h 41 12) - 1) → 1 ≤ p2 → p2 ≤ (h 46 p1) → 6 ≤ (h 81 2) → Q (some (0, (-1))) K0 h) : Sp l G mX10_layLeft d 0 0 K0 [(2, 81), (2, 41), (0, p1), (0, p2)] h Q := by
  refine sp_of (L := [(2, 81), (2, 41), (0, p1), (0, p2)]) pl_X10 (Nat.le_of_ble_eq_true rfl) (tg_c (by decide) (tg_c (by decide) (tg_c (by decide) (tg_c (by decide) tg_0)))) rfl ?_
  refine v_aload_n dX10_layLeft_0 rfl ?_
  refine v_iload_n dX10_layLeft_1 rfl ?_
  refine v_iload_n dX10_layLeft_2 rfl ?_
  refine v_callv (M' := mX6_canTake) (d' := d - 1) (mc' := 0) (ms' := 0) (ci := 6) (c := 41) (As := [_, _]) dX10_layLeft_3 k_851 cm_X6_canTake rfl (by omega) (by decide) kk_41 (Nat.le_of_ble_eq_true rfl) rfl ⟨Nat.le_refl _, Nat.le_refl _⟩ ?_
  refine s_X6_canTake (by omega) (by omega) (by omega) (fun c3_1 => ?_) (fun c3_2 c3_3 => ?_) (fun c3_4 c3_5 c3_6 => ?_) (fun c3_7 c3_8 c3_9 c3_10 => ?_) (fun c3_11 c3_12 c3_13 c3_14 => ?_)
  · dsimp only [Option.toList, List.cons_append, List.nil_append, Nat.add_zero]
    refine v_if_eq_t (tgt := 18) dX10_layLeft_6 (by decide) (by decide) ?_
    refine v_iconst dX10_layLeft_18 (c32 rfl) ?_
    refine v_ireti dX10_layLeft_19 rfl (Nat.le_refl _) (Nat.le_refl _) ?_
    exact q_1 c3_1
  · dsimp only [Option.toList, List.cons_append, List.nil_append, Nat.add_zero]
    refine v_if_eq_t (tgt := 18) dX10_layLeft_6 (by decide) (by decide) ?_
    refine v_iconst dX10_layLeft_18 (c32 rfl) ?_
    refine v_ireti dX10_layLeft_19 rfl (Nat.le_refl _) (Nat.le_refl _) ?_
    exact q_2 c3_2 c3_3
  · dsimp only [Option.toList, List.cons_append, List.nil_append, Nat.add_zero]
    refine v_if_eq_t (tgt := 18) dX10_layLeft_6 (by decide) (by decide) ?_
    refine v_iconst dX10_layLeft_18 (c32 rfl) ?_
    refine v_ireti dX10_layLeft_19 rfl (Nat.le_refl _) (Nat.le_refl _) ?_
    exact q_3 c3_4 c3_5 c3_6
  · dsimp only [Option.toList, List.cons_append, List.nil_append, Nat.add_zero]
    refine v_if_eq_t (tgt := 18) dX10_layLeft_6 (by decide) (by decide) ?_
    refine v_iconst dX10_layLeft_18 (c32 rfl) ?_
    refine v_ireti dX10_layLeft_19 rfl (Nat.le_refl _) (Nat.le_refl _) ?_
    exact q_4 c3_7 c3_8 c3_9 c3_10
  · dsimp only [Option.toList, List.cons_append, List.nil_append, Nat.add_zero]
    refine v_if_eq_f (tgt := 18) dX10_layLeft_6 (by decide) (by decide) ?_
    refine v_aload_n dX10_layLeft_9 rfl ?_
    refine v_get (ci := 10) (j := 2) (ji := 2) (tg := 0) dX10_layLeft_10 k_443 (by decide) kk_81 (by decide) rfl rfl (by decide) ?_
    refine v_bipush dX10_layLeft_13 (c32 rfl) (by decide) ?_
    refine v_icmp_lt (tgt := 20) dX10_layLeft_15 (by decide) (fun c15_15 => ?_) (fun c15_15 => ?_)
    · refine v_aload_n dX10_layLeft_20 rfl ?_
      refine v_getrN (ci := 6) (j := 4) (ji := 4) (z := 46) dX10_layLeft_21 k_302 (by decide) kk_41 (by decide) rfl rfl (fun r => rt_41_4 (r rfl)) (by decide) ?_
      refine v_iload_n dX10_layLeft_24 rfl ?_
      refine v_dup2 dX10_layLeft_25 rfl rfl ?_
      refine v_iaload dX10_layLeft_26 (by decide) kk_46 (by omega) (by omega) ?_
      refine v_iload_n dX10_layLeft_27 rfl ?_
      refine v_isub dX10_layLeft_28 ?_
      refine v_iastore dX10_layLeft_29 (by decide) kk_46 (by omega) (by omega) ?_
      refine v_aload_n dX10_layLeft_30 rfl ?_
      refine v_iload_n dX10_layLeft_31 rfl ?_
      refine v_iload_n dX10_layLeft_32 rfl ?_
      refine v_callv (M' := mX10_putOnBench) (d' := d - 1) (mc' := 0) (ms' := 0) (ci := 10) (c := 81) (As := [_, _]) dX10_layLeft_33 k_860 cm_X10_putOnBench rfl (by omega) (by decide) kk_81 (Nat.le_of_ble_eq_true rfl) rfl ⟨Nat.le_refl _, Nat.le_refl _⟩ ?_
      refine s_X10_putOnBench (by omega) (by rw [show (hset h 46 p1 (isub (h 46 p1) p2)) 81 2 = (h 81 2) from (hset_c (by decide))]; omega) (by rw [show (hset h 46 p1 (isub (h 46 p1) p2)) 81 2 = (h 81 2) from (hset_c (by decide))]; omega) (fun c33_16 => ?_) (fun c33_17 => ?_)
      · dsimp only [Option.toList, List.cons_append, List.nil_append, Nat.add_zero]
        rw [show (hset h 46 p1 (isub (h 46 p1) p2)) 81 2 = (h 81 2) from (hset_c (by decide))] at c33_16
        refine v_aload_n dX10_layLeft_36 rfl ?_
        refine v_getv (ci := 10) (j := 2) (ji := 2) (tg := 0) dX10_layLeft_37 k_443 (by decide) kk_81 (by decide) rfl rfl (by decide) (hset_c (by decide)) ?_
        refine v_ireti dX10_layLeft_40 rfl (Nat.le_refl _) (Nat.le_refl _) ?_
        exact q_5 c3_11 c3_12 c3_13 c3_14 c15_15 c33_16
      · dsimp only [Option.toList, List.cons_append, List.nil_append, Nat.add_zero]
        rw [show (hset h 46 p1 (isub (h 46 p1) p2)) 81 2 = (h 81 2) from (hset_c (by decide))] at c33_17
        refine v_aload_n dX10_layLeft_36 rfl ?_
        refine v_getv (ci := 10) (j := 2) (ji := 2) (tg := 0) dX10_layLeft_37 k_443 (by decide) kk_81 (by decide) rfl rfl (by decide) (hset_same _ _ _ _) ?_
        refine v_ireti dX10_layLeft_40 rfl (Nat.le_refl _) (Nat.le_refl _) ?_
        exact q_6 c3_11 c3_12 c3_13 c3_14 c15_15 c33_17
    · refine v_iconst dX10_layLeft_18 (c32 rfl) ?_
      refine v_ireti dX10_layLeft_19 rfl (Nat.le_refl _) (Nat.le_refl _) ?_
      exact q_7 c3_11 c3_12 c3_13 c3_14 c15_15

set_option maxHeartbeats 4000000 in
set_option maxRecDepth 100000 in
theorem lp_X10_lyingOn_4 {l : Launch} {G : GG} {d : Nat} {h : AH} {Q : Option AV → List Kd → AH → Prop} {p0 : Int} (hd : 1 ≤ d) (b0 : 0 ≤ (h 81 6)) (bN : (h 81 6) ≤ 100) (hq : Q (some (0, (lyF (h 84) (h 86) p0 (h 81 6)))) K0 h) : ∀ k, 0 ≤ k → k ≤ (h 81 6) → V l G mX10_lyingOn d 0 0 0 0 K0 4 [(2, 81), (0, p0), (0, (lyF (h 84) (h 86) p0 k)), (0, k)] [] h Q := by
  refine loop_m3 (fun k hk hkN ih => ?_)
  refine v_iload_n dX10_lyingOn_4 rfl ?_
  refine v_aload_n dX10_lyingOn_5 rfl ?_
  refine v_get (ci := 10) (j := 6) (ji := 6) (tg := 0) dX10_lyingOn_6 k_448 (by decide) kk_81 (by decide) rfl rfl (by decide) ?_
  refine v_icmp_ge (tgt := 41) dX10_lyingOn_9 (by decide) (fun c9_1 => ?_) (fun c9_1 => ?_)
  · obtain rfl : k = (h 81 6) := by omega
    refine v_iload_n dX10_lyingOn_41 rfl ?_
    refine v_ireti dX10_lyingOn_42 rfl (Nat.le_refl _) (Nat.le_refl _) ?_
    exact hq
  · refine v_iload_n dX10_lyingOn_12 rfl ?_
    refine v_aload_n dX10_lyingOn_13 rfl ?_
    refine v_getr (ci := 10) (j := 3) (ji := 3) (z := 84) dX10_lyingOn_14 k_445 (by decide) kk_81 (by decide) rfl rfl (fun r => rt_81_3 (r rfl)) (by decide) ?_
    refine v_iload_n dX10_lyingOn_17 rfl ?_
    refine v_iaload dX10_lyingOn_18 (by decide) kk_84 (by omega) (by omega) ?_
    refine v_iload_n dX10_lyingOn_19 rfl ?_
    refine v_icmp_ne (tgt := 32) dX10_lyingOn_20 (by decide) (fun c20_2 => ?_) (fun c20_2 => ?_)
    · refine v_iconst dX10_lyingOn_32 (c32 rfl) ?_
      refine v_iadd dX10_lyingOn_33 ?_
      refine v_istore_n_2 dX10_lyingOn_34 (by decide) rfl ?_
      refine v_iinc_3 dX10_lyingOn_35 (by decide) rfl ?_
      rw [iadd_eq (x := k) (y := 1) (by unfold ok32; omega)]
      refine v_goto (tgt := 4) dX10_lyingOn_38 (by decide) ?_
      have ih := ih (by omega)
      have e2 : (lyF (h 84) (h 86) p0 (k + 1)) = (iadd (lyF (h 84) (h 86) p0 k) 0) := by rw [lyF_s hk]; unfold lySt; first | (rw [if_pos (by omega)]; done) | (rw [if_neg (by omega)]; done)
      rw [e2] at ih
      exact ih
    · refine v_aload_n dX10_lyingOn_23 rfl ?_
      refine v_getr (ci := 10) (j := 5) (ji := 5) (z := 86) dX10_lyingOn_24 k_447 (by decide) kk_81 (by decide) rfl rfl (fun r => rt_81_5 (r rfl)) (by decide) ?_
      refine v_iload_n dX10_lyingOn_27 rfl ?_
      refine v_iaload dX10_lyingOn_28 (by decide) kk_86 (by omega) (by omega) ?_
      refine v_goto (tgt := 33) dX10_lyingOn_29 (by decide) ?_
      refine v_iadd dX10_lyingOn_33 ?_
      refine v_istore_n_2 dX10_lyingOn_34 (by decide) rfl ?_
      refine v_iinc_3 dX10_lyingOn_35 (by decide) rfl ?_
      rw [iadd_eq (x := k) (y := 1) (by unfold ok32; omega)]
      refine v_goto (tgt := 4) dX10_lyingOn_38 (by decide) ?_
      have ih := ih (by omega)
      have e2 : (lyF (h 84) (h 86) p0 (k + 1)) = (iadd (lyF (h 84) (h 86) p0 k) (h 86 k)) := by rw [lyF_s hk]; unfold lySt; first | (rw [if_pos (by omega)]; done) | (rw [if_neg (by omega)]; done)
      rw [e2] at ih
      exact ih

set_option maxHeartbeats 4000000 in
set_option maxRecDepth 100000 in
theorem s_X10_lyingOn {l : Launch} {G : GG} {d : Nat} {h : AH} {Q : Option AV → List Kd → AH → Prop} {p0 : Int} (hd : 1 ≤ d) (b0 : 0 ≤ (h 81 6)) (bN : (h 81 6) ≤ 100) (hq : Q (some (0, (lyF (h 84) (h 86) p0 (h 81 6)))) K0 h) : Sp l G mX10_lyingOn d 0 0 K0 [(2, 81), (0, p0)] h Q := by
  refine sp_of (L := [(2, 81), (0, p0), (9, 0), (9, 0)]) pl_X10 (Nat.le_of_ble_eq_true rfl) (tg_c (by decide) (tg_c (by decide) tg_0)) rfl ?_
  refine v_iconst dX10_lyingOn_0 (c32 rfl) ?_
  refine v_istore_n_2 dX10_lyingOn_1 (by decide) rfl ?_
  refine v_iconst dX10_lyingOn_2 (c32 rfl) ?_
  refine v_istore_n_3 dX10_lyingOn_3 (by decide) rfl ?_
  exact lp_X10_lyingOn_4 hd b0 bN hq 0 (Int.le_refl _) b0

set_option maxHeartbeats 4000000 in
set_option maxRecDepth 100000 in
theorem s_X10_pourLeft {l : Launch} {G : GG} {d : Nat} {h : AH} {Q : Option AV → List Kd → AH → Prop} {p1 p2 p3 : Int} (hd : 4 ≤ d) (z0 : 0 ≤ (h 81 6)) (c0 : (h 81 6) ≤ 100) (z1 : 0 ≤ (h 41 12)) (c1 : (h 41 12) ≤ 100)
    (q_1 : p1 < 0 → Q (some (0, (-1))) K0 h)
    (q_2 : 0 ≤ p1 → 5 < p1 → Q (some (0, (-1))) K0 h)
    (q_3 : 0 ≤ p1 → p1 ≤ 5 → p2 < 0 → Q (some (0, (-1))) K0 h)
    (q_4 : 0 ≤ p1 → p1 ≤ 5 → 0 ≤ p2 → ((h 41 12) - 1) < p2 → Q (some (0, (-1))) K0 h)
    (q_5 : 0 ≤ p1 → p1 ≤ 5 → 0 ≤ p2 → p2 ≤ ((h 41 12) - 1) → p3 < 1 → Q (some (0, (-1))) K0 h)
    (q_6 : 0 ≤ p1 → p1 ≤ 5 → 0 ≤ p2 → p2 ≤ ((h 41 12) - 1) → 1 ≤ p3 → (h 46 p2) < p3 → Q (some (0, (-1))) K0 h)
    (q_7 : 0 ≤ p1 → p1 ≤ 5 → 0 ≤ p2 → p2 ≤ ((h 41 12) - 1) → 1 ≤ p3 → p3 ≤ (h 46 p2) → (h 81 6) < 100 → Q (some (0, (lyF ((hset (hset h 46 p2 (isub (h 46 p2) p3)) 84 (h 81 6) p1) 84) ((hset (hset (hset (hset h 46 p2 (isub (h 46 p2) p3)) 84 (h 81 6) p1) 85 (h 81 6) p2) 86 (h 81 6) p3) 86) p1 ((h 81 6) + 1)))) K0 (hset (hset (hset (hset (hset h 46 p2 (isub (h 46 p2) p3)) 84 (h 81 6) p1) 85 (h 81 6) p2) 86 (h 81 6) p3) 81 6 ((h 81 6) + 1)))
    (q_8 : 0 ≤ p1 → p1 ≤ 5 → 0 ≤ p2 → p2 ≤ ((h 41 12) - 1) → 1 ≤ p3 → p3 ≤ (h 46 p2) → 100 ≤ (h 81 6) → Q (some (0, (-1))) K0 h) : Sp l G mX10_pourLeft d 0 0 K0 [(2, 81), (2, 41), (0, p1), (0, p2), (0, p3)] h Q := by
  refine sp_of (L := [(2, 81), (2, 41), (0, p1), (0, p2), (0, p3)]) pl_X10 (Nat.le_of_ble_eq_true rfl) (tg_c (by decide) (tg_c (by decide) (tg_c (by decide) (tg_c (by decide) (tg_c (by decide) tg_0))))) rfl ?_
  refine v_iload_n dX10_pourLeft_0 rfl ?_
  refine v_iconst dX10_pourLeft_1 (c32 rfl) ?_
  refine v_iconst dX10_pourLeft_2 (c32 rfl) ?_
  refine v_callsN (M' := mX11_within) (d' := d - 1) (mc' := 0) (ms' := 0) (As := [_, _, _]) dX10_pourLeft_3 k_872 cm_X11_within (by omega) (Nat.le_of_ble_eq_true rfl) rfl ⟨Nat.le_refl _, Nat.le_refl _⟩ ?_
  refine s_X11_within (by omega) (fun c3_1 => ?_) (fun c3_2 c3_3 => ?_) (fun c3_4 c3_5 => ?_)
  · dsimp only [Option.toList, List.cons_append, List.nil_append, Nat.add_zero]
    refine v_if_eq_t (tgt := 28) dX10_pourLeft_6 (by decide) (by decide) ?_
    refine v_iconst dX10_pourLeft_28 (c32 rfl) ?_
    refine v_ireti dX10_pourLeft_29 rfl (Nat.le_refl _) (Nat.le_refl _) ?_
    exact q_1 c3_1
  · dsimp only [Option.toList, List.cons_append, List.nil_append, Nat.add_zero]
    refine v_if_eq_t (tgt := 28) dX10_pourLeft_6 (by decide) (by decide) ?_
    refine v_iconst dX10_pourLeft_28 (c32 rfl) ?_
    refine v_ireti dX10_pourLeft_29 rfl (Nat.le_refl _) (Nat.le_refl _) ?_
    exact q_2 c3_2 c3_3
  · dsimp only [Option.toList, List.cons_append, List.nil_append, Nat.add_zero]
    refine v_if_eq_f (tgt := 28) dX10_pourLeft_6 (by decide) (by decide) ?_
    refine v_aload_n dX10_pourLeft_9 rfl ?_
    refine v_iload_n dX10_pourLeft_10 rfl ?_
    refine v_iload dX10_pourLeft_11 rfl ?_
    refine v_callv (M' := mX6_canTake) (d' := d - 1) (mc' := 0) (ms' := 0) (ci := 6) (c := 41) (As := [_, _]) dX10_pourLeft_13 k_851 cm_X6_canTake rfl (by omega) (by decide) kk_41 (Nat.le_of_ble_eq_true rfl) rfl ⟨Nat.le_refl _, Nat.le_refl _⟩ ?_
    refine s_X6_canTake (by omega) (by omega) (by omega) (fun c13_6 => ?_) (fun c13_7 c13_8 => ?_) (fun c13_9 c13_10 c13_11 => ?_) (fun c13_12 c13_13 c13_14 c13_15 => ?_) (fun c13_16 c13_17 c13_18 c13_19 => ?_)
    · dsimp only [Option.toList, List.cons_append, List.nil_append, Nat.add_zero]
      refine v_if_eq_t (tgt := 28) dX10_pourLeft_16 (by decide) (by decide) ?_
      refine v_iconst dX10_pourLeft_28 (c32 rfl) ?_
      refine v_ireti dX10_pourLeft_29 rfl (Nat.le_refl _) (Nat.le_refl _) ?_
      exact q_3 c3_4 c3_5 c13_6
    · dsimp only [Option.toList, List.cons_append, List.nil_append, Nat.add_zero]
      refine v_if_eq_t (tgt := 28) dX10_pourLeft_16 (by decide) (by decide) ?_
      refine v_iconst dX10_pourLeft_28 (c32 rfl) ?_
      refine v_ireti dX10_pourLeft_29 rfl (Nat.le_refl _) (Nat.le_refl _) ?_
      exact q_4 c3_4 c3_5 c13_7 c13_8
    · dsimp only [Option.toList, List.cons_append, List.nil_append, Nat.add_zero]
      refine v_if_eq_t (tgt := 28) dX10_pourLeft_16 (by decide) (by decide) ?_
      refine v_iconst dX10_pourLeft_28 (c32 rfl) ?_
      refine v_ireti dX10_pourLeft_29 rfl (Nat.le_refl _) (Nat.le_refl _) ?_
      exact q_5 c3_4 c3_5 c13_9 c13_10 c13_11
    · dsimp only [Option.toList, List.cons_append, List.nil_append, Nat.add_zero]
      refine v_if_eq_t (tgt := 28) dX10_pourLeft_16 (by decide) (by decide) ?_
      refine v_iconst dX10_pourLeft_28 (c32 rfl) ?_
      refine v_ireti dX10_pourLeft_29 rfl (Nat.le_refl _) (Nat.le_refl _) ?_
      exact q_6 c3_4 c3_5 c13_12 c13_13 c13_14 c13_15
    · dsimp only [Option.toList, List.cons_append, List.nil_append, Nat.add_zero]
      refine v_if_eq_f (tgt := 28) dX10_pourLeft_16 (by decide) (by decide) ?_
      refine v_aload_n dX10_pourLeft_19 rfl ?_
      refine v_get (ci := 10) (j := 6) (ji := 6) (tg := 0) dX10_pourLeft_20 k_448 (by decide) kk_81 (by decide) rfl rfl (by decide) ?_
      refine v_bipush dX10_pourLeft_23 (c32 rfl) (by decide) ?_
      refine v_icmp_lt (tgt := 30) dX10_pourLeft_25 (by decide) (fun c25_20 => ?_) (fun c25_20 => ?_)
      · refine v_aload_n dX10_pourLeft_30 rfl ?_
        refine v_getrN (ci := 6) (j := 4) (ji := 4) (z := 46) dX10_pourLeft_31 k_302 (by decide) kk_41 (by decide) rfl rfl (fun r => rt_41_4 (r rfl)) (by decide) ?_
        refine v_iload_n dX10_pourLeft_34 rfl ?_
        refine v_dup2 dX10_pourLeft_35 rfl rfl ?_
        refine v_iaload dX10_pourLeft_36 (by decide) kk_46 (by omega) (by omega) ?_
        refine v_iload dX10_pourLeft_37 rfl ?_
        refine v_isub dX10_pourLeft_39 ?_
        refine v_iastore dX10_pourLeft_40 (by decide) kk_46 (by omega) (by omega) ?_
        refine v_aload_n dX10_pourLeft_41 rfl ?_
        refine v_getr (ci := 10) (j := 3) (ji := 3) (z := 84) dX10_pourLeft_42 k_445 (by decide) kk_81 (by decide) rfl rfl (fun r => rt_81_3 (r rfl)) (by decide) ?_
        refine v_aload_n dX10_pourLeft_45 rfl ?_
        refine v_getv (ci := 10) (j := 6) (ji := 6) (tg := 0) dX10_pourLeft_46 k_448 (by decide) kk_81 (by decide) rfl rfl (by decide) (hset_c (by decide)) ?_
        refine v_iload_n dX10_pourLeft_49 rfl ?_
        refine v_iastore dX10_pourLeft_50 (by decide) kk_84 (by omega) (by omega) ?_
        refine v_aload_n dX10_pourLeft_51 rfl ?_
        refine v_getr (ci := 10) (j := 4) (ji := 4) (z := 85) dX10_pourLeft_52 k_446 (by decide) kk_81 (by decide) rfl rfl (fun r => rt_81_4 (r rfl)) (by decide) ?_
        refine v_aload_n dX10_pourLeft_55 rfl ?_
        refine v_getv (ci := 10) (j := 6) (ji := 6) (tg := 0) dX10_pourLeft_56 k_448 (by decide) kk_81 (by decide) rfl rfl (by decide) ((hset_c (by decide)).trans (hset_c (by decide))) ?_
        refine v_iload_n dX10_pourLeft_59 rfl ?_
        refine v_iastore dX10_pourLeft_60 (by decide) kk_85 (by omega) (by omega) ?_
        refine v_aload_n dX10_pourLeft_61 rfl ?_
        refine v_getr (ci := 10) (j := 5) (ji := 5) (z := 86) dX10_pourLeft_62 k_447 (by decide) kk_81 (by decide) rfl rfl (fun r => rt_81_5 (r rfl)) (by decide) ?_
        refine v_aload_n dX10_pourLeft_65 rfl ?_
        refine v_getv (ci := 10) (j := 6) (ji := 6) (tg := 0) dX10_pourLeft_66 k_448 (by decide) kk_81 (by decide) rfl rfl (by decide) ((hset_c (by decide)).trans ((hset_c (by decide)).trans (hset_c (by decide)))) ?_
        refine v_iload dX10_pourLeft_69 rfl ?_
        refine v_iastore dX10_pourLeft_71 (by decide) kk_86 (by omega) (by omega) ?_
        refine v_aload_n dX10_pourLeft_72 rfl ?_
        refine v_dup dX10_pourLeft_73 rfl ?_
        refine v_getv (ci := 10) (j := 6) (ji := 6) (tg := 0) dX10_pourLeft_74 k_448 (by decide) kk_81 (by decide) rfl rfl (by decide) ((hset_c (by decide)).trans ((hset_c (by decide)).trans ((hset_c (by decide)).trans (hset_c (by decide))))) ?_
        refine v_iconst dX10_pourLeft_77 (c32 rfl) ?_
        refine v_iaddE dX10_pourLeft_78 (by omega) ?_
        refine v_puti (ci := 10) (j := 6) (ji := 6) dX10_pourLeft_79 k_448 (by decide) kk_81 (by decide) rfl rfl rfl ?_
        refine v_aload_n dX10_pourLeft_82 rfl ?_
        refine v_iload_n dX10_pourLeft_83 rfl ?_
        refine v_callv (M' := mX10_lyingOn) (d' := d - 1) (mc' := 0) (ms' := 0) (ci := 10) (c := 81) (As := [_]) dX10_pourLeft_84 k_873 cm_X10_lyingOn rfl (by omega) (by decide) kk_81 (Nat.le_of_ble_eq_true rfl) rfl ⟨Nat.le_refl _, Nat.le_refl _⟩ ?_
        refine s_X10_lyingOn (by omega) (by rw [show (hset (hset (hset (hset (hset h 46 p2 (isub (h 46 p2) p3)) 84 (h 81 6) p1) 85 (h 81 6) p2) 86 (h 81 6) p3) 81 6 ((h 81 6) + 1)) 81 6 = ((h 81 6) + 1) from (hset_same _ _ _ _)]; omega) (by rw [show (hset (hset (hset (hset (hset h 46 p2 (isub (h 46 p2) p3)) 84 (h 81 6) p1) 85 (h 81 6) p2) 86 (h 81 6) p3) 81 6 ((h 81 6) + 1)) 81 6 = ((h 81 6) + 1) from (hset_same _ _ _ _)]; omega) ?_
        dsimp only [Option.toList, List.cons_append, List.nil_append, Nat.add_zero]
        rw [show (hset (hset (hset (hset (hset h 46 p2 (isub (h 46 p2) p3)) 84 (h 81 6) p1) 85 (h 81 6) p2) 86 (h 81 6) p3) 81 6 ((h 81 6) + 1)) 84 = (hset (hset h 46 p2 (isub (h 46 p2) p3)) 84 (h 81 6) p1) 84 from ((hset_r (by decide)).trans ((hset_r (by decide)).trans (hset_r (by decide)))), show (hset (hset (hset (hset (hset h 46 p2 (isub (h 46 p2) p3)) 84 (h 81 6) p1) 85 (h 81 6) p2) 86 (h 81 6) p3) 81 6 ((h 81 6) + 1)) 86 = (hset (hset (hset (hset h 46 p2 (isub (h 46 p2) p3)) 84 (h 81 6) p1) 85 (h 81 6) p2) 86 (h 81 6) p3) 86 from (hset_r (by decide)), show (hset (hset (hset (hset (hset h 46 p2 (isub (h 46 p2) p3)) 84 (h 81 6) p1) 85 (h 81 6) p2) 86 (h 81 6) p3) 81 6 ((h 81 6) + 1)) 81 6 = ((h 81 6) + 1) from (hset_same _ _ _ _)]
        refine v_ireti dX10_pourLeft_87 rfl (Nat.le_refl _) (Nat.le_refl _) ?_
        exact q_7 c3_4 c3_5 c13_16 c13_17 c13_18 c13_19 c25_20
      · refine v_iconst dX10_pourLeft_28 (c32 rfl) ?_
        refine v_ireti dX10_pourLeft_29 rfl (Nat.le_refl _) (Nat.le_refl _) ?_
        exact q_8 c3_4 c3_5 c13_16 c13_17 c13_18 c13_19 c25_20

set_option maxHeartbeats 4000000 in
set_option maxRecDepth 100000 in
theorem s_X0_setTariff {l : Launch} {G : GG} {d : Nat} {h : AH} {Q : Option AV → List Kd → AH → Prop} {p0 p1 p2 : Int} (hd : 1 ≤ d) (y0 : 0 ≤ p0 ∧ p0 < 8) (y1 : 0 ≤ p1 ∧ p1 < 100)
    (q_1 : Q none K0 (hset h 74 ((p0 * 100) + p1) p2)) : Sp l G mX0_setTariff d 0 0 K0 [(2, 4), (0, p0), (0, p1), (0, p2)] h Q := by
  refine sp_of (L := [(2, 4), (0, p0), (0, p1), (0, p2)]) pl_X0 (Nat.le_of_ble_eq_true rfl) (tg_c (by decide) (tg_c (by decide) (tg_c (by decide) (tg_c (by decide) tg_0)))) rfl ?_
  refine v_aload_n dX0_setTariff_0 rfl ?_
  refine v_getr (ci := 0) (j := 9) (ji := 9) (z := 74) dX0_setTariff_1 k_385 (by decide) kk_4 (by decide) rfl rfl (fun r => rt_4_9 (r rfl)) (by decide) ?_
  refine v_iload_n dX0_setTariff_4 rfl ?_
  refine v_bipush dX0_setTariff_5 (c32 rfl) (by decide) ?_
  refine v_imulE dX0_setTariff_7 (by omega) ?_
  refine v_iload_n dX0_setTariff_8 rfl ?_
  refine v_iaddE dX0_setTariff_9 (by omega) ?_
  refine v_iload_n dX0_setTariff_10 rfl ?_
  refine v_iastore dX0_setTariff_11 (by decide) kk_74 (by omega) (by omega) ?_
  refine v_vret dX0_setTariff_12 rfl (Nat.le_refl _) (Nat.le_refl _) ?_
  exact q_1 

set_option maxHeartbeats 4000000 in
set_option maxRecDepth 100000 in
theorem s_X0_tariffOf {l : Launch} {G : GG} {d : Nat} {h : AH} {Q : Option AV → List Kd → AH → Prop} {p0 p1 : Int} (hd : 1 ≤ d) (y0 : 0 ≤ p0 ∧ p0 < 8) (y1 : 0 ≤ p1 ∧ p1 < 100)
    (q_1 : Q (some (0, (h 74 ((p0 * 100) + p1)))) K0 h) : Sp l G mX0_tariffOf d 0 0 K0 [(2, 4), (0, p0), (0, p1)] h Q := by
  refine sp_of (L := [(2, 4), (0, p0), (0, p1)]) pl_X0 (Nat.le_of_ble_eq_true rfl) (tg_c (by decide) (tg_c (by decide) (tg_c (by decide) tg_0))) rfl ?_
  refine v_aload_n dX0_tariffOf_0 rfl ?_
  refine v_getr (ci := 0) (j := 9) (ji := 9) (z := 74) dX0_tariffOf_1 k_385 (by decide) kk_4 (by decide) rfl rfl (fun r => rt_4_9 (r rfl)) (by decide) ?_
  refine v_iload_n dX0_tariffOf_4 rfl ?_
  refine v_bipush dX0_tariffOf_5 (c32 rfl) (by decide) ?_
  refine v_imulE dX0_tariffOf_7 (by omega) ?_
  refine v_iload_n dX0_tariffOf_8 rfl ?_
  refine v_iaddE dX0_tariffOf_9 (by omega) ?_
  refine v_iaload dX0_tariffOf_10 (by decide) kk_74 (by omega) (by omega) ?_
  refine v_ireti dX0_tariffOf_11 rfl (Nat.le_refl _) (Nat.le_refl _) ?_
  exact q_1 

set_option maxHeartbeats 4000000 in
set_option maxRecDepth 100000 in
theorem s_X0_has {l : Launch} {G : GG} {d : Nat} {h : AH} {Q : Option AV → List Kd → AH → Prop} {p0 : Int} (hd : 2 ≤ d) (z0 : 0 ≤ (h 4 7)) (c0 : (h 4 7) ≤ 100)
    (q_1 : p0 < 0 → Q (some (0, 0)) K0 h)
    (q_2 : 0 ≤ p0 → ((h 4 7) - 1) < p0 → Q (some (0, 0)) K0 h)
    (q_3 : 0 ≤ p0 → p0 ≤ ((h 4 7) - 1) → Q (some (0, 1)) K0 h) : Sp l G mX0_has d 0 0 K0 [(2, 4), (0, p0)] h Q := by
  refine sp_of (L := [(2, 4), (0, p0)]) pl_X0 (Nat.le_of_ble_eq_true rfl) (tg_c (by decide) (tg_c (by decide) tg_0)) rfl ?_
  refine v_iload_n dX0_has_0 rfl ?_
  refine v_iconst dX0_has_1 (c32 rfl) ?_
  refine v_aload_n dX0_has_2 rfl ?_
  refine v_get (ci := 0) (j := 7) (ji := 7) (tg := 0) dX0_has_3 k_381 (by decide) kk_4 (by decide) rfl rfl (by decide) ?_
  refine v_iconst dX0_has_6 (c32 rfl) ?_
  refine v_isubE dX0_has_7 (by omega) ?_
  refine v_callsN (M' := mX11_within) (d' := d - 1) (mc' := 0) (ms' := 0) (As := [_, _, _]) dX0_has_8 k_1074 cm_X11_within (by omega) (Nat.le_of_ble_eq_true rfl) rfl ⟨Nat.le_refl _, Nat.le_refl _⟩ ?_
  refine s_X11_within (by omega) (fun c8_1 => ?_) (fun c8_2 c8_3 => ?_) (fun c8_4 c8_5 => ?_)
  · dsimp only [Option.toList, List.cons_append, List.nil_append, Nat.add_zero]
    refine v_iretz dX0_has_11 rfl (by decide) (Nat.le_refl _) (Nat.le_refl _) ?_
    exact q_1 c8_1
  · dsimp only [Option.toList, List.cons_append, List.nil_append, Nat.add_zero]
    refine v_iretz dX0_has_11 rfl (by decide) (Nat.le_refl _) (Nat.le_refl _) ?_
    exact q_2 c8_2 c8_3
  · dsimp only [Option.toList, List.cons_append, List.nil_append, Nat.add_zero]
    refine v_iretz dX0_has_11 rfl (by decide) (Nat.le_refl _) (Nat.le_refl _) ?_
    exact q_3 c8_4 c8_5

set_option maxHeartbeats 4000000 in
set_option maxRecDepth 100000 in
theorem s_X0_send {l : Launch} {G : GG} {d : Nat} {h : AH} {Q : Option AV → List Kd → AH → Prop} {p0 p1 p2 p3 p4 p5 : Int} (hd : 1 ≤ d) (z0 : 0 ≤ (h 4 7)) (c0 : (h 4 7) ≤ 100) (y0 : 0 ≤ p0 ∧ p0 < 100)
    (q_1 : (h 4 7) < 100 → Q (some (0, (((h 4 7) + 1) - 1))) K0 (hset (hset (hset (hset (hset (hset (hset (hset h 46 p0 (isub (h 46 p0) p1)) 64 (h 4 7) p0) 65 (h 4 7) p1) 66 (h 4 7) p2) 67 (h 4 7) p3) 68 (h 4 7) p4) 69 (h 4 7) p5) 4 7 ((h 4 7) + 1)))
    (q_2 : 100 ≤ (h 4 7) → Q (some (0, (-1))) K0 h) : Sp l G mX0_send d 0 0 K0 [(2, 4), (0, p0), (0, p1), (0, p2), (0, p3), (0, p4), (0, p5)] h Q := by
  refine sp_of (L := [(2, 4), (0, p0), (0, p1), (0, p2), (0, p3), (0, p4), (0, p5)]) pl_X0 (Nat.le_of_ble_eq_true rfl) (tg_c (by decide) (tg_c (by decide) (tg_c (by decide) (tg_c (by decide) (tg_c (by decide) (tg_c (by decide) (tg_c (by decide) tg_0))))))) rfl ?_
  refine v_aload_n dX0_send_0 rfl ?_
  refine v_get (ci := 0) (j := 7) (ji := 7) (tg := 0) dX0_send_1 k_381 (by decide) kk_4 (by decide) rfl rfl (by decide) ?_
  refine v_bipush dX0_send_4 (c32 rfl) (by decide) ?_
  refine v_icmp_lt (tgt := 11) dX0_send_6 (by decide) (fun c6_1 => ?_) (fun c6_1 => ?_)
  · refine v_aload_n dX0_send_11 rfl ?_
    refine v_getr (ci := 0) (j := 0) (ji := 0) (z := 5) dX0_send_12 k_372 (by decide) kk_4 (by decide) rfl rfl (fun r => rt_4_0 (r rfl)) (by decide) ?_
    refine v_getrN (ci := 4) (j := 1) (ji := 1) (z := 41) dX0_send_15 k_358 (by decide) kk_5 (by decide) rfl rfl (fun r => rt_5_1 (r rfl)) (by decide) ?_
    refine v_getrN (ci := 6) (j := 4) (ji := 4) (z := 46) dX0_send_18 k_303 (by decide) kk_41 (by decide) rfl rfl (fun r => rt_41_4 (r rfl)) (by decide) ?_
    refine v_iload_n dX0_send_21 rfl ?_
    refine v_dup2 dX0_send_22 rfl rfl ?_
    refine v_iaload dX0_send_23 (by decide) kk_46 (by omega) (by omega) ?_
    refine v_iload_n dX0_send_24 rfl ?_
    refine v_isub dX0_send_25 ?_
    refine v_iastore dX0_send_26 (by decide) kk_46 (by omega) (by omega) ?_
    refine v_aload_n dX0_send_27 rfl ?_
    refine v_getr (ci := 0) (j := 1) (ji := 1) (z := 64) dX0_send_28 k_374 (by decide) kk_4 (by decide) rfl rfl (fun r => rt_4_1 (r rfl)) (by decide) ?_
    refine v_aload_n dX0_send_31 rfl ?_
    refine v_getv (ci := 0) (j := 7) (ji := 7) (tg := 0) dX0_send_32 k_381 (by decide) kk_4 (by decide) rfl rfl (by decide) (hset_c (by decide)) ?_
    refine v_iload_n dX0_send_35 rfl ?_
    refine v_iastore dX0_send_36 (by decide) kk_64 (by omega) (by omega) ?_
    refine v_aload_n dX0_send_37 rfl ?_
    refine v_getr (ci := 0) (j := 2) (ji := 2) (z := 65) dX0_send_38 k_375 (by decide) kk_4 (by decide) rfl rfl (fun r => rt_4_2 (r rfl)) (by decide) ?_
    refine v_aload_n dX0_send_41 rfl ?_
    refine v_getv (ci := 0) (j := 7) (ji := 7) (tg := 0) dX0_send_42 k_381 (by decide) kk_4 (by decide) rfl rfl (by decide) ((hset_c (by decide)).trans (hset_c (by decide))) ?_
    refine v_iload_n dX0_send_45 rfl ?_
    refine v_iastore dX0_send_46 (by decide) kk_65 (by omega) (by omega) ?_
    refine v_aload_n dX0_send_47 rfl ?_
    refine v_getr (ci := 0) (j := 3) (ji := 3) (z := 66) dX0_send_48 k_376 (by decide) kk_4 (by decide) rfl rfl (fun r => rt_4_3 (r rfl)) (by decide) ?_
    refine v_aload_n dX0_send_51 rfl ?_
    refine v_getv (ci := 0) (j := 7) (ji := 7) (tg := 0) dX0_send_52 k_381 (by decide) kk_4 (by decide) rfl rfl (by decide) ((hset_c (by decide)).trans ((hset_c (by decide)).trans (hset_c (by decide)))) ?_
    refine v_iload_n dX0_send_55 rfl ?_
    refine v_iastore dX0_send_56 (by decide) kk_66 (by omega) (by omega) ?_
    refine v_aload_n dX0_send_57 rfl ?_
    refine v_getr (ci := 0) (j := 4) (ji := 4) (z := 67) dX0_send_58 k_377 (by decide) kk_4 (by decide) rfl rfl (fun r => rt_4_4 (r rfl)) (by decide) ?_
    refine v_aload_n dX0_send_61 rfl ?_
    refine v_getv (ci := 0) (j := 7) (ji := 7) (tg := 0) dX0_send_62 k_381 (by decide) kk_4 (by decide) rfl rfl (by decide) ((hset_c (by decide)).trans ((hset_c (by decide)).trans ((hset_c (by decide)).trans (hset_c (by decide))))) ?_
    refine v_iload dX0_send_65 rfl ?_
    refine v_iastore dX0_send_67 (by decide) kk_67 (by omega) (by omega) ?_
    refine v_aload_n dX0_send_68 rfl ?_
    refine v_getr (ci := 0) (j := 5) (ji := 5) (z := 68) dX0_send_69 k_378 (by decide) kk_4 (by decide) rfl rfl (fun r => rt_4_5 (r rfl)) (by decide) ?_
    refine v_aload_n dX0_send_72 rfl ?_
    refine v_getv (ci := 0) (j := 7) (ji := 7) (tg := 0) dX0_send_73 k_381 (by decide) kk_4 (by decide) rfl rfl (by decide) ((hset_c (by decide)).trans ((hset_c (by decide)).trans ((hset_c (by decide)).trans ((hset_c (by decide)).trans (hset_c (by decide)))))) ?_
    refine v_iload dX0_send_76 rfl ?_
    refine v_iastore dX0_send_78 (by decide) kk_68 (by omega) (by omega) ?_
    refine v_aload_n dX0_send_79 rfl ?_
    refine v_getr (ci := 0) (j := 6) (ji := 6) (z := 69) dX0_send_80 k_379 (by decide) kk_4 (by decide) rfl rfl (fun r => rt_4_6 (r rfl)) (by decide) ?_
    refine v_aload_n dX0_send_83 rfl ?_
    refine v_getv (ci := 0) (j := 7) (ji := 7) (tg := 0) dX0_send_84 k_381 (by decide) kk_4 (by decide) rfl rfl (by decide) ((hset_c (by decide)).trans ((hset_c (by decide)).trans ((hset_c (by decide)).trans ((hset_c (by decide)).trans ((hset_c (by decide)).trans (hset_c (by decide))))))) ?_
    refine v_iload dX0_send_87 rfl ?_
    refine v_iastore dX0_send_89 (by decide) kk_69 (by omega) (by omega) ?_
    refine v_aload_n dX0_send_90 rfl ?_
    refine v_dup dX0_send_91 rfl ?_
    refine v_getv (ci := 0) (j := 7) (ji := 7) (tg := 0) dX0_send_92 k_381 (by decide) kk_4 (by decide) rfl rfl (by decide) ((hset_c (by decide)).trans ((hset_c (by decide)).trans ((hset_c (by decide)).trans ((hset_c (by decide)).trans ((hset_c (by decide)).trans ((hset_c (by decide)).trans (hset_c (by decide)))))))) ?_
    refine v_iconst dX0_send_95 (c32 rfl) ?_
    refine v_iaddE dX0_send_96 (by omega) ?_
    refine v_puti (ci := 0) (j := 7) (ji := 7) dX0_send_97 k_381 (by decide) kk_4 (by decide) rfl rfl rfl ?_
    refine v_aload_n dX0_send_100 rfl ?_
    refine v_getv (ci := 0) (j := 7) (ji := 7) (tg := 0) dX0_send_101 k_381 (by decide) kk_4 (by decide) rfl rfl (by decide) (hset_same _ _ _ _) ?_
    refine v_iconst dX0_send_104 (c32 rfl) ?_
    refine v_isubE dX0_send_105 (by omega) ?_
    refine v_ireti dX0_send_106 rfl (Nat.le_refl _) (Nat.le_refl _) ?_
    exact q_1 c6_1
  · refine v_iconst dX0_send_9 (c32 rfl) ?_
    refine v_ireti dX0_send_10 rfl (Nat.le_refl _) (Nat.le_refl _) ?_
    exact q_2 c6_1

set_option maxHeartbeats 4000000 in
set_option maxRecDepth 100000 in
theorem s_X0_factOfLine {l : Launch} {G : GG} {d : Nat} {h : AH} {Q : Option AV → List Kd → AH → Prop} {p0 p1 : Int} (hd : 2 ≤ d) (z0 : 0 ≤ (h 4 15)) (c0 : (h 4 15) ≤ 400)
    (q_1 : p0 < 0 → Q (some (1, (-1000000000000))) K0 h)
    (q_2 : 0 ≤ p0 → ((h 4 15) - 1) < p0 → Q (some (1, (-1000000000000))) K0 h)
    (q_3 : 0 ≤ p0 → p0 ≤ ((h 4 15) - 1) → (p1 < 0 ∨ 2 < p1) → Q (some (1, (-1000000000000))) K0 h)
    (q_4 : 0 ≤ p0 → p0 ≤ ((h 4 15) - 1) → p1 = 0 → Q (some (1, (h 77 p0))) K0 h)
    (q_5 : 0 ≤ p0 → p0 ≤ ((h 4 15) - 1) → p1 = 1 → Q (some (1, (h 78 p0))) K0 h)
    (q_6 : 0 ≤ p0 → p0 ≤ ((h 4 15) - 1) → p1 = 2 → Q (some (1, (h 79 p0))) K0 h) : Sp l G mX0_factOfLine d 0 0 K0 [(2, 4), (0, p0), (0, p1)] h Q := by
  refine sp_of (L := [(2, 4), (0, p0), (0, p1)]) pl_X0 (Nat.le_of_ble_eq_true rfl) (tg_c (by decide) (tg_c (by decide) (tg_c (by decide) tg_0))) rfl ?_
  refine v_iload_n dX0_factOfLine_0 rfl ?_
  refine v_iconst dX0_factOfLine_1 (c32 rfl) ?_
  refine v_aload_n dX0_factOfLine_2 rfl ?_
  refine v_get (ci := 0) (j := 15) (ji := 15) (tg := 0) dX0_factOfLine_3 k_392 (by decide) kk_4 (by decide) rfl rfl (by decide) ?_
  refine v_iconst dX0_factOfLine_6 (c32 rfl) ?_
  refine v_isubE dX0_factOfLine_7 (by omega) ?_
  refine v_callsN (M' := mX11_within) (d' := d - 1) (mc' := 0) (ms' := 0) (As := [_, _, _]) dX0_factOfLine_8 k_1074 cm_X11_within (by omega) (Nat.le_of_ble_eq_true rfl) rfl ⟨Nat.le_refl _, Nat.le_refl _⟩ ?_
  refine s_X11_within (by omega) (fun c8_1 => ?_) (fun c8_2 c8_3 => ?_) (fun c8_4 c8_5 => ?_)
  · dsimp only [Option.toList, List.cons_append, List.nil_append, Nat.add_zero]
    refine v_if_ne_f (tgt := 18) dX0_factOfLine_11 (by decide) (by decide) ?_
    refine v_ldc2 (n := -1000000000000) dX0_factOfLine_14 k_1165 (c64 rfl) (by decide) ?_
    refine v_lret dX0_factOfLine_17 rfl (Nat.le_refl _) (Nat.le_refl _) ?_
    exact q_1 c8_1
  · dsimp only [Option.toList, List.cons_append, List.nil_append, Nat.add_zero]
    refine v_if_ne_f (tgt := 18) dX0_factOfLine_11 (by decide) (by decide) ?_
    refine v_ldc2 (n := -1000000000000) dX0_factOfLine_14 k_1165 (c64 rfl) (by decide) ?_
    refine v_lret dX0_factOfLine_17 rfl (Nat.le_refl _) (Nat.le_refl _) ?_
    exact q_2 c8_2 c8_3
  · dsimp only [Option.toList, List.cons_append, List.nil_append, Nat.add_zero]
    refine v_if_ne_t (tgt := 18) dX0_factOfLine_11 (by decide) (by decide) ?_
    refine v_iload_n dX0_factOfLine_18 rfl ?_
    rcases (show (p1 < 0 ∨ 2 < p1) ∨ p1 = 0 ∨ p1 = 1 ∨ p1 = 2 by omega) with c19_6 | c19_6 | c19_6 | c19_6
    · refine v_tsw_out (tgt := 67) dX0_factOfLine_19 c19_6 (by decide) ?_
      refine v_ldc2 (n := -1000000000000) dX0_factOfLine_67 k_1165 (c64 rfl) (by decide) ?_
      refine v_lret dX0_factOfLine_70 rfl (Nat.le_refl _) (Nat.le_refl _) ?_
      exact q_3 c8_4 c8_5 c19_6
    · refine v_tsw_in (off := 25) (tgt := 44) dX0_factOfLine_19 (by omega) (by omega) (by rw [c19_6]; rfl) (by decide) ?_
      refine v_aload_n dX0_factOfLine_44 rfl ?_
      refine v_getr (ci := 0) (j := 12) (ji := 12) (z := 77) dX0_factOfLine_45 k_389 (by decide) kk_4 (by decide) rfl rfl (fun r => rt_4_12 (r rfl)) (by decide) ?_
      refine v_iload_n dX0_factOfLine_48 rfl ?_
      refine v_iaload dX0_factOfLine_49 (by decide) kk_77 (by omega) (by omega) ?_
      refine v_i2l dX0_factOfLine_50 ?_
      refine v_lret dX0_factOfLine_51 rfl (Nat.le_refl _) (Nat.le_refl _) ?_
      exact q_4 c8_4 c8_5 c19_6
    · refine v_tsw_in (off := 33) (tgt := 52) dX0_factOfLine_19 (by omega) (by omega) (by rw [c19_6]; rfl) (by decide) ?_
      refine v_aload_n dX0_factOfLine_52 rfl ?_
      refine v_getr (ci := 0) (j := 13) (ji := 13) (z := 78) dX0_factOfLine_53 k_390 (by decide) kk_4 (by decide) rfl rfl (fun r => rt_4_13 (r rfl)) (by decide) ?_
      refine v_iload_n dX0_factOfLine_56 rfl ?_
      refine v_laload dX0_factOfLine_57 (by decide) kk_78 (by omega) (by omega) ?_
      refine v_lret dX0_factOfLine_58 rfl (Nat.le_refl _) (Nat.le_refl _) ?_
      exact q_5 c8_4 c8_5 c19_6
    · refine v_tsw_in (off := 40) (tgt := 59) dX0_factOfLine_19 (by omega) (by omega) (by rw [c19_6]; rfl) (by decide) ?_
      refine v_aload_n dX0_factOfLine_59 rfl ?_
      refine v_getr (ci := 0) (j := 14) (ji := 14) (z := 79) dX0_factOfLine_60 k_391 (by decide) kk_4 (by decide) rfl rfl (fun r => rt_4_14 (r rfl)) (by decide) ?_
      refine v_iload_n dX0_factOfLine_63 rfl ?_
      refine v_iaload dX0_factOfLine_64 (by decide) kk_79 (by omega) (by omega) ?_
      refine v_i2l dX0_factOfLine_65 ?_
      refine v_lret dX0_factOfLine_66 rfl (Nat.le_refl _) (Nat.le_refl _) ?_
      exact q_6 c8_4 c8_5 c19_6

set_option maxHeartbeats 4000000 in
set_option maxRecDepth 100000 in
theorem s_X9_add {l : Launch} {G : GG} {d : Nat} {h : AH} {Q : Option AV → List Kd → AH → Prop} {p0 p1 : Int} (hd : 1 ≤ d) (z0 : 0 ≤ (h 97 2)) (c0 : (h 97 2) ≤ 60)
    (q_1 : (h 97 2) < 60 → Q (some (0, (((h 97 2) + 1) - 1))) K0 (hset (hset (hset h 98 (h 97 2) p0) 99 (h 97 2) p1) 97 2 ((h 97 2) + 1)))
    (q_2 : 60 ≤ (h 97 2) → Q (some (0, (-1))) K0 h) : Sp l G mX9_add d 0 0 K0 [(2, 97), (0, p0), (0, p1)] h Q := by
  refine sp_of (L := [(2, 97), (0, p0), (0, p1)]) pl_X9 (Nat.le_of_ble_eq_true rfl) (tg_c (by decide) (tg_c (by decide) (tg_c (by decide) tg_0))) rfl ?_
  refine v_aload_n dX9_add_0 rfl ?_
  refine v_get (ci := 9) (j := 2) (ji := 2) (tg := 0) dX9_add_1 k_529 (by decide) kk_97 (by decide) rfl rfl (by decide) ?_
  refine v_bipush dX9_add_4 (c32 rfl) (by decide) ?_
  refine v_icmp_lt (tgt := 11) dX9_add_6 (by decide) (fun c6_1 => ?_) (fun c6_1 => ?_)
  · refine v_aload_n dX9_add_11 rfl ?_
    refine v_getr (ci := 9) (j := 0) (ji := 0) (z := 98) dX9_add_12 k_527 (by decide) kk_97 (by decide) rfl rfl (fun r => rt_97_0 (r rfl)) (by decide) ?_
    refine v_aload_n dX9_add_15 rfl ?_
    refine v_get (ci := 9) (j := 2) (ji := 2) (tg := 0) dX9_add_16 k_529 (by decide) kk_97 (by decide) rfl rfl (by decide) ?_
    refine v_iload_n dX9_add_19 rfl ?_
    refine v_iastore dX9_add_20 (by decide) kk_98 (by omega) (by omega) ?_
    refine v_aload_n dX9_add_21 rfl ?_
    refine v_getr (ci := 9) (j := 1) (ji := 1) (z := 99) dX9_add_22 k_528 (by decide) kk_97 (by decide) rfl rfl (fun r => rt_97_1 (r rfl)) (by decide) ?_
    refine v_aload_n dX9_add_25 rfl ?_
    refine v_getv (ci := 9) (j := 2) (ji := 2) (tg := 0) dX9_add_26 k_529 (by decide) kk_97 (by decide) rfl rfl (by decide) (hset_c (by decide)) ?_
    refine v_iload_n dX9_add_29 rfl ?_
    refine v_iastore dX9_add_30 (by decide) kk_99 (by omega) (by omega) ?_
    refine v_aload_n dX9_add_31 rfl ?_
    refine v_dup dX9_add_32 rfl ?_
    refine v_getv (ci := 9) (j := 2) (ji := 2) (tg := 0) dX9_add_33 k_529 (by decide) kk_97 (by decide) rfl rfl (by decide) ((hset_c (by decide)).trans (hset_c (by decide))) ?_
    refine v_iconst dX9_add_36 (c32 rfl) ?_
    refine v_iaddE dX9_add_37 (by omega) ?_
    refine v_puti (ci := 9) (j := 2) (ji := 2) dX9_add_38 k_529 (by decide) kk_97 (by decide) rfl rfl rfl ?_
    refine v_aload_n dX9_add_41 rfl ?_
    refine v_getv (ci := 9) (j := 2) (ji := 2) (tg := 0) dX9_add_42 k_529 (by decide) kk_97 (by decide) rfl rfl (by decide) (hset_same _ _ _ _) ?_
    refine v_iconst dX9_add_45 (c32 rfl) ?_
    refine v_isubE dX9_add_46 (by omega) ?_
    refine v_ireti dX9_add_47 rfl (Nat.le_refl _) (Nat.le_refl _) ?_
    exact q_1 c6_1
  · refine v_iconst dX9_add_9 (c32 rfl) ?_
    refine v_ireti dX9_add_10 rfl (Nat.le_refl _) (Nat.le_refl _) ?_
    exact q_2 c6_1

set_option maxHeartbeats 4000000 in
set_option maxRecDepth 100000 in
theorem s_X7_cut {l : Launch} {G : GG} {d : Nat} {h : AH} {Q : Option AV → List Kd → AH → Prop} {p0 : Int} (hd : 2 ≤ d) 
    (q_1 : p0 < 0 → Q (some (0, 0)) K0 h)
    (q_2 : 0 ≤ p0 → (h 1 1) < p0 → Q (some (0, 0)) K0 h)
    (q_3 : 0 ≤ p0 → p0 ≤ (h 1 1) → Q (some (0, 1)) K0 (hset h 1 1 p0)) : Sp l G mX7_cut d 0 0 K0 [(2, 1), (0, p0)] h Q := by
  refine sp_of (L := [(2, 1), (0, p0)]) pl_X7 (Nat.le_of_ble_eq_true rfl) (tg_c (by decide) (tg_c (by decide) tg_0)) rfl ?_
  refine v_iload_n dX7_cut_0 rfl ?_
  refine v_iconst dX7_cut_1 (c32 rfl) ?_
  refine v_aload_n dX7_cut_2 rfl ?_
  refine v_get (ci := 7) (j := 1) (ji := 1) (tg := 0) dX7_cut_3 k_132 (by decide) kk_1 (by decide) rfl rfl (by decide) ?_
  refine v_callsN (M' := mX11_within) (d' := d - 1) (mc' := 0) (ms' := 0) (As := [_, _, _]) dX7_cut_6 k_641 cm_X11_within (by omega) (Nat.le_of_ble_eq_true rfl) rfl ⟨Nat.le_refl _, Nat.le_refl _⟩ ?_
  refine s_X11_within (by omega) (fun c6_1 => ?_) (fun c6_2 c6_3 => ?_) (fun c6_4 c6_5 => ?_)
  · dsimp only [Option.toList, List.cons_append, List.nil_append, Nat.add_zero]
    refine v_if_ne_f (tgt := 14) dX7_cut_9 (by decide) (by decide) ?_
    refine v_iconst dX7_cut_12 (c32 rfl) ?_
    refine v_iretz dX7_cut_13 rfl (by decide) (Nat.le_refl _) (Nat.le_refl _) ?_
    exact q_1 c6_1
  · dsimp only [Option.toList, List.cons_append, List.nil_append, Nat.add_zero]
    refine v_if_ne_f (tgt := 14) dX7_cut_9 (by decide) (by decide) ?_
    refine v_iconst dX7_cut_12 (c32 rfl) ?_
    refine v_iretz dX7_cut_13 rfl (by decide) (Nat.le_refl _) (Nat.le_refl _) ?_
    exact q_2 c6_2 c6_3
  · dsimp only [Option.toList, List.cons_append, List.nil_append, Nat.add_zero]
    refine v_if_ne_t (tgt := 14) dX7_cut_9 (by decide) (by decide) ?_
    refine v_aload_n dX7_cut_14 rfl ?_
    refine v_iload_n dX7_cut_15 rfl ?_
    refine v_puti (ci := 7) (j := 1) (ji := 1) dX7_cut_16 k_132 (by decide) kk_1 (by decide) rfl rfl rfl ?_
    refine v_iconst dX7_cut_19 (c32 rfl) ?_
    refine v_iretz dX7_cut_20 rfl (by decide) (Nat.le_refl _) (Nat.le_refl _) ?_
    exact q_3 c6_4 c6_5

