/-! ===== the class: its face, the simple ones (written by wip/whole/p21.py) ===== -/
set_option maxHeartbeats 4000000 in
set_option maxRecDepth 100000 in
theorem s_X11_days {l : Launch} {G : GG} {d : Nat} {h : AH} {Q : Option AV → List Kd → AH → Prop} {p0 : Int} (hd : 2 ≤ d) 
    (q_1 : p0 < 0 → Q (some (0, (-1))) K0 h)
    (q_2 : 0 ≤ p0 → 1000 < p0 → Q (some (0, (-1))) K0 h)
    (q_3 : 0 ≤ p0 → p0 ≤ 1000 → (iadd (h 0 0) p0) ≤ 2000 → Q (some (0, (iadd (h 0 0) p0))) K0 (hset h 0 0 (iadd (h 0 0) p0)))
    (q_4 : 0 ≤ p0 → p0 ≤ 1000 → 2000 < (iadd (h 0 0) p0) → Q (some (0, (-1))) K0 h) : Sp l G mX11_days d 0 0 K0 [(2, 0), (0, p0)] h Q := by
  refine sp_of (L := [(2, 0), (0, p0)]) pl_X11 (Nat.le_of_ble_eq_true rfl) (tg_c (by decide) (tg_c (by decide) tg_0)) rfl ?_
  refine v_iload_n dX11_days_0 rfl ?_
  refine v_iconst dX11_days_1 (c32 rfl) ?_
  refine v_sipush dX11_days_2 (c32 rfl) (by decide) ?_
  refine v_calls (M' := mX11_within) (d' := d - 1) (mc' := 0) (ms' := 0) (As := [_, _, _]) dX11_days_5 k_586 cm_X11_within (by omega) (Nat.le_of_ble_eq_true rfl) rfl ⟨Nat.le_refl _, Nat.le_refl _⟩ ?_
  refine s_X11_within (by omega) (fun c5_1 => ?_) (fun c5_2 c5_3 => ?_) (fun c5_4 c5_5 => ?_)
  · dsimp only [Option.toList, List.cons_append, List.nil_append, Nat.add_zero]
    refine v_if_eq_t (tgt := 23) dX11_days_8 (by decide) (by decide) ?_
    refine v_iconst dX11_days_23 (c32 rfl) ?_
    refine v_ireti dX11_days_24 rfl (Nat.le_refl _) (Nat.le_refl _) ?_
    exact q_1 c5_1
  · dsimp only [Option.toList, List.cons_append, List.nil_append, Nat.add_zero]
    refine v_if_eq_t (tgt := 23) dX11_days_8 (by decide) (by decide) ?_
    refine v_iconst dX11_days_23 (c32 rfl) ?_
    refine v_ireti dX11_days_24 rfl (Nat.le_refl _) (Nat.le_refl _) ?_
    exact q_2 c5_2 c5_3
  · dsimp only [Option.toList, List.cons_append, List.nil_append, Nat.add_zero]
    refine v_if_eq_f (tgt := 23) dX11_days_8 (by decide) (by decide) ?_
    refine v_aload_n dX11_days_11 rfl ?_
    refine v_get (ci := 11) (j := 0) (ji := 0) (tg := 0) dX11_days_12 k_554 (by decide) kk_0 (by decide) rfl rfl (by decide) ?_
    refine v_iload_n dX11_days_15 rfl ?_
    refine v_iadd dX11_days_16 ?_
    refine v_sipush dX11_days_17 (c32 rfl) (by decide) ?_
    refine v_icmp_le (tgt := 25) dX11_days_20 (by decide) (fun c20_6 => ?_) (fun c20_6 => ?_)
    · refine v_aload_n dX11_days_25 rfl ?_
      refine v_dup dX11_days_26 rfl ?_
      refine v_get (ci := 11) (j := 0) (ji := 0) (tg := 0) dX11_days_27 k_554 (by decide) kk_0 (by decide) rfl rfl (by decide) ?_
      refine v_iload_n dX11_days_30 rfl ?_
      refine v_iadd dX11_days_31 ?_
      refine v_puti (ci := 11) (j := 0) (ji := 0) dX11_days_32 k_554 (by decide) kk_0 (by decide) rfl rfl rfl ?_
      refine v_aload_n dX11_days_35 rfl ?_
      refine v_getv (ci := 11) (j := 0) (ji := 0) (tg := 0) dX11_days_36 k_554 (by decide) kk_0 (by decide) rfl rfl (by decide) (hset_same _ _ _ _) ?_
      refine v_ireti dX11_days_39 rfl (Nat.le_refl _) (Nat.le_refl _) ?_
      exact q_3 c5_4 c5_5 c20_6
    · refine v_iconst dX11_days_23 (c32 rfl) ?_
      refine v_ireti dX11_days_24 rfl (Nat.le_refl _) (Nat.le_refl _) ?_
      exact q_4 c5_4 c5_5 c20_6

set_option maxHeartbeats 4000000 in
set_option maxRecDepth 100000 in
theorem s_X11_members {l : Launch} {G : GG} {d : Nat} {h : AH} {Q : Option AV → List Kd → AH → Prop} {p0 p1 p2 : Int} (hd : 4 ≤ d) (z0 : 0 ≤ (h 7 4)) (c0 : (h 7 4) ≤ 40) (m0 : (h 7 0) = 40)
    (q_1 : p1 < 0 → Q (some (0, 0)) K0 h)
    (q_2 : 0 ≤ p1 → 255 < p1 → Q (some (0, 0)) K0 h)
    (q_3 : 0 ≤ p1 → p1 ≤ 255 → (h 7 0) ≤ (h 7 4) → Q (some (0, 0)) K0 h)
    (q_4 : 0 ≤ p1 → p1 ≤ 255 → (h 7 4) < (h 7 0) → p0 < 0 → Q (some (0, 0)) K0 h)
    (q_5 : 0 ≤ p1 → p1 ≤ 255 → (h 7 4) < (h 7 0) → 0 ≤ p0 → 3 < p0 → Q (some (0, 0)) K0 h)
    (q_6 : 0 ≤ p1 → p1 ≤ 255 → (h 7 4) < (h 7 0) → 0 ≤ p0 → p0 ≤ 3 → p2 < 0 → Q (some (0, 0)) K0 h)
    (q_7 : 0 ≤ p1 → p1 ≤ 255 → (h 7 4) < (h 7 0) → 0 ≤ p0 → p0 ≤ 3 → 0 ≤ p2 → 2000 < p2 → Q (some (0, 0)) K0 h)
    (q_8 : 0 ≤ p1 → p1 ≤ 255 → (h 7 4) < (h 7 0) → 0 ≤ p0 → p0 ≤ 3 → 0 ≤ p2 → p2 ≤ 2000 → (((h 7 4) + 1) - 1) ≠ (-1) → Q (some (0, 1)) K0 (hset (hset (hset (hset (hset h 8 (h 7 4) p0) 9 (h 7 4) p2) 10 (h 7 4) (h 0 0)) 7 4 ((h 7 4) + 1)) 11 (((h 7 4) + 1) - 1) p1))
    (q_9 : 0 ≤ p1 → p1 ≤ 255 → (h 7 4) < (h 7 0) → 0 ≤ p0 → p0 ≤ 3 → 0 ≤ p2 → p2 ≤ 2000 → (((h 7 4) + 1) - 1) = (-1) → Q (some (0, 0)) K0 (hset (hset (hset (hset h 8 (h 7 4) p0) 9 (h 7 4) p2) 10 (h 7 4) (h 0 0)) 7 4 ((h 7 4) + 1))) : Sp l G mX11_members d 0 0 K0 [(2, 0), (0, p0), (0, p1), (0, p2)] h Q := by
  refine sp_of (L := [(2, 0), (0, p0), (0, p1), (0, p2)]) pl_X11 (Nat.le_of_ble_eq_true rfl) (tg_c (by decide) (tg_c (by decide) (tg_c (by decide) (tg_c (by decide) tg_0)))) rfl ?_
  refine v_iload_n dX11_members_0 rfl ?_
  refine v_iconst dX11_members_1 (c32 rfl) ?_
  refine v_sipush dX11_members_2 (c32 rfl) (by decide) ?_
  refine v_calls (M' := mX11_within) (d' := d - 1) (mc' := 0) (ms' := 0) (As := [_, _, _]) dX11_members_5 k_586 cm_X11_within (by omega) (Nat.le_of_ble_eq_true rfl) rfl ⟨Nat.le_refl _, Nat.le_refl _⟩ ?_
  refine s_X11_within (by omega) (fun c5_1 => ?_) (fun c5_2 c5_3 => ?_) (fun c5_4 c5_5 => ?_)
  · dsimp only [Option.toList, List.cons_append, List.nil_append, Nat.add_zero]
    refine v_if_eq_t (tgt := 32) dX11_members_8 (by decide) (by decide) ?_
    refine v_iconst dX11_members_32 (c32 rfl) ?_
    refine v_iretz dX11_members_33 rfl (by decide) (Nat.le_refl _) (Nat.le_refl _) ?_
    exact q_1 c5_1
  · dsimp only [Option.toList, List.cons_append, List.nil_append, Nat.add_zero]
    refine v_if_eq_t (tgt := 32) dX11_members_8 (by decide) (by decide) ?_
    refine v_iconst dX11_members_32 (c32 rfl) ?_
    refine v_iretz dX11_members_33 rfl (by decide) (Nat.le_refl _) (Nat.le_refl _) ?_
    exact q_2 c5_2 c5_3
  · dsimp only [Option.toList, List.cons_append, List.nil_append, Nat.add_zero]
    refine v_if_eq_f (tgt := 32) dX11_members_8 (by decide) (by decide) ?_
    refine v_aload_n dX11_members_11 rfl ?_
    refine v_getr (ci := 11) (j := 2) (ji := 2) (z := 6) dX11_members_12 k_556 (by decide) kk_0 (by decide) rfl rfl (fun r => rt_0_2 (r rfl)) (by decide) ?_
    refine v_iload_n dX11_members_15 rfl ?_
    refine v_iload_n dX11_members_16 rfl ?_
    refine v_iload_n dX11_members_17 rfl ?_
    refine v_aload_n dX11_members_18 rfl ?_
    refine v_get (ci := 11) (j := 0) (ji := 0) (tg := 0) dX11_members_19 k_554 (by decide) kk_0 (by decide) rfl rfl (by decide) ?_
    refine v_callv (M' := mX8_tellMembers) (d' := d - 1) (mc' := 0) (ms' := 0) (ci := 8) (c := 6) (As := [_, _, _, _]) dX11_members_22 k_593 cm_X8_tellMembers rfl (by omega) (by decide) kk_6 (Nat.le_of_ble_eq_true rfl) rfl ⟨Nat.le_refl _, Nat.le_refl _⟩ ?_
    refine s_X8_tellMembers (by omega) (by omega) (by omega) (by omega) (fun c22_6 => ?_) (fun c22_7 c22_8 => ?_) (fun c22_9 c22_10 c22_11 => ?_) (fun c22_12 c22_13 c22_14 c22_15 => ?_) (fun c22_16 c22_17 c22_18 c22_19 c22_20 => ?_) (fun c22_21 c22_22 c22_23 c22_24 c22_25 c22_26 => ?_) (fun c22_27 c22_28 c22_29 c22_30 c22_31 c22_32 => ?_)
    · dsimp only [Option.toList, List.cons_append, List.nil_append, Nat.add_zero]
      refine v_if_eq_t (tgt := 32) dX11_members_25 (by decide) (by decide) ?_
      refine v_iconst dX11_members_32 (c32 rfl) ?_
      refine v_iretz dX11_members_33 rfl (by decide) (Nat.le_refl _) (Nat.le_refl _) ?_
      exact q_3 c5_4 c5_5 c22_6
    · dsimp only [Option.toList, List.cons_append, List.nil_append, Nat.add_zero]
      refine v_if_eq_t (tgt := 32) dX11_members_25 (by decide) (by decide) ?_
      refine v_iconst dX11_members_32 (c32 rfl) ?_
      refine v_iretz dX11_members_33 rfl (by decide) (Nat.le_refl _) (Nat.le_refl _) ?_
      exact q_4 c5_4 c5_5 c22_7 c22_8
    · dsimp only [Option.toList, List.cons_append, List.nil_append, Nat.add_zero]
      refine v_if_eq_t (tgt := 32) dX11_members_25 (by decide) (by decide) ?_
      refine v_iconst dX11_members_32 (c32 rfl) ?_
      refine v_iretz dX11_members_33 rfl (by decide) (Nat.le_refl _) (Nat.le_refl _) ?_
      exact q_5 c5_4 c5_5 c22_9 c22_10 c22_11
    · dsimp only [Option.toList, List.cons_append, List.nil_append, Nat.add_zero]
      refine v_if_eq_t (tgt := 32) dX11_members_25 (by decide) (by decide) ?_
      refine v_iconst dX11_members_32 (c32 rfl) ?_
      refine v_iretz dX11_members_33 rfl (by decide) (Nat.le_refl _) (Nat.le_refl _) ?_
      exact q_6 c5_4 c5_5 c22_12 c22_13 c22_14 c22_15
    · dsimp only [Option.toList, List.cons_append, List.nil_append, Nat.add_zero]
      refine v_if_eq_t (tgt := 32) dX11_members_25 (by decide) (by decide) ?_
      refine v_iconst dX11_members_32 (c32 rfl) ?_
      refine v_iretz dX11_members_33 rfl (by decide) (Nat.le_refl _) (Nat.le_refl _) ?_
      exact q_7 c5_4 c5_5 c22_16 c22_17 c22_18 c22_19 c22_20
    · dsimp only [Option.toList, List.cons_append, List.nil_append, Nat.add_zero]
      refine v_if_eq_f (tgt := 32) dX11_members_25 (by decide) (by decide) ?_
      refine v_iconst dX11_members_28 (c32 rfl) ?_
      refine v_goto (tgt := 33) dX11_members_29 (by decide) ?_
      refine v_iretz dX11_members_33 rfl (by decide) (Nat.le_refl _) (Nat.le_refl _) ?_
      exact q_8 c5_4 c5_5 c22_21 c22_22 c22_23 c22_24 c22_25 c22_26
    · dsimp only [Option.toList, List.cons_append, List.nil_append, Nat.add_zero]
      refine v_if_eq_t (tgt := 32) dX11_members_25 (by decide) (by decide) ?_
      refine v_iconst dX11_members_32 (c32 rfl) ?_
      refine v_iretz dX11_members_33 rfl (by decide) (Nat.le_refl _) (Nat.le_refl _) ?_
      exact q_9 c5_4 c5_5 c22_27 c22_28 c22_29 c22_30 c22_31 c22_32

set_option maxHeartbeats 4000000 in
set_option maxRecDepth 100000 in
theorem s_X11_member {l : Launch} {G : GG} {d : Nat} {h : AH} {Q : Option AV → List Kd → AH → Prop} {p0 p1 p2 : Int} (hd : 3 ≤ d) (z0 : 0 ≤ (h 7 4)) (c0 : (h 7 4) ≤ 40)
    (q_1 : p0 < 0 → Q (some (0, (-1))) K0 h)
    (q_2 : 0 ≤ p0 → 3 < p0 → Q (some (0, (-1))) K0 h)
    (q_3 : 0 ≤ p0 → p0 ≤ 3 → p1 < 0 → Q (some (0, (-1))) K0 h)
    (q_4 : 0 ≤ p0 → p0 ≤ 3 → 0 ≤ p1 → 2000 < p1 → Q (some (0, (-1))) K0 h)
    (q_5 : 0 ≤ p0 → p0 ≤ 3 → 0 ≤ p1 → p1 ≤ 2000 → p2 < 0 → Q (some (0, (-1))) K0 h)
    (q_6 : 0 ≤ p0 → p0 ≤ 3 → 0 ≤ p1 → p1 ≤ 2000 → 0 ≤ p2 → (h 0 0) < p2 → Q (some (0, (-1))) K0 h)
    (q_7 : 0 ≤ p0 → p0 ≤ 3 → 0 ≤ p1 → p1 ≤ 2000 → 0 ≤ p2 → p2 ≤ (h 0 0) → (ifc (h 8) (h 9) (h 10) p0 p1 p2 (h 7 4)) ≠ (-1) → Q (some (0, (h 11 (ifc (h 8) (h 9) (h 10) p0 p1 p2 (h 7 4))))) K0 h)
    (q_8 : 0 ≤ p0 → p0 ≤ 3 → 0 ≤ p1 → p1 ≤ 2000 → 0 ≤ p2 → p2 ≤ (h 0 0) → (ifc (h 8) (h 9) (h 10) p0 p1 p2 (h 7 4)) = (-1) → Q (some (0, 0)) K0 h) : Sp l G mX11_member d 0 0 K0 [(2, 0), (0, p0), (0, p1), (0, p2)] h Q := by
  refine sp_of (L := [(2, 0), (0, p0), (0, p1), (0, p2)]) pl_X11 (Nat.le_of_ble_eq_true rfl) (tg_c (by decide) (tg_c (by decide) (tg_c (by decide) (tg_c (by decide) tg_0)))) rfl ?_
  refine v_aload_n dX11_member_0 rfl ?_
  refine v_iload_n dX11_member_1 rfl ?_
  refine v_iload_n dX11_member_2 rfl ?_
  refine v_iload_n dX11_member_3 rfl ?_
  refine v_callv (M' := mX11_isAsked) (d' := d - 1) (mc' := 0) (ms' := 0) (ci := 11) (c := 0) (As := [_, _, _]) dX11_member_4 k_606 cm_X11_isAsked rfl (by omega) (by decide) kk_0 (Nat.le_of_ble_eq_true rfl) rfl ⟨Nat.le_refl _, Nat.le_refl _⟩ ?_
  refine s_X11_isAsked (by omega) (fun c4_1 => ?_) (fun c4_2 c4_3 => ?_) (fun c4_4 c4_5 c4_6 => ?_) (fun c4_7 c4_8 c4_9 c4_10 => ?_) (fun c4_11 c4_12 c4_13 c4_14 c4_15 => ?_) (fun c4_16 c4_17 c4_18 c4_19 c4_20 c4_21 => ?_) (fun c4_22 c4_23 c4_24 c4_25 c4_26 c4_27 => ?_)
  · dsimp only [Option.toList, List.cons_append, List.nil_append, Nat.add_zero]
    refine v_if_eq_t (tgt := 23) dX11_member_7 (by decide) (by decide) ?_
    refine v_iconst dX11_member_23 (c32 rfl) ?_
    refine v_ireti dX11_member_24 rfl (Nat.le_refl _) (Nat.le_refl _) ?_
    exact q_1 c4_1
  · dsimp only [Option.toList, List.cons_append, List.nil_append, Nat.add_zero]
    refine v_if_eq_t (tgt := 23) dX11_member_7 (by decide) (by decide) ?_
    refine v_iconst dX11_member_23 (c32 rfl) ?_
    refine v_ireti dX11_member_24 rfl (Nat.le_refl _) (Nat.le_refl _) ?_
    exact q_2 c4_2 c4_3
  · dsimp only [Option.toList, List.cons_append, List.nil_append, Nat.add_zero]
    refine v_if_eq_t (tgt := 23) dX11_member_7 (by decide) (by decide) ?_
    refine v_iconst dX11_member_23 (c32 rfl) ?_
    refine v_ireti dX11_member_24 rfl (Nat.le_refl _) (Nat.le_refl _) ?_
    exact q_3 c4_4 c4_5 c4_6
  · dsimp only [Option.toList, List.cons_append, List.nil_append, Nat.add_zero]
    refine v_if_eq_t (tgt := 23) dX11_member_7 (by decide) (by decide) ?_
    refine v_iconst dX11_member_23 (c32 rfl) ?_
    refine v_ireti dX11_member_24 rfl (Nat.le_refl _) (Nat.le_refl _) ?_
    exact q_4 c4_7 c4_8 c4_9 c4_10
  · dsimp only [Option.toList, List.cons_append, List.nil_append, Nat.add_zero]
    refine v_if_eq_t (tgt := 23) dX11_member_7 (by decide) (by decide) ?_
    refine v_iconst dX11_member_23 (c32 rfl) ?_
    refine v_ireti dX11_member_24 rfl (Nat.le_refl _) (Nat.le_refl _) ?_
    exact q_5 c4_11 c4_12 c4_13 c4_14 c4_15
  · dsimp only [Option.toList, List.cons_append, List.nil_append, Nat.add_zero]
    refine v_if_eq_t (tgt := 23) dX11_member_7 (by decide) (by decide) ?_
    refine v_iconst dX11_member_23 (c32 rfl) ?_
    refine v_ireti dX11_member_24 rfl (Nat.le_refl _) (Nat.le_refl _) ?_
    exact q_6 c4_16 c4_17 c4_18 c4_19 c4_20 c4_21
  · dsimp only [Option.toList, List.cons_append, List.nil_append, Nat.add_zero]
    refine v_if_eq_f (tgt := 23) dX11_member_7 (by decide) (by decide) ?_
    refine v_aload_n dX11_member_10 rfl ?_
    refine v_getr (ci := 11) (j := 2) (ji := 2) (z := 6) dX11_member_11 k_556 (by decide) kk_0 (by decide) rfl rfl (fun r => rt_0_2 (r rfl)) (by decide) ?_
    refine v_iload_n dX11_member_14 rfl ?_
    refine v_iload_n dX11_member_15 rfl ?_
    refine v_iload_n dX11_member_16 rfl ?_
    refine v_callv (M' := mX8_membersOn) (d' := d - 1) (mc' := 0) (ms' := 0) (ci := 8) (c := 6) (As := [_, _, _]) dX11_member_17 k_610 cm_X8_membersOn rfl (by omega) (by decide) kk_6 (Nat.le_of_ble_eq_true rfl) rfl ⟨Nat.le_refl _, Nat.le_refl _⟩ ?_
    refine s_X8_membersOn (by omega) (by omega) (by omega) (fun c17_28 => ?_) (fun c17_29 => ?_)
    · dsimp only [Option.toList, List.cons_append, List.nil_append, Nat.add_zero]
      refine v_goto (tgt := 24) dX11_member_20 (by decide) ?_
      refine v_ireti dX11_member_24 rfl (Nat.le_refl _) (Nat.le_refl _) ?_
      exact q_7 c4_22 c4_23 c4_24 c4_25 c4_26 c4_27 c17_28
    · dsimp only [Option.toList, List.cons_append, List.nil_append, Nat.add_zero]
      refine v_goto (tgt := 24) dX11_member_20 (by decide) ?_
      refine v_ireti dX11_member_24 rfl (Nat.le_refl _) (Nat.le_refl _) ?_
      exact q_8 c4_22 c4_23 c4_24 c4_25 c4_26 c4_27 c17_29

set_option maxHeartbeats 4000000 in
set_option maxRecDepth 100000 in
theorem s_X11_force {l : Launch} {G : GG} {d : Nat} {h : AH} {Q : Option AV → List Kd → AH → Prop} {p0 p1 p2 : Int} (hd : 3 ≤ d) (z0 : 0 ≤ (h 12 4)) (c0 : (h 12 4) ≤ 20)
    (q_1 : p0 < 0 → Q (some (0, (-1))) K0 h)
    (q_2 : 0 ≤ p0 → 3 < p0 → Q (some (0, (-1))) K0 h)
    (q_3 : 0 ≤ p0 → p0 ≤ 3 → p1 < 0 → Q (some (0, (-1))) K0 h)
    (q_4 : 0 ≤ p0 → p0 ≤ 3 → 0 ≤ p1 → 2000 < p1 → Q (some (0, (-1))) K0 h)
    (q_5 : 0 ≤ p0 → p0 ≤ 3 → 0 ≤ p1 → p1 ≤ 2000 → p2 < 0 → Q (some (0, (-1))) K0 h)
    (q_6 : 0 ≤ p0 → p0 ≤ 3 → 0 ≤ p1 → p1 ≤ 2000 → 0 ≤ p2 → (h 0 0) < p2 → Q (some (0, (-1))) K0 h)
    (q_7 : 0 ≤ p0 → p0 ≤ 3 → 0 ≤ p1 → p1 ≤ 2000 → 0 ≤ p2 → p2 ≤ (h 0 0) → Q (some (0, (ifc (h 13) (h 14) (h 15) p0 p1 p2 (h 12 4)))) K0 h) : Sp l G mX11_force d 0 0 K0 [(2, 0), (0, p0), (0, p1), (0, p2)] h Q := by
  refine sp_of (L := [(2, 0), (0, p0), (0, p1), (0, p2)]) pl_X11 (Nat.le_of_ble_eq_true rfl) (tg_c (by decide) (tg_c (by decide) (tg_c (by decide) (tg_c (by decide) tg_0)))) rfl ?_
  refine v_aload_n dX11_force_0 rfl ?_
  refine v_iload_n dX11_force_1 rfl ?_
  refine v_iload_n dX11_force_2 rfl ?_
  refine v_iload_n dX11_force_3 rfl ?_
  refine v_callv (M' := mX11_isAsked) (d' := d - 1) (mc' := 0) (ms' := 0) (ci := 11) (c := 0) (As := [_, _, _]) dX11_force_4 k_606 cm_X11_isAsked rfl (by omega) (by decide) kk_0 (Nat.le_of_ble_eq_true rfl) rfl ⟨Nat.le_refl _, Nat.le_refl _⟩ ?_
  refine s_X11_isAsked (by omega) (fun c4_1 => ?_) (fun c4_2 c4_3 => ?_) (fun c4_4 c4_5 c4_6 => ?_) (fun c4_7 c4_8 c4_9 c4_10 => ?_) (fun c4_11 c4_12 c4_13 c4_14 c4_15 => ?_) (fun c4_16 c4_17 c4_18 c4_19 c4_20 c4_21 => ?_) (fun c4_22 c4_23 c4_24 c4_25 c4_26 c4_27 => ?_)
  · dsimp only [Option.toList, List.cons_append, List.nil_append, Nat.add_zero]
    refine v_if_eq_t (tgt := 26) dX11_force_7 (by decide) (by decide) ?_
    refine v_iconst dX11_force_26 (c32 rfl) ?_
    refine v_ireti dX11_force_27 rfl (Nat.le_refl _) (Nat.le_refl _) ?_
    exact q_1 c4_1
  · dsimp only [Option.toList, List.cons_append, List.nil_append, Nat.add_zero]
    refine v_if_eq_t (tgt := 26) dX11_force_7 (by decide) (by decide) ?_
    refine v_iconst dX11_force_26 (c32 rfl) ?_
    refine v_ireti dX11_force_27 rfl (Nat.le_refl _) (Nat.le_refl _) ?_
    exact q_2 c4_2 c4_3
  · dsimp only [Option.toList, List.cons_append, List.nil_append, Nat.add_zero]
    refine v_if_eq_t (tgt := 26) dX11_force_7 (by decide) (by decide) ?_
    refine v_iconst dX11_force_26 (c32 rfl) ?_
    refine v_ireti dX11_force_27 rfl (Nat.le_refl _) (Nat.le_refl _) ?_
    exact q_3 c4_4 c4_5 c4_6
  · dsimp only [Option.toList, List.cons_append, List.nil_append, Nat.add_zero]
    refine v_if_eq_t (tgt := 26) dX11_force_7 (by decide) (by decide) ?_
    refine v_iconst dX11_force_26 (c32 rfl) ?_
    refine v_ireti dX11_force_27 rfl (Nat.le_refl _) (Nat.le_refl _) ?_
    exact q_4 c4_7 c4_8 c4_9 c4_10
  · dsimp only [Option.toList, List.cons_append, List.nil_append, Nat.add_zero]
    refine v_if_eq_t (tgt := 26) dX11_force_7 (by decide) (by decide) ?_
    refine v_iconst dX11_force_26 (c32 rfl) ?_
    refine v_ireti dX11_force_27 rfl (Nat.le_refl _) (Nat.le_refl _) ?_
    exact q_5 c4_11 c4_12 c4_13 c4_14 c4_15
  · dsimp only [Option.toList, List.cons_append, List.nil_append, Nat.add_zero]
    refine v_if_eq_t (tgt := 26) dX11_force_7 (by decide) (by decide) ?_
    refine v_iconst dX11_force_26 (c32 rfl) ?_
    refine v_ireti dX11_force_27 rfl (Nat.le_refl _) (Nat.le_refl _) ?_
    exact q_6 c4_16 c4_17 c4_18 c4_19 c4_20 c4_21
  · dsimp only [Option.toList, List.cons_append, List.nil_append, Nat.add_zero]
    refine v_if_eq_f (tgt := 26) dX11_force_7 (by decide) (by decide) ?_
    refine v_aload_n dX11_force_10 rfl ?_
    refine v_getr (ci := 11) (j := 2) (ji := 2) (z := 6) dX11_force_11 k_556 (by decide) kk_0 (by decide) rfl rfl (fun r => rt_0_2 (r rfl)) (by decide) ?_
    refine v_getrN (ci := 8) (j := 2) (ji := 2) (z := 12) dX11_force_14 k_235 (by decide) kk_6 (by decide) rfl rfl (fun r => rt_6_2 (r rfl)) (by decide) ?_
    refine v_iload_n dX11_force_17 rfl ?_
    refine v_iload_n dX11_force_18 rfl ?_
    refine v_iload_n dX11_force_19 rfl ?_
    refine v_callv (M' := mX1_inForce) (d' := d - 1) (mc' := 0) (ms' := 0) (ci := 1) (c := 12) (As := [_, _, _]) dX11_force_20 k_820 cm_X1_inForce rfl (by omega) (by decide) kk_12 (Nat.le_of_ble_eq_true rfl) rfl ⟨Nat.le_refl _, Nat.le_refl _⟩ ?_
    refine s_X1_inForce_12 (by omega) (by omega) (by omega) ?_
    dsimp only [Option.toList, List.cons_append, List.nil_append, Nat.add_zero]
    refine v_goto (tgt := 27) dX11_force_23 (by decide) ?_
    refine v_ireti dX11_force_27 rfl (Nat.le_refl _) (Nat.le_refl _) ?_
    exact q_7 c4_22 c4_23 c4_24 c4_25 c4_26 c4_27

set_option maxHeartbeats 4000000 in
set_option maxRecDepth 100000 in
theorem s_X11_end {l : Launch} {G : GG} {d : Nat} {h : AH} {Q : Option AV → List Kd → AH → Prop} {p0 : Int} (hd : 3 ≤ d) 
    (q_1 : p0 < 0 → Q (some (0, 0)) K0 h)
    (q_2 : 0 ≤ p0 → (h 1 1) < p0 → Q (some (0, 0)) K0 h)
    (q_3 : 0 ≤ p0 → p0 ≤ (h 1 1) → Q (some (0, 1)) K0 (hset h 1 1 p0)) : Sp l G mX11_end d 0 0 K0 [(2, 0), (0, p0)] h Q := by
  refine sp_of (L := [(2, 0), (0, p0)]) pl_X11 (Nat.le_of_ble_eq_true rfl) (tg_c (by decide) (tg_c (by decide) tg_0)) rfl ?_
  refine v_aload_n dX11_end_0 rfl ?_
  refine v_getr (ci := 11) (j := 1) (ji := 1) (z := 1) dX11_end_1 k_555 (by decide) kk_0 (by decide) rfl rfl (fun r => rt_0_1 (r rfl)) (by decide) ?_
  refine v_iload_n dX11_end_4 rfl ?_
  refine v_callv (M' := mX7_cut) (d' := d - 1) (mc' := 0) (ms' := 0) (ci := 7) (c := 1) (As := [_]) dX11_end_5 k_637 cm_X7_cut rfl (by omega) (by decide) kk_1 (Nat.le_of_ble_eq_true rfl) rfl ⟨Nat.le_refl _, Nat.le_refl _⟩ ?_
  refine s_X7_cut (by omega) (fun c5_1 => ?_) (fun c5_2 c5_3 => ?_) (fun c5_4 c5_5 => ?_)
  · dsimp only [Option.toList, List.cons_append, List.nil_append, Nat.add_zero]
    refine v_iretz dX11_end_8 rfl (by decide) (Nat.le_refl _) (Nat.le_refl _) ?_
    exact q_1 c5_1
  · dsimp only [Option.toList, List.cons_append, List.nil_append, Nat.add_zero]
    refine v_iretz dX11_end_8 rfl (by decide) (Nat.le_refl _) (Nat.le_refl _) ?_
    exact q_2 c5_2 c5_3
  · dsimp only [Option.toList, List.cons_append, List.nil_append, Nat.add_zero]
    refine v_iretz dX11_end_8 rfl (by decide) (Nat.le_refl _) (Nat.le_refl _) ?_
    exact q_3 c5_4 c5_5

set_option maxHeartbeats 4000000 in
set_option maxRecDepth 100000 in
theorem s_X11_tariff {l : Launch} {G : GG} {d : Nat} {h : AH} {Q : Option AV → List Kd → AH → Prop} {p0 p1 p2 : Int} (hd : 3 ≤ d) 
    (q_1 : p0 < 0 → Q (some (0, 0)) K0 h)
    (q_2 : 0 ≤ p0 → 7 < p0 → Q (some (0, 0)) K0 h)
    (q_3 : 0 ≤ p0 → p0 ≤ 7 → p1 < 0 → Q (some (0, 0)) K0 h)
    (q_4 : 0 ≤ p0 → p0 ≤ 7 → 0 ≤ p1 → 99 < p1 → Q (some (0, 0)) K0 h)
    (q_5 : 0 ≤ p0 → p0 ≤ 7 → 0 ≤ p1 → p1 ≤ 99 → p2 < 0 → Q (some (0, 0)) K0 h)
    (q_6 : 0 ≤ p0 → p0 ≤ 7 → 0 ≤ p1 → p1 ≤ 99 → 0 ≤ p2 → 1000 < p2 → Q (some (0, 0)) K0 h)
    (q_7 : 0 ≤ p0 → p0 ≤ 7 → 0 ≤ p1 → p1 ≤ 99 → 0 ≤ p2 → p2 ≤ 1000 → Q (some (0, 1)) K0 (hset h 74 ((p0 * 100) + p1) p2)) : Sp l G mX11_tariff d 0 0 K0 [(2, 0), (0, p0), (0, p1), (0, p2)] h Q := by
  refine sp_of (L := [(2, 0), (0, p0), (0, p1), (0, p2)]) pl_X11 (Nat.le_of_ble_eq_true rfl) (tg_c (by decide) (tg_c (by decide) (tg_c (by decide) (tg_c (by decide) tg_0)))) rfl ?_
  refine v_iload_n dX11_tariff_0 rfl ?_
  refine v_iload_n dX11_tariff_1 rfl ?_
  refine v_calls (M' := mX11_isPlace) (d' := d - 1) (mc' := 0) (ms' := 0) (As := [_, _]) dX11_tariff_2 k_825 cm_X11_isPlace (by omega) (Nat.le_of_ble_eq_true rfl) rfl ⟨Nat.le_refl _, Nat.le_refl _⟩ ?_
  refine s_X11_isPlace (by omega) (fun c2_1 => ?_) (fun c2_2 c2_3 => ?_) (fun c2_4 c2_5 c2_6 => ?_) (fun c2_7 c2_8 c2_9 c2_10 => ?_) (fun c2_11 c2_12 c2_13 c2_14 => ?_)
  · dsimp only [Option.toList, List.cons_append, List.nil_append, Nat.add_zero]
    refine v_if_eq_t (tgt := 19) dX11_tariff_5 (by decide) (by decide) ?_
    refine v_iconst dX11_tariff_19 (c32 rfl) ?_
    refine v_iretz dX11_tariff_20 rfl (by decide) (Nat.le_refl _) (Nat.le_refl _) ?_
    exact q_1 c2_1
  · dsimp only [Option.toList, List.cons_append, List.nil_append, Nat.add_zero]
    refine v_if_eq_t (tgt := 19) dX11_tariff_5 (by decide) (by decide) ?_
    refine v_iconst dX11_tariff_19 (c32 rfl) ?_
    refine v_iretz dX11_tariff_20 rfl (by decide) (Nat.le_refl _) (Nat.le_refl _) ?_
    exact q_2 c2_2 c2_3
  · dsimp only [Option.toList, List.cons_append, List.nil_append, Nat.add_zero]
    refine v_if_eq_t (tgt := 19) dX11_tariff_5 (by decide) (by decide) ?_
    refine v_iconst dX11_tariff_19 (c32 rfl) ?_
    refine v_iretz dX11_tariff_20 rfl (by decide) (Nat.le_refl _) (Nat.le_refl _) ?_
    exact q_3 c2_4 c2_5 c2_6
  · dsimp only [Option.toList, List.cons_append, List.nil_append, Nat.add_zero]
    refine v_if_eq_t (tgt := 19) dX11_tariff_5 (by decide) (by decide) ?_
    refine v_iconst dX11_tariff_19 (c32 rfl) ?_
    refine v_iretz dX11_tariff_20 rfl (by decide) (Nat.le_refl _) (Nat.le_refl _) ?_
    exact q_4 c2_7 c2_8 c2_9 c2_10
  · dsimp only [Option.toList, List.cons_append, List.nil_append, Nat.add_zero]
    refine v_if_eq_f (tgt := 19) dX11_tariff_5 (by decide) (by decide) ?_
    refine v_iload_n dX11_tariff_8 rfl ?_
    refine v_iconst dX11_tariff_9 (c32 rfl) ?_
    refine v_sipush dX11_tariff_10 (c32 rfl) (by decide) ?_
    refine v_calls (M' := mX11_within) (d' := d - 1) (mc' := 0) (ms' := 0) (As := [_, _, _]) dX11_tariff_13 k_586 cm_X11_within (by omega) (Nat.le_of_ble_eq_true rfl) rfl ⟨Nat.le_refl _, Nat.le_refl _⟩ ?_
    refine s_X11_within (by omega) (fun c13_15 => ?_) (fun c13_16 c13_17 => ?_) (fun c13_18 c13_19 => ?_)
    · dsimp only [Option.toList, List.cons_append, List.nil_append, Nat.add_zero]
      refine v_if_ne_f (tgt := 21) dX11_tariff_16 (by decide) (by decide) ?_
      refine v_iconst dX11_tariff_19 (c32 rfl) ?_
      refine v_iretz dX11_tariff_20 rfl (by decide) (Nat.le_refl _) (Nat.le_refl _) ?_
      exact q_5 c2_11 c2_12 c2_13 c2_14 c13_15
    · dsimp only [Option.toList, List.cons_append, List.nil_append, Nat.add_zero]
      refine v_if_ne_f (tgt := 21) dX11_tariff_16 (by decide) (by decide) ?_
      refine v_iconst dX11_tariff_19 (c32 rfl) ?_
      refine v_iretz dX11_tariff_20 rfl (by decide) (Nat.le_refl _) (Nat.le_refl _) ?_
      exact q_6 c2_11 c2_12 c2_13 c2_14 c13_16 c13_17
    · dsimp only [Option.toList, List.cons_append, List.nil_append, Nat.add_zero]
      refine v_if_ne_t (tgt := 21) dX11_tariff_16 (by decide) (by decide) ?_
      refine v_aload_n dX11_tariff_21 rfl ?_
      refine v_getr (ci := 11) (j := 6) (ji := 6) (z := 4) dX11_tariff_22 k_560 (by decide) kk_0 (by decide) rfl rfl (fun r => rt_0_6 (r rfl)) (by decide) ?_
      refine v_iload_n dX11_tariff_25 rfl ?_
      refine v_iload_n dX11_tariff_26 rfl ?_
      refine v_iload_n dX11_tariff_27 rfl ?_
      refine v_callv (M' := mX0_setTariff) (d' := d - 1) (mc' := 0) (ms' := 0) (ci := 0) (c := 4) (As := [_, _, _]) dX11_tariff_28 k_828 cm_X0_setTariff rfl (by omega) (by decide) kk_4 (Nat.le_of_ble_eq_true rfl) rfl ⟨Nat.le_refl _, Nat.le_refl _⟩ ?_
      refine s_X0_setTariff (by omega) (by omega) (by omega) ?_
      dsimp only [Option.toList, List.cons_append, List.nil_append, Nat.add_zero]
      refine v_iconst dX11_tariff_31 (c32 rfl) ?_
      refine v_iretz dX11_tariff_32 rfl (by decide) (Nat.le_refl _) (Nat.le_refl _) ?_
      exact q_7 c2_11 c2_12 c2_13 c2_14 c13_18 c13_19

set_option maxHeartbeats 4000000 in
set_option maxRecDepth 100000 in
theorem s_X11_grown {l : Launch} {G : GG} {d : Nat} {h : AH} {Q : Option AV → List Kd → AH → Prop} {p0 p1 p2 p3 : Int} (hd : 4 ≤ d) (z0 : 0 ≤ (h 41 12)) (c0 : (h 41 12) ≤ 100)
    (q_1 : p0 < 0 → Q (some (0, (-1))) K0 h)
    (q_2 : 0 ≤ p0 → 7 < p0 → Q (some (0, (-1))) K0 h)
    (q_3 : 0 ≤ p0 → p0 ≤ 7 → p1 < 0 → Q (some (0, (-1))) K0 h)
    (q_4 : 0 ≤ p0 → p0 ≤ 7 → 0 ≤ p1 → 99 < p1 → Q (some (0, (-1))) K0 h)
    (q_5 : 0 ≤ p0 → p0 ≤ 7 → 0 ≤ p1 → p1 ≤ 99 → p2 < 1 → Q (some (0, (-1))) K0 h)
    (q_6 : 0 ≤ p0 → p0 ≤ 7 → 0 ≤ p1 → p1 ≤ 99 → 1 ≤ p2 → 10000 < p2 → Q (some (0, (-1))) K0 h)
    (q_7 : 0 ≤ p0 → p0 ≤ 7 → 0 ≤ p1 → p1 ≤ 99 → 1 ≤ p2 → p2 ≤ 10000 → p3 < 1 → Q (some (0, (-1))) K0 h)
    (q_8 : 0 ≤ p0 → p0 ≤ 7 → 0 ≤ p1 → p1 ≤ 99 → 1 ≤ p2 → p2 ≤ 10000 → 1 ≤ p3 → 10000 < p3 → Q (some (0, (-1))) K0 h)
    (q_9 : 0 ≤ p0 → p0 ≤ 7 → 0 ≤ p1 → p1 ≤ 99 → 1 ≤ p2 → p2 ≤ 10000 → 1 ≤ p3 → p3 ≤ 10000 → (h 41 12) < 100 → Q (some (0, (((h 41 12) + 1) - 1))) K0 (hset (hset (hset (hset (hset (hset (hset (hset (hset (hset h 42 (h 41 12) p0) 43 (h 41 12) p1) 44 (h 41 12) p2) 45 (h 41 12) p3) 46 (h 41 12) p3) 47 (h 41 12) (h 0 0)) 48 (h 41 12) (-1)) 49 (h 41 12) (-1)) 50 (h 41 12) 0) 41 12 ((h 41 12) + 1)))
    (q_10 : 0 ≤ p0 → p0 ≤ 7 → 0 ≤ p1 → p1 ≤ 99 → 1 ≤ p2 → p2 ≤ 10000 → 1 ≤ p3 → p3 ≤ 10000 → 100 ≤ (h 41 12) → Q (some (0, (-1))) K0 h) : Sp l G mX11_grown d 0 0 K0 [(2, 0), (0, p0), (0, p1), (0, p2), (0, p3)] h Q := by
  refine sp_of (L := [(2, 0), (0, p0), (0, p1), (0, p2), (0, p3)]) pl_X11 (Nat.le_of_ble_eq_true rfl) (tg_c (by decide) (tg_c (by decide) (tg_c (by decide) (tg_c (by decide) (tg_c (by decide) tg_0))))) rfl ?_
  refine v_iload_n dX11_grown_0 rfl ?_
  refine v_iload_n dX11_grown_1 rfl ?_
  refine v_iload_n dX11_grown_2 rfl ?_
  refine v_iload dX11_grown_3 rfl ?_
  refine v_calls (M' := mX11_isGood) (d' := d - 1) (mc' := 0) (ms' := 0) (As := [_, _, _, _]) dX11_grown_5 k_836 cm_X11_isGood (by omega) (Nat.le_of_ble_eq_true rfl) rfl ⟨Nat.le_refl _, Nat.le_refl _⟩ ?_
  refine s_X11_isGood (by omega) (fun c5_1 => ?_) (fun c5_2 c5_3 => ?_) (fun c5_4 c5_5 c5_6 => ?_) (fun c5_7 c5_8 c5_9 c5_10 => ?_) (fun c5_11 c5_12 c5_13 c5_14 c5_15 => ?_) (fun c5_16 c5_17 c5_18 c5_19 c5_20 c5_21 => ?_) (fun c5_22 c5_23 c5_24 c5_25 c5_26 c5_27 c5_28 => ?_) (fun c5_29 c5_30 c5_31 c5_32 c5_33 c5_34 c5_35 c5_36 => ?_) (fun c5_37 c5_38 c5_39 c5_40 c5_41 c5_42 c5_43 c5_44 => ?_)
  · dsimp only [Option.toList, List.cons_append, List.nil_append, Nat.add_zero]
    refine v_if_eq_t (tgt := 30) dX11_grown_8 (by decide) (by decide) ?_
    refine v_iconst dX11_grown_30 (c32 rfl) ?_
    refine v_ireti dX11_grown_31 rfl (Nat.le_refl _) (Nat.le_refl _) ?_
    exact q_1 c5_1
  · dsimp only [Option.toList, List.cons_append, List.nil_append, Nat.add_zero]
    refine v_if_eq_t (tgt := 30) dX11_grown_8 (by decide) (by decide) ?_
    refine v_iconst dX11_grown_30 (c32 rfl) ?_
    refine v_ireti dX11_grown_31 rfl (Nat.le_refl _) (Nat.le_refl _) ?_
    exact q_2 c5_2 c5_3
  · dsimp only [Option.toList, List.cons_append, List.nil_append, Nat.add_zero]
    refine v_if_eq_t (tgt := 30) dX11_grown_8 (by decide) (by decide) ?_
    refine v_iconst dX11_grown_30 (c32 rfl) ?_
    refine v_ireti dX11_grown_31 rfl (Nat.le_refl _) (Nat.le_refl _) ?_
    exact q_3 c5_4 c5_5 c5_6
  · dsimp only [Option.toList, List.cons_append, List.nil_append, Nat.add_zero]
    refine v_if_eq_t (tgt := 30) dX11_grown_8 (by decide) (by decide) ?_
    refine v_iconst dX11_grown_30 (c32 rfl) ?_
    refine v_ireti dX11_grown_31 rfl (Nat.le_refl _) (Nat.le_refl _) ?_
    exact q_4 c5_7 c5_8 c5_9 c5_10
  · dsimp only [Option.toList, List.cons_append, List.nil_append, Nat.add_zero]
    refine v_if_eq_t (tgt := 30) dX11_grown_8 (by decide) (by decide) ?_
    refine v_iconst dX11_grown_30 (c32 rfl) ?_
    refine v_ireti dX11_grown_31 rfl (Nat.le_refl _) (Nat.le_refl _) ?_
    exact q_5 c5_11 c5_12 c5_13 c5_14 c5_15
  · dsimp only [Option.toList, List.cons_append, List.nil_append, Nat.add_zero]
    refine v_if_eq_t (tgt := 30) dX11_grown_8 (by decide) (by decide) ?_
    refine v_iconst dX11_grown_30 (c32 rfl) ?_
    refine v_ireti dX11_grown_31 rfl (Nat.le_refl _) (Nat.le_refl _) ?_
    exact q_6 c5_16 c5_17 c5_18 c5_19 c5_20 c5_21
  · dsimp only [Option.toList, List.cons_append, List.nil_append, Nat.add_zero]
    refine v_if_eq_t (tgt := 30) dX11_grown_8 (by decide) (by decide) ?_
    refine v_iconst dX11_grown_30 (c32 rfl) ?_
    refine v_ireti dX11_grown_31 rfl (Nat.le_refl _) (Nat.le_refl _) ?_
    exact q_7 c5_22 c5_23 c5_24 c5_25 c5_26 c5_27 c5_28
  · dsimp only [Option.toList, List.cons_append, List.nil_append, Nat.add_zero]
    refine v_if_eq_t (tgt := 30) dX11_grown_8 (by decide) (by decide) ?_
    refine v_iconst dX11_grown_30 (c32 rfl) ?_
    refine v_ireti dX11_grown_31 rfl (Nat.le_refl _) (Nat.le_refl _) ?_
    exact q_8 c5_29 c5_30 c5_31 c5_32 c5_33 c5_34 c5_35 c5_36
  · dsimp only [Option.toList, List.cons_append, List.nil_append, Nat.add_zero]
    refine v_if_eq_f (tgt := 30) dX11_grown_8 (by decide) (by decide) ?_
    refine v_aload_n dX11_grown_11 rfl ?_
    refine v_getr (ci := 11) (j := 3) (ji := 3) (z := 41) dX11_grown_12 k_557 (by decide) kk_0 (by decide) rfl rfl (fun r => rt_0_3 (r rfl)) (by decide) ?_
    refine v_iload_n dX11_grown_15 rfl ?_
    refine v_iload_n dX11_grown_16 rfl ?_
    refine v_iload_n dX11_grown_17 rfl ?_
    refine v_iload dX11_grown_18 rfl ?_
    refine v_aload_n dX11_grown_20 rfl ?_
    refine v_get (ci := 11) (j := 0) (ji := 0) (tg := 0) dX11_grown_21 k_554 (by decide) kk_0 (by decide) rfl rfl (by decide) ?_
    refine v_callv (M' := mX6_add) (d' := d - 1) (mc' := 0) (ms' := 0) (ci := 6) (c := 41) (As := [_, _, _, _, _]) dX11_grown_24 k_839 cm_X6_add rfl (by omega) (by decide) kk_41 (Nat.le_of_ble_eq_true rfl) rfl ⟨Nat.le_refl _, Nat.le_refl _⟩ ?_
    refine s_X6_add (by omega) (by omega) (by omega) (fun c24_45 => ?_) (fun c24_46 => ?_)
    · dsimp only [Option.toList, List.cons_append, List.nil_append, Nat.add_zero]
      refine v_goto (tgt := 31) dX11_grown_27 (by decide) ?_
      refine v_ireti dX11_grown_31 rfl (Nat.le_refl _) (Nat.le_refl _) ?_
      exact q_9 c5_37 c5_38 c5_39 c5_40 c5_41 c5_42 c5_43 c5_44 c24_45
    · dsimp only [Option.toList, List.cons_append, List.nil_append, Nat.add_zero]
      refine v_goto (tgt := 31) dX11_grown_27 (by decide) ?_
      refine v_ireti dX11_grown_31 rfl (Nat.le_refl _) (Nat.le_refl _) ?_
      exact q_10 c5_37 c5_38 c5_39 c5_40 c5_41 c5_42 c5_43 c5_44 c24_46

set_option maxHeartbeats 4000000 in
set_option maxRecDepth 100000 in
theorem s_X11_lay {l : Launch} {G : GG} {d : Nat} {h : AH} {Q : Option AV → List Kd → AH → Prop} {p0 p1 : Int} (hd : 5 ≤ d) (z0 : 0 ≤ (h 81 2)) (c0 : (h 81 2) ≤ 6) (z1 : 0 ≤ (h 41 12)) (c1 : (h 41 12) ≤ 100)
    (q_1 : p0 < 0 → Q (some (0, (-1))) K0 h)
    (q_2 : 0 ≤ p0 → ((h 41 12) - 1) < p0 → Q (some (0, (-1))) K0 h)
    (q_3 : 0 ≤ p0 → p0 ≤ ((h 41 12) - 1) → p1 < 1 → Q (some (0, (-1))) K0 h)
    (q_4 : 0 ≤ p0 → p0 ≤ ((h 41 12) - 1) → 1 ≤ p1 → (h 46 p0) < p1 → Q (some (0, (-1))) K0 h)
    (q_5 : 0 ≤ p0 → p0 ≤ ((h 41 12) - 1) → 1 ≤ p1 → p1 ≤ (h 46 p0) → (h 81 2) < 6 → 6 ≤ (h 81 2) → Q (some (0, (h 81 2))) K0 (hset h 46 p0 (isub (h 46 p0) p1)))
    (q_6 : 0 ≤ p0 → p0 ≤ ((h 41 12) - 1) → 1 ≤ p1 → p1 ≤ (h 46 p0) → (h 81 2) < 6 → (h 81 2) < 6 → Q (some (0, (((hset h 46 p0 (isub (h 46 p0) p1)) 81 2) + 1))) K0 (hset (hset (hset (hset h 46 p0 (isub (h 46 p0) p1)) 82 ((hset h 46 p0 (isub (h 46 p0) p1)) 81 2) p0) 83 ((hset h 46 p0 (isub (h 46 p0) p1)) 81 2) p1) 81 2 (((hset h 46 p0 (isub (h 46 p0) p1)) 81 2) + 1)))
    (q_7 : 0 ≤ p0 → p0 ≤ ((h 41 12) - 1) → 1 ≤ p1 → p1 ≤ (h 46 p0) → 6 ≤ (h 81 2) → Q (some (0, (-1))) K0 h) : Sp l G mX11_lay d 0 0 K0 [(2, 0), (0, p0), (0, p1)] h Q := by
  refine sp_of (L := [(2, 0), (0, p0), (0, p1)]) pl_X11 (Nat.le_of_ble_eq_true rfl) (tg_c (by decide) (tg_c (by decide) (tg_c (by decide) tg_0))) rfl ?_
  refine v_aload_n dX11_lay_0 rfl ?_
  refine v_getr (ci := 11) (j := 4) (ji := 4) (z := 81) dX11_lay_1 k_558 (by decide) kk_0 (by decide) rfl rfl (fun r => rt_0_4 (r rfl)) (by decide) ?_
  refine v_aload_n dX11_lay_4 rfl ?_
  refine v_getr (ci := 11) (j := 3) (ji := 3) (z := 41) dX11_lay_5 k_557 (by decide) kk_0 (by decide) rfl rfl (fun r => rt_0_3 (r rfl)) (by decide) ?_
  refine v_iload_n dX11_lay_8 rfl ?_
  refine v_iload_n dX11_lay_9 rfl ?_
  refine v_callv (M' := mX10_layLeft) (d' := d - 1) (mc' := 0) (ms' := 0) (ci := 10) (c := 81) (As := [_, _, _]) dX11_lay_10 k_847 cm_X10_layLeft rfl (by omega) (by decide) kk_81 (Nat.le_of_ble_eq_true rfl) rfl ⟨Nat.le_refl _, Nat.le_refl _⟩ ?_
  refine s_X10_layLeft (by omega) (by omega) (by omega) (by omega) (by omega) (fun c10_1 => ?_) (fun c10_2 c10_3 => ?_) (fun c10_4 c10_5 c10_6 => ?_) (fun c10_7 c10_8 c10_9 c10_10 => ?_) (fun c10_11 c10_12 c10_13 c10_14 c10_15 c10_16 => ?_) (fun c10_17 c10_18 c10_19 c10_20 c10_21 c10_22 => ?_) (fun c10_23 c10_24 c10_25 c10_26 c10_27 => ?_)
  · dsimp only [Option.toList, List.cons_append, List.nil_append, Nat.add_zero]
    refine v_ireti dX11_lay_13 rfl (Nat.le_refl _) (Nat.le_refl _) ?_
    exact q_1 c10_1
  · dsimp only [Option.toList, List.cons_append, List.nil_append, Nat.add_zero]
    refine v_ireti dX11_lay_13 rfl (Nat.le_refl _) (Nat.le_refl _) ?_
    exact q_2 c10_2 c10_3
  · dsimp only [Option.toList, List.cons_append, List.nil_append, Nat.add_zero]
    refine v_ireti dX11_lay_13 rfl (Nat.le_refl _) (Nat.le_refl _) ?_
    exact q_3 c10_4 c10_5 c10_6
  · dsimp only [Option.toList, List.cons_append, List.nil_append, Nat.add_zero]
    refine v_ireti dX11_lay_13 rfl (Nat.le_refl _) (Nat.le_refl _) ?_
    exact q_4 c10_7 c10_8 c10_9 c10_10
  · dsimp only [Option.toList, List.cons_append, List.nil_append, Nat.add_zero]
    refine v_ireti dX11_lay_13 rfl (Nat.le_refl _) (Nat.le_refl _) ?_
    exact q_5 c10_11 c10_12 c10_13 c10_14 c10_15 c10_16
  · dsimp only [Option.toList, List.cons_append, List.nil_append, Nat.add_zero]
    refine v_ireti dX11_lay_13 rfl (Nat.le_refl _) (Nat.le_refl _) ?_
    exact q_6 c10_17 c10_18 c10_19 c10_20 c10_21 c10_22
  · dsimp only [Option.toList, List.cons_append, List.nil_append, Nat.add_zero]
    refine v_ireti dX11_lay_13 rfl (Nat.le_refl _) (Nat.le_refl _) ?_
    exact q_7 c10_23 c10_24 c10_25 c10_26 c10_27

set_option maxHeartbeats 4000000 in
set_option maxRecDepth 100000 in
theorem s_X11_pour {l : Launch} {G : GG} {d : Nat} {h : AH} {Q : Option AV → List Kd → AH → Prop} {p0 p1 p2 : Int} (hd : 5 ≤ d) (z0 : 0 ≤ (h 81 6)) (c0 : (h 81 6) ≤ 100) (z1 : 0 ≤ (h 41 12)) (c1 : (h 41 12) ≤ 100)
    (q_1 : p0 < 0 → Q (some (0, (-1))) K0 h)
    (q_2 : 0 ≤ p0 → 5 < p0 → Q (some (0, (-1))) K0 h)
    (q_3 : 0 ≤ p0 → p0 ≤ 5 → p1 < 0 → Q (some (0, (-1))) K0 h)
    (q_4 : 0 ≤ p0 → p0 ≤ 5 → 0 ≤ p1 → ((h 41 12) - 1) < p1 → Q (some (0, (-1))) K0 h)
    (q_5 : 0 ≤ p0 → p0 ≤ 5 → 0 ≤ p1 → p1 ≤ ((h 41 12) - 1) → p2 < 1 → Q (some (0, (-1))) K0 h)
    (q_6 : 0 ≤ p0 → p0 ≤ 5 → 0 ≤ p1 → p1 ≤ ((h 41 12) - 1) → 1 ≤ p2 → (h 46 p1) < p2 → Q (some (0, (-1))) K0 h)
    (q_7 : 0 ≤ p0 → p0 ≤ 5 → 0 ≤ p1 → p1 ≤ ((h 41 12) - 1) → 1 ≤ p2 → p2 ≤ (h 46 p1) → (h 81 6) < 100 → Q (some (0, (lyF ((hset (hset h 46 p1 (isub (h 46 p1) p2)) 84 (h 81 6) p0) 84) ((hset (hset (hset (hset h 46 p1 (isub (h 46 p1) p2)) 84 (h 81 6) p0) 85 (h 81 6) p1) 86 (h 81 6) p2) 86) p0 ((h 81 6) + 1)))) K0 (hset (hset (hset (hset (hset h 46 p1 (isub (h 46 p1) p2)) 84 (h 81 6) p0) 85 (h 81 6) p1) 86 (h 81 6) p2) 81 6 ((h 81 6) + 1)))
    (q_8 : 0 ≤ p0 → p0 ≤ 5 → 0 ≤ p1 → p1 ≤ ((h 41 12) - 1) → 1 ≤ p2 → p2 ≤ (h 46 p1) → 100 ≤ (h 81 6) → Q (some (0, (-1))) K0 h) : Sp l G mX11_pour d 0 0 K0 [(2, 0), (0, p0), (0, p1), (0, p2)] h Q := by
  refine sp_of (L := [(2, 0), (0, p0), (0, p1), (0, p2)]) pl_X11 (Nat.le_of_ble_eq_true rfl) (tg_c (by decide) (tg_c (by decide) (tg_c (by decide) (tg_c (by decide) tg_0)))) rfl ?_
  refine v_aload_n dX11_pour_0 rfl ?_
  refine v_getr (ci := 11) (j := 4) (ji := 4) (z := 81) dX11_pour_1 k_558 (by decide) kk_0 (by decide) rfl rfl (fun r => rt_0_4 (r rfl)) (by decide) ?_
  refine v_aload_n dX11_pour_4 rfl ?_
  refine v_getr (ci := 11) (j := 3) (ji := 3) (z := 41) dX11_pour_5 k_557 (by decide) kk_0 (by decide) rfl rfl (fun r => rt_0_3 (r rfl)) (by decide) ?_
  refine v_iload_n dX11_pour_8 rfl ?_
  refine v_iload_n dX11_pour_9 rfl ?_
  refine v_iload_n dX11_pour_10 rfl ?_
  refine v_callv (M' := mX10_pourLeft) (d' := d - 1) (mc' := 0) (ms' := 0) (ci := 10) (c := 81) (As := [_, _, _, _]) dX11_pour_11 k_868 cm_X10_pourLeft rfl (by omega) (by decide) kk_81 (Nat.le_of_ble_eq_true rfl) rfl ⟨Nat.le_refl _, Nat.le_refl _⟩ ?_
  refine s_X10_pourLeft (by omega) (by omega) (by omega) (by omega) (by omega) (fun c11_1 => ?_) (fun c11_2 c11_3 => ?_) (fun c11_4 c11_5 c11_6 => ?_) (fun c11_7 c11_8 c11_9 c11_10 => ?_) (fun c11_11 c11_12 c11_13 c11_14 c11_15 => ?_) (fun c11_16 c11_17 c11_18 c11_19 c11_20 c11_21 => ?_) (fun c11_22 c11_23 c11_24 c11_25 c11_26 c11_27 c11_28 => ?_) (fun c11_29 c11_30 c11_31 c11_32 c11_33 c11_34 c11_35 => ?_)
  · dsimp only [Option.toList, List.cons_append, List.nil_append, Nat.add_zero]
    refine v_ireti dX11_pour_14 rfl (Nat.le_refl _) (Nat.le_refl _) ?_
    exact q_1 c11_1
  · dsimp only [Option.toList, List.cons_append, List.nil_append, Nat.add_zero]
    refine v_ireti dX11_pour_14 rfl (Nat.le_refl _) (Nat.le_refl _) ?_
    exact q_2 c11_2 c11_3
  · dsimp only [Option.toList, List.cons_append, List.nil_append, Nat.add_zero]
    refine v_ireti dX11_pour_14 rfl (Nat.le_refl _) (Nat.le_refl _) ?_
    exact q_3 c11_4 c11_5 c11_6
  · dsimp only [Option.toList, List.cons_append, List.nil_append, Nat.add_zero]
    refine v_ireti dX11_pour_14 rfl (Nat.le_refl _) (Nat.le_refl _) ?_
    exact q_4 c11_7 c11_8 c11_9 c11_10
  · dsimp only [Option.toList, List.cons_append, List.nil_append, Nat.add_zero]
    refine v_ireti dX11_pour_14 rfl (Nat.le_refl _) (Nat.le_refl _) ?_
    exact q_5 c11_11 c11_12 c11_13 c11_14 c11_15
  · dsimp only [Option.toList, List.cons_append, List.nil_append, Nat.add_zero]
    refine v_ireti dX11_pour_14 rfl (Nat.le_refl _) (Nat.le_refl _) ?_
    exact q_6 c11_16 c11_17 c11_18 c11_19 c11_20 c11_21
  · dsimp only [Option.toList, List.cons_append, List.nil_append, Nat.add_zero]
    refine v_ireti dX11_pour_14 rfl (Nat.le_refl _) (Nat.le_refl _) ?_
    exact q_7 c11_22 c11_23 c11_24 c11_25 c11_26 c11_27 c11_28
  · dsimp only [Option.toList, List.cons_append, List.nil_append, Nat.add_zero]
    refine v_ireti dX11_pour_14 rfl (Nat.le_refl _) (Nat.le_refl _) ?_
    exact q_8 c11_29 c11_30 c11_31 c11_32 c11_33 c11_34 c11_35

set_option maxHeartbeats 4000000 in
set_option maxRecDepth 100000 in
theorem s_X11_mend {l : Launch} {G : GG} {d : Nat} {h : AH} {Q : Option AV → List Kd → AH → Prop} {p0 p1 : Int} (hd : 3 ≤ d) (z0 : 0 ≤ (h 41 12)) (c0 : (h 41 12) ≤ 100) (z1 : 0 ≤ (h 53 3)) (c1 : (h 53 3) ≤ 100)
    (q_1 : p0 < 0 → Q (some (0, 0)) K0 h)
    (q_2 : 0 ≤ p0 → ((h 41 12) - 1) < p0 → Q (some (0, 0)) K0 h)
    (q_3 : 0 ≤ p0 → p0 ≤ ((h 41 12) - 1) → p1 < 1 → Q (some (0, 0)) K0 h)
    (q_4 : 0 ≤ p0 → p0 ≤ ((h 41 12) - 1) → 1 ≤ p1 → 10000 < p1 → Q (some (0, 0)) K0 h)
    (q_5 : 0 ≤ p0 → p0 ≤ ((h 41 12) - 1) → 1 ≤ p1 → p1 ≤ 10000 → (h 53 3) < 100 → Q (some (0, 1)) K0 (hset (hset (hset (hset h 54 (h 53 3) p0) 55 (h 53 3) p1) 56 (h 53 3) (h 0 0)) 53 3 ((h 53 3) + 1)))
    (q_6 : 0 ≤ p0 → p0 ≤ ((h 41 12) - 1) → 1 ≤ p1 → p1 ≤ 10000 → 100 ≤ (h 53 3) → Q (some (0, 0)) K0 h) : Sp l G mX11_mend d 0 0 K0 [(2, 0), (0, p0), (0, p1)] h Q := by
  refine sp_of (L := [(2, 0), (0, p0), (0, p1)]) pl_X11 (Nat.le_of_ble_eq_true rfl) (tg_c (by decide) (tg_c (by decide) (tg_c (by decide) tg_0))) rfl ?_
  refine v_aload_n dX11_mend_0 rfl ?_
  refine v_getr (ci := 11) (j := 3) (ji := 3) (z := 41) dX11_mend_1 k_557 (by decide) kk_0 (by decide) rfl rfl (fun r => rt_0_3 (r rfl)) (by decide) ?_
  refine v_iload_n dX11_mend_4 rfl ?_
  refine v_callv (M' := mX6_has) (d' := d - 1) (mc' := 0) (ms' := 0) (ci := 6) (c := 41) (As := [_]) dX11_mend_5 k_914 cm_X6_has rfl (by omega) (by decide) kk_41 (Nat.le_of_ble_eq_true rfl) rfl ⟨Nat.le_refl _, Nat.le_refl _⟩ ?_
  refine s_X6_has (by omega) (by omega) (by omega) (fun c5_1 => ?_) (fun c5_2 c5_3 => ?_) (fun c5_4 c5_5 => ?_)
  · dsimp only [Option.toList, List.cons_append, List.nil_append, Nat.add_zero]
    refine v_if_eq_t (tgt := 45) dX11_mend_8 (by decide) (by decide) ?_
    refine v_iconst dX11_mend_45 (c32 rfl) ?_
    refine v_iretz dX11_mend_46 rfl (by decide) (Nat.le_refl _) (Nat.le_refl _) ?_
    exact q_1 c5_1
  · dsimp only [Option.toList, List.cons_append, List.nil_append, Nat.add_zero]
    refine v_if_eq_t (tgt := 45) dX11_mend_8 (by decide) (by decide) ?_
    refine v_iconst dX11_mend_45 (c32 rfl) ?_
    refine v_iretz dX11_mend_46 rfl (by decide) (Nat.le_refl _) (Nat.le_refl _) ?_
    exact q_2 c5_2 c5_3
  · dsimp only [Option.toList, List.cons_append, List.nil_append, Nat.add_zero]
    refine v_if_eq_f (tgt := 45) dX11_mend_8 (by decide) (by decide) ?_
    refine v_iload_n dX11_mend_11 rfl ?_
    refine v_iconst dX11_mend_12 (c32 rfl) ?_
    refine v_sipush dX11_mend_13 (c32 rfl) (by decide) ?_
    refine v_calls (M' := mX11_within) (d' := d - 1) (mc' := 0) (ms' := 0) (As := [_, _, _]) dX11_mend_16 k_586 cm_X11_within (by omega) (Nat.le_of_ble_eq_true rfl) rfl ⟨Nat.le_refl _, Nat.le_refl _⟩ ?_
    refine s_X11_within (by omega) (fun c16_6 => ?_) (fun c16_7 c16_8 => ?_) (fun c16_9 c16_10 => ?_)
    · dsimp only [Option.toList, List.cons_append, List.nil_append, Nat.add_zero]
      refine v_if_eq_t (tgt := 45) dX11_mend_19 (by decide) (by decide) ?_
      refine v_iconst dX11_mend_45 (c32 rfl) ?_
      refine v_iretz dX11_mend_46 rfl (by decide) (Nat.le_refl _) (Nat.le_refl _) ?_
      exact q_3 c5_4 c5_5 c16_6
    · dsimp only [Option.toList, List.cons_append, List.nil_append, Nat.add_zero]
      refine v_if_eq_t (tgt := 45) dX11_mend_19 (by decide) (by decide) ?_
      refine v_iconst dX11_mend_45 (c32 rfl) ?_
      refine v_iretz dX11_mend_46 rfl (by decide) (Nat.le_refl _) (Nat.le_refl _) ?_
      exact q_4 c5_4 c5_5 c16_7 c16_8
    · dsimp only [Option.toList, List.cons_append, List.nil_append, Nat.add_zero]
      refine v_if_eq_f (tgt := 45) dX11_mend_19 (by decide) (by decide) ?_
      refine v_aload_n dX11_mend_22 rfl ?_
      refine v_getr (ci := 11) (j := 3) (ji := 3) (z := 41) dX11_mend_23 k_557 (by decide) kk_0 (by decide) rfl rfl (fun r => rt_0_3 (r rfl)) (by decide) ?_
      refine v_getrN (ci := 6) (j := 11) (ji := 11) (z := 53) dX11_mend_26 k_317 (by decide) kk_41 (by decide) rfl rfl (fun r => rt_41_11 (r rfl)) (by decide) ?_
      refine v_iload_n dX11_mend_29 rfl ?_
      refine v_iload_n dX11_mend_30 rfl ?_
      refine v_aload_n dX11_mend_31 rfl ?_
      refine v_get (ci := 11) (j := 0) (ji := 0) (tg := 0) dX11_mend_32 k_554 (by decide) kk_0 (by decide) rfl rfl (by decide) ?_
      refine v_callv (M' := mX3_tell) (d' := d - 1) (mc' := 0) (ms' := 0) (ci := 3) (c := 53) (As := [_, _, _]) dX11_mend_35 k_915 cm_X3_tell rfl (by omega) (by decide) kk_53 (Nat.le_of_ble_eq_true rfl) rfl ⟨Nat.le_refl _, Nat.le_refl _⟩ ?_
      refine s_X3_tell_53 (by omega) (by omega) (by omega) (fun c35_11 => ?_) (fun c35_12 => ?_)
      · dsimp only [Option.toList, List.cons_append, List.nil_append, Nat.add_zero]
        refine v_if_eq_f (tgt := 45) dX11_mend_38 (by decide) (by decide) ?_
        refine v_iconst dX11_mend_41 (c32 rfl) ?_
        refine v_goto (tgt := 46) dX11_mend_42 (by decide) ?_
        refine v_iretz dX11_mend_46 rfl (by decide) (Nat.le_refl _) (Nat.le_refl _) ?_
        exact q_5 c5_4 c5_5 c16_9 c16_10 c35_11
      · dsimp only [Option.toList, List.cons_append, List.nil_append, Nat.add_zero]
        refine v_if_eq_t (tgt := 45) dX11_mend_38 (by decide) (by decide) ?_
        refine v_iconst dX11_mend_45 (c32 rfl) ?_
        refine v_iretz dX11_mend_46 rfl (by decide) (Nat.le_refl _) (Nat.le_refl _) ?_
        exact q_6 c5_4 c5_5 c16_9 c16_10 c35_12

set_option maxHeartbeats 4000000 in
set_option maxRecDepth 100000 in
theorem s_X11_undo {l : Launch} {G : GG} {d : Nat} {h : AH} {Q : Option AV → List Kd → AH → Prop} {p0 : Int} (hd : 3 ≤ d) (z0 : 0 ≤ (h 41 12)) (c0 : (h 41 12) ≤ 100)
    (q_1 : p0 < 0 → Q (some (0, 0)) K0 h)
    (q_2 : 0 ≤ p0 → ((h 41 12) - 1) < p0 → Q (some (0, 0)) K0 h)
    (q_3 : 0 ≤ p0 → p0 ≤ ((h 41 12) - 1) → (h 48 p0) ≠ (-1) → Q (some (0, 0)) K0 h)
    (q_4 : 0 ≤ p0 → p0 ≤ ((h 41 12) - 1) → (h 48 p0) = (-1) → (h 49 p0) = (-1) → Q (some (0, 1)) K0 (hset (hset h 49 p0 (h 0 0)) 41 13 (iadd (h 41 13) 1)))
    (q_5 : 0 ≤ p0 → p0 ≤ ((h 41 12) - 1) → (h 48 p0) = (-1) → (h 49 p0) ≠ (-1) → Q (some (0, 0)) K0 h) : Sp l G mX11_undo d 0 0 K0 [(2, 0), (0, p0)] h Q := by
  refine sp_of (L := [(2, 0), (0, p0)]) pl_X11 (Nat.le_of_ble_eq_true rfl) (tg_c (by decide) (tg_c (by decide) tg_0)) rfl ?_
  refine v_aload_n dX11_undo_0 rfl ?_
  refine v_getr (ci := 11) (j := 3) (ji := 3) (z := 41) dX11_undo_1 k_557 (by decide) kk_0 (by decide) rfl rfl (fun r => rt_0_3 (r rfl)) (by decide) ?_
  refine v_iload_n dX11_undo_4 rfl ?_
  refine v_callv (M' := mX6_has) (d' := d - 1) (mc' := 0) (ms' := 0) (ci := 6) (c := 41) (As := [_]) dX11_undo_5 k_914 cm_X6_has rfl (by omega) (by decide) kk_41 (Nat.le_of_ble_eq_true rfl) rfl ⟨Nat.le_refl _, Nat.le_refl _⟩ ?_
  refine s_X6_has (by omega) (by omega) (by omega) (fun c5_1 => ?_) (fun c5_2 c5_3 => ?_) (fun c5_4 c5_5 => ?_)
  · dsimp only [Option.toList, List.cons_append, List.nil_append, Nat.add_zero]
    refine v_if_eq_t (tgt := 30) dX11_undo_8 (by decide) (by decide) ?_
    refine v_iconst dX11_undo_30 (c32 rfl) ?_
    refine v_iretz dX11_undo_31 rfl (by decide) (Nat.le_refl _) (Nat.le_refl _) ?_
    exact q_1 c5_1
  · dsimp only [Option.toList, List.cons_append, List.nil_append, Nat.add_zero]
    refine v_if_eq_t (tgt := 30) dX11_undo_8 (by decide) (by decide) ?_
    refine v_iconst dX11_undo_30 (c32 rfl) ?_
    refine v_iretz dX11_undo_31 rfl (by decide) (Nat.le_refl _) (Nat.le_refl _) ?_
    exact q_2 c5_2 c5_3
  · dsimp only [Option.toList, List.cons_append, List.nil_append, Nat.add_zero]
    refine v_if_eq_f (tgt := 30) dX11_undo_8 (by decide) (by decide) ?_
    refine v_aload_n dX11_undo_11 rfl ?_
    refine v_getr (ci := 11) (j := 3) (ji := 3) (z := 41) dX11_undo_12 k_557 (by decide) kk_0 (by decide) rfl rfl (fun r => rt_0_3 (r rfl)) (by decide) ?_
    refine v_iload_n dX11_undo_15 rfl ?_
    refine v_aload_n dX11_undo_16 rfl ?_
    refine v_get (ci := 11) (j := 0) (ji := 0) (tg := 0) dX11_undo_17 k_554 (by decide) kk_0 (by decide) rfl rfl (by decide) ?_
    refine v_callv (M' := mX6_undoProof) (d' := d - 1) (mc' := 0) (ms' := 0) (ci := 6) (c := 41) (As := [_, _]) dX11_undo_20 k_923 cm_X6_undoProof rfl (by omega) (by decide) kk_41 (Nat.le_of_ble_eq_true rfl) rfl ⟨Nat.le_refl _, Nat.le_refl _⟩ ?_
    refine s_X6_undoProof (by omega) (by omega) (fun c20_6 => ?_) (fun c20_7 c20_8 => ?_) (fun c20_9 c20_10 => ?_)
    · dsimp only [Option.toList, List.cons_append, List.nil_append, Nat.add_zero]
      refine v_if_eq_t (tgt := 30) dX11_undo_23 (by decide) (by decide) ?_
      refine v_iconst dX11_undo_30 (c32 rfl) ?_
      refine v_iretz dX11_undo_31 rfl (by decide) (Nat.le_refl _) (Nat.le_refl _) ?_
      exact q_3 c5_4 c5_5 c20_6
    · dsimp only [Option.toList, List.cons_append, List.nil_append, Nat.add_zero]
      refine v_if_eq_f (tgt := 30) dX11_undo_23 (by decide) (by decide) ?_
      refine v_iconst dX11_undo_26 (c32 rfl) ?_
      refine v_goto (tgt := 31) dX11_undo_27 (by decide) ?_
      refine v_iretz dX11_undo_31 rfl (by decide) (Nat.le_refl _) (Nat.le_refl _) ?_
      exact q_4 c5_4 c5_5 c20_7 c20_8
    · dsimp only [Option.toList, List.cons_append, List.nil_append, Nat.add_zero]
      refine v_if_eq_t (tgt := 30) dX11_undo_23 (by decide) (by decide) ?_
      refine v_iconst dX11_undo_30 (c32 rfl) ?_
      refine v_iretz dX11_undo_31 rfl (by decide) (Nat.le_refl _) (Nat.le_refl _) ?_
      exact q_5 c5_4 c5_5 c20_9 c20_10

set_option maxHeartbeats 4000000 in
set_option maxRecDepth 100000 in
theorem s_X11_isKnown {l : Launch} {G : GG} {d : Nat} {h : AH} {Q : Option AV → List Kd → AH → Prop} {p0 p1 p2 : Int} (hd : 3 ≤ d) (z0 : 0 ≤ (h 41 12)) (c0 : (h 41 12) ≤ 100)
    (q_1 : p0 < 0 → Q (some (0, 0)) K0 h)
    (q_2 : 0 ≤ p0 → ((h 41 12) - 1) < p0 → Q (some (0, 0)) K0 h)
    (q_3 : 0 ≤ p0 → p0 ≤ ((h 41 12) - 1) → p1 < 0 → Q (some (0, 0)) K0 h)
    (q_4 : 0 ≤ p0 → p0 ≤ ((h 41 12) - 1) → 0 ≤ p1 → 3 < p1 → Q (some (0, 0)) K0 h)
    (q_5 : 0 ≤ p0 → p0 ≤ ((h 41 12) - 1) → 0 ≤ p1 → p1 ≤ 3 → p2 < (h 47 p0) → Q (some (0, 0)) K0 h)
    (q_6 : 0 ≤ p0 → p0 ≤ ((h 41 12) - 1) → 0 ≤ p1 → p1 ≤ 3 → (h 47 p0) ≤ p2 → (h 0 0) < p2 → Q (some (0, 0)) K0 h)
    (q_7 : 0 ≤ p0 → p0 ≤ ((h 41 12) - 1) → 0 ≤ p1 → p1 ≤ 3 → (h 47 p0) ≤ p2 → p2 ≤ (h 0 0) → Q (some (0, 1)) K0 h) : Sp l G mX11_isKnown d 0 0 K0 [(2, 0), (0, p0), (0, p1), (0, p2)] h Q := by
  refine sp_of (L := [(2, 0), (0, p0), (0, p1), (0, p2)]) pl_X11 (Nat.le_of_ble_eq_true rfl) (tg_c (by decide) (tg_c (by decide) (tg_c (by decide) (tg_c (by decide) tg_0)))) rfl ?_
  refine v_aload_n dX11_isKnown_0 rfl ?_
  refine v_getr (ci := 11) (j := 3) (ji := 3) (z := 41) dX11_isKnown_1 k_557 (by decide) kk_0 (by decide) rfl rfl (fun r => rt_0_3 (r rfl)) (by decide) ?_
  refine v_iload_n dX11_isKnown_4 rfl ?_
  refine v_callv (M' := mX6_has) (d' := d - 1) (mc' := 0) (ms' := 0) (ci := 6) (c := 41) (As := [_]) dX11_isKnown_5 k_914 cm_X6_has rfl (by omega) (by decide) kk_41 (Nat.le_of_ble_eq_true rfl) rfl ⟨Nat.le_refl _, Nat.le_refl _⟩ ?_
  refine s_X6_has (by omega) (by omega) (by omega) (fun c5_1 => ?_) (fun c5_2 c5_3 => ?_) (fun c5_4 c5_5 => ?_)
  · dsimp only [Option.toList, List.cons_append, List.nil_append, Nat.add_zero]
    refine v_if_eq_t (tgt := 44) dX11_isKnown_8 (by decide) (by decide) ?_
    refine v_iconst dX11_isKnown_44 (c32 rfl) ?_
    refine v_iretz dX11_isKnown_45 rfl (by decide) (Nat.le_refl _) (Nat.le_refl _) ?_
    exact q_1 c5_1
  · dsimp only [Option.toList, List.cons_append, List.nil_append, Nat.add_zero]
    refine v_if_eq_t (tgt := 44) dX11_isKnown_8 (by decide) (by decide) ?_
    refine v_iconst dX11_isKnown_44 (c32 rfl) ?_
    refine v_iretz dX11_isKnown_45 rfl (by decide) (Nat.le_refl _) (Nat.le_refl _) ?_
    exact q_2 c5_2 c5_3
  · dsimp only [Option.toList, List.cons_append, List.nil_append, Nat.add_zero]
    refine v_if_eq_f (tgt := 44) dX11_isKnown_8 (by decide) (by decide) ?_
    refine v_iload_n dX11_isKnown_11 rfl ?_
    refine v_iconst dX11_isKnown_12 (c32 rfl) ?_
    refine v_iconst dX11_isKnown_13 (c32 rfl) ?_
    refine v_calls (M' := mX11_within) (d' := d - 1) (mc' := 0) (ms' := 0) (As := [_, _, _]) dX11_isKnown_14 k_586 cm_X11_within (by omega) (Nat.le_of_ble_eq_true rfl) rfl ⟨Nat.le_refl _, Nat.le_refl _⟩ ?_
    refine s_X11_within (by omega) (fun c14_6 => ?_) (fun c14_7 c14_8 => ?_) (fun c14_9 c14_10 => ?_)
    · dsimp only [Option.toList, List.cons_append, List.nil_append, Nat.add_zero]
      refine v_if_eq_t (tgt := 44) dX11_isKnown_17 (by decide) (by decide) ?_
      refine v_iconst dX11_isKnown_44 (c32 rfl) ?_
      refine v_iretz dX11_isKnown_45 rfl (by decide) (Nat.le_refl _) (Nat.le_refl _) ?_
      exact q_3 c5_4 c5_5 c14_6
    · dsimp only [Option.toList, List.cons_append, List.nil_append, Nat.add_zero]
      refine v_if_eq_t (tgt := 44) dX11_isKnown_17 (by decide) (by decide) ?_
      refine v_iconst dX11_isKnown_44 (c32 rfl) ?_
      refine v_iretz dX11_isKnown_45 rfl (by decide) (Nat.le_refl _) (Nat.le_refl _) ?_
      exact q_4 c5_4 c5_5 c14_7 c14_8
    · dsimp only [Option.toList, List.cons_append, List.nil_append, Nat.add_zero]
      refine v_if_eq_f (tgt := 44) dX11_isKnown_17 (by decide) (by decide) ?_
      refine v_iload_n dX11_isKnown_20 rfl ?_
      refine v_aload_n dX11_isKnown_21 rfl ?_
      refine v_getr (ci := 11) (j := 3) (ji := 3) (z := 41) dX11_isKnown_22 k_557 (by decide) kk_0 (by decide) rfl rfl (fun r => rt_0_3 (r rfl)) (by decide) ?_
      refine v_getrN (ci := 6) (j := 5) (ji := 5) (z := 47) dX11_isKnown_25 k_306 (by decide) kk_41 (by decide) rfl rfl (fun r => rt_41_5 (r rfl)) (by decide) ?_
      refine v_iload_n dX11_isKnown_28 rfl ?_
      refine v_iaload dX11_isKnown_29 (by decide) kk_47 (by omega) (by omega) ?_
      refine v_aload_n dX11_isKnown_30 rfl ?_
      refine v_get (ci := 11) (j := 0) (ji := 0) (tg := 0) dX11_isKnown_31 k_554 (by decide) kk_0 (by decide) rfl rfl (by decide) ?_
      refine v_calls (M' := mX11_within) (d' := d - 1) (mc' := 0) (ms' := 0) (As := [_, _, _]) dX11_isKnown_34 k_586 cm_X11_within (by omega) (Nat.le_of_ble_eq_true rfl) rfl ⟨Nat.le_refl _, Nat.le_refl _⟩ ?_
      refine s_X11_within (by omega) (fun c34_11 => ?_) (fun c34_12 c34_13 => ?_) (fun c34_14 c34_15 => ?_)
      · dsimp only [Option.toList, List.cons_append, List.nil_append, Nat.add_zero]
        refine v_if_eq_t (tgt := 44) dX11_isKnown_37 (by decide) (by decide) ?_
        refine v_iconst dX11_isKnown_44 (c32 rfl) ?_
        refine v_iretz dX11_isKnown_45 rfl (by decide) (Nat.le_refl _) (Nat.le_refl _) ?_
        exact q_5 c5_4 c5_5 c14_9 c14_10 c34_11
      · dsimp only [Option.toList, List.cons_append, List.nil_append, Nat.add_zero]
        refine v_if_eq_t (tgt := 44) dX11_isKnown_37 (by decide) (by decide) ?_
        refine v_iconst dX11_isKnown_44 (c32 rfl) ?_
        refine v_iretz dX11_isKnown_45 rfl (by decide) (Nat.le_refl _) (Nat.le_refl _) ?_
        exact q_6 c5_4 c5_5 c14_9 c14_10 c34_12 c34_13
      · dsimp only [Option.toList, List.cons_append, List.nil_append, Nat.add_zero]
        refine v_if_eq_f (tgt := 44) dX11_isKnown_37 (by decide) (by decide) ?_
        refine v_iconst dX11_isKnown_40 (c32 rfl) ?_
        refine v_goto (tgt := 45) dX11_isKnown_41 (by decide) ?_
        refine v_iretz dX11_isKnown_45 rfl (by decide) (Nat.le_refl _) (Nat.le_refl _) ?_
        exact q_7 c5_4 c5_5 c14_9 c14_10 c34_14 c34_15

set_option maxHeartbeats 4000000 in
set_option maxRecDepth 100000 in
theorem s_X11_isMadeKnown {l : Launch} {G : GG} {d : Nat} {h : AH} {Q : Option AV → List Kd → AH → Prop} {p0 p1 p2 : Int} (hd : 4 ≤ d) (z0 : 0 ≤ (h 41 12)) (c0 : (h 41 12) ≤ 100)
    (q_1 : p0 < 0 → Q (some (0, 0)) K0 h)
    (q_2 : 0 ≤ p0 → ((h 41 12) - 1) < p0 → Q (some (0, 0)) K0 h)
    (q_3 : 0 ≤ p0 → p0 ≤ ((h 41 12) - 1) → p1 < 0 → Q (some (0, 0)) K0 h)
    (q_4 : 0 ≤ p0 → p0 ≤ ((h 41 12) - 1) → 0 ≤ p1 → 3 < p1 → Q (some (0, 0)) K0 h)
    (q_5 : 0 ≤ p0 → p0 ≤ ((h 41 12) - 1) → 0 ≤ p1 → p1 ≤ 3 → p2 < (h 47 p0) → Q (some (0, 0)) K0 h)
    (q_6 : 0 ≤ p0 → p0 ≤ ((h 41 12) - 1) → 0 ≤ p1 → p1 ≤ 3 → (h 47 p0) ≤ p2 → (h 0 0) < p2 → Q (some (0, 0)) K0 h)
    (q_7 : 0 ≤ p0 → p0 ≤ ((h 41 12) - 1) → 0 ≤ p1 → p1 ≤ 3 → (h 47 p0) ≤ p2 → p2 ≤ (h 0 0) → (h 48 p0) ≠ (-1) → Q (some (0, 1)) K0 h)
    (q_8 : 0 ≤ p0 → p0 ≤ ((h 41 12) - 1) → 0 ≤ p1 → p1 ≤ 3 → (h 47 p0) ≤ p2 → p2 ≤ (h 0 0) → (h 48 p0) = (-1) → Q (some (0, 0)) K0 h) : Sp l G mX11_isMadeKnown d 0 0 K0 [(2, 0), (0, p0), (0, p1), (0, p2)] h Q := by
  refine sp_of (L := [(2, 0), (0, p0), (0, p1), (0, p2)]) pl_X11 (Nat.le_of_ble_eq_true rfl) (tg_c (by decide) (tg_c (by decide) (tg_c (by decide) (tg_c (by decide) tg_0)))) rfl ?_
  refine v_aload_n dX11_isMadeKnown_0 rfl ?_
  refine v_iload_n dX11_isMadeKnown_1 rfl ?_
  refine v_iload_n dX11_isMadeKnown_2 rfl ?_
  refine v_iload_n dX11_isMadeKnown_3 rfl ?_
  refine v_callv (M' := mX11_isKnown) (d' := d - 1) (mc' := 0) (ms' := 0) (ci := 11) (c := 0) (As := [_, _, _]) dX11_isMadeKnown_4 k_947 cm_X11_isKnown rfl (by omega) (by decide) kk_0 (Nat.le_of_ble_eq_true rfl) rfl ⟨Nat.le_refl _, Nat.le_refl _⟩ ?_
  refine s_X11_isKnown (by omega) (by omega) (by omega) (fun c4_1 => ?_) (fun c4_2 c4_3 => ?_) (fun c4_4 c4_5 c4_6 => ?_) (fun c4_7 c4_8 c4_9 c4_10 => ?_) (fun c4_11 c4_12 c4_13 c4_14 c4_15 => ?_) (fun c4_16 c4_17 c4_18 c4_19 c4_20 c4_21 => ?_) (fun c4_22 c4_23 c4_24 c4_25 c4_26 c4_27 => ?_)
  · dsimp only [Option.toList, List.cons_append, List.nil_append, Nat.add_zero]
    refine v_if_eq_t (tgt := 25) dX11_isMadeKnown_7 (by decide) (by decide) ?_
    refine v_iconst dX11_isMadeKnown_25 (c32 rfl) ?_
    refine v_iretz dX11_isMadeKnown_26 rfl (by decide) (Nat.le_refl _) (Nat.le_refl _) ?_
    exact q_1 c4_1
  · dsimp only [Option.toList, List.cons_append, List.nil_append, Nat.add_zero]
    refine v_if_eq_t (tgt := 25) dX11_isMadeKnown_7 (by decide) (by decide) ?_
    refine v_iconst dX11_isMadeKnown_25 (c32 rfl) ?_
    refine v_iretz dX11_isMadeKnown_26 rfl (by decide) (Nat.le_refl _) (Nat.le_refl _) ?_
    exact q_2 c4_2 c4_3
  · dsimp only [Option.toList, List.cons_append, List.nil_append, Nat.add_zero]
    refine v_if_eq_t (tgt := 25) dX11_isMadeKnown_7 (by decide) (by decide) ?_
    refine v_iconst dX11_isMadeKnown_25 (c32 rfl) ?_
    refine v_iretz dX11_isMadeKnown_26 rfl (by decide) (Nat.le_refl _) (Nat.le_refl _) ?_
    exact q_3 c4_4 c4_5 c4_6
  · dsimp only [Option.toList, List.cons_append, List.nil_append, Nat.add_zero]
    refine v_if_eq_t (tgt := 25) dX11_isMadeKnown_7 (by decide) (by decide) ?_
    refine v_iconst dX11_isMadeKnown_25 (c32 rfl) ?_
    refine v_iretz dX11_isMadeKnown_26 rfl (by decide) (Nat.le_refl _) (Nat.le_refl _) ?_
    exact q_4 c4_7 c4_8 c4_9 c4_10
  · dsimp only [Option.toList, List.cons_append, List.nil_append, Nat.add_zero]
    refine v_if_eq_t (tgt := 25) dX11_isMadeKnown_7 (by decide) (by decide) ?_
    refine v_iconst dX11_isMadeKnown_25 (c32 rfl) ?_
    refine v_iretz dX11_isMadeKnown_26 rfl (by decide) (Nat.le_refl _) (Nat.le_refl _) ?_
    exact q_5 c4_11 c4_12 c4_13 c4_14 c4_15
  · dsimp only [Option.toList, List.cons_append, List.nil_append, Nat.add_zero]
    refine v_if_eq_t (tgt := 25) dX11_isMadeKnown_7 (by decide) (by decide) ?_
    refine v_iconst dX11_isMadeKnown_25 (c32 rfl) ?_
    refine v_iretz dX11_isMadeKnown_26 rfl (by decide) (Nat.le_refl _) (Nat.le_refl _) ?_
    exact q_6 c4_16 c4_17 c4_18 c4_19 c4_20 c4_21
  · dsimp only [Option.toList, List.cons_append, List.nil_append, Nat.add_zero]
    refine v_if_eq_f (tgt := 25) dX11_isMadeKnown_7 (by decide) (by decide) ?_
    refine v_aload_n dX11_isMadeKnown_10 rfl ?_
    refine v_getr (ci := 11) (j := 3) (ji := 3) (z := 41) dX11_isMadeKnown_11 k_557 (by decide) kk_0 (by decide) rfl rfl (fun r => rt_0_3 (r rfl)) (by decide) ?_
    refine v_iload_n dX11_isMadeKnown_14 rfl ?_
    refine v_callv (M' := mX6_isGrown) (d' := d - 1) (mc' := 0) (ms' := 0) (ci := 6) (c := 41) (As := [_]) dX11_isMadeKnown_15 k_1043 cm_X6_isGrown rfl (by omega) (by decide) kk_41 (Nat.le_of_ble_eq_true rfl) rfl ⟨Nat.le_refl _, Nat.le_refl _⟩ ?_
    refine s_X6_isGrown (by omega) (by omega) (fun c15_28 => ?_) (fun c15_29 => ?_)
    · dsimp only [Option.toList, List.cons_append, List.nil_append, Nat.add_zero]
      refine v_if_ne_f (tgt := 25) dX11_isMadeKnown_18 (by decide) (by decide) ?_
      refine v_iconst dX11_isMadeKnown_21 (c32 rfl) ?_
      refine v_goto (tgt := 26) dX11_isMadeKnown_22 (by decide) ?_
      refine v_iretz dX11_isMadeKnown_26 rfl (by decide) (Nat.le_refl _) (Nat.le_refl _) ?_
      exact q_7 c4_22 c4_23 c4_24 c4_25 c4_26 c4_27 c15_28
    · dsimp only [Option.toList, List.cons_append, List.nil_append, Nat.add_zero]
      refine v_if_ne_t (tgt := 25) dX11_isMadeKnown_18 (by decide) (by decide) ?_
      refine v_iconst dX11_isMadeKnown_25 (c32 rfl) ?_
      refine v_iretz dX11_isMadeKnown_26 rfl (by decide) (Nat.le_refl _) (Nat.le_refl _) ?_
      exact q_8 c4_22 c4_23 c4_24 c4_25 c4_26 c4_27 c15_29

set_option maxHeartbeats 4000000 in
set_option maxRecDepth 100000 in
theorem s_X11_isSent {l : Launch} {G : GG} {d : Nat} {h : AH} {Q : Option AV → List Kd → AH → Prop} {p0 p1 : Int} (hd : 3 ≤ d) (z0 : 0 ≤ (h 4 7)) (c0 : (h 4 7) ≤ 100)
    (q_1 : p0 < 0 → Q (some (0, 0)) K0 h)
    (q_2 : 0 ≤ p0 → ((h 4 7) - 1) < p0 → Q (some (0, 0)) K0 h)
    (q_3 : 0 ≤ p0 → p0 ≤ ((h 4 7) - 1) → p1 < (h 69 p0) → Q (some (0, 0)) K0 h)
    (q_4 : 0 ≤ p0 → p0 ≤ ((h 4 7) - 1) → (h 69 p0) ≤ p1 → (h 0 0) < p1 → Q (some (0, 0)) K0 h)
    (q_5 : 0 ≤ p0 → p0 ≤ ((h 4 7) - 1) → (h 69 p0) ≤ p1 → p1 ≤ (h 0 0) → Q (some (0, 1)) K0 h) : Sp l G mX11_isSent d 0 0 K0 [(2, 0), (0, p0), (0, p1)] h Q := by
  refine sp_of (L := [(2, 0), (0, p0), (0, p1)]) pl_X11 (Nat.le_of_ble_eq_true rfl) (tg_c (by decide) (tg_c (by decide) (tg_c (by decide) tg_0))) rfl ?_
  refine v_aload_n dX11_isSent_0 rfl ?_
  refine v_getr (ci := 11) (j := 6) (ji := 6) (z := 4) dX11_isSent_1 k_560 (by decide) kk_0 (by decide) rfl rfl (fun r => rt_0_6 (r rfl)) (by decide) ?_
  refine v_iload_n dX11_isSent_4 rfl ?_
  refine v_callv (M' := mX0_has) (d' := d - 1) (mc' := 0) (ms' := 0) (ci := 0) (c := 4) (As := [_]) dX11_isSent_5 k_1070 cm_X0_has rfl (by omega) (by decide) kk_4 (Nat.le_of_ble_eq_true rfl) rfl ⟨Nat.le_refl _, Nat.le_refl _⟩ ?_
  refine s_X0_has (by omega) (by omega) (by omega) (fun c5_1 => ?_) (fun c5_2 c5_3 => ?_) (fun c5_4 c5_5 => ?_)
  · dsimp only [Option.toList, List.cons_append, List.nil_append, Nat.add_zero]
    refine v_if_eq_t (tgt := 35) dX11_isSent_8 (by decide) (by decide) ?_
    refine v_iconst dX11_isSent_35 (c32 rfl) ?_
    refine v_iretz dX11_isSent_36 rfl (by decide) (Nat.le_refl _) (Nat.le_refl _) ?_
    exact q_1 c5_1
  · dsimp only [Option.toList, List.cons_append, List.nil_append, Nat.add_zero]
    refine v_if_eq_t (tgt := 35) dX11_isSent_8 (by decide) (by decide) ?_
    refine v_iconst dX11_isSent_35 (c32 rfl) ?_
    refine v_iretz dX11_isSent_36 rfl (by decide) (Nat.le_refl _) (Nat.le_refl _) ?_
    exact q_2 c5_2 c5_3
  · dsimp only [Option.toList, List.cons_append, List.nil_append, Nat.add_zero]
    refine v_if_eq_f (tgt := 35) dX11_isSent_8 (by decide) (by decide) ?_
    refine v_iload_n dX11_isSent_11 rfl ?_
    refine v_aload_n dX11_isSent_12 rfl ?_
    refine v_getr (ci := 11) (j := 6) (ji := 6) (z := 4) dX11_isSent_13 k_560 (by decide) kk_0 (by decide) rfl rfl (fun r => rt_0_6 (r rfl)) (by decide) ?_
    refine v_getrN (ci := 0) (j := 6) (ji := 6) (z := 69) dX11_isSent_16 k_380 (by decide) kk_4 (by decide) rfl rfl (fun r => rt_4_6 (r rfl)) (by decide) ?_
    refine v_iload_n dX11_isSent_19 rfl ?_
    refine v_iaload dX11_isSent_20 (by decide) kk_69 (by omega) (by omega) ?_
    refine v_aload_n dX11_isSent_21 rfl ?_
    refine v_get (ci := 11) (j := 0) (ji := 0) (tg := 0) dX11_isSent_22 k_554 (by decide) kk_0 (by decide) rfl rfl (by decide) ?_
    refine v_calls (M' := mX11_within) (d' := d - 1) (mc' := 0) (ms' := 0) (As := [_, _, _]) dX11_isSent_25 k_586 cm_X11_within (by omega) (Nat.le_of_ble_eq_true rfl) rfl ⟨Nat.le_refl _, Nat.le_refl _⟩ ?_
    refine s_X11_within (by omega) (fun c25_6 => ?_) (fun c25_7 c25_8 => ?_) (fun c25_9 c25_10 => ?_)
    · dsimp only [Option.toList, List.cons_append, List.nil_append, Nat.add_zero]
      refine v_if_eq_t (tgt := 35) dX11_isSent_28 (by decide) (by decide) ?_
      refine v_iconst dX11_isSent_35 (c32 rfl) ?_
      refine v_iretz dX11_isSent_36 rfl (by decide) (Nat.le_refl _) (Nat.le_refl _) ?_
      exact q_3 c5_4 c5_5 c25_6
    · dsimp only [Option.toList, List.cons_append, List.nil_append, Nat.add_zero]
      refine v_if_eq_t (tgt := 35) dX11_isSent_28 (by decide) (by decide) ?_
      refine v_iconst dX11_isSent_35 (c32 rfl) ?_
      refine v_iretz dX11_isSent_36 rfl (by decide) (Nat.le_refl _) (Nat.le_refl _) ?_
      exact q_4 c5_4 c5_5 c25_7 c25_8
    · dsimp only [Option.toList, List.cons_append, List.nil_append, Nat.add_zero]
      refine v_if_eq_f (tgt := 35) dX11_isSent_28 (by decide) (by decide) ?_
      refine v_iconst dX11_isSent_31 (c32 rfl) ?_
      refine v_goto (tgt := 36) dX11_isSent_32 (by decide) ?_
      refine v_iretz dX11_isSent_36 rfl (by decide) (Nat.le_refl _) (Nat.le_refl _) ?_
      exact q_5 c5_4 c5_5 c25_9 c25_10

set_option maxHeartbeats 4000000 in
set_option maxRecDepth 100000 in
theorem s_X11_ship {l : Launch} {G : GG} {d : Nat} {h : AH} {Q : Option AV → List Kd → AH → Prop} {p0 p1 p2 p3 p4 : Int} (hd : 4 ≤ d) (z0 : 0 ≤ (h 4 7)) (c0 : (h 4 7) ≤ 100) (z1 : 0 ≤ (h 41 12)) (c1 : (h 41 12) ≤ 100)
    (q_1 : p0 < 0 → Q (some (0, (-1))) K0 h)
    (q_2 : 0 ≤ p0 → ((h 41 12) - 1) < p0 → Q (some (0, (-1))) K0 h)
    (q_3 : 0 ≤ p0 → p0 ≤ ((h 41 12) - 1) → p1 < 1 → Q (some (0, (-1))) K0 h)
    (q_4 : 0 ≤ p0 → p0 ≤ ((h 41 12) - 1) → 1 ≤ p1 → (h 46 p0) < p1 → Q (some (0, (-1))) K0 h)
    (q_5 : 0 ≤ p0 → p0 ≤ ((h 41 12) - 1) → 1 ≤ p1 → p1 ≤ (h 46 p0) → p2 < 0 → Q (some (0, (-1))) K0 h)
    (q_6 : 0 ≤ p0 → p0 ≤ ((h 41 12) - 1) → 1 ≤ p1 → p1 ≤ (h 46 p0) → 0 ≤ p2 → 7 < p2 → Q (some (0, (-1))) K0 h)
    (q_7 : 0 ≤ p0 → p0 ≤ ((h 41 12) - 1) → 1 ≤ p1 → p1 ≤ (h 46 p0) → 0 ≤ p2 → p2 ≤ 7 → p3 < (-1) → Q (some (0, (-1))) K0 h)
    (q_8 : 0 ≤ p0 → p0 ≤ ((h 41 12) - 1) → 1 ≤ p1 → p1 ≤ (h 46 p0) → 0 ≤ p2 → p2 ≤ 7 → (-1) ≤ p3 → 3 < p3 → Q (some (0, (-1))) K0 h)
    (q_9 : 0 ≤ p0 → p0 ≤ ((h 41 12) - 1) → 1 ≤ p1 → p1 ≤ (h 46 p0) → 0 ≤ p2 → p2 ≤ 7 → (-1) ≤ p3 → p3 ≤ 3 → p4 < 0 → Q (some (0, (-1))) K0 h)
    (q_10 : 0 ≤ p0 → p0 ≤ ((h 41 12) - 1) → 1 ≤ p1 → p1 ≤ (h 46 p0) → 0 ≤ p2 → p2 ≤ 7 → (-1) ≤ p3 → p3 ≤ 3 → 0 ≤ p4 → 400 < p4 → Q (some (0, (-1))) K0 h)
    (q_11 : 0 ≤ p0 → p0 ≤ ((h 41 12) - 1) → 1 ≤ p1 → p1 ≤ (h 46 p0) → 0 ≤ p2 → p2 ≤ 7 → (-1) ≤ p3 → p3 ≤ 3 → 0 ≤ p4 → p4 ≤ 400 → (h 4 7) < 100 → Q (some (0, (((h 4 7) + 1) - 1))) K0 (hset (hset (hset (hset (hset (hset (hset (hset h 46 p0 (isub (h 46 p0) p1)) 64 (h 4 7) p0) 65 (h 4 7) p1) 66 (h 4 7) p2) 67 (h 4 7) p3) 68 (h 4 7) p4) 69 (h 4 7) (h 0 0)) 4 7 ((h 4 7) + 1)))
    (q_12 : 0 ≤ p0 → p0 ≤ ((h 41 12) - 1) → 1 ≤ p1 → p1 ≤ (h 46 p0) → 0 ≤ p2 → p2 ≤ 7 → (-1) ≤ p3 → p3 ≤ 3 → 0 ≤ p4 → p4 ≤ 400 → 100 ≤ (h 4 7) → Q (some (0, (-1))) K0 h) : Sp l G mX11_ship d 0 0 K0 [(2, 0), (0, p0), (0, p1), (0, p2), (0, p3), (0, p4)] h Q := by
  refine sp_of (L := [(2, 0), (0, p0), (0, p1), (0, p2), (0, p3), (0, p4), (9, 0)]) pl_X11 (Nat.le_of_ble_eq_true rfl) (tg_c (by decide) (tg_c (by decide) (tg_c (by decide) (tg_c (by decide) (tg_c (by decide) (tg_c (by decide) tg_0)))))) rfl ?_
  refine v_aload_n dX11_ship_0 rfl ?_
  refine v_getr (ci := 11) (j := 3) (ji := 3) (z := 41) dX11_ship_1 k_557 (by decide) kk_0 (by decide) rfl rfl (fun r => rt_0_3 (r rfl)) (by decide) ?_
  refine v_iload_n dX11_ship_4 rfl ?_
  refine v_iload_n dX11_ship_5 rfl ?_
  refine v_callv (M' := mX6_canTake) (d' := d - 1) (mc' := 0) (ms' := 0) (ci := 6) (c := 41) (As := [_, _]) dX11_ship_6 k_1061 cm_X6_canTake rfl (by omega) (by decide) kk_41 (Nat.le_of_ble_eq_true rfl) rfl ⟨Nat.le_refl _, Nat.le_refl _⟩ ?_
  refine s_X6_canTake (by omega) (by omega) (by omega) (fun c6_1 => ?_) (fun c6_2 c6_3 => ?_) (fun c6_4 c6_5 c6_6 => ?_) (fun c6_7 c6_8 c6_9 c6_10 => ?_) (fun c6_11 c6_12 c6_13 c6_14 => ?_)
  · dsimp only [Option.toList, List.cons_append, List.nil_append, Nat.add_zero]
    refine v_if_eq_t (tgt := 48) dX11_ship_9 (by decide) (by decide) ?_
    refine v_iconst dX11_ship_48 (c32 rfl) ?_
    refine v_istore_6 dX11_ship_49 (by decide) rfl ?_
    refine v_iload dX11_ship_51 rfl ?_
    refine v_if_eq_t (tgt := 77) dX11_ship_53 (by decide) (by decide) ?_
    refine v_iconst dX11_ship_77 (c32 rfl) ?_
    refine v_ireti dX11_ship_78 rfl (Nat.le_refl _) (Nat.le_refl _) ?_
    exact q_1 c6_1
  · dsimp only [Option.toList, List.cons_append, List.nil_append, Nat.add_zero]
    refine v_if_eq_t (tgt := 48) dX11_ship_9 (by decide) (by decide) ?_
    refine v_iconst dX11_ship_48 (c32 rfl) ?_
    refine v_istore_6 dX11_ship_49 (by decide) rfl ?_
    refine v_iload dX11_ship_51 rfl ?_
    refine v_if_eq_t (tgt := 77) dX11_ship_53 (by decide) (by decide) ?_
    refine v_iconst dX11_ship_77 (c32 rfl) ?_
    refine v_ireti dX11_ship_78 rfl (Nat.le_refl _) (Nat.le_refl _) ?_
    exact q_2 c6_2 c6_3
  · dsimp only [Option.toList, List.cons_append, List.nil_append, Nat.add_zero]
    refine v_if_eq_t (tgt := 48) dX11_ship_9 (by decide) (by decide) ?_
    refine v_iconst dX11_ship_48 (c32 rfl) ?_
    refine v_istore_6 dX11_ship_49 (by decide) rfl ?_
    refine v_iload dX11_ship_51 rfl ?_
    refine v_if_eq_t (tgt := 77) dX11_ship_53 (by decide) (by decide) ?_
    refine v_iconst dX11_ship_77 (c32 rfl) ?_
    refine v_ireti dX11_ship_78 rfl (Nat.le_refl _) (Nat.le_refl _) ?_
    exact q_3 c6_4 c6_5 c6_6
  · dsimp only [Option.toList, List.cons_append, List.nil_append, Nat.add_zero]
    refine v_if_eq_t (tgt := 48) dX11_ship_9 (by decide) (by decide) ?_
    refine v_iconst dX11_ship_48 (c32 rfl) ?_
    refine v_istore_6 dX11_ship_49 (by decide) rfl ?_
    refine v_iload dX11_ship_51 rfl ?_
    refine v_if_eq_t (tgt := 77) dX11_ship_53 (by decide) (by decide) ?_
    refine v_iconst dX11_ship_77 (c32 rfl) ?_
    refine v_ireti dX11_ship_78 rfl (Nat.le_refl _) (Nat.le_refl _) ?_
    exact q_4 c6_7 c6_8 c6_9 c6_10
  · dsimp only [Option.toList, List.cons_append, List.nil_append, Nat.add_zero]
    refine v_if_eq_f (tgt := 48) dX11_ship_9 (by decide) (by decide) ?_
    refine v_iload_n dX11_ship_12 rfl ?_
    refine v_iconst dX11_ship_13 (c32 rfl) ?_
    refine v_bipush dX11_ship_14 (c32 rfl) (by decide) ?_
    refine v_calls (M' := mX11_within) (d' := d - 1) (mc' := 0) (ms' := 0) (As := [_, _, _]) dX11_ship_16 k_586 cm_X11_within (by omega) (Nat.le_of_ble_eq_true rfl) rfl ⟨Nat.le_refl _, Nat.le_refl _⟩ ?_
    refine s_X11_within (by omega) (fun c16_15 => ?_) (fun c16_16 c16_17 => ?_) (fun c16_18 c16_19 => ?_)
    · dsimp only [Option.toList, List.cons_append, List.nil_append, Nat.add_zero]
      refine v_if_eq_t (tgt := 48) dX11_ship_19 (by decide) (by decide) ?_
      refine v_iconst dX11_ship_48 (c32 rfl) ?_
      refine v_istore_6 dX11_ship_49 (by decide) rfl ?_
      refine v_iload dX11_ship_51 rfl ?_
      refine v_if_eq_t (tgt := 77) dX11_ship_53 (by decide) (by decide) ?_
      refine v_iconst dX11_ship_77 (c32 rfl) ?_
      refine v_ireti dX11_ship_78 rfl (Nat.le_refl _) (Nat.le_refl _) ?_
      exact q_5 c6_11 c6_12 c6_13 c6_14 c16_15
    · dsimp only [Option.toList, List.cons_append, List.nil_append, Nat.add_zero]
      refine v_if_eq_t (tgt := 48) dX11_ship_19 (by decide) (by decide) ?_
      refine v_iconst dX11_ship_48 (c32 rfl) ?_
      refine v_istore_6 dX11_ship_49 (by decide) rfl ?_
      refine v_iload dX11_ship_51 rfl ?_
      refine v_if_eq_t (tgt := 77) dX11_ship_53 (by decide) (by decide) ?_
      refine v_iconst dX11_ship_77 (c32 rfl) ?_
      refine v_ireti dX11_ship_78 rfl (Nat.le_refl _) (Nat.le_refl _) ?_
      exact q_6 c6_11 c6_12 c6_13 c6_14 c16_16 c16_17
    · dsimp only [Option.toList, List.cons_append, List.nil_append, Nat.add_zero]
      refine v_if_eq_f (tgt := 48) dX11_ship_19 (by decide) (by decide) ?_
      refine v_iload dX11_ship_22 rfl ?_
      refine v_iconst dX11_ship_24 (c32 rfl) ?_
      refine v_iconst dX11_ship_25 (c32 rfl) ?_
      refine v_calls (M' := mX11_within) (d' := d - 1) (mc' := 0) (ms' := 0) (As := [_, _, _]) dX11_ship_26 k_586 cm_X11_within (by omega) (Nat.le_of_ble_eq_true rfl) rfl ⟨Nat.le_refl _, Nat.le_refl _⟩ ?_
      refine s_X11_within (by omega) (fun c26_20 => ?_) (fun c26_21 c26_22 => ?_) (fun c26_23 c26_24 => ?_)
      · dsimp only [Option.toList, List.cons_append, List.nil_append, Nat.add_zero]
        refine v_if_eq_t (tgt := 48) dX11_ship_29 (by decide) (by decide) ?_
        refine v_iconst dX11_ship_48 (c32 rfl) ?_
        refine v_istore_6 dX11_ship_49 (by decide) rfl ?_
        refine v_iload dX11_ship_51 rfl ?_
        refine v_if_eq_t (tgt := 77) dX11_ship_53 (by decide) (by decide) ?_
        refine v_iconst dX11_ship_77 (c32 rfl) ?_
        refine v_ireti dX11_ship_78 rfl (Nat.le_refl _) (Nat.le_refl _) ?_
        exact q_7 c6_11 c6_12 c6_13 c6_14 c16_18 c16_19 c26_20
      · dsimp only [Option.toList, List.cons_append, List.nil_append, Nat.add_zero]
        refine v_if_eq_t (tgt := 48) dX11_ship_29 (by decide) (by decide) ?_
        refine v_iconst dX11_ship_48 (c32 rfl) ?_
        refine v_istore_6 dX11_ship_49 (by decide) rfl ?_
        refine v_iload dX11_ship_51 rfl ?_
        refine v_if_eq_t (tgt := 77) dX11_ship_53 (by decide) (by decide) ?_
        refine v_iconst dX11_ship_77 (c32 rfl) ?_
        refine v_ireti dX11_ship_78 rfl (Nat.le_refl _) (Nat.le_refl _) ?_
        exact q_8 c6_11 c6_12 c6_13 c6_14 c16_18 c16_19 c26_21 c26_22
      · dsimp only [Option.toList, List.cons_append, List.nil_append, Nat.add_zero]
        refine v_if_eq_f (tgt := 48) dX11_ship_29 (by decide) (by decide) ?_
        refine v_iload dX11_ship_32 rfl ?_
        refine v_iconst dX11_ship_34 (c32 rfl) ?_
        refine v_sipush dX11_ship_35 (c32 rfl) (by decide) ?_
        refine v_calls (M' := mX11_within) (d' := d - 1) (mc' := 0) (ms' := 0) (As := [_, _, _]) dX11_ship_38 k_586 cm_X11_within (by omega) (Nat.le_of_ble_eq_true rfl) rfl ⟨Nat.le_refl _, Nat.le_refl _⟩ ?_
        refine s_X11_within (by omega) (fun c38_25 => ?_) (fun c38_26 c38_27 => ?_) (fun c38_28 c38_29 => ?_)
        · dsimp only [Option.toList, List.cons_append, List.nil_append, Nat.add_zero]
          refine v_if_eq_t (tgt := 48) dX11_ship_41 (by decide) (by decide) ?_
          refine v_iconst dX11_ship_48 (c32 rfl) ?_
          refine v_istore_6 dX11_ship_49 (by decide) rfl ?_
          refine v_iload dX11_ship_51 rfl ?_
          refine v_if_eq_t (tgt := 77) dX11_ship_53 (by decide) (by decide) ?_
          refine v_iconst dX11_ship_77 (c32 rfl) ?_
          refine v_ireti dX11_ship_78 rfl (Nat.le_refl _) (Nat.le_refl _) ?_
          exact q_9 c6_11 c6_12 c6_13 c6_14 c16_18 c16_19 c26_23 c26_24 c38_25
        · dsimp only [Option.toList, List.cons_append, List.nil_append, Nat.add_zero]
          refine v_if_eq_t (tgt := 48) dX11_ship_41 (by decide) (by decide) ?_
          refine v_iconst dX11_ship_48 (c32 rfl) ?_
          refine v_istore_6 dX11_ship_49 (by decide) rfl ?_
          refine v_iload dX11_ship_51 rfl ?_
          refine v_if_eq_t (tgt := 77) dX11_ship_53 (by decide) (by decide) ?_
          refine v_iconst dX11_ship_77 (c32 rfl) ?_
          refine v_ireti dX11_ship_78 rfl (Nat.le_refl _) (Nat.le_refl _) ?_
          exact q_10 c6_11 c6_12 c6_13 c6_14 c16_18 c16_19 c26_23 c26_24 c38_26 c38_27
        · dsimp only [Option.toList, List.cons_append, List.nil_append, Nat.add_zero]
          refine v_if_eq_f (tgt := 48) dX11_ship_41 (by decide) (by decide) ?_
          refine v_iconst dX11_ship_44 (c32 rfl) ?_
          refine v_goto (tgt := 49) dX11_ship_45 (by decide) ?_
          refine v_istore_6 dX11_ship_49 (by decide) rfl ?_
          refine v_iload dX11_ship_51 rfl ?_
          refine v_if_eq_f (tgt := 77) dX11_ship_53 (by decide) (by decide) ?_
          refine v_aload_n dX11_ship_56 rfl ?_
          refine v_getr (ci := 11) (j := 6) (ji := 6) (z := 4) dX11_ship_57 k_560 (by decide) kk_0 (by decide) rfl rfl (fun r => rt_0_6 (r rfl)) (by decide) ?_
          refine v_iload_n dX11_ship_60 rfl ?_
          refine v_iload_n dX11_ship_61 rfl ?_
          refine v_iload_n dX11_ship_62 rfl ?_
          refine v_iload dX11_ship_63 rfl ?_
          refine v_iload dX11_ship_65 rfl ?_
          refine v_aload_n dX11_ship_67 rfl ?_
          refine v_get (ci := 11) (j := 0) (ji := 0) (tg := 0) dX11_ship_68 k_554 (by decide) kk_0 (by decide) rfl rfl (by decide) ?_
          refine v_callv (M' := mX0_send) (d' := d - 1) (mc' := 0) (ms' := 0) (ci := 0) (c := 4) (As := [_, _, _, _, _, _]) dX11_ship_71 k_1062 cm_X0_send rfl (by omega) (by decide) kk_4 (Nat.le_of_ble_eq_true rfl) rfl ⟨Nat.le_refl _, Nat.le_refl _⟩ ?_
          refine s_X0_send (by omega) (by omega) (by omega) (by omega) (fun c71_30 => ?_) (fun c71_31 => ?_)
          · dsimp only [Option.toList, List.cons_append, List.nil_append, Nat.add_zero]
            refine v_goto (tgt := 78) dX11_ship_74 (by decide) ?_
            refine v_ireti dX11_ship_78 rfl (Nat.le_refl _) (Nat.le_refl _) ?_
            exact q_11 c6_11 c6_12 c6_13 c6_14 c16_18 c16_19 c26_23 c26_24 c38_28 c38_29 c71_30
          · dsimp only [Option.toList, List.cons_append, List.nil_append, Nat.add_zero]
            refine v_goto (tgt := 78) dX11_ship_74 (by decide) ?_
            refine v_ireti dX11_ship_78 rfl (Nat.le_refl _) (Nat.le_refl _) ?_
            exact q_12 c6_11 c6_12 c6_13 c6_14 c16_18 c16_19 c26_23 c26_24 c38_28 c38_29 c71_31

set_option maxHeartbeats 4000000 in
set_option maxRecDepth 100000 in
theorem s_X11_paper {l : Launch} {G : GG} {d : Nat} {h : AH} {Q : Option AV → List Kd → AH → Prop} {p0 p1 : Int} (hd : 3 ≤ d) (z0 : 0 ≤ (h 4 7)) (c0 : (h 4 7) ≤ 100) (z1 : 0 ≤ (h 70 3)) (c1 : (h 70 3) ≤ 100)
    (q_1 : p0 < 0 → Q (some (0, 0)) K0 h)
    (q_2 : 0 ≤ p0 → ((h 4 7) - 1) < p0 → Q (some (0, 0)) K0 h)
    (q_3 : 0 ≤ p0 → p0 ≤ ((h 4 7) - 1) → p1 < 0 → Q (some (0, 0)) K0 h)
    (q_4 : 0 ≤ p0 → p0 ≤ ((h 4 7) - 1) → 0 ≤ p1 → 2000 < p1 → Q (some (0, 0)) K0 h)
    (q_5 : 0 ≤ p0 → p0 ≤ ((h 4 7) - 1) → 0 ≤ p1 → p1 ≤ 2000 → (h 70 3) < 100 → Q (some (0, 1)) K0 (hset (hset (hset (hset h 71 (h 70 3) p0) 72 (h 70 3) p1) 73 (h 70 3) (h 0 0)) 70 3 ((h 70 3) + 1)))
    (q_6 : 0 ≤ p0 → p0 ≤ ((h 4 7) - 1) → 0 ≤ p1 → p1 ≤ 2000 → 100 ≤ (h 70 3) → Q (some (0, 0)) K0 h) : Sp l G mX11_paper d 0 0 K0 [(2, 0), (0, p0), (0, p1)] h Q := by
  refine sp_of (L := [(2, 0), (0, p0), (0, p1)]) pl_X11 (Nat.le_of_ble_eq_true rfl) (tg_c (by decide) (tg_c (by decide) (tg_c (by decide) tg_0))) rfl ?_
  refine v_aload_n dX11_paper_0 rfl ?_
  refine v_getr (ci := 11) (j := 6) (ji := 6) (z := 4) dX11_paper_1 k_560 (by decide) kk_0 (by decide) rfl rfl (fun r => rt_0_6 (r rfl)) (by decide) ?_
  refine v_iload_n dX11_paper_4 rfl ?_
  refine v_callv (M' := mX0_has) (d' := d - 1) (mc' := 0) (ms' := 0) (ci := 0) (c := 4) (As := [_]) dX11_paper_5 k_1070 cm_X0_has rfl (by omega) (by decide) kk_4 (Nat.le_of_ble_eq_true rfl) rfl ⟨Nat.le_refl _, Nat.le_refl _⟩ ?_
  refine s_X0_has (by omega) (by omega) (by omega) (fun c5_1 => ?_) (fun c5_2 c5_3 => ?_) (fun c5_4 c5_5 => ?_)
  · dsimp only [Option.toList, List.cons_append, List.nil_append, Nat.add_zero]
    refine v_if_eq_t (tgt := 45) dX11_paper_8 (by decide) (by decide) ?_
    refine v_iconst dX11_paper_45 (c32 rfl) ?_
    refine v_iretz dX11_paper_46 rfl (by decide) (Nat.le_refl _) (Nat.le_refl _) ?_
    exact q_1 c5_1
  · dsimp only [Option.toList, List.cons_append, List.nil_append, Nat.add_zero]
    refine v_if_eq_t (tgt := 45) dX11_paper_8 (by decide) (by decide) ?_
    refine v_iconst dX11_paper_45 (c32 rfl) ?_
    refine v_iretz dX11_paper_46 rfl (by decide) (Nat.le_refl _) (Nat.le_refl _) ?_
    exact q_2 c5_2 c5_3
  · dsimp only [Option.toList, List.cons_append, List.nil_append, Nat.add_zero]
    refine v_if_eq_f (tgt := 45) dX11_paper_8 (by decide) (by decide) ?_
    refine v_iload_n dX11_paper_11 rfl ?_
    refine v_iconst dX11_paper_12 (c32 rfl) ?_
    refine v_sipush dX11_paper_13 (c32 rfl) (by decide) ?_
    refine v_calls (M' := mX11_within) (d' := d - 1) (mc' := 0) (ms' := 0) (As := [_, _, _]) dX11_paper_16 k_586 cm_X11_within (by omega) (Nat.le_of_ble_eq_true rfl) rfl ⟨Nat.le_refl _, Nat.le_refl _⟩ ?_
    refine s_X11_within (by omega) (fun c16_6 => ?_) (fun c16_7 c16_8 => ?_) (fun c16_9 c16_10 => ?_)
    · dsimp only [Option.toList, List.cons_append, List.nil_append, Nat.add_zero]
      refine v_if_eq_t (tgt := 45) dX11_paper_19 (by decide) (by decide) ?_
      refine v_iconst dX11_paper_45 (c32 rfl) ?_
      refine v_iretz dX11_paper_46 rfl (by decide) (Nat.le_refl _) (Nat.le_refl _) ?_
      exact q_3 c5_4 c5_5 c16_6
    · dsimp only [Option.toList, List.cons_append, List.nil_append, Nat.add_zero]
      refine v_if_eq_t (tgt := 45) dX11_paper_19 (by decide) (by decide) ?_
      refine v_iconst dX11_paper_45 (c32 rfl) ?_
      refine v_iretz dX11_paper_46 rfl (by decide) (Nat.le_refl _) (Nat.le_refl _) ?_
      exact q_4 c5_4 c5_5 c16_7 c16_8
    · dsimp only [Option.toList, List.cons_append, List.nil_append, Nat.add_zero]
      refine v_if_eq_f (tgt := 45) dX11_paper_19 (by decide) (by decide) ?_
      refine v_aload_n dX11_paper_22 rfl ?_
      refine v_getr (ci := 11) (j := 6) (ji := 6) (z := 4) dX11_paper_23 k_560 (by decide) kk_0 (by decide) rfl rfl (fun r => rt_0_6 (r rfl)) (by decide) ?_
      refine v_getrN (ci := 0) (j := 8) (ji := 8) (z := 70) dX11_paper_26 k_384 (by decide) kk_4 (by decide) rfl rfl (fun r => rt_4_8 (r rfl)) (by decide) ?_
      refine v_iload_n dX11_paper_29 rfl ?_
      refine v_iload_n dX11_paper_30 rfl ?_
      refine v_aload_n dX11_paper_31 rfl ?_
      refine v_get (ci := 11) (j := 0) (ji := 0) (tg := 0) dX11_paper_32 k_554 (by decide) kk_0 (by decide) rfl rfl (by decide) ?_
      refine v_callv (M' := mX3_tell) (d' := d - 1) (mc' := 0) (ms' := 0) (ci := 3) (c := 70) (As := [_, _, _]) dX11_paper_35 k_915 cm_X3_tell rfl (by omega) (by decide) kk_70 (Nat.le_of_ble_eq_true rfl) rfl ⟨Nat.le_refl _, Nat.le_refl _⟩ ?_
      refine s_X3_tell_70 (by omega) (by omega) (by omega) (fun c35_11 => ?_) (fun c35_12 => ?_)
      · dsimp only [Option.toList, List.cons_append, List.nil_append, Nat.add_zero]
        refine v_if_eq_f (tgt := 45) dX11_paper_38 (by decide) (by decide) ?_
        refine v_iconst dX11_paper_41 (c32 rfl) ?_
        refine v_goto (tgt := 46) dX11_paper_42 (by decide) ?_
        refine v_iretz dX11_paper_46 rfl (by decide) (Nat.le_refl _) (Nat.le_refl _) ?_
        exact q_5 c5_4 c5_5 c16_9 c16_10 c35_11
      · dsimp only [Option.toList, List.cons_append, List.nil_append, Nat.add_zero]
        refine v_if_eq_t (tgt := 45) dX11_paper_38 (by decide) (by decide) ?_
        refine v_iconst dX11_paper_45 (c32 rfl) ?_
        refine v_iretz dX11_paper_46 rfl (by decide) (Nat.le_refl _) (Nat.le_refl _) ?_
        exact q_6 c5_4 c5_5 c16_9 c16_10 c35_12

set_option maxHeartbeats 4000000 in
set_option maxRecDepth 100000 in
theorem s_X11_line {l : Launch} {G : GG} {d : Nat} {h : AH} {Q : Option AV → List Kd → AH → Prop} {p0 p1 : Int} (hd : 3 ≤ d) (z0 : 0 ≤ (h 4 15)) (c0 : (h 4 15) ≤ 400)
    (q_1 : p0 < 0 → Q (some (1, (-1000000000000))) K0 h)
    (q_2 : 0 ≤ p0 → ((h 4 15) - 1) < p0 → Q (some (1, (-1000000000000))) K0 h)
    (q_3 : 0 ≤ p0 → p0 ≤ ((h 4 15) - 1) → (p1 < 0 ∨ 2 < p1) → Q (some (1, (-1000000000000))) K0 h)
    (q_4 : 0 ≤ p0 → p0 ≤ ((h 4 15) - 1) → p1 = 0 → Q (some (1, (h 77 p0))) K0 h)
    (q_5 : 0 ≤ p0 → p0 ≤ ((h 4 15) - 1) → p1 = 1 → Q (some (1, (h 78 p0))) K0 h)
    (q_6 : 0 ≤ p0 → p0 ≤ ((h 4 15) - 1) → p1 = 2 → Q (some (1, (h 79 p0))) K0 h) : Sp l G mX11_line d 0 0 K0 [(2, 0), (0, p0), (0, p1)] h Q := by
  refine sp_of (L := [(2, 0), (0, p0), (0, p1)]) pl_X11 (Nat.le_of_ble_eq_true rfl) (tg_c (by decide) (tg_c (by decide) (tg_c (by decide) tg_0))) rfl ?_
  refine v_aload_n dX11_line_0 rfl ?_
  refine v_getr (ci := 11) (j := 6) (ji := 6) (z := 4) dX11_line_1 k_560 (by decide) kk_0 (by decide) rfl rfl (fun r => rt_0_6 (r rfl)) (by decide) ?_
  refine v_iload_n dX11_line_4 rfl ?_
  refine v_iload_n dX11_line_5 rfl ?_
  refine v_callv (M' := mX0_factOfLine) (d' := d - 1) (mc' := 0) (ms' := 0) (ci := 0) (c := 4) (As := [_, _]) dX11_line_6 k_1161 cm_X0_factOfLine rfl (by omega) (by decide) kk_4 (Nat.le_of_ble_eq_true rfl) rfl ⟨Nat.le_refl _, Nat.le_refl _⟩ ?_
  refine s_X0_factOfLine (by omega) (by omega) (by omega) (fun c6_1 => ?_) (fun c6_2 c6_3 => ?_) (fun c6_4 c6_5 c6_6 => ?_) (fun c6_7 c6_8 c6_9 => ?_) (fun c6_10 c6_11 c6_12 => ?_) (fun c6_13 c6_14 c6_15 => ?_)
  · dsimp only [Option.toList, List.cons_append, List.nil_append, Nat.add_zero]
    refine v_lret dX11_line_9 rfl (Nat.le_refl _) (Nat.le_refl _) ?_
    exact q_1 c6_1
  · dsimp only [Option.toList, List.cons_append, List.nil_append, Nat.add_zero]
    refine v_lret dX11_line_9 rfl (Nat.le_refl _) (Nat.le_refl _) ?_
    exact q_2 c6_2 c6_3
  · dsimp only [Option.toList, List.cons_append, List.nil_append, Nat.add_zero]
    refine v_lret dX11_line_9 rfl (Nat.le_refl _) (Nat.le_refl _) ?_
    exact q_3 c6_4 c6_5 c6_6
  · dsimp only [Option.toList, List.cons_append, List.nil_append, Nat.add_zero]
    refine v_lret dX11_line_9 rfl (Nat.le_refl _) (Nat.le_refl _) ?_
    exact q_4 c6_7 c6_8 c6_9
  · dsimp only [Option.toList, List.cons_append, List.nil_append, Nat.add_zero]
    refine v_lret dX11_line_9 rfl (Nat.le_refl _) (Nat.le_refl _) ?_
    exact q_5 c6_10 c6_11 c6_12
  · dsimp only [Option.toList, List.cons_append, List.nil_append, Nat.add_zero]
    refine v_lret dX11_line_9 rfl (Nat.le_refl _) (Nat.le_refl _) ?_
    exact q_6 c6_13 c6_14 c6_15

set_option maxHeartbeats 4000000 in
set_option maxRecDepth 100000 in
theorem s_X11_word {l : Launch} {G : GG} {d : Nat} {h : AH} {Q : Option AV → List Kd → AH → Prop} {p0 p1 : Int} (hd : 3 ≤ d) (z0 : 0 ≤ (h 97 2)) (c0 : (h 97 2) ≤ 60) (z1 : 0 ≤ (h 41 12)) (c1 : (h 41 12) ≤ 100)
    (q_1 : p0 < 0 → Q (some (0, (-1))) K0 h)
    (q_2 : 0 ≤ p0 → ((h 41 12) - 1) < p0 → Q (some (0, (-1))) K0 h)
    (q_3 : 0 ≤ p0 → p0 ≤ ((h 41 12) - 1) → p1 < 1 → Q (some (0, (-1))) K0 h)
    (q_4 : 0 ≤ p0 → p0 ≤ ((h 41 12) - 1) → 1 ≤ p1 → 10000 < p1 → Q (some (0, (-1))) K0 h)
    (q_5 : 0 ≤ p0 → p0 ≤ ((h 41 12) - 1) → 1 ≤ p1 → p1 ≤ 10000 → (h 97 2) < 60 → Q (some (0, (((h 97 2) + 1) - 1))) K0 (hset (hset (hset h 98 (h 97 2) p0) 99 (h 97 2) p1) 97 2 ((h 97 2) + 1)))
    (q_6 : 0 ≤ p0 → p0 ≤ ((h 41 12) - 1) → 1 ≤ p1 → p1 ≤ 10000 → 60 ≤ (h 97 2) → Q (some (0, (-1))) K0 h) : Sp l G mX11_word d 0 0 K0 [(2, 0), (0, p0), (0, p1)] h Q := by
  refine sp_of (L := [(2, 0), (0, p0), (0, p1)]) pl_X11 (Nat.le_of_ble_eq_true rfl) (tg_c (by decide) (tg_c (by decide) (tg_c (by decide) tg_0))) rfl ?_
  refine v_aload_n dX11_word_0 rfl ?_
  refine v_getr (ci := 11) (j := 3) (ji := 3) (z := 41) dX11_word_1 k_557 (by decide) kk_0 (by decide) rfl rfl (fun r => rt_0_3 (r rfl)) (by decide) ?_
  refine v_iload_n dX11_word_4 rfl ?_
  refine v_callv (M' := mX6_has) (d' := d - 1) (mc' := 0) (ms' := 0) (ci := 6) (c := 41) (As := [_]) dX11_word_5 k_914 cm_X6_has rfl (by omega) (by decide) kk_41 (Nat.le_of_ble_eq_true rfl) rfl ⟨Nat.le_refl _, Nat.le_refl _⟩ ?_
  refine s_X6_has (by omega) (by omega) (by omega) (fun c5_1 => ?_) (fun c5_2 c5_3 => ?_) (fun c5_4 c5_5 => ?_)
  · dsimp only [Option.toList, List.cons_append, List.nil_append, Nat.add_zero]
    refine v_if_eq_t (tgt := 34) dX11_word_8 (by decide) (by decide) ?_
    refine v_iconst dX11_word_34 (c32 rfl) ?_
    refine v_ireti dX11_word_35 rfl (Nat.le_refl _) (Nat.le_refl _) ?_
    exact q_1 c5_1
  · dsimp only [Option.toList, List.cons_append, List.nil_append, Nat.add_zero]
    refine v_if_eq_t (tgt := 34) dX11_word_8 (by decide) (by decide) ?_
    refine v_iconst dX11_word_34 (c32 rfl) ?_
    refine v_ireti dX11_word_35 rfl (Nat.le_refl _) (Nat.le_refl _) ?_
    exact q_2 c5_2 c5_3
  · dsimp only [Option.toList, List.cons_append, List.nil_append, Nat.add_zero]
    refine v_if_eq_f (tgt := 34) dX11_word_8 (by decide) (by decide) ?_
    refine v_iload_n dX11_word_11 rfl ?_
    refine v_iconst dX11_word_12 (c32 rfl) ?_
    refine v_sipush dX11_word_13 (c32 rfl) (by decide) ?_
    refine v_calls (M' := mX11_within) (d' := d - 1) (mc' := 0) (ms' := 0) (As := [_, _, _]) dX11_word_16 k_586 cm_X11_within (by omega) (Nat.le_of_ble_eq_true rfl) rfl ⟨Nat.le_refl _, Nat.le_refl _⟩ ?_
    refine s_X11_within (by omega) (fun c16_6 => ?_) (fun c16_7 c16_8 => ?_) (fun c16_9 c16_10 => ?_)
    · dsimp only [Option.toList, List.cons_append, List.nil_append, Nat.add_zero]
      refine v_if_eq_t (tgt := 34) dX11_word_19 (by decide) (by decide) ?_
      refine v_iconst dX11_word_34 (c32 rfl) ?_
      refine v_ireti dX11_word_35 rfl (Nat.le_refl _) (Nat.le_refl _) ?_
      exact q_3 c5_4 c5_5 c16_6
    · dsimp only [Option.toList, List.cons_append, List.nil_append, Nat.add_zero]
      refine v_if_eq_t (tgt := 34) dX11_word_19 (by decide) (by decide) ?_
      refine v_iconst dX11_word_34 (c32 rfl) ?_
      refine v_ireti dX11_word_35 rfl (Nat.le_refl _) (Nat.le_refl _) ?_
      exact q_4 c5_4 c5_5 c16_7 c16_8
    · dsimp only [Option.toList, List.cons_append, List.nil_append, Nat.add_zero]
      refine v_if_eq_f (tgt := 34) dX11_word_19 (by decide) (by decide) ?_
      refine v_aload_n dX11_word_22 rfl ?_
      refine v_getr (ci := 11) (j := 8) (ji := 8) (z := 97) dX11_word_23 k_562 (by decide) kk_0 (by decide) rfl rfl (fun r => rt_0_8 (r rfl)) (by decide) ?_
      refine v_iload_n dX11_word_26 rfl ?_
      refine v_iload_n dX11_word_27 rfl ?_
      refine v_callv (M' := mX9_add) (d' := d - 1) (mc' := 0) (ms' := 0) (ci := 9) (c := 97) (As := [_, _]) dX11_word_28 k_1268 cm_X9_add rfl (by omega) (by decide) kk_97 (Nat.le_of_ble_eq_true rfl) rfl ⟨Nat.le_refl _, Nat.le_refl _⟩ ?_
      refine s_X9_add (by omega) (by omega) (by omega) (fun c28_11 => ?_) (fun c28_12 => ?_)
      · dsimp only [Option.toList, List.cons_append, List.nil_append, Nat.add_zero]
        refine v_goto (tgt := 35) dX11_word_31 (by decide) ?_
        refine v_ireti dX11_word_35 rfl (Nat.le_refl _) (Nat.le_refl _) ?_
        exact q_5 c5_4 c5_5 c16_9 c16_10 c28_11
      · dsimp only [Option.toList, List.cons_append, List.nil_append, Nat.add_zero]
        refine v_goto (tgt := 35) dX11_word_31 (by decide) ?_
        refine v_ireti dX11_word_35 rfl (Nat.le_refl _) (Nat.le_refl _) ?_
        exact q_6 c5_4 c5_5 c16_9 c16_10 c28_12

set_option maxHeartbeats 4000000 in
set_option maxRecDepth 100000 in
theorem s_X11_entry {l : Launch} {G : GG} {d : Nat} {h : AH} {Q : Option AV → List Kd → AH → Prop} {p0 p1 p2 : Int} (hd : 3 ≤ d) (z0 : 0 ≤ (h 41 12)) (c0 : (h 41 12) ≤ 100) (e0 : ∀ j, 0 ≤ j → j < 100 → 0 ≤ (h 50) j ∧ (h 50) j ≤ 6)
    (q_1 : p0 < 0 → Q (some (0, (-1))) K0 h)
    (q_2 : 0 ≤ p0 → ((h 41 12) - 1) < p0 → Q (some (0, (-1))) K0 h)
    (q_3 : 0 ≤ p0 → p0 ≤ ((h 41 12) - 1) → p1 < 0 → Q (some (0, (-1))) K0 h)
    (q_4 : 0 ≤ p0 → p0 ≤ ((h 41 12) - 1) → 0 ≤ p1 → ((h 50 p0) - 1) < p1 → Q (some (0, (-1))) K0 h)
    (q_5 : 0 ≤ p0 → p0 ≤ ((h 41 12) - 1) → 0 ≤ p1 → p1 ≤ ((h 50 p0) - 1) → p2 ≠ 0 ∧ p2 ≠ 1 → Q (some (0, (-1))) K0 h)
    (q_6 : 0 ≤ p0 → p0 ≤ ((h 41 12) - 1) → 0 ≤ p1 → p1 ≤ ((h 50 p0) - 1) → p2 = 0 → Q (some (0, (h 51 ((p0 * 6) + p1)))) K0 h)
    (q_7 : 0 ≤ p0 → p0 ≤ ((h 41 12) - 1) → 0 ≤ p1 → p1 ≤ ((h 50 p0) - 1) → p2 = 1 → Q (some (0, (h 52 ((p0 * 6) + p1)))) K0 h) : Sp l G mX11_entry d 0 0 K0 [(2, 0), (0, p0), (0, p1), (0, p2)] h Q := by
  refine sp_of (L := [(2, 0), (0, p0), (0, p1), (0, p2)]) pl_X11 (Nat.le_of_ble_eq_true rfl) (tg_c (by decide) (tg_c (by decide) (tg_c (by decide) (tg_c (by decide) tg_0)))) rfl ?_
  refine v_aload_n dX11_entry_0 rfl ?_
  refine v_getr (ci := 11) (j := 3) (ji := 3) (z := 41) dX11_entry_1 k_557 (by decide) kk_0 (by decide) rfl rfl (fun r => rt_0_3 (r rfl)) (by decide) ?_
  refine v_iload_n dX11_entry_4 rfl ?_
  refine v_callv (M' := mX6_has) (d' := d - 1) (mc' := 0) (ms' := 0) (ci := 6) (c := 41) (As := [_]) dX11_entry_5 k_914 cm_X6_has rfl (by omega) (by decide) kk_41 (Nat.le_of_ble_eq_true rfl) rfl ⟨Nat.le_refl _, Nat.le_refl _⟩ ?_
  refine s_X6_has (by omega) (by omega) (by omega) (fun c5_1 => ?_) (fun c5_2 c5_3 => ?_) (fun c5_4 c5_5 => ?_)
  · dsimp only [Option.toList, List.cons_append, List.nil_append, Nat.add_zero]
    refine v_if_eq_t (tgt := 30) dX11_entry_8 (by decide) (by decide) ?_
    refine v_iconst dX11_entry_30 (c32 rfl) ?_
    refine v_ireti dX11_entry_31 rfl (Nat.le_refl _) (Nat.le_refl _) ?_
    exact q_1 c5_1
  · dsimp only [Option.toList, List.cons_append, List.nil_append, Nat.add_zero]
    refine v_if_eq_t (tgt := 30) dX11_entry_8 (by decide) (by decide) ?_
    refine v_iconst dX11_entry_30 (c32 rfl) ?_
    refine v_ireti dX11_entry_31 rfl (Nat.le_refl _) (Nat.le_refl _) ?_
    exact q_2 c5_2 c5_3
  · dsimp only [Option.toList, List.cons_append, List.nil_append, Nat.add_zero]
    refine v_if_eq_f (tgt := 30) dX11_entry_8 (by decide) (by decide) ?_
    have h6 := e0 p0 (by omega) (by omega)
    refine v_iload_n dX11_entry_11 rfl ?_
    refine v_iconst dX11_entry_12 (c32 rfl) ?_
    refine v_aload_n dX11_entry_13 rfl ?_
    refine v_getr (ci := 11) (j := 3) (ji := 3) (z := 41) dX11_entry_14 k_557 (by decide) kk_0 (by decide) rfl rfl (fun r => rt_0_3 (r rfl)) (by decide) ?_
    refine v_getrN (ci := 6) (j := 8) (ji := 8) (z := 50) dX11_entry_17 k_313 (by decide) kk_41 (by decide) rfl rfl (fun r => rt_41_8 (r rfl)) (by decide) ?_
    refine v_iload_n dX11_entry_20 rfl ?_
    refine v_iaload dX11_entry_21 (by decide) kk_50 (by omega) (by omega) ?_
    refine v_iconst dX11_entry_22 (c32 rfl) ?_
    refine v_isubE dX11_entry_23 (by omega) ?_
    refine v_calls (M' := mX11_within) (d' := d - 1) (mc' := 0) (ms' := 0) (As := [_, _, _]) dX11_entry_24 k_586 cm_X11_within (by omega) (Nat.le_of_ble_eq_true rfl) rfl ⟨Nat.le_refl _, Nat.le_refl _⟩ ?_
    refine s_X11_within (by omega) (fun c24_6 => ?_) (fun c24_7 c24_8 => ?_) (fun c24_9 c24_10 => ?_)
    · dsimp only [Option.toList, List.cons_append, List.nil_append, Nat.add_zero]
      refine v_if_ne_f (tgt := 32) dX11_entry_27 (by decide) (by decide) ?_
      refine v_iconst dX11_entry_30 (c32 rfl) ?_
      refine v_ireti dX11_entry_31 rfl (Nat.le_refl _) (Nat.le_refl _) ?_
      exact q_3 c5_4 c5_5 c24_6
    · dsimp only [Option.toList, List.cons_append, List.nil_append, Nat.add_zero]
      refine v_if_ne_f (tgt := 32) dX11_entry_27 (by decide) (by decide) ?_
      refine v_iconst dX11_entry_30 (c32 rfl) ?_
      refine v_ireti dX11_entry_31 rfl (Nat.le_refl _) (Nat.le_refl _) ?_
      exact q_4 c5_4 c5_5 c24_7 c24_8
    · dsimp only [Option.toList, List.cons_append, List.nil_append, Nat.add_zero]
      refine v_if_ne_t (tgt := 32) dX11_entry_27 (by decide) (by decide) ?_
      refine v_iload_n dX11_entry_32 rfl ?_
      rcases (show (p2 ≠ 0 ∧ p2 ≠ 1) ∨ p2 = 0 ∨ p2 = 1 by omega) with c33_11 | c33_11 | c33_11
      · refine v_lsw (off := 47) (tgt := 80) dX11_entry_33 (by decide) (by show Op.lookupswitch.offset [(0, 27), (1, 37)] 47 p2 = 47; rw [Op.lookupswitch.offset_cons, if_neg (by omega), Op.lookupswitch.offset_cons, if_neg (by omega), Op.lookupswitch.offset_nil]) (by decide) ?_
        refine v_iconst dX11_entry_80 (c32 rfl) ?_
        refine v_ireti dX11_entry_81 rfl (Nat.le_refl _) (Nat.le_refl _) ?_
        exact q_5 c5_4 c5_5 c24_9 c24_10 c33_11
      · refine v_lsw (off := 27) (tgt := 60) dX11_entry_33 (by decide) (by rw [c33_11]; decide) (by decide) ?_
        refine v_aload_n dX11_entry_60 rfl ?_
        refine v_getr (ci := 11) (j := 3) (ji := 3) (z := 41) dX11_entry_61 k_557 (by decide) kk_0 (by decide) rfl rfl (fun r => rt_0_3 (r rfl)) (by decide) ?_
        refine v_iload_n dX11_entry_64 rfl ?_
        refine v_iload_n dX11_entry_65 rfl ?_
        refine v_callv (M' := mX6_partOf) (d' := d - 1) (mc' := 0) (ms' := 0) (ci := 6) (c := 41) (As := [_, _]) dX11_entry_66 k_935 cm_X6_partOf rfl (by omega) (by decide) kk_41 (Nat.le_of_ble_eq_true rfl) rfl ⟨Nat.le_refl _, Nat.le_refl _⟩ ?_
        refine s_X6_partOf (by omega) (by omega) (by omega) ?_
        dsimp only [Option.toList, List.cons_append, List.nil_append, Nat.add_zero]
        refine v_ireti dX11_entry_69 rfl (Nat.le_refl _) (Nat.le_refl _) ?_
        exact q_6 c5_4 c5_5 c24_9 c24_10 c33_11
      · refine v_lsw (off := 37) (tgt := 70) dX11_entry_33 (by decide) (by rw [c33_11]; decide) (by decide) ?_
        refine v_aload_n dX11_entry_70 rfl ?_
        refine v_getr (ci := 11) (j := 3) (ji := 3) (z := 41) dX11_entry_71 k_557 (by decide) kk_0 (by decide) rfl rfl (fun r => rt_0_3 (r rfl)) (by decide) ?_
        refine v_iload_n dX11_entry_74 rfl ?_
        refine v_iload_n dX11_entry_75 rfl ?_
        refine v_callv (M' := mX6_manyOf) (d' := d - 1) (mc' := 0) (ms' := 0) (ci := 6) (c := 41) (As := [_, _]) dX11_entry_76 k_939 cm_X6_manyOf rfl (by omega) (by decide) kk_41 (Nat.le_of_ble_eq_true rfl) rfl ⟨Nat.le_refl _, Nat.le_refl _⟩ ?_
        refine s_X6_manyOf (by omega) (by omega) (by omega) ?_
        dsimp only [Option.toList, List.cons_append, List.nil_append, Nat.add_zero]
        refine v_ireti dX11_entry_79 rfl (Nat.le_refl _) (Nat.le_refl _) ?_
        exact q_7 c5_4 c5_5 c24_9 c24_10 c33_11

