/-! ===== the class: shipments judged (written by wip/whole/p50.py) ===== -/
set_option maxHeartbeats 4000000 in
set_option maxRecDepth 100000 in
theorem lp_cclaim {l : Launch} {G : GG} {d : Nat} {h F : AH} {Q : Option AV → List Kd → AH → Prop} {cs : Int → List (Int × List Int)} {w : Int} (hd : 1 ≤ d) (I : CI h cs) (q1 : (∃ t, 0 ≤ t ∧ t < h 116 65 ∧ h 153 t = w) → Q (some (0, 1)) K0 (cst h F)) (q0 : (∀ t, 0 ≤ t → t < h 116 65 → h 153 t ≠ w) → Q (some (0, 0)) K0 (cst h F)) : ∀ k, 0 ≤ k → k ≤ h 116 65 → (∀ t, 0 ≤ t → t < k → h 153 t ≠ w) → V l G mX0_isClaimed d 0 0 0 0 K0 2 [(2, 4), (0, w), (0, k)] [] (cst h F) Q := by
  have ns := I.S.1
  refine loop_m3 (fun k hk hkN ih hn => ?_)
  refine v_iload_n dX0_isClaimed_2 rfl ?_
  refine v_aload_n dX0_isClaimed_3 rfl ?_
  refine v_getv (ci := 0) (j := 7) (ji := 7) (tg := 0) dX0_isClaimed_4 k_381 (by decide) kk_4 (by decide) rfl rfl (by decide) ((cst_n (by decide)).trans (I.f4_7)) ?_
  refine v_icmp_ge (tgt := 28) dX0_isClaimed_7 (by decide) (fun c7_1 => ?_) (fun c7_1 => ?_)
  · refine v_iconst dX0_isClaimed_28 (c32 rfl) ?_
    refine v_iretz dX0_isClaimed_29 rfl (by decide) (Nat.le_refl _) (Nat.le_refl _) ?_
    exact q0 (fun t t0 t1 => hn t t0 (by omega))
  · refine v_aload_n dX0_isClaimed_10 rfl ?_
    refine v_getr (ci := 0) (j := 4) (ji := 4) (z := 67) dX0_isClaimed_11 k_377 (by decide) kk_4 (by decide) rfl rfl (fun r => rt_4_4 (r rfl)) (by decide) ?_
    refine v_iload_n dX0_isClaimed_14 rfl ?_
    refine v_ialoadv dX0_isClaimed_15 (by decide) kk_67 (by omega) (by omega) ((cst_n (by decide)).trans ((congrFun I.e67 k))) ?_
    refine v_iload_n dX0_isClaimed_16 rfl ?_
    refine v_icmp_ne (tgt := 22) dX0_isClaimed_17 (by decide) (fun c17_2 => ?_) (fun c17_2 => ?_)
    · refine v_iinc_2 dX0_isClaimed_22 (by decide) rfl ?_
      rw [iadd_eq (x := k) (y := 1) (by unfold ok32; omega)]
      refine v_goto (tgt := 2) dX0_isClaimed_25 (by decide) ?_
      exact ih (by omega) (fun t t0 t1 => by
        by_cases e : t = k
        · subst e; assumption
        · exact hn t t0 (by omega))
    · refine v_iconst dX0_isClaimed_20 (c32 rfl) ?_
      refine v_iretz dX0_isClaimed_21 rfl (by decide) (Nat.le_refl _) (Nat.le_refl _) ?_
      exact q1 ⟨k, hk, by omega, by assumption⟩

set_option maxHeartbeats 4000000 in
set_option maxRecDepth 100000 in
theorem s_cclaim {l : Launch} {G : GG} {d : Nat} {h F : AH} {Q : Option AV → List Kd → AH → Prop} {cs : Int → List (Int × List Int)} {w : Int} (hd : 1 ≤ d) (I : CI h cs) (q1 : (∃ t, 0 ≤ t ∧ t < h 116 65 ∧ h 153 t = w) → Q (some (0, 1)) K0 (cst h F)) (q0 : (∀ t, 0 ≤ t → t < h 116 65 → h 153 t ≠ w) → Q (some (0, 0)) K0 (cst h F)) : Sp l G mX0_isClaimed d 0 0 K0 [(2, 4), (0, w)] (cst h F) Q := by
  refine sp_of (L := [(2, 4), (0, w), (9, 0)]) pl_X0 (Nat.le_of_ble_eq_true rfl) (tg_c (by decide) (tg_c (by decide) tg_0)) rfl ?_
  refine v_iconst dX0_isClaimed_0 (c32 rfl) ?_
  refine v_istore_n_2 dX0_isClaimed_1 (by decide) rfl ?_
  exact lp_cclaim hd I q1 q0 0 (Int.le_refl _) I.S.1.1 (fun t t0 t1 => by omega)

/-- what a judging of the shipments leaves -/
def SO (h : AH) (cs : Int → List (Int × List Int)) (q k : Int) (F : AH) : Prop := ∀ w, 0 ≤ w → w < k → (∃ t, 0 ≤ t ∧ t < h 116 65 ∧ h 153 t = w) → (∀ b, 0 ≤ b → b < h 116 45 → h 134 b ≤ q → F (58 + w) b = own h cs w q (-1) b) ∧ ∀ e, 0 ≤ e → e < h 116 45 → F 63 e = prc h q e
def SJ (h : AH) (cs : Int → List (Int × List Int)) (q : Int) (F : AH) : Prop := SO h cs q 4 F ∧ ∀ s, 0 ≤ s → s < h 116 65 → h 155 s ≤ q → F 75 s = stF h cs s q
section SOS
variable {h F F' : AH} {cs : Int → List (Int × List Int)} {q k : Int}
theorem SO_1 (J : SO h cs q k F) (hk : 0 ≤ k ∧ k < 4) (j : JD h cs k q (-1) k F F') : SO h cs q (k + 1) F' := fun w w0 w1 hc => by
  refine ⟨fun b b0 b1 b2 => ?_, j.2.2.1⟩
  by_cases e : w = k
  · subst e; exact j.2.2.2 b b0 b1 b2
  · rw [j.2.1 (58 + w) (by omega) (by omega) (by omega)]
    exact (J w w0 (by omega) hc).1 b b0 b1 b2
theorem SO_0 (J : SO h cs q k F) (hn : ∀ t, 0 ≤ t → t < h 116 65 → h 153 t ≠ k) : SO h cs q (k + 1) F := fun w w0 w1 hc => by
  by_cases e : w = k
  · subst e
    obtain ⟨t, t0, t1, t2⟩ := hc
    exact absurd t2 (hn t t0 t1)
  · exact J w w0 (by omega) hc
theorem SO_f (J : SO h cs q k F) (hk : k ≤ 4) (a : Fr 2 F F') : SO h cs q k F' := fun w w0 w1 hc => by
  refine ⟨fun b b0 b1 b2 => ?_, fun e e0 e1 => ?_⟩
  · rw [a.own ⟨by omega, by omega⟩ (by decide)]
    exact (J w w0 w1 hc).1 b b0 b1 b2
  · rw [a 63 e (Nat.le_of_ble_eq_true rfl)]
    exact (J w w0 w1 hc).2 e e0 e1
theorem SO_75 {x : Int} {s : Int} (J : SO h cs q k F) (hk : k ≤ 4) : SO h cs q k (hset F 75 s x) := fun w w0 w1 hc => by
  refine ⟨fun b b0 b1 b2 => ?_, fun e e0 e1 => ?_⟩
  · rw [hset_c (by omega)]; exact (J w w0 w1 hc).1 b b0 b1 b2
  · rw [hset_c (by decide)]; exact (J w w0 w1 hc).2 e e0 e1
end SOS

set_option maxHeartbeats 4000000 in
set_option maxRecDepth 100000 in
theorem lp_cbj2 {l : Launch} {G : GG} {d : Nat} {h : AH} {Q : Option AV → List Kd → AH → Prop} {cs : Int → List (Int × List Int)} {F0 : AH} {q : Int} (hd : 7 ≤ d) (I : CI h cs) (hq1 : q ≤ h 116 1) (hq : ∀ F', Fr 5 F0 F' → SJ h cs q F' → Q none K0 (cst h F')) : ∀ k, 0 ≤ k → k ≤ h 116 65 → ∀ F : AH, Fr 5 F0 F → SO h cs q 4 F → (∀ t, 0 ≤ t → t < k → F 75 t = stF h cs t q) → V l G mX0_judge d 0 0 0 0 K0 33 [(2, 4), (0, q), (0, k)] [] (cst h F) Q := by
  have nb := I.W.nb
  have ns := I.S.1
  refine loop_m3 (fun k hk hkN ih F hF J hst => ?_)
  refine v_iload_n dX0_judge_33 rfl ?_
  refine v_aload_n dX0_judge_34 rfl ?_
  refine v_getv (ci := 0) (j := 7) (ji := 7) (tg := 0) dX0_judge_35 k_381 (by decide) kk_4 (by decide) rfl rfl (by decide) ((cst_n (by decide)).trans (I.f4_7)) ?_
  refine v_icmp_ge (tgt := 69) dX0_judge_38 (by decide) (fun c38_1 => ?_) (fun c38_1 => ?_)
  · refine v_vret dX0_judge_69 rfl (Nat.le_refl _) (Nat.le_refl _) ?_
    exact hq _ hF ⟨J, fun t t0 t1 _ => hst t t0 (by omega)⟩
  · refine v_aload_n dX0_judge_41 rfl ?_
    refine v_getr (ci := 0) (j := 6) (ji := 6) (z := 69) dX0_judge_42 k_379 (by decide) kk_4 (by decide) rfl rfl (fun r => rt_4_6 (r rfl)) (by decide) ?_
    refine v_iload_n dX0_judge_45 rfl ?_
    refine v_ialoadv dX0_judge_46 (by decide) kk_69 (by omega) (by omega) ((cst_n (by decide)).trans ((congrFun I.e69 k))) ?_
    refine v_iload_n dX0_judge_47 rfl ?_
    refine v_icmp_gt (tgt := 69) dX0_judge_48 (by decide) (fun c48_2 => ?_) (fun c48_2 => ?_)
    · refine v_vret dX0_judge_69 rfl (Nat.le_refl _) (Nat.le_refl _) ?_
      exact hq _ hF ⟨J, fun t t0 t1 t2 => hst t t0 (by
        by_cases z : t < k
        · exact z
        · have := I.m155.1 k t hk (by omega) t1; omega)⟩
    · have sk9 := I.S.2.2.1 k hk (by omega)
      have sd9 := I.sd k hk (by omega)
      refine v_aload_n dX0_judge_51 rfl ?_
      refine v_getr (ci := 0) (j := 10) (ji := 10) (z := 75) dX0_judge_52 k_386 (by decide) kk_4 (by decide) rfl rfl (fun r => rt_4_10 (r rfl)) (by decide) ?_
      refine v_iload_n dX0_judge_55 rfl ?_
      refine v_aload_n dX0_judge_56 rfl ?_
      refine v_iload_n dX0_judge_57 rfl ?_
      refine v_iload_n dX0_judge_58 rfl ?_
      refine v_callv (M' := mX0_findState) (d' := d - 1) (mc' := 0) (ms' := 0) (ci := 0) (c := 4) (As := [_, _]) dX0_judge_59 k_1092 cm_X0_findState rfl (by omega) (by decide) kk_4 (Nat.le_of_ble_eq_true rfl) rfl ⟨Nat.le_refl _, Nat.le_refl _⟩ ?_
      refine s_cfindState (by omega) I ⟨by omega, by omega⟩ (by omega) (fun z => (J _ (by omega) (by omega) ⟨k, hk, by omega, rfl⟩).1 _ sk9.1.1 sk9.1.2 (by omega)) hst (fun xf_3 c59_3 => ?_)
      dsimp only [Option.toList, List.cons_append, List.nil_append, Nat.add_zero]
      refine v_iastore dX0_judge_62 (by decide) kk_75 (by omega) (by omega) ?_
      rw [cst_w1 (by decide)]
      refine v_iinc_2 dX0_judge_63 (by decide) rfl ?_
      rw [iadd_eq (x := k) (y := 1) (by unfold ok32; omega)]
      refine v_goto (tgt := 33) dX0_judge_66 (by decide) ?_
      exact ih (by omega) _ (Fr_t (Fr_t hF (Fr_m (by decide) c59_3)) (Fr_s (Nat.le_of_ble_eq_true rfl))) (SO_75 (SO_f J (by omega) c59_3) (by decide)) (fun t t0 t1 => by
        by_cases e : t = k
        · subst e; rw [hset_same]
        · rw [hset_j e, c59_3 75 t (Nat.le_of_ble_eq_true rfl)]; exact hst t t0 (by omega))

set_option maxHeartbeats 4000000 in
set_option maxRecDepth 100000 in
theorem lp_cbj1 {l : Launch} {G : GG} {d : Nat} {h : AH} {Q : Option AV → List Kd → AH → Prop} {cs : Int → List (Int × List Int)} {F0 : AH} {q : Int} (hd : 7 ≤ d) (I : CI h cs) (hq1 : q ≤ h 116 1) (hq : ∀ F', Fr 5 F0 F' → SJ h cs q F' → Q none K0 (cst h F')) : ∀ k, 0 ≤ k → k ≤ 4 → ∀ F : AH, Fr 5 F0 F → SO h cs q k F → V l G mX0_judge d 0 0 0 0 K0 2 [(2, 4), (0, q), (0, k)] [] (cst h F) Q := by
  have nb := I.W.nb
  have ns := I.S.1
  refine loop_m3 (fun k hk hkN ih F hF J => ?_)
  refine v_iload_n dX0_judge_2 rfl ?_
  refine v_iconst dX0_judge_3 (c32 rfl) ?_
  refine v_icmp_ge (tgt := 31) dX0_judge_4 (by decide) (fun c4_1 => ?_) (fun c4_1 => ?_)
  · refine v_iconst dX0_judge_31 (c32 rfl) ?_
    refine v_istore_n_2 dX0_judge_32 (by decide) rfl ?_
    obtain rfl : k = 4 := by omega
    exact lp_cbj2 hd I hq1 hq 0 (Int.le_refl _) ns.1 _ hF J (fun t t0 t1 => by omega)
  · refine v_aload_n dX0_judge_7 rfl ?_
    refine v_iload_n dX0_judge_8 rfl ?_
    refine v_callv (M' := mX0_isClaimed) (d' := d - 1) (mc' := 0) (ms' := 0) (ci := 0) (c := 4) (As := [_]) dX0_judge_9 k_1087 cm_X0_isClaimed rfl (by omega) (by decide) kk_4 (Nat.le_of_ble_eq_true rfl) rfl ⟨Nat.le_refl _, Nat.le_refl _⟩ ?_
    refine s_cclaim (by omega) I (fun c9_2 => ?_) (fun c9_3 => ?_)
    · dsimp only [Option.toList, List.cons_append, List.nil_append, Nat.add_zero]
      refine v_if_eq_f (tgt := 25) dX0_judge_12 (by decide) (by decide) ?_
      refine v_aload_n dX0_judge_15 rfl ?_
      refine v_getr (ci := 0) (j := 0) (ji := 0) (z := 5) dX0_judge_16 k_372 (by decide) kk_4 (by decide) rfl rfl (fun r => rt_4_0 (r rfl)) (by decide) ?_
      refine v_iload_n dX0_judge_19 rfl ?_
      refine v_iload_n dX0_judge_20 rfl ?_
      refine v_iconst dX0_judge_21 (c32 rfl) ?_
      refine v_callv (M' := mX4_judge) (d' := d - 1) (mc' := 0) (ms' := 0) (ci := 4) (c := 5) (As := [_, _, _]) dX0_judge_22 k_1091 cm_X4_judge rfl (by omega) (by decide) kk_5 (Nat.le_of_ble_eq_true rfl) rfl ⟨Nat.le_refl _, Nat.le_refl _⟩ ?_
      refine s_cjudge (by omega) I ⟨by omega, by omega⟩ (by omega) (fun xf_4 c22_4 => ?_)
      dsimp only [Option.toList, List.cons_append, List.nil_append, Nat.add_zero]
      refine v_iinc_2 dX0_judge_25 (by decide) rfl ?_
      rw [iadd_eq (x := k) (y := 1) (by unfold ok32; omega)]
      refine v_goto (tgt := 2) dX0_judge_28 (by decide) ?_
      exact ih (by omega) _ (Fr_t hF (Fr_m (by decide) c22_4.1)) (SO_1 J ⟨hk, by omega⟩ c22_4)
    · dsimp only [Option.toList, List.cons_append, List.nil_append, Nat.add_zero]
      refine v_if_eq_t (tgt := 25) dX0_judge_12 (by decide) (by decide) ?_
      refine v_iinc_2 dX0_judge_25 (by decide) rfl ?_
      rw [iadd_eq (x := k) (y := 1) (by unfold ok32; omega)]
      refine v_goto (tgt := 2) dX0_judge_28 (by decide) ?_
      exact ih (by omega) _ hF (SO_0 J c9_3)

set_option maxHeartbeats 4000000 in
set_option maxRecDepth 100000 in
theorem s_cbjudge {l : Launch} {G : GG} {d : Nat} {h F : AH} {Q : Option AV → List Kd → AH → Prop} {cs : Int → List (Int × List Int)} {q : Int} (hd : 7 ≤ d) (I : CI h cs) (hq1 : q ≤ h 116 1) (hq : ∀ F', Fr 5 F F' → SJ h cs q F' → Q none K0 (cst h F')) : Sp l G mX0_judge d 0 0 K0 [(2, 4), (0, q)] (cst h F) Q := by
  refine sp_of (L := [(2, 4), (0, q), (9, 0)]) pl_X0 (Nat.le_of_ble_eq_true rfl) (tg_c (by decide) (tg_c (by decide) tg_0)) rfl ?_
  refine v_iconst dX0_judge_0 (c32 rfl) ?_
  refine v_istore_n_2 dX0_judge_1 (by decide) rfl ?_
  exact lp_cbj1 hd I hq1 hq 0 (Int.le_refl _) (by decide) _ Fr_0 (fun w w0 w1 => by omega)

set_option maxHeartbeats 4000000 in
set_option maxRecDepth 100000 in
theorem lp_ccp {l : Launch} {G : GG} {d : Nat} {h F : AH} {Q : Option AV → List Kd → AH → Prop} {cs : Int → List (Int × List Int)} (hd : 1 ≤ d) (I : CI h cs) (hJ : SJ h cs (h 116 1) F) (hq : Q (some (0, sm (cP h cs (h 116 1)) (h 116 65))) K0 (cst h F)) : ∀ k, 0 ≤ k → k ≤ h 116 65 → V l G mX0_countPreferred d 0 0 0 0 K0 4 [(2, 4), (0, sm (cP h cs (h 116 1)) k), (0, k)] [] (cst h F) Q := by
  have ns := I.S.1
  refine loop_m3 (fun k hk hkN ih => ?_)
  refine v_iload_n dX0_countPreferred_4 rfl ?_
  refine v_aload_n dX0_countPreferred_5 rfl ?_
  refine v_getv (ci := 0) (j := 7) (ji := 7) (tg := 0) dX0_countPreferred_6 k_381 (by decide) kk_4 (by decide) rfl rfl (by decide) ((cst_n (by decide)).trans (I.f4_7)) ?_
  refine v_icmp_ge (tgt := 36) dX0_countPreferred_9 (by decide) (fun c9_1 => ?_) (fun c9_1 => ?_)
  · refine v_iload_n dX0_countPreferred_36 rfl ?_
    refine v_ireti dX0_countPreferred_37 rfl (Nat.le_refl _) (Nat.le_refl _) ?_
    obtain rfl : k = h 116 65 := by omega
    exact hq
  · have r9 := sm_rng (cP_r (h := h) (cs := cs) (q := h 116 1) (n := h 116 65)) k hk (by omega)
    refine v_iload_n dX0_countPreferred_12 rfl ?_
    refine v_aload_n dX0_countPreferred_13 rfl ?_
    refine v_getr (ci := 0) (j := 10) (ji := 10) (z := 75) dX0_countPreferred_14 k_386 (by decide) kk_4 (by decide) rfl rfl (fun r => rt_4_10 (r rfl)) (by decide) ?_
    refine v_iload_n dX0_countPreferred_17 rfl ?_
    refine v_ialoadv dX0_countPreferred_18 (by decide) kk_75 (by omega) (by omega) ((cst_m (by decide)).trans ((hJ.2 k hk (by omega) (by have := I.m155.2 k hk (by omega); omega)))) ?_
    refine v_iconst dX0_countPreferred_19 (c32 rfl) ?_
    refine v_icmp_ne (tgt := 27) dX0_countPreferred_20 (by decide) (fun c20_2 => ?_) (fun c20_2 => ?_)
    · refine v_iconst dX0_countPreferred_27 (c32 rfl) ?_
      refine v_iaddE dX0_countPreferred_28 (by omega) ?_
      refine v_istore_n_1 dX0_countPreferred_29 (by decide) rfl ?_
      refine v_iinc_2 dX0_countPreferred_30 (by decide) rfl ?_
      rw [iadd_eq (x := k) (y := 1) (by unfold ok32; omega)]
      refine v_goto (tgt := 4) dX0_countPreferred_33 (by decide) ?_
      have e8 : cP h cs (h 116 1) k = 0 := if_neg (by omega)
      have e9 : sm (cP h cs (h 116 1)) (k + 1) = ((sm (cP h cs (h 116 1)) k) + 0) := by rw [sm_s hk, e8]
      have ih9 := ih (by omega)
      rw [e9] at ih9
      exact ih9
    · refine v_iconst dX0_countPreferred_23 (c32 rfl) ?_
      refine v_goto (tgt := 28) dX0_countPreferred_24 (by decide) ?_
      refine v_iaddE dX0_countPreferred_28 (by omega) ?_
      refine v_istore_n_1 dX0_countPreferred_29 (by decide) rfl ?_
      refine v_iinc_2 dX0_countPreferred_30 (by decide) rfl ?_
      rw [iadd_eq (x := k) (y := 1) (by unfold ok32; omega)]
      refine v_goto (tgt := 4) dX0_countPreferred_33 (by decide) ?_
      have e8 : cP h cs (h 116 1) k = 1 := if_pos (by omega)
      have e9 : sm (cP h cs (h 116 1)) (k + 1) = ((sm (cP h cs (h 116 1)) k) + 1) := by rw [sm_s hk, e8]
      have ih9 := ih (by omega)
      rw [e9] at ih9
      exact ih9

set_option maxHeartbeats 4000000 in
set_option maxRecDepth 100000 in
theorem s_ccp {l : Launch} {G : GG} {d : Nat} {h F : AH} {Q : Option AV → List Kd → AH → Prop} {cs : Int → List (Int × List Int)} (hd : 1 ≤ d) (I : CI h cs) (hJ : SJ h cs (h 116 1) F) (hq : Q (some (0, sm (cP h cs (h 116 1)) (h 116 65))) K0 (cst h F)) : Sp l G mX0_countPreferred d 0 0 K0 [(2, 4)] (cst h F) Q := by
  refine sp_of (L := [(2, 4), (9, 0), (9, 0)]) pl_X0 (Nat.le_of_ble_eq_true rfl) (tg_c (by decide) tg_0) rfl ?_
  refine v_iconst dX0_countPreferred_0 (c32 rfl) ?_
  refine v_istore_n_1 dX0_countPreferred_1 (by decide) rfl ?_
  refine v_iconst dX0_countPreferred_2 (c32 rfl) ?_
  refine v_istore_n_2 dX0_countPreferred_3 (by decide) rfl ?_
  exact lp_ccp hd I hJ hq 0 (Int.le_refl _) I.S.1.1

set_option maxHeartbeats 4000000 in
set_option maxRecDepth 100000 in
theorem s_ctariff {l : Launch} {G : GG} {d : Nat} {h F : AH} {Q : Option AV → List Kd → AH → Prop} {cs : Int → List (Int × List Int)} {a b : Int} (hd : 1 ≤ d) (I : CI h cs) (ha : 0 ≤ a ∧ a < 8) (hb : 0 ≤ b ∧ b < 100) (hq : Q (some (0, h 125 (100 * a + b))) K0 (cst h F)) : Sp l G mX0_tariffOf d 0 0 K0 [(2, 4), (0, a), (0, b)] (cst h F) Q := by
  refine sp_of (L := [(2, 4), (0, a), (0, b)]) pl_X0 (Nat.le_of_ble_eq_true rfl) (tg_c (by decide) (tg_c (by decide) (tg_c (by decide) tg_0))) rfl ?_
  refine v_aload_n dX0_tariffOf_0 rfl ?_
  refine v_getr (ci := 0) (j := 9) (ji := 9) (z := 74) dX0_tariffOf_1 k_385 (by decide) kk_4 (by decide) rfl rfl (fun r => rt_4_9 (r rfl)) (by decide) ?_
  refine v_iload_n dX0_tariffOf_4 rfl ?_
  refine v_bipush dX0_tariffOf_5 (c32 rfl) (by decide) ?_
  refine v_imulE dX0_tariffOf_7 (by omega) ?_
  refine v_iload_n dX0_tariffOf_8 rfl ?_
  refine v_iaddE dX0_tariffOf_9 (by omega) ?_
  refine v_ialoadv dX0_tariffOf_10 (by decide) kk_74 (by omega) (by omega) ((cst_n (by decide)).trans ((congrFun I.e74 ((a * 100) + b)))) ?_
  refine v_ireti dX0_tariffOf_11 rfl (Nat.le_refl _) (Nat.le_refl _) ?_
  rw [show a * 100 + b = 100 * a + b by omega]
  exact hq

set_option maxHeartbeats 4000000 in
set_option maxRecDepth 100000 in
theorem s_cduty {l : Launch} {G : GG} {d : Nat} {h F : AH} {Q : Option AV → List Kd → AH → Prop} {cs : Int → List (Int × List Int)} {s q : Int} (hd : 5 ≤ d) (I : CI h cs) (hs : 0 ≤ s ∧ s < h 116 65) (hst : F 75 s = stF h cs s q) (hq : ∀ F', Fr 2 F F' → Q (some (1, duF h cs s q)) K0 (cst h F')) : Sp l G mX0_dutyOf d 0 0 K0 [(2, 4), (0, s), (0, q)] (cst h F) Q := by
  have nb := I.W.nb
  have ns := I.S.1
  have sh := I.S.2.2.1 s hs.1 hs.2
  have he9 := I.W.he (h 150 s) sh.1.1 sh.1.2
  refine sp_of (L := [(2, 4), (0, s), (0, q), (9, 0), (9, 0)]) pl_X0 (Nat.le_of_ble_eq_true rfl) (tg_c (by decide) (tg_c (by decide) (tg_c (by decide) tg_0))) rfl ?_
  refine v_aload_n dX0_dutyOf_0 rfl ?_
  refine v_aload_n dX0_dutyOf_1 rfl ?_
  refine v_getr (ci := 0) (j := 3) (ji := 3) (z := 66) dX0_dutyOf_2 k_376 (by decide) kk_4 (by decide) rfl rfl (fun r => rt_4_3 (r rfl)) (by decide) ?_
  refine v_iload_n dX0_dutyOf_5 rfl ?_
  refine v_ialoadv dX0_dutyOf_6 (by decide) kk_66 (by omega) (by omega) ((cst_n (by decide)).trans ((congrFun I.e66 s))) ?_
  refine v_aload_n dX0_dutyOf_7 rfl ?_
  refine v_iload_n dX0_dutyOf_8 rfl ?_
  refine v_callv (M' := mX0_headingOf) (d' := d - 1) (mc' := 0) (ms' := 0) (ci := 0) (c := 4) (As := [_]) dX0_dutyOf_9 k_1105 cm_X0_headingOf rfl (by omega) (by decide) kk_4 (Nat.le_of_ble_eq_true rfl) rfl ⟨Nat.le_refl _, Nat.le_refl _⟩ ?_
  refine s_cheading (by omega) I ⟨by omega, by omega⟩ ?_
  dsimp only [Option.toList, List.cons_append, List.nil_append, Nat.add_zero]
  refine v_callv (M' := mX0_tariffOf) (d' := d - 1) (mc' := 0) (ms' := 0) (ci := 0) (c := 4) (As := [_, _]) dX0_dutyOf_12 k_1132 cm_X0_tariffOf rfl (by omega) (by decide) kk_4 (Nat.le_of_ble_eq_true rfl) rfl ⟨Nat.le_refl _, Nat.le_refl _⟩ ?_
  refine s_ctariff (by omega) I ⟨by omega, by omega⟩ ⟨by omega, by omega⟩ ?_
  dsimp only [Option.toList, List.cons_append, List.nil_append, Nat.add_zero]
  refine v_i2l dX0_dutyOf_15 ?_
  refine v_lstore_n_3 dX0_dutyOf_16 (by decide) rfl ?_
  refine v_aload_n dX0_dutyOf_17 rfl ?_
  refine v_getr (ci := 0) (j := 10) (ji := 10) (z := 75) dX0_dutyOf_18 k_386 (by decide) kk_4 (by decide) rfl rfl (fun r => rt_4_10 (r rfl)) (by decide) ?_
  refine v_iload_n dX0_dutyOf_21 rfl ?_
  refine v_ialoadv dX0_dutyOf_22 (by decide) kk_75 (by omega) (by omega) ((cst_m (by decide)).trans (hst)) ?_
  refine v_iconst dX0_dutyOf_23 (c32 rfl) ?_
  refine v_icmp_ne (tgt := 59) dX0_dutyOf_24 (by decide) (fun c24_1 => ?_) (fun c24_1 => ?_)
  · have pc9 := I.W.pc (q := q) sh.1.1 sh.1.2
    have ta9 := I.ta (100 * h 152 s + h 130 (h 150 s)) (by omega) (by omega)
    refine v_aload_n dX0_dutyOf_59 rfl ?_
    refine v_getr (ci := 0) (j := 0) (ji := 0) (z := 5) dX0_dutyOf_60 k_372 (by decide) kk_4 (by decide) rfl rfl (fun r => rt_4_0 (r rfl)) (by decide) ?_
    refine v_getrN (ci := 4) (j := 1) (ji := 1) (z := 41) dX0_dutyOf_63 k_358 (by decide) kk_5 (by decide) rfl rfl (fun r => rt_5_1 (r rfl)) (by decide) ?_
    refine v_aload_n dX0_dutyOf_66 rfl ?_
    refine v_getr (ci := 0) (j := 1) (ji := 1) (z := 64) dX0_dutyOf_67 k_374 (by decide) kk_4 (by decide) rfl rfl (fun r => rt_4_1 (r rfl)) (by decide) ?_
    refine v_iload_n dX0_dutyOf_70 rfl ?_
    refine v_ialoadv dX0_dutyOf_71 (by decide) kk_64 (by omega) (by omega) ((cst_n (by decide)).trans ((congrFun I.e64 s))) ?_
    refine v_iload_n dX0_dutyOf_72 rfl ?_
    refine v_callv (M' := mX6_priceOf) (d' := d - 1) (mc' := 0) (ms' := 0) (ci := 6) (c := 41) (As := [_, _]) dX0_dutyOf_73 k_1139 cm_X6_priceOf rfl (by omega) (by decide) kk_41 (Nat.le_of_ble_eq_true rfl) rfl ⟨Nat.le_refl _, Nat.le_refl _⟩ ?_
    refine s_cprice (by omega) I ⟨by omega, by omega⟩ ?_
    dsimp only [Option.toList, List.cons_append, List.nil_append, Nat.add_zero]
    refine v_i2l dX0_dutyOf_76 ?_
    refine v_aload_n dX0_dutyOf_77 rfl ?_
    refine v_getr (ci := 0) (j := 2) (ji := 2) (z := 65) dX0_dutyOf_78 k_375 (by decide) kk_4 (by decide) rfl rfl (fun r => rt_4_2 (r rfl)) (by decide) ?_
    refine v_iload_n dX0_dutyOf_81 rfl ?_
    refine v_ialoadv dX0_dutyOf_82 (by decide) kk_65 (by omega) (by omega) ((cst_n (by decide)).trans ((congrFun I.e65 s))) ?_
    refine v_i2l dX0_dutyOf_83 ?_
    have hpm9 := mul_r8 pc9.1 pc9.2 sh.2.1.1 sh.2.1.2
    refine v_lmulE dX0_dutyOf_84 (by omega) ?_
    have hdu := duF_b (x := prc h q (h 150 s) * h 151 s) (y := (h 125 ((100 * (h 152 s)) + (h 130 (h 150 s))))) (mul_r8 pc9.1 pc9.2 sh.2.1.1 sh.2.1.2) (by omega)
    have hpm := mul_r8 pc9.1 pc9.2 sh.2.1.1 sh.2.1.2
    refine v_lload_n dX0_dutyOf_85 rfl ?_
    refine v_lmulE dX0_dutyOf_86 (by omega) ?_
    refine v_ldc2 (n := 1000) dX0_dutyOf_87 k_1136 (c64 rfl) (by decide) ?_
    refine v_ldiv dX0_dutyOf_90 (by decide) ?_
    refine v_lret dX0_dutyOf_91 rfl (Nat.le_refl _) (Nat.le_refl _) ?_
    have er : rtF h cs s q = h 125 (100 * h 152 s + h 130 (h 150 s)) := if_neg c24_1
    have hq9 := hq _ Fr_0
    unfold duF at hq9
    rw [er] at hq9
    exact hq9
  · refine v_aload_n dX0_dutyOf_27 rfl ?_
    refine v_getr (ci := 0) (j := 0) (ji := 0) (z := 5) dX0_dutyOf_28 k_372 (by decide) kk_4 (by decide) rfl rfl (fun r => rt_4_0 (r rfl)) (by decide) ?_
    refine v_getrN (ci := 4) (j := 0) (ji := 0) (z := 6) dX0_dutyOf_31 k_355 (by decide) kk_5 (by decide) rfl rfl (fun r => rt_5_0 (r rfl)) (by decide) ?_
    refine v_aload_n dX0_dutyOf_34 rfl ?_
    refine v_iload_n dX0_dutyOf_35 rfl ?_
    refine v_iload_n dX0_dutyOf_36 rfl ?_
    refine v_callv (M' := mX0_protocolOf) (d' := d - 1) (mc' := 0) (ms' := 0) (ci := 0) (c := 4) (As := [_, _]) dX0_dutyOf_37 k_1101 cm_X0_protocolOf rfl (by omega) (by decide) kk_4 (Nat.le_of_ble_eq_true rfl) rfl ⟨Nat.le_refl _, Nat.le_refl _⟩ ?_
    refine s_cproto (by omega) I ⟨by omega, by omega⟩ (fun xf_3 c37_2 c37_3 => ?_)
    dsimp only [Option.toList, List.cons_append, List.nil_append, Nat.add_zero]
    refine v_bipush dX0_dutyOf_40 (c32 rfl) (by decide) ?_
    refine v_callv (M' := mX8_worth) (d' := d - 1) (mc' := 0) (ms' := 0) (ci := 8) (c := 6) (As := [_, _]) dX0_dutyOf_42 k_1114 cm_X8_worth rfl (by omega) (by decide) kk_6 (Nat.le_of_ble_eq_true rfl) rfl ⟨Nat.le_refl _, Nat.le_refl _⟩ ?_
    refine s_cworth (by omega) I.X (by have := @pOn_rng h I.W (h 153 s) (h 155 s) q; have := I.f12_4; omega) (fun xf_4 c42_4 => ?_)
    dsimp only [Option.toList, List.cons_append, List.nil_append, Nat.add_zero]
    refine v_i2l dX0_dutyOf_45 ?_
    refine v_lstore_n_3 dX0_dutyOf_46 (by decide) rfl ?_
    refine v_lconst (z := 0) dX0_dutyOf_47 (c64 rfl) (by decide) ?_
    refine v_ldc2 (n := 1000) dX0_dutyOf_48 k_1136 (c64 rfl) (by decide) ?_
    refine v_lload_n dX0_dutyOf_51 rfl ?_
    refine v_mminl dX0_dutyOf_52 k_1137 (by omega) (Nat.le_of_ble_eq_true rfl) ⟨Nat.le_refl _, Nat.le_refl _⟩ ?_
    refine v_mmaxl dX0_dutyOf_55 k_1138 (by omega) (Nat.le_of_ble_eq_true rfl) ⟨Nat.le_refl _, Nat.le_refl _⟩ ?_
    refine v_lstore_n_3 dX0_dutyOf_58 (by decide) rfl ?_
    have pc9 := I.W.pc (q := q) sh.1.1 sh.1.2
    have ta9 := I.ta (100 * h 152 s + h 130 (h 150 s)) (by omega) (by omega)
    refine v_aload_n dX0_dutyOf_59 rfl ?_
    refine v_getr (ci := 0) (j := 0) (ji := 0) (z := 5) dX0_dutyOf_60 k_372 (by decide) kk_4 (by decide) rfl rfl (fun r => rt_4_0 (r rfl)) (by decide) ?_
    refine v_getrN (ci := 4) (j := 1) (ji := 1) (z := 41) dX0_dutyOf_63 k_358 (by decide) kk_5 (by decide) rfl rfl (fun r => rt_5_1 (r rfl)) (by decide) ?_
    refine v_aload_n dX0_dutyOf_66 rfl ?_
    refine v_getr (ci := 0) (j := 1) (ji := 1) (z := 64) dX0_dutyOf_67 k_374 (by decide) kk_4 (by decide) rfl rfl (fun r => rt_4_1 (r rfl)) (by decide) ?_
    refine v_iload_n dX0_dutyOf_70 rfl ?_
    refine v_ialoadv dX0_dutyOf_71 (by decide) kk_64 (by omega) (by omega) ((cst_n (by decide)).trans ((congrFun I.e64 s))) ?_
    refine v_iload_n dX0_dutyOf_72 rfl ?_
    refine v_callv (M' := mX6_priceOf) (d' := d - 1) (mc' := 0) (ms' := 0) (ci := 6) (c := 41) (As := [_, _]) dX0_dutyOf_73 k_1139 cm_X6_priceOf rfl (by omega) (by decide) kk_41 (Nat.le_of_ble_eq_true rfl) rfl ⟨Nat.le_refl _, Nat.le_refl _⟩ ?_
    refine s_cprice (by omega) I ⟨by omega, by omega⟩ ?_
    dsimp only [Option.toList, List.cons_append, List.nil_append, Nat.add_zero]
    refine v_i2l dX0_dutyOf_76 ?_
    refine v_aload_n dX0_dutyOf_77 rfl ?_
    refine v_getr (ci := 0) (j := 2) (ji := 2) (z := 65) dX0_dutyOf_78 k_375 (by decide) kk_4 (by decide) rfl rfl (fun r => rt_4_2 (r rfl)) (by decide) ?_
    refine v_iload_n dX0_dutyOf_81 rfl ?_
    refine v_ialoadv dX0_dutyOf_82 (by decide) kk_65 (by omega) (by omega) ((cst_n (by decide)).trans ((congrFun I.e65 s))) ?_
    refine v_i2l dX0_dutyOf_83 ?_
    have hpm9 := mul_r8 pc9.1 pc9.2 sh.2.1.1 sh.2.1.2
    refine v_lmulE dX0_dutyOf_84 (by omega) ?_
    have hdu := duF_b (x := prc h q (h 150 s) * h 151 s) (y := (max 0 (min 1000 (wth cs (xf_3 39) (pOn h (h 153 s) (h 155 s) q) 100)))) (mul_r8 pc9.1 pc9.2 sh.2.1.1 sh.2.1.2) (by omega)
    have hpm := mul_r8 pc9.1 pc9.2 sh.2.1.1 sh.2.1.2
    refine v_lload_n dX0_dutyOf_85 rfl ?_
    refine v_lmulE dX0_dutyOf_86 (by omega) ?_
    refine v_ldc2 (n := 1000) dX0_dutyOf_87 k_1136 (c64 rfl) (by decide) ?_
    refine v_ldiv dX0_dutyOf_90 (by decide) ?_
    refine v_lret dX0_dutyOf_91 rfl (Nat.le_refl _) (Nat.le_refl _) ?_
    have w0 : wth cs (xf_3 39) (pOn h (h 153 s) (h 155 s) q) 100 = wS h cs s q 100 := wth_congr (fun i i0 i1 => c37_3 i i0 i1)
    have er : rtF h cs s q = max 0 (min 1000 (wS h cs s q 100)) := if_pos c24_1
    rw [w0]
    have hq9 := hq _ (Fr_t c37_2 (Fr_m (by decide) c42_4))
    unfold duF at hq9
    rw [er] at hq9
    exact hq9

