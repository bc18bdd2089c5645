/-! ===== the reference: worth, fault (written by wip/whole/p24.py) ===== -/
set_option maxHeartbeats 4000000 in
set_option maxRecDepth 100000 in
theorem s_worthT {l : Launch} {G : GG} {d : Nat} {h : AH} {Q : Option AV → List Kd → AH → Prop} {z O Lr : Int → Int} {p lb : Int} {u : Int → Int} {cs : List (Int × List Int)} (hd : 38 ≤ d) (hp0 : 0 ≤ p) (hp1 : p < 20) (hP : PT h p u) (hc : pText u (h 124 p) 201 0 [] = .inr cs) (hL : lbok (ltF Lr))
    (hq : ∀ z', Q (some (0, (fndL (ltF Lr) lb cs).getD 0)) K0 (jst h z' O Lr)) : Sp l G mX12_worth d 0 0 K0 [(2, 116), (0, p), (0, lb)] (jst h z O Lr) Q := by
  have hT : MT (tst (jst h z O Lr) 128 (200 * p) (h 124 p) lb) 128 (200 * p) (h 124 p) u 4000 :=
    MT_tst (Or.inr rfl) (by exact kk_128) (by have := hP.2.1; omega) (by omega) (by omega) hP.1 hP.2.1 hP.2.2.1 (fun i h0 h1 => by rw [jst_c (by decide)]; exact hP.2.2.2 i h0 h1)
  have hL2 : LTB (tst (jst h z O Lr) 128 (200 * p) (h 124 p) lb) := by
    unfold LTB
    rw [ltr_tst, ltr_jst]
    exact hL
  refine sp_of (L := [(2, 116), (0, p), (0, lb)]) pl_X12 (Nat.le_of_ble_eq_true rfl) (tg_c (by decide) (tg_c (by decide) (tg_c (by decide) tg_0))) rfl ?_

  refine v_iload_n dX12_worth_0 rfl ?_
  refine v_iconst dX12_worth_1 (c32 rfl) ?_
  refine v_icmp_ne_t (tgt := 7) dX12_worth_2 (by decide) (by omega) ?_
  refine v_aload_n dX12_worth_7 rfl ?_
  refine v_aload_n dX12_worth_8 rfl ?_
  refine v_getr (ci := 12) (j := 13) (ji := 13) (z := 128) dX12_worth_9 k_1429 (by decide) kk_116 (by decide) rfl rfl (fun r => rt_116_13 (r rfl)) (by decide) ?_
  refine v_sipush dX12_worth_12 (c32 rfl) (by decide) ?_
  refine v_iload_n dX12_worth_15 rfl ?_
  refine v_imulE dX12_worth_16 (by omega) ?_
  refine v_aload_n dX12_worth_17 rfl ?_
  refine v_getr (ci := 12) (j := 9) (ji := 9) (z := 124) dX12_worth_18 k_1425 (by decide) kk_116 (by decide) rfl rfl (fun r => rt_116_9 (r rfl)) (by decide) ?_
  refine v_iload_n dX12_worth_21 rfl ?_
  refine v_ialoadv dX12_worth_22 (by decide) kk_124 (by omega) (by omega) (jst_c (by decide)) ?_
  refine v_iload_n dX12_worth_23 rfl ?_
  refine v_callv (M' := mX12_goThrough) (d' := d - 1) (mc' := 0) (ms' := 0) (ci := 12) (c := 116) (As := [_, _, _, _]) dX12_worth_24 k_1747 cm_X12_goThrough rfl (by omega) (by decide) kk_116 (Nat.le_of_ble_eq_true rfl) rfl ⟨Nat.le_refl _, Nat.le_refl _⟩ ?_
  refine s_goThrough_128 (by omega) hT hL2 (fun xf_1 xg_1 xw_1 xa_1 xd_1 c24_1 => ?_)
  dsimp only [Option.toList, List.cons_append, List.nil_append, Nat.add_zero]
  refine v_aload_n dX12_worth_27 rfl ?_
  refine v_getv (ci := 12) (j := 24) (ji := 24) (tg := 0) dX12_worth_28 k_1440 (by decide) kk_116 (by decide) rfl rfl (by decide) ((pst_j (by decide)).trans (gst_r24)) ?_
  refine v_ireti dX12_worth_31 rfl (Nat.le_refl _) (Nat.le_refl _) ?_
  rw [ltr_tst, tst_lb, ltr_jst, hc] at c24_1
  obtain ⟨_, e9⟩ := c24_1
  have eh : (pst (gst (tst (jst h z O Lr) 128 (200 * p) (h 124 p) lb) xg_1 xw_1) xa_1 xf_1 xd_1) = jst h ((pst (gst (tst (jst h z O Lr) 128 (200 * p) (h 124 p) lb) xg_1 xw_1) xa_1 xf_1 xd_1) 116) O Lr := jst_of (fun a b e => scr_of e)
  rw [eh, e9]
  exact hq _

set_option maxHeartbeats 4000000 in
set_option maxRecDepth 100000 in
theorem s_worthN {l : Launch} {G : GG} {d : Nat} {h : AH} {Q : Option AV → List Kd → AH → Prop} {lb : Int} (hd : 1 ≤ d) (hq : Q (some (0, 0)) K0 h) : Sp l G mX12_worth d 0 0 K0 [(2, 116), (0, -1), (0, lb)] h Q := by
  refine sp_of (L := [(2, 116), (0, -1), (0, lb)]) pl_X12 (Nat.le_of_ble_eq_true rfl) (tg_c (by decide) (tg_c (by decide) (tg_c (by decide) tg_0))) rfl ?_

  refine v_iload_n dX12_worth_0 rfl ?_
  refine v_iconst dX12_worth_1 (c32 rfl) ?_
  refine v_icmp_ne_f (tgt := 7) dX12_worth_2 (by decide) (by decide) ?_
  refine v_iconst dX12_worth_5 (c32 rfl) ?_
  refine v_ireti dX12_worth_6 rfl (Nat.le_refl _) (Nat.le_refl _) ?_
  exact hq

