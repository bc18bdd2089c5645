/-! ===== the class: batches, what is own (written by wip/whole/p46.py) ===== -/
theorem s_cisMem {l : Launch} {G : GG} {d : Nat} {h F : AH} {Q : Option AV → List Kd → AH → Prop} {cs : Int → List (Int × List Int)} {w p day q : Int} (hd : 3 ≤ d) (I : CI h cs) (hp : 0 ≤ p ∧ p < 8) (q1 : isM h p w day q ≠ 1 → Q (some (0, 0)) K0 (cst h F)) (q2 : isM h p w day q = 1 → Q (some (0, 1)) K0 (cst h F)) : Sp l G mX8_isMember d 0 0 K0 [(2, 6), (0, w), (0, p), (0, day), (0, q)] (cst h F) Q := by
  have hm := mOn_rng I (w := w) (day := day) (q := q)
  have hb := bit_1 hm hp
  have r8 : cst h F 8 = h 117 := (cst_r (by decide)).trans I.e8
  have r9 : cst h F 9 = h 119 := (cst_r (by decide)).trans I.e9
  have r10 : cst h F 10 = h 120 := (cst_r (by decide)).trans I.e10
  have r11 : cst h F 11 = h 118 := (cst_r (by decide)).trans I.e11
  have r7 : cst h F 7 4 = h 116 14 := (cst_n (by decide)).trans I.f7_4
  have nw := I.W.nw
  unfold isM at q1 q2
  refine s_X8_isMember hd ?_ ?_ ?_ ?_ ?_ ?_ <;> simp only [r7, r8, r9, r10, r11]
  · exact nw.1
  · exact nw.2
  · intro a b
    have e : mOn h w day q = h 118 (ifc (h 117) (h 119) (h 120) w day q (h 116 14)) := by unfold mOn; rw [if_neg a]
    rw [← e] at b
    exact q1 (by omega)
  · intro a b
    have e : mOn h w day q = h 118 (ifc (h 117) (h 119) (h 120) w day q (h 116 14)) := by unfold mOn; rw [if_neg a]
    rw [← e] at b
    exact q2 (by omega)
  · intro a b
    have e : mOn h w day q = 0 := by unfold mOn; rw [if_pos a]
    rw [e] at hb q1
    exact q1 (by omega)
  · intro a b
    have e : mOn h w day q = 0 := by unfold mOn; rw [if_pos a]
    rw [e] at hb q2
    exact q2 (by omega)
theorem s_cTwo {l : Launch} {G : GG} {d : Nat} {h F : AH} {Q : Option AV → List Kd → AH → Prop} {cs : Int → List (Int × List Int)} {w p p2 day q : Int} (hd : 3 ≤ d) (I : CI h cs) (hp : 0 ≤ p ∧ p < 8) (hp2 : 0 ≤ p2 ∧ p2 < 8) (q1 : ¬ (p ≠ p2 ∧ isM h p w day q = 1 ∧ isM h p2 w day q = 1) → Q (some (0, 0)) K0 (cst h F)) (q2 : p ≠ p2 → isM h p w day q = 1 → isM h p2 w day q = 1 → Q (some (0, 1)) K0 (cst h F)) : Sp l G mX8_areTwoMembers d 0 0 K0 [(2, 6), (0, w), (0, p), (0, p2), (0, day), (0, q)] (cst h F) Q := by
  have hm := mOn_rng I (w := w) (day := day) (q := q)
  have hb := bit_2 hm hp hp2
  have r8 : cst h F 8 = h 117 := (cst_r (by decide)).trans I.e8
  have r9 : cst h F 9 = h 119 := (cst_r (by decide)).trans I.e9
  have r10 : cst h F 10 = h 120 := (cst_r (by decide)).trans I.e10
  have r11 : cst h F 11 = h 118 := (cst_r (by decide)).trans I.e11
  have r7 : cst h F 7 4 = h 116 14 := (cst_n (by decide)).trans I.f7_4
  have nw := I.W.nw
  unfold isM at q1 q2
  have go : (p = p2 → Q (some (0, 0)) K0 (cst h F)) ∧ (p ≠ p2 → iand (iand (iushr (mOn h w day q) p) (iushr (mOn h w day q) p2)) 1 = 0 → Q (some (0, 0)) K0 (cst h F)) ∧ (p ≠ p2 → iand (iand (iushr (mOn h w day q) p) (iushr (mOn h w day q) p2)) 1 ≠ 0 → Q (some (0, 1)) K0 (cst h F)) :=
    ⟨fun e => q1 (fun z => z.1 e), fun _ b => q1 (fun z => (hb.mpr z.2) b), fun e b => q2 e (hb.mp b).1 (hb.mp b).2⟩
  refine s_X8_areTwoMembers hd ?_ ?_ ?_ ?_ ?_ ?_ ?_ ?_ <;> simp only [r7, r8, r9, r10, r11]
  · exact nw.1
  · exact nw.2
  · intro a b; exact go.1 b
  · intro a
    have e : mOn h w day q = h 118 (ifc (h 117) (h 119) (h 120) w day q (h 116 14)) := by unfold mOn; rw [if_neg a]
    rw [← e]; exact go.2.1
  · intro a
    have e : mOn h w day q = h 118 (ifc (h 117) (h 119) (h 120) w day q (h 116 14)) := by unfold mOn; rw [if_neg a]
    rw [← e]; exact go.2.2
  · intro a b; exact go.1 b
  · intro a
    have e : mOn h w day q = 0 := by unfold mOn; rw [if_pos a]
    rw [e] at go; exact go.2.1
  · intro a
    have e : mOn h w day q = 0 := by unfold mOn; rw [if_pos a]
    rw [e] at go; exact go.2.2
theorem s_cforce {l : Launch} {G : GG} {d : Nat} {h F : AH} {Q : Option AV → List Kd → AH → Prop} {cs : Int → List (Int × List Int)} {w day q : Int} (hd : 1 ≤ d) (I : CI h cs) (hq : Q (some (0, pOn h w day q)) K0 (cst h F)) : Sp l G mX1_inForce d 0 0 K0 [(2, 12), (0, w), (0, day), (0, q)] (cst h F) Q := by
  have r7 : cst h F 12 4 = h 116 15 := (cst_n (by decide)).trans I.f12_4
  refine s_X1_inForce_12 hd (by rw [r7]; exact I.W.nt.1) (by rw [r7]; exact I.W.nt.2) ?_
  rw [r7, (cst_r (by decide) : cst h F 13 = h 13), (cst_r (by decide) : cst h F 14 = h 14), (cst_r (by decide) : cst h F 15 = h 15), I.e13, I.e14, I.e15]
  exact hq

set_option maxHeartbeats 4000000 in
set_option maxRecDepth 100000 in
theorem lp_cmend {l : Launch} {G : GG} {d : Nat} {h F : AH} {Q : Option AV → List Kd → AH → Prop} {cs : Int → List (Int × List Int)} {b q o : Int} (hd : 1 ≤ d) (I : CI h cs) (hn : 0 ≤ (h 116 48) ∧ (h 116 48) ≤ 100) (hq : Q (some (0, (laF (h 145) (h 147) (h 146) b q o (h 116 48)))) K0 (cst h F)) : ∀ k, 0 ≤ k → k ≤ (h 116 48) → V l G mX3_last d 0 0 0 0 K0 6 [(2, 53), (0, b), (0, q), (0, o), (0, laF (h 145) (h 147) (h 146) b q o k), (0, k)] [] (cst h F) Q := by
  refine loop_m3 (fun k hk hkN ih => ?_)
  refine v_iload dX3_last_6 rfl ?_
  refine v_aload_n dX3_last_8 rfl ?_
  refine v_getv (ci := 3) (j := 3) (ji := 3) (tg := 0) dX3_last_9 k_280 (by decide) kk_53 (by decide) rfl rfl (by decide) ((cst_n (by decide)).trans (I.f53_3)) ?_
  refine v_icmp_ge (tgt := 52) dX3_last_12 (by decide) (fun c12_1 => ?_) (fun c12_1 => ?_)
  · refine v_iload dX3_last_52 rfl ?_
    refine v_ireti dX3_last_54 rfl (Nat.le_refl _) (Nat.le_refl _) ?_
    obtain rfl : k = h 116 48 := by omega
    exact hq
  · refine v_aload_n dX3_last_15 rfl ?_
    refine v_getr (ci := 3) (j := 2) (ji := 2) (z := 56) dX3_last_16 k_278 (by decide) kk_53 (by decide) rfl rfl (fun r => rt_53_2 (r rfl)) (by decide) ?_
    refine v_iload dX3_last_19 rfl ?_
    refine v_ialoadv dX3_last_21 (by decide) kk_56 (by omega) (by omega) ((cst_n (by decide)).trans ((congrFun I.e56 k))) ?_
    refine v_iload_n dX3_last_22 rfl ?_
    refine v_icmp_gt (tgt := 52) dX3_last_23 (by decide) (fun c23_2 => ?_) (fun c23_2 => ?_)
    · refine v_iload dX3_last_52 rfl ?_
      refine v_ireti dX3_last_54 rfl (Nat.le_refl _) (Nat.le_refl _) ?_
      rw [show (laF (h 145) (h 147) (h 146) b q o (h 116 48)) = (laF (h 145) (h 147) (h 146) b q o k) from laF_cut hk (by omega) (I.m147.cut hk (by omega))] at hq
      exact hq
    · refine v_aload_n dX3_last_26 rfl ?_
      refine v_getr (ci := 3) (j := 0) (ji := 0) (z := 54) dX3_last_27 k_274 (by decide) kk_53 (by decide) rfl rfl (fun r => rt_53_0 (r rfl)) (by decide) ?_
      refine v_iload dX3_last_30 rfl ?_
      refine v_ialoadv dX3_last_32 (by decide) kk_54 (by omega) (by omega) ((cst_n (by decide)).trans ((congrFun I.e54 k))) ?_
      refine v_iload_n dX3_last_33 rfl ?_
      refine v_icmp_ne (tgt := 46) dX3_last_34 (by decide) (fun c34_3 => ?_) (fun c34_3 => ?_)
      · refine v_iinc_5 dX3_last_46 (by decide) rfl ?_
        rw [iadd_eq (x := k) (y := 1) (by unfold ok32; omega)]
        refine v_goto (tgt := 6) dX3_last_49 (by decide) ?_
        have e4 : (laF (h 145) (h 147) (h 146) b q o (k + 1)) = (laF (h 145) (h 147) (h 146) b q o k) := by rw [laF_s hk]; unfold laSt; first | (rw [if_pos ⟨by omega, by omega⟩]; done) | (rw [if_neg (fun z => by omega)]; done)
        have ih9 := ih (by omega)
        rw [e4] at ih9
        exact ih9
      · refine v_aload_n dX3_last_37 rfl ?_
        refine v_getr (ci := 3) (j := 1) (ji := 1) (z := 55) dX3_last_38 k_276 (by decide) kk_53 (by decide) rfl rfl (fun r => rt_53_1 (r rfl)) (by decide) ?_
        refine v_iload dX3_last_41 rfl ?_
        refine v_ialoadv dX3_last_43 (by decide) kk_55 (by omega) (by omega) ((cst_n (by decide)).trans ((congrFun I.e55 k))) ?_
        refine v_istore_4 dX3_last_44 (by decide) rfl ?_
        refine v_iinc_5 dX3_last_46 (by decide) rfl ?_
        rw [iadd_eq (x := k) (y := 1) (by unfold ok32; omega)]
        refine v_goto (tgt := 6) dX3_last_49 (by decide) ?_
        have e4 : (laF (h 145) (h 147) (h 146) b q o (k + 1)) = (h 146 k) := by rw [laF_s hk]; unfold laSt; first | (rw [if_pos ⟨by omega, by omega⟩]; done) | (rw [if_neg (fun z => by omega)]; done)
        have ih9 := ih (by omega)
        rw [e4] at ih9
        exact ih9

set_option maxHeartbeats 4000000 in
set_option maxRecDepth 100000 in
theorem s_cmend {l : Launch} {G : GG} {d : Nat} {h F : AH} {Q : Option AV → List Kd → AH → Prop} {cs : Int → List (Int × List Int)} {b q o : Int} (hd : 1 ≤ d) (I : CI h cs) (hn : 0 ≤ (h 116 48) ∧ (h 116 48) ≤ 100) (hq : Q (some (0, (laF (h 145) (h 147) (h 146) b q o (h 116 48)))) K0 (cst h F)) : Sp l G mX3_last d 0 0 K0 [(2, 53), (0, b), (0, q), (0, o)] (cst h F) Q := by
  refine sp_of (L := [(2, 53), (0, b), (0, q), (0, o), (9, 0), (9, 0)]) pl_X3 (Nat.le_of_ble_eq_true rfl) (tg_c (by decide) (tg_c (by decide) (tg_c (by decide) (tg_c (by decide) tg_0)))) rfl ?_
  refine v_iload_n dX3_last_0 rfl ?_
  refine v_istore_4 dX3_last_1 (by decide) rfl ?_
  refine v_iconst dX3_last_3 (c32 rfl) ?_
  refine v_istore_5 dX3_last_4 (by decide) rfl ?_
  exact lp_cmend hd I hn hq 0 (Int.le_refl _) hn.1

set_option maxHeartbeats 4000000 in
set_option maxRecDepth 100000 in
theorem lp_cpap {l : Launch} {G : GG} {d : Nat} {h F : AH} {Q : Option AV → List Kd → AH → Prop} {cs : Int → List (Int × List Int)} {b q o : Int} (hd : 1 ≤ d) (I : CI h cs) (hn : 0 ≤ (h 116 66) ∧ (h 116 66) ≤ 100) (hq : Q (some (0, (laF (h 156) (h 158) (h 157) b q o (h 116 66)))) K0 (cst h F)) : ∀ k, 0 ≤ k → k ≤ (h 116 66) → V l G mX3_last d 0 0 0 0 K0 6 [(2, 70), (0, b), (0, q), (0, o), (0, laF (h 156) (h 158) (h 157) b q o k), (0, k)] [] (cst h F) Q := by
  refine loop_m3 (fun k hk hkN ih => ?_)
  refine v_iload dX3_last_6 rfl ?_
  refine v_aload_n dX3_last_8 rfl ?_
  refine v_getv (ci := 3) (j := 3) (ji := 3) (tg := 0) dX3_last_9 k_280 (by decide) kk_70 (by decide) rfl rfl (by decide) ((cst_n (by decide)).trans (I.f70_3)) ?_
  refine v_icmp_ge (tgt := 52) dX3_last_12 (by decide) (fun c12_1 => ?_) (fun c12_1 => ?_)
  · refine v_iload dX3_last_52 rfl ?_
    refine v_ireti dX3_last_54 rfl (Nat.le_refl _) (Nat.le_refl _) ?_
    obtain rfl : k = h 116 66 := by omega
    exact hq
  · refine v_aload_n dX3_last_15 rfl ?_
    refine v_getr (ci := 3) (j := 2) (ji := 2) (z := 73) dX3_last_16 k_278 (by decide) kk_70 (by decide) rfl rfl (fun r => rt_70_2 (r rfl)) (by decide) ?_
    refine v_iload dX3_last_19 rfl ?_
    refine v_ialoadv dX3_last_21 (by decide) kk_73 (by omega) (by omega) ((cst_n (by decide)).trans ((congrFun I.e73 k))) ?_
    refine v_iload_n dX3_last_22 rfl ?_
    refine v_icmp_gt (tgt := 52) dX3_last_23 (by decide) (fun c23_2 => ?_) (fun c23_2 => ?_)
    · refine v_iload dX3_last_52 rfl ?_
      refine v_ireti dX3_last_54 rfl (Nat.le_refl _) (Nat.le_refl _) ?_
      rw [show (laF (h 156) (h 158) (h 157) b q o (h 116 66)) = (laF (h 156) (h 158) (h 157) b q o k) from laF_cut hk (by omega) (I.m158.cut hk (by omega))] at hq
      exact hq
    · refine v_aload_n dX3_last_26 rfl ?_
      refine v_getr (ci := 3) (j := 0) (ji := 0) (z := 71) dX3_last_27 k_274 (by decide) kk_70 (by decide) rfl rfl (fun r => rt_70_0 (r rfl)) (by decide) ?_
      refine v_iload dX3_last_30 rfl ?_
      refine v_ialoadv dX3_last_32 (by decide) kk_71 (by omega) (by omega) ((cst_n (by decide)).trans ((congrFun I.e71 k))) ?_
      refine v_iload_n dX3_last_33 rfl ?_
      refine v_icmp_ne (tgt := 46) dX3_last_34 (by decide) (fun c34_3 => ?_) (fun c34_3 => ?_)
      · refine v_iinc_5 dX3_last_46 (by decide) rfl ?_
        rw [iadd_eq (x := k) (y := 1) (by unfold ok32; omega)]
        refine v_goto (tgt := 6) dX3_last_49 (by decide) ?_
        have e4 : (laF (h 156) (h 158) (h 157) b q o (k + 1)) = (laF (h 156) (h 158) (h 157) b q o k) := by rw [laF_s hk]; unfold laSt; first | (rw [if_pos ⟨by omega, by omega⟩]; done) | (rw [if_neg (fun z => by omega)]; done)
        have ih9 := ih (by omega)
        rw [e4] at ih9
        exact ih9
      · refine v_aload_n dX3_last_37 rfl ?_
        refine v_getr (ci := 3) (j := 1) (ji := 1) (z := 72) dX3_last_38 k_276 (by decide) kk_70 (by decide) rfl rfl (fun r => rt_70_1 (r rfl)) (by decide) ?_
        refine v_iload dX3_last_41 rfl ?_
        refine v_ialoadv dX3_last_43 (by decide) kk_72 (by omega) (by omega) ((cst_n (by decide)).trans ((congrFun I.e72 k))) ?_
        refine v_istore_4 dX3_last_44 (by decide) rfl ?_
        refine v_iinc_5 dX3_last_46 (by decide) rfl ?_
        rw [iadd_eq (x := k) (y := 1) (by unfold ok32; omega)]
        refine v_goto (tgt := 6) dX3_last_49 (by decide) ?_
        have e4 : (laF (h 156) (h 158) (h 157) b q o (k + 1)) = (h 157 k) := by rw [laF_s hk]; unfold laSt; first | (rw [if_pos ⟨by omega, by omega⟩]; done) | (rw [if_neg (fun z => by omega)]; done)
        have ih9 := ih (by omega)
        rw [e4] at ih9
        exact ih9

set_option maxHeartbeats 4000000 in
set_option maxRecDepth 100000 in
theorem s_cpap {l : Launch} {G : GG} {d : Nat} {h F : AH} {Q : Option AV → List Kd → AH → Prop} {cs : Int → List (Int × List Int)} {b q o : Int} (hd : 1 ≤ d) (I : CI h cs) (hn : 0 ≤ (h 116 66) ∧ (h 116 66) ≤ 100) (hq : Q (some (0, (laF (h 156) (h 158) (h 157) b q o (h 116 66)))) K0 (cst h F)) : Sp l G mX3_last d 0 0 K0 [(2, 70), (0, b), (0, q), (0, o)] (cst h F) Q := by
  refine sp_of (L := [(2, 70), (0, b), (0, q), (0, o), (9, 0), (9, 0)]) pl_X3 (Nat.le_of_ble_eq_true rfl) (tg_c (by decide) (tg_c (by decide) (tg_c (by decide) (tg_c (by decide) tg_0)))) rfl ?_
  refine v_iload_n dX3_last_0 rfl ?_
  refine v_istore_4 dX3_last_1 (by decide) rfl ?_
  refine v_iconst dX3_last_3 (c32 rfl) ?_
  refine v_istore_5 dX3_last_4 (by decide) rfl ?_
  exact lp_cpap hd I hn hq 0 (Int.le_refl _) hn.1

set_option maxHeartbeats 4000000 in
set_option maxRecDepth 100000 in
theorem s_cprice {l : Launch} {G : GG} {d : Nat} {h F : AH} {Q : Option AV → List Kd → AH → Prop} {cs : Int → List (Int × List Int)} {b q : Int} (hd : 2 ≤ d) (I : CI h cs) (hb : 0 ≤ b ∧ b < 100) (hq : Q (some (0, prc h q b)) K0 (cst h F)) : Sp l G mX6_priceOf d 0 0 K0 [(2, 41), (0, b), (0, q)] (cst h F) Q := by
  refine sp_of (L := [(2, 41), (0, b), (0, q)]) pl_X6 (Nat.le_of_ble_eq_true rfl) (tg_c (by decide) (tg_c (by decide) (tg_c (by decide) tg_0))) rfl ?_
  refine v_aload_n dX6_priceOf_0 rfl ?_
  refine v_getr (ci := 6) (j := 11) (ji := 11) (z := 53) dX6_priceOf_1 k_316 (by decide) kk_41 (by decide) rfl rfl (fun r => rt_41_11 (r rfl)) (by decide) ?_
  refine v_iload_n dX6_priceOf_4 rfl ?_
  refine v_iload_n dX6_priceOf_5 rfl ?_
  refine v_aload_n dX6_priceOf_6 rfl ?_
  refine v_getr (ci := 6) (j := 2) (ji := 2) (z := 44) dX6_priceOf_7 k_297 (by decide) kk_41 (by decide) rfl rfl (fun r => rt_41_2 (r rfl)) (by decide) ?_
  refine v_iload_n dX6_priceOf_10 rfl ?_
  refine v_ialoadv dX6_priceOf_11 (by decide) kk_44 (by omega) (by omega) ((cst_n (by decide)).trans ((congrFun I.e44 b))) ?_
  refine v_callv (M' := mX3_last) (d' := d - 1) (mc' := 0) (ms' := 0) (ci := 3) (c := 53) (As := [_, _, _]) dX6_priceOf_12 k_1143 cm_X3_last rfl (by omega) (by decide) kk_53 (Nat.le_of_ble_eq_true rfl) rfl ⟨Nat.le_refl _, Nat.le_refl _⟩ ?_
  refine s_cmend (by omega) I I.W.nm ?_
  dsimp only [Option.toList, List.cons_append, List.nil_append, Nat.add_zero]
  refine v_ireti dX6_priceOf_15 rfl (Nat.le_refl _) (Nat.le_refl _) ?_
  exact hq

theorem hcpy_63 {h F : AH} {n : Int} : hcpy (cst h F) 44 0 63 0 n = cst h (ov1 F 63 (fun j => if 0 ≤ j ∧ j < n then h 44 j else F 63 j)) := by
  funext a b
  by_cases e : a = 63
  · subst e
    rw [cst_m (by decide), ov1_s]
    unfold hcpy
    by_cases e2 : 0 ≤ b ∧ b < n
    · rw [if_pos ⟨rfl, by omega, by omega⟩, if_pos e2, cst_n (by decide)]
      congr 1
      omega
    · rw [if_neg (fun z => e2 ⟨z.2.1, by omega⟩), if_neg e2, cst_m (by decide)]
  · rw [hcpy_c e]
    unfold cst
    rw [ov1_c e]

set_option maxHeartbeats 4000000 in
set_option maxRecDepth 100000 in
theorem lp_ctp {l : Launch} {G : GG} {d : Nat} {h F : AH} {Q : Option AV → List Kd → AH → Prop} {cs : Int → List (Int × List Int)} {q : Int} (hd : 1 ≤ d) (I : CI h cs) (hq : ∀ P, (∀ e, 0 ≤ e → e < h 116 45 → P e = prc h q e) → Q none K0 (cst h (ov1 F 63 P))) : ∀ k, 0 ≤ k → k ≤ h 116 48 → ∀ P : Int → Int, (∀ e, 0 ≤ e → e < h 116 45 → P e = laF (h 145) (h 147) (h 146) e q (h 131 e) k) → V l G mX6_tellPrices d 0 0 0 0 K0 16 [(2, 41), (0, q), (2, 63), (0, k)] [] (cst h (ov1 F 63 P)) Q := by
  have nb := I.W.nb
  have nm := I.W.nm
  refine loop_m3 (fun k hk hkN ih P hP => ?_)
  refine v_iload_n dX6_tellPrices_16 rfl ?_
  refine v_aload_n dX6_tellPrices_17 rfl ?_
  refine v_getr (ci := 6) (j := 11) (ji := 11) (z := 53) dX6_tellPrices_18 k_316 (by decide) kk_41 (by decide) rfl rfl (fun r => rt_41_11 (r rfl)) (by decide) ?_
  refine v_getvN (ci := 3) (j := 3) (ji := 3) (tg := 0) dX6_tellPrices_21 k_281 (by decide) kk_53 (by decide) rfl rfl (by decide) ((cst_n (by decide)).trans (I.f53_3)) ?_
  refine v_icmp_ge (tgt := 66) dX6_tellPrices_24 (by decide) (fun c24_1 => ?_) (fun c24_1 => ?_)
  · refine v_vret dX6_tellPrices_66 rfl (Nat.le_refl _) (Nat.le_refl _) ?_
    obtain rfl : k = h 116 48 := by omega
    exact hq _ hP
  · refine v_aload_n dX6_tellPrices_27 rfl ?_
    refine v_getr (ci := 6) (j := 11) (ji := 11) (z := 53) dX6_tellPrices_28 k_316 (by decide) kk_41 (by decide) rfl rfl (fun r => rt_41_11 (r rfl)) (by decide) ?_
    refine v_getrN (ci := 3) (j := 2) (ji := 2) (z := 56) dX6_tellPrices_31 k_279 (by decide) kk_53 (by decide) rfl rfl (fun r => rt_53_2 (r rfl)) (by decide) ?_
    refine v_iload_n dX6_tellPrices_34 rfl ?_
    refine v_ialoadv dX6_tellPrices_35 (by decide) kk_56 (by omega) (by omega) ((cst_n (by decide)).trans ((congrFun I.e56 k))) ?_
    refine v_iload_n dX6_tellPrices_36 rfl ?_
    refine v_icmp_gt (tgt := 66) dX6_tellPrices_37 (by decide) (fun c37_2 => ?_) (fun c37_2 => ?_)
    · refine v_vret dX6_tellPrices_66 rfl (Nat.le_refl _) (Nat.le_refl _) ?_
      exact hq _ (fun e e0 e1 => by rw [hP e e0 e1]; exact (laF_cut hk (by omega) (I.m147.cut hk (by omega))).symm)
    · have ma9 := I.ma k hk (by omega)
      refine v_aload_n dX6_tellPrices_40 rfl ?_
      refine v_aload_n dX6_tellPrices_41 rfl ?_
      refine v_getr (ci := 6) (j := 11) (ji := 11) (z := 53) dX6_tellPrices_42 k_316 (by decide) kk_41 (by decide) rfl rfl (fun r => rt_41_11 (r rfl)) (by decide) ?_
      refine v_getrN (ci := 3) (j := 0) (ji := 0) (z := 54) dX6_tellPrices_45 k_275 (by decide) kk_53 (by decide) rfl rfl (fun r => rt_53_0 (r rfl)) (by decide) ?_
      refine v_iload_n dX6_tellPrices_48 rfl ?_
      refine v_ialoadv dX6_tellPrices_49 (by decide) kk_54 (by omega) (by omega) ((cst_n (by decide)).trans ((congrFun I.e54 k))) ?_
      refine v_aload_n dX6_tellPrices_50 rfl ?_
      refine v_getr (ci := 6) (j := 11) (ji := 11) (z := 53) dX6_tellPrices_51 k_316 (by decide) kk_41 (by decide) rfl rfl (fun r => rt_41_11 (r rfl)) (by decide) ?_
      refine v_getrN (ci := 3) (j := 1) (ji := 1) (z := 55) dX6_tellPrices_54 k_277 (by decide) kk_53 (by decide) rfl rfl (fun r => rt_53_1 (r rfl)) (by decide) ?_
      refine v_iload_n dX6_tellPrices_57 rfl ?_
      refine v_ialoadv dX6_tellPrices_58 (by decide) kk_55 (by omega) (by omega) ((cst_n (by decide)).trans ((congrFun I.e55 k))) ?_
      refine v_iastore dX6_tellPrices_59 (by decide) kk_63 (by omega) (by omega) ?_
      rw [cst_w1 (by decide), ov1_w]
      refine v_iinc_3 dX6_tellPrices_60 (by decide) rfl ?_
      rw [iadd_eq (x := k) (y := 1) (by unfold ok32; omega)]
      refine v_goto (tgt := 16) dX6_tellPrices_63 (by decide) ?_
      exact ih (by omega) _ (fun e e0 e1 => by
        rw [laF_s hk]
        unfold laSt fset
        by_cases z : e = h 145 k
        · rw [if_pos z, if_pos ⟨z.symm, by omega⟩]
        · rw [if_neg z, if_neg (fun y => z y.1.symm)]; exact hP e e0 e1)

set_option maxHeartbeats 4000000 in
set_option maxRecDepth 100000 in
theorem s_ctp {l : Launch} {G : GG} {d : Nat} {h F : AH} {Q : Option AV → List Kd → AH → Prop} {cs : Int → List (Int × List Int)} {q : Int} (hd : 1 ≤ d) (I : CI h cs) (hq : ∀ P, (∀ e, 0 ≤ e → e < h 116 45 → P e = prc h q e) → Q none K0 (cst h (ov1 F 63 P))) : Sp l G mX6_tellPrices d 0 0 K0 [(2, 41), (0, q), (2, 63)] (cst h F) Q := by
  have nb := I.W.nb
  have nm := I.W.nm
  refine sp_of (L := [(2, 41), (0, q), (2, 63), (9, 0)]) pl_X6 (Nat.le_of_ble_eq_true rfl) (tg_c (by decide) (tg_c (by decide) (tg_c (by decide) tg_0))) rfl ?_
  refine v_aload_n dX6_tellPrices_0 rfl ?_
  refine v_getr (ci := 6) (j := 2) (ji := 2) (z := 44) dX6_tellPrices_1 k_297 (by decide) kk_41 (by decide) rfl rfl (fun r => rt_41_2 (r rfl)) (by decide) ?_
  refine v_iconst dX6_tellPrices_4 (c32 rfl) ?_
  refine v_aload_n dX6_tellPrices_5 rfl ?_
  refine v_iconst dX6_tellPrices_6 (c32 rfl) ?_
  refine v_aload_n dX6_tellPrices_7 rfl ?_
  refine v_getv (ci := 6) (j := 12) (ji := 12) (tg := 0) dX6_tellPrices_8 k_318 (by decide) kk_41 (by decide) rfl rfl (by decide) ((cst_n (by decide)).trans (I.f41_12)) ?_
  refine v_copyi dX6_tellPrices_11 k_959 (by omega) (Nat.le_of_ble_eq_true rfl) (by decide) kk_44 (by decide) kk_63 (by omega) (by omega) (by omega) (by omega) (by omega) ?_
  refine v_iconst dX6_tellPrices_14 (c32 rfl) ?_
  refine v_istore_n_3 dX6_tellPrices_15 (by decide) rfl ?_
  rw [hcpy_63]
  exact lp_ctp hd I hq 0 (Int.le_refl _) nm.1 _ (fun e e0 e1 => by rw [if_pos ⟨e0, e1⟩]; exact congrFun I.e44 e)

