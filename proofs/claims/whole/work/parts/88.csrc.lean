/-! ===== sourcing: the class (written by wip/whole/p61.py) ===== -/
theorem irem_nn {x y : Int} (hx : 0 ≤ x) (hx2 : x < 2147483648) (hy : 0 < y) (hy2 : y < 2147483648) : irem x y = x % y := by
  have hd := idiv_nn hx hx2 hy hy2
  unfold idiv at hd
  unfold irem
  rw [Int32.toInt_sub, Int32.toInt_mul, hd, t32 (by unfold ok32; omega), t32 (by unfold ok32; omega)]
  have h1 : 0 ≤ x / y * y := Int.mul_nonneg (Int.ediv_nonneg hx (by omega)) (by omega)
  have h2 : x / y * y ≤ x := Int.ediv_mul_le x (by omega)
  have h3 : x % y = x - x / y * y := by rw [Int.emod_def, Int.mul_comm]
  rw [h3, Int.bmod_eq_of_le (n := x / y * y) (by omega) (by omega)]
  exact Int.bmod_eq_of_le (by omega) (by omega)
theorem npF_u {f : Int → Int} {k : Int} (h0 : 0 ≤ k) (h4 : k ≤ 4) (hp : ∀ p, 0 ≤ p → p < k → 0 < f p) (hk : k = 4 ∨ f k ≤ 0) : npF f = k := by
  obtain ⟨a, b, c⟩ := @npF_r f
  by_cases e : npF f < k
  · have := hp _ a.1 e; have := c (by omega); omega
  · by_cases e2 : k < npF f
    · have := b k h0 e2; omega
    · omega
theorem hset_f {F : AH} {c j x : Int} : hset F c j x c = fset (F c) j x := by
  funext i
  unfold hset fset
  by_cases e : i = j
  · rw [if_pos ⟨rfl, e⟩, if_pos e]
  · rw [if_neg (fun z => e z.2), if_neg e]
/-- the good is in range -/
def GB (g : GD) : Prop := (0 ≤ g.1 ∧ g.1 < 8) ∧ (0 ≤ g.2.1 ∧ g.2.1 < 100) ∧ (0 ≤ g.2.2.1 ∧ g.2.2.1 < 10) ∧ (1 ≤ g.2.2.2.1 ∧ g.2.2.2.1 ≤ 1000000) ∧ (0 ≤ g.2.2.2.2 ∧ g.2.2.2.2 < 8)
/-- the class has asked, and rated k webs -/
def AR (h : AH) (cs : Int → List (Int × List Int)) (g : GD) (k : Int) (F : AH) : Prop :=
  (F 87 5 = npF (h 167) ∧ F 87 6 = g.1 ∧ F 87 7 = g.2.1 ∧ F 87 8 = g.2.2.1 ∧ F 87 9 = g.2.2.2.1) ∧ F 87 10 = trf h g ∧ F 87 13 = lrF h cs g k ∧ ∀ w, 0 ≤ w → w < k → (twoW h g w → F 93 w = pOn h w (h 116 1) (h 116 1) ∧ F 94 w = rtW h cs g w) ∧ (¬ twoW h g w → F 94 w = -1)
section ARS
variable {h F F' : AH} {cs : Int → List (Int × List Int)} {g : GD} {k : Int}
theorem AR_f (a : AR h cs g k F) (f : Fr 8 F F') : AR h cs g k F' := by
  obtain ⟨⟨a1, a2, a3, a4, a5⟩, a6, a7, a8⟩ := a
  have f87 : F' 87 = F 87 := Fr_r f (fun j => Nat.le_of_ble_eq_true rfl)
  have f93 : F' 93 = F 93 := Fr_r f (fun j => Nat.le_of_ble_eq_true rfl)
  have f94 : F' 94 = F 94 := Fr_r f (fun j => Nat.le_of_ble_eq_true rfl)
  unfold AR
  rw [f87, f93, f94]
  exact ⟨⟨a1, a2, a3, a4, a5⟩, a6, a7, a8⟩
theorem AR_95 {p x : Int} {c : Int} (a : AR h cs g k F) (hc : c = 95 ∨ c = 96) : AR h cs g k (hset F c p x) := by
  obtain ⟨⟨a1, a2, a3, a4, a5⟩, a6, a7, a8⟩ := a
  unfold AR
  rw [hset_r (by omega), hset_r (by omega), hset_r (by omega)]
  exact ⟨⟨a1, a2, a3, a4, a5⟩, a6, a7, a8⟩
theorem AR_o {T : Int → Int} {c : Int} (a : AR h cs g k F) (hc : c = 95 ∨ c = 96) : AR h cs g k (ov1 F c T) := by
  obtain ⟨⟨a1, a2, a3, a4, a5⟩, a6, a7, a8⟩ := a
  unfold AR
  rw [ov1_r (by omega), ov1_r (by omega), ov1_r (by omega)]
  exact ⟨⟨a1, a2, a3, a4, a5⟩, a6, a7, a8⟩
theorem AR_0 (a : AR h cs g k F) (hk : 0 ≤ k) (n : ¬ twoW h g k) : AR h cs g (k + 1) (hset F 94 k (-1)) := by
  obtain ⟨a1, a6, a7, a8⟩ := a
  unfold AR
  rw [hset_r (by decide), hset_r (by decide), lrF_s hk]
  refine ⟨a1, a6, ?_, fun w w0 w1 => ?_⟩
  · unfold lrS; rw [if_neg n]; exact a7
  · by_cases e : w = k
    · subst e; exact ⟨fun z => absurd z n, fun _ => hset_same ..⟩
    · rw [hset_j e]; exact a8 w w0 (by omega)
theorem AR_1 (a : AR h cs g k F) (hk : 0 ≤ k) (n : twoW h g k) (f : Fr 1 (hset (hset F 94 k (-1)) 93 k (pOn h k (h 116 1) (h 116 1))) F') : AR h cs g (k + 1) (hset (hset F' 94 k (rtW h cs g k)) 87 13 (min (lrF h cs g k) (rtW h cs g k))) := by
  obtain ⟨⟨a1, a2, a3, a4, a5⟩, a6, a7, a8⟩ := a
  have f87 : F' 87 = F 87 := (Fr_r f (fun j => Nat.le_of_ble_eq_true rfl)).trans (by rw [hset_r (by decide), hset_r (by decide)])
  have f93 : F' 93 = fset (F 93) k (pOn h k (h 116 1) (h 116 1)) := (Fr_r f (fun j => Nat.le_of_ble_eq_true rfl)).trans (by rw [hset_f, hset_r (by decide)])
  have f94 : F' 94 = fset (F 94) k (-1) := (Fr_r f (fun j => Nat.le_of_ble_eq_true rfl)).trans (by rw [hset_r (by decide), hset_f])
  have q5 : ∀ j, j ≠ 13 → (hset (hset F' 94 k (rtW h cs g k)) 87 13 (min (lrF h cs g k) (rtW h cs g k))) 87 j = F 87 j := fun j e => by rw [hset_j e, hset_c (by decide), f87]
  have q93 : (hset (hset F' 94 k (rtW h cs g k)) 87 13 (min (lrF h cs g k) (rtW h cs g k))) 93 = fset (F 93) k (pOn h k (h 116 1) (h 116 1)) := by rw [hset_r (by decide), hset_r (by decide), f93]
  have q94 : (hset (hset F' 94 k (rtW h cs g k)) 87 13 (min (lrF h cs g k) (rtW h cs g k))) 94 = fset (fset (F 94) k (-1)) k (rtW h cs g k) := by rw [hset_r (by decide), hset_f, f94]
  unfold AR
  rw [q5 5 (by decide), q5 6 (by decide), q5 7 (by decide), q5 8 (by decide), q5 9 (by decide), q5 10 (by decide), hset_same, q93, q94, lrF_s hk]
  refine ⟨⟨a1, a2, a3, a4, a5⟩, a6, ?_, fun w w0 w1 => ?_⟩
  · unfold lrS; rw [if_pos n]
  · by_cases e : w = k
    · subst e; exact ⟨fun _ => ⟨fset_same .., fset_same ..⟩, fun z => absurd n z⟩
    · rw [fset_ne e, fset_ne e, fset_ne e]; exact a8 w w0 (by omega)
end ARS

set_option maxHeartbeats 4000000 in
set_option maxRecDepth 100000 in
theorem lp_sparts {l : Launch} {G : GG} {d : Nat} {h F : AH} {Q : Option AV → List Kd → AH → Prop} {cs : Int → List (Int × List Int)} (hd : 1 ≤ d) (I : CI h cs) (hq : Q (some (0, npF (h 167))) K0 (cst h F)) : ∀ k, 0 ≤ k → k ≤ 4 → (∀ p, 0 ≤ p → p < k → 0 < h 167 p) → V l G mX5_parts d 0 0 0 0 K0 2 [(2, 87), (0, k)] [] (cst h F) Q := by
  refine loop_m3 (fun k hk hkN ih hp => ?_)
  refine v_iload_n dX5_parts_2 rfl ?_
  refine v_iconst dX5_parts_3 (c32 rfl) ?_
  refine v_icmp_ge (tgt := 22) dX5_parts_4 (by decide) (fun c4_1 => ?_) (fun c4_1 => ?_)
  · refine v_iload_n dX5_parts_22 rfl ?_
    refine v_ireti dX5_parts_23 rfl (Nat.le_refl _) (Nat.le_refl _) ?_
    rw [← npF_u (k := k) (f := h 167) (by omega) (by omega) hp (by omega)]
    exact hq
  · refine v_aload_n dX5_parts_7 rfl ?_
    refine v_getr (ci := 5) (j := 4) (ji := 4) (z := 92) dX5_parts_8 k_474 (by decide) kk_87 (by decide) rfl rfl (fun r => rt_87_4 (r rfl)) (by decide) ?_
    refine v_iload_n dX5_parts_11 rfl ?_
    refine v_ialoadv dX5_parts_12 (by decide) kk_92 (by omega) (by omega) ((cst_n (by decide)).trans ((congrFun I.e92 k))) ?_
    refine v_if_le (tgt := 22) dX5_parts_13 (by decide) (fun c13_2 => ?_) (fun c13_2 => ?_)
    · refine v_iload_n dX5_parts_22 rfl ?_
      refine v_ireti dX5_parts_23 rfl (Nat.le_refl _) (Nat.le_refl _) ?_
      rw [← npF_u (k := k) (f := h 167) (by omega) (by omega) hp (by omega)]
      exact hq
    · refine v_iinc_1 dX5_parts_16 (by decide) rfl ?_
      rw [iadd_eq (x := k) (y := 1) (by unfold ok32; omega)]
      refine v_goto (tgt := 2) dX5_parts_19 (by decide) ?_
      exact ih (by omega) (fun p p0 p1 => by
        by_cases e : p = k
        · subst e; assumption
        · exact hp p p0 (by omega))

set_option maxHeartbeats 4000000 in
set_option maxRecDepth 100000 in
theorem s_sparts {l : Launch} {G : GG} {d : Nat} {h F : AH} {Q : Option AV → List Kd → AH → Prop} {cs : Int → List (Int × List Int)} (hd : 1 ≤ d) (I : CI h cs) (hq : Q (some (0, npF (h 167))) K0 (cst h F)) : Sp l G mX5_parts d 0 0 K0 [(2, 87)] (cst h F) Q := by
  refine sp_of (L := [(2, 87), (9, 0)]) pl_X5 (Nat.le_of_ble_eq_true rfl) (tg_c (by decide) tg_0) rfl ?_
  refine v_iconst dX5_parts_0 (c32 rfl) ?_
  refine v_istore_n_1 dX5_parts_1 (by decide) rfl ?_
  exact lp_sparts hd I hq 0 (Int.le_refl _) (by decide) (fun p p0 p1 => by omega)

set_option maxHeartbeats 4000000 in
set_option maxRecDepth 100000 in
theorem s_sask {l : Launch} {G : GG} {d : Nat} {h F : AH} {Q : Option AV → List Kd → AH → Prop} {cs : Int → List (Int × List Int)} {g : GD} (hd : 2 ≤ d) (I : CI h cs) (hq : Q none K0 (cst h (hset (hset (hset (hset (hset F 87 5 (npF (h 167))) 87 6 g.1) 87 7 g.2.1) 87 8 g.2.2.1) 87 9 g.2.2.2.1))) : Sp l G mX5_ask d 0 0 K0 [(2, 87), (0, g.1), (0, g.2.1), (0, g.2.2.1), (0, g.2.2.2.1)] (cst h F) Q := by
  refine sp_of (L := [(2, 87), (0, g.1), (0, g.2.1), (0, g.2.2.1), (0, g.2.2.2.1)]) pl_X5 (Nat.le_of_ble_eq_true rfl) (tg_c (by decide) (tg_c (by decide) (tg_c (by decide) (tg_c (by decide) (tg_c (by decide) tg_0))))) rfl ?_
  refine v_aload_n dX5_ask_0 rfl ?_
  refine v_aload_n dX5_ask_1 rfl ?_
  refine v_callv (M' := mX5_parts) (d' := d - 1) (mc' := 0) (ms' := 0) (ci := 5) (c := 87) (As := []) dX5_ask_2 k_1200 cm_X5_parts rfl (by omega) (by decide) kk_87 (Nat.le_of_ble_eq_true rfl) rfl ⟨Nat.le_refl _, Nat.le_refl _⟩ ?_
  refine s_sparts (by omega) I ?_
  dsimp only [Option.toList, List.cons_append, List.nil_append, Nat.add_zero]
  refine v_puti (ci := 5) (j := 5) (ji := 5) dX5_ask_5 k_475 (by decide) kk_87 (by decide) rfl rfl rfl ?_
  rw [cst_w (by decide)]
  refine v_aload_n dX5_ask_8 rfl ?_
  refine v_iload_n dX5_ask_9 rfl ?_
  refine v_puti (ci := 5) (j := 6) (ji := 6) dX5_ask_10 k_476 (by decide) kk_87 (by decide) rfl rfl rfl ?_
  rw [cst_w (by decide)]
  refine v_aload_n dX5_ask_13 rfl ?_
  refine v_iload_n dX5_ask_14 rfl ?_
  refine v_puti (ci := 5) (j := 7) (ji := 7) dX5_ask_15 k_477 (by decide) kk_87 (by decide) rfl rfl rfl ?_
  rw [cst_w (by decide)]
  refine v_aload_n dX5_ask_18 rfl ?_
  refine v_iload_n dX5_ask_19 rfl ?_
  refine v_puti (ci := 5) (j := 8) (ji := 8) dX5_ask_20 k_478 (by decide) kk_87 (by decide) rfl rfl rfl ?_
  rw [cst_w (by decide)]
  refine v_aload_n dX5_ask_23 rfl ?_
  refine v_iload dX5_ask_24 rfl ?_
  refine v_puti (ci := 5) (j := 9) (ji := 9) dX5_ask_26 k_479 (by decide) kk_87 (by decide) rfl rfl rfl ?_
  rw [cst_w (by decide)]
  refine v_vret dX5_ask_29 rfl (Nat.le_refl _) (Nat.le_refl _) ?_
  exact hq

set_option maxHeartbeats 4000000 in
set_option maxRecDepth 100000 in
theorem lp_srate {l : Launch} {G : GG} {d : Nat} {h : AH} {Q : Option AV → List Kd → AH → Prop} {cs : Int → List (Int × List Int)} {g : GD} (hd : 6 ≤ d) (I : CI h cs) (hg : GB g) (hq : ∀ F', AR h cs g 4 F' → Q none K0 (cst h F')) : ∀ k, 0 ≤ k → k ≤ 4 → ∀ F : AH, AR h cs g k F → (∀ i, 0 ≤ i → i < 8 → F 39 i = tLt h g i) → V l G mX5_rateWebs d 0 0 0 0 K0 27 [(2, 87), (2, 6), (0, g.2.2.2.2), (0, h 116 1), (0, trf h g), (0, k)] [] (cst h F) Q := by
  obtain ⟨g1, g2, g3, g4, g5⟩ := hg
  refine loop_m3 (fun k hk hkN ih F ha hl => ?_)
  refine v_iload dX5_rateWebs_27 rfl ?_
  refine v_iconst dX5_rateWebs_29 (c32 rfl) ?_
  refine v_icmp_ge (tgt := 129) dX5_rateWebs_30 (by decide) (fun c30_1 => ?_) (fun c30_1 => ?_)
  · refine v_vret dX5_rateWebs_129 rfl (Nat.le_refl _) (Nat.le_refl _) ?_
    obtain rfl : k = 4 := by omega
    exact hq _ ha
  · refine v_aload_n dX5_rateWebs_33 rfl ?_
    refine v_getr (ci := 5) (j := 12) (ji := 12) (z := 94) dX5_rateWebs_34 k_482 (by decide) kk_87 (by decide) rfl rfl (fun r => rt_87_12 (r rfl)) (by decide) ?_
    refine v_iload dX5_rateWebs_37 rfl ?_
    refine v_iconst dX5_rateWebs_39 (c32 rfl) ?_
    refine v_iastore dX5_rateWebs_40 (by decide) kk_94 (by omega) (by omega) ?_
    rw [cst_w1 (by decide)]
    refine v_aload_n dX5_rateWebs_41 rfl ?_
    refine v_iload dX5_rateWebs_42 rfl ?_
    refine v_aload_n dX5_rateWebs_44 rfl ?_
    refine v_getv (ci := 5) (j := 6) (ji := 6) (tg := 0) dX5_rateWebs_45 k_476 (by decide) kk_87 (by decide) rfl rfl (by decide) ((cst_s (by decide)).trans ((hset_c (by decide)).trans (ha.1.2.1))) ?_
    refine v_iload_n dX5_rateWebs_48 rfl ?_
    refine v_iload_n dX5_rateWebs_49 rfl ?_
    refine v_iload_n dX5_rateWebs_50 rfl ?_
    refine v_callv (M' := mX8_areTwoMembers) (d' := d - 1) (mc' := 0) (ms' := 0) (ci := 8) (c := 6) (As := [_, _, _, _, _]) dX5_rateWebs_51 k_1207 cm_X8_areTwoMembers rfl (by omega) (by decide) kk_6 (Nat.le_of_ble_eq_true rfl) rfl ⟨Nat.le_refl _, Nat.le_refl _⟩ ?_
    refine s_cTwo (by omega) I ⟨by omega, by omega⟩ ⟨by omega, by omega⟩ (fun c51_2 => ?_) (fun c51_3 c51_4 c51_5 => ?_)
    · dsimp only [Option.toList, List.cons_append, List.nil_append, Nat.add_zero]
      refine v_if_eq_t (tgt := 123) dX5_rateWebs_54 (by decide) (by decide) ?_
      refine v_iinc_5 dX5_rateWebs_123 (by decide) rfl ?_
      rw [iadd_eq (x := k) (y := 1) (by unfold ok32; omega)]
      refine v_goto (tgt := 27) dX5_rateWebs_126 (by decide) ?_
      exact ih (by omega) _ (AR_0 ha hk c51_2) (fun i i0 i1 => by rw [hset_c (by decide)]; exact hl i i0 i1)
    · dsimp only [Option.toList, List.cons_append, List.nil_append, Nat.add_zero]
      refine v_if_eq_f (tgt := 123) dX5_rateWebs_54 (by decide) (by decide) ?_
      refine v_aload_n dX5_rateWebs_57 rfl ?_
      refine v_getr (ci := 5) (j := 11) (ji := 11) (z := 93) dX5_rateWebs_58 k_481 (by decide) kk_87 (by decide) rfl rfl (fun r => rt_87_11 (r rfl)) (by decide) ?_
      refine v_iload dX5_rateWebs_61 rfl ?_
      refine v_aload_n dX5_rateWebs_63 rfl ?_
      refine v_getrN (ci := 8) (j := 2) (ji := 2) (z := 12) dX5_rateWebs_64 k_234 (by decide) kk_6 (by decide) rfl rfl (fun r => rt_6_2 (r rfl)) (by decide) ?_
      refine v_iload dX5_rateWebs_67 rfl ?_
      refine v_iload_n dX5_rateWebs_69 rfl ?_
      refine v_iload_n dX5_rateWebs_70 rfl ?_
      refine v_callv (M' := mX1_inForce) (d' := d - 1) (mc' := 0) (ms' := 0) (ci := 1) (c := 12) (As := [_, _, _]) dX5_rateWebs_71 k_1208 cm_X1_inForce rfl (by omega) (by decide) kk_12 (Nat.le_of_ble_eq_true rfl) rfl ⟨Nat.le_refl _, Nat.le_refl _⟩ ?_
      refine s_cforce (by omega) I ?_
      dsimp only [Option.toList, List.cons_append, List.nil_append, Nat.add_zero]
      refine v_iastore dX5_rateWebs_74 (by decide) kk_93 (by omega) (by omega) ?_
      rw [cst_w1 (by decide)]
      refine v_aload_n dX5_rateWebs_75 rfl ?_
      refine v_getr (ci := 5) (j := 12) (ji := 12) (z := 94) dX5_rateWebs_76 k_482 (by decide) kk_87 (by decide) rfl rfl (fun r => rt_87_12 (r rfl)) (by decide) ?_
      refine v_iload dX5_rateWebs_79 rfl ?_
      refine v_iconst dX5_rateWebs_81 (c32 rfl) ?_
      refine v_sipush dX5_rateWebs_82 (c32 rfl) (by decide) ?_
      refine v_aload_n dX5_rateWebs_85 rfl ?_
      refine v_aload_n dX5_rateWebs_86 rfl ?_
      refine v_getr (ci := 5) (j := 11) (ji := 11) (z := 93) dX5_rateWebs_87 k_481 (by decide) kk_87 (by decide) rfl rfl (fun r => rt_87_11 (r rfl)) (by decide) ?_
      refine v_iload dX5_rateWebs_90 rfl ?_
      refine v_ialoadv dX5_rateWebs_92 (by decide) kk_93 (by omega) (by omega) ((cst_m (by decide)).trans (hset_same _ _ _ _)) ?_
      refine v_bipush dX5_rateWebs_93 (c32 rfl) (by decide) ?_
      refine v_callv (M' := mX8_worth) (d' := d - 1) (mc' := 0) (ms' := 0) (ci := 8) (c := 6) (As := [_, _]) dX5_rateWebs_95 k_1209 cm_X8_worth rfl (by omega) (by decide) kk_6 (Nat.le_of_ble_eq_true rfl) rfl ⟨Nat.le_refl _, Nat.le_refl _⟩ ?_
      refine s_cworth (by omega) I.X (by have := @pOn_rng h I.W k (h 116 1) (h 116 1); have := I.f12_4; omega) (fun xf_6 c95_6 => ?_)
      dsimp only [Option.toList, List.cons_append, List.nil_append, Nat.add_zero]
      refine v_mmin dX5_rateWebs_98 k_1210 (by omega) (Nat.le_of_ble_eq_true rfl) ⟨Nat.le_refl _, Nat.le_refl _⟩ ?_
      refine v_mmax dX5_rateWebs_101 k_1211 (by omega) (Nat.le_of_ble_eq_true rfl) ⟨Nat.le_refl _, Nat.le_refl _⟩ ?_
      refine v_iastore dX5_rateWebs_104 (by decide) kk_94 (by omega) (by omega) ?_
      rw [cst_w1 (by decide)]
      refine v_aload_n dX5_rateWebs_105 rfl ?_
      refine v_aload_n dX5_rateWebs_106 rfl ?_
      refine v_getv (ci := 5) (j := 13) (ji := 13) (tg := 0) dX5_rateWebs_107 k_483 (by decide) kk_87 (by decide) rfl rfl (by decide) ((cst_s (by decide)).trans (hset_c (by decide))) ?_
      refine v_aload_n dX5_rateWebs_110 rfl ?_
      refine v_getr (ci := 5) (j := 12) (ji := 12) (z := 94) dX5_rateWebs_111 k_482 (by decide) kk_87 (by decide) rfl rfl (fun r => rt_87_12 (r rfl)) (by decide) ?_
      refine v_iload dX5_rateWebs_114 rfl ?_
      refine v_ialoadv dX5_rateWebs_116 (by decide) kk_94 (by omega) (by omega) ((cst_m (by decide)).trans (hset_same _ _ _ _)) ?_
      refine v_mmin dX5_rateWebs_117 k_1210 (by omega) (Nat.le_of_ble_eq_true rfl) ⟨Nat.le_refl _, Nat.le_refl _⟩ ?_
      refine v_puti (ci := 5) (j := 13) (ji := 13) dX5_rateWebs_120 k_483 (by decide) kk_87 (by decide) rfl rfl rfl ?_
      rw [cst_w (by decide)]
      refine v_iinc_5 dX5_rateWebs_123 (by decide) rfl ?_
      rw [iadd_eq (x := k) (y := 1) (by unfold ok32; omega)]
      refine v_goto (tgt := 27) dX5_rateWebs_126 (by decide) ?_
      have e1 : max 0 (min 1000 (wth cs ((hset (hset F 94 k (-1)) 93 k (pOn h k (h 116 1) (h 116 1))) 39) (pOn h k (h 116 1) (h 116 1)) 100)) = rtW h cs g k := by
        unfold rtW
        rw [wth_congr (l2 := tLt h g) (fun i i0 i1 => by rw [hset_c (by decide), hset_c (by decide)]; exact hl i i0 i1)]
      have e2 : xf_6 87 13 = lrF h cs g k := (c95_6 87 13 (Nat.le_of_ble_eq_true rfl)).trans (by rw [hset_c (by decide), hset_c (by decide)]; exact ha.2.2.1)
      rw [e1, e2]
      exact ih (by omega) _ (AR_1 ha hk ⟨c51_3, c51_4, c51_5⟩ c95_6) (fun i i0 i1 => by rw [hset_c (by decide), hset_c (by decide), c95_6 39 i (Nat.le_of_ble_eq_true rfl), hset_c (by decide), hset_c (by decide)]; exact hl i i0 i1)

set_option maxHeartbeats 4000000 in
set_option maxRecDepth 100000 in
theorem s_srate {l : Launch} {G : GG} {d : Nat} {h F : AH} {Q : Option AV → List Kd → AH → Prop} {cs : Int → List (Int × List Int)} {g : GD} (hd : 6 ≤ d) (I : CI h cs) (hg : GB g) (ha : F 87 5 = npF (h 167) ∧ F 87 6 = g.1 ∧ F 87 7 = g.2.1 ∧ F 87 8 = g.2.2.1 ∧ F 87 9 = g.2.2.2.1) (hq : ∀ F', AR h cs g 4 F' → Q none K0 (cst h F')) : Sp l G mX5_rateWebs d 0 0 K0 [(2, 87), (2, 6), (0, g.2.2.2.2), (0, h 116 1), (0, trf h g)] (cst h F) Q := by
  refine sp_of (L := [(2, 87), (2, 6), (0, g.2.2.2.2), (0, h 116 1), (0, trf h g), (9, 0)]) pl_X5 (Nat.le_of_ble_eq_true rfl) (tg_c (by decide) (tg_c (by decide) (tg_c (by decide) (tg_c (by decide) (tg_c (by decide) tg_0))))) rfl ?_
  refine v_aload_n dX5_rateWebs_0 rfl ?_
  refine v_iload dX5_rateWebs_1 rfl ?_
  refine v_puti (ci := 5) (j := 10) (ji := 10) dX5_rateWebs_3 k_480 (by decide) kk_87 (by decide) rfl rfl rfl ?_
  rw [cst_w (by decide)]
  refine v_aload_n dX5_rateWebs_6 rfl ?_
  refine v_iload dX5_rateWebs_7 rfl ?_
  refine v_puti (ci := 5) (j := 13) (ji := 13) dX5_rateWebs_9 k_483 (by decide) kk_87 (by decide) rfl rfl rfl ?_
  rw [cst_w (by decide)]
  refine v_aload_n dX5_rateWebs_12 rfl ?_
  refine v_getrN (ci := 8) (j := 5) (ji := 5) (z := 38) dX5_rateWebs_13 k_241 (by decide) kk_6 (by decide) rfl rfl (fun r => rt_6_5 (r rfl)) (by decide) ?_
  refine v_aload_n dX5_rateWebs_16 rfl ?_
  refine v_getv (ci := 5) (j := 7) (ji := 7) (tg := 0) dX5_rateWebs_17 k_477 (by decide) kk_87 (by decide) rfl rfl (by decide) ((cst_s (by decide)).trans ((hset_j (by decide)).trans ((hset_j (by decide)).trans (ha.2.2.1)))) ?_
  refine v_iload_n dX5_rateWebs_20 rfl ?_
  refine v_callv (M' := mX2_tellTrade) (d' := d - 1) (mc' := 0) (ms' := 0) (ci := 2) (c := 38) (As := [_, _]) dX5_rateWebs_21 k_1206 cm_X2_tellTrade rfl (by omega) (by decide) kk_38 (Nat.le_of_ble_eq_true rfl) rfl ⟨Nat.le_refl _, Nat.le_refl _⟩ ?_
  refine s_ctell (by omega) (fun xf_2 c21_1 c21_2 => ?_)
  dsimp only [Option.toList, List.cons_append, List.nil_append, Nat.add_zero]
  refine v_iconst dX5_rateWebs_24 (c32 rfl) ?_
  refine v_istore_5 dX5_rateWebs_25 (by decide) rfl ?_
  exact lp_srate hd I hg hq 0 (Int.le_refl _) (by decide) _ (AR_f (by
    obtain ⟨a1, a2, a3, a4, a5⟩ := ha
    unfold AR
    rw [hset_j (by decide), hset_j (by decide), hset_j (by decide), hset_j (by decide), hset_j (by decide), hset_j (by decide), hset_j (by decide), hset_j (by decide), hset_j (by decide), hset_j (by decide), hset_j (by decide), hset_same, hset_same]
    exact ⟨⟨a1, a2, a3, a4, a5⟩, rfl, rfl, fun w w0 w1 => by omega⟩) (Fr_m (by decide) c21_1)) (fun i i0 i1 => by rw [c21_2 i i0 i1]; unfold tLt; rfl)

