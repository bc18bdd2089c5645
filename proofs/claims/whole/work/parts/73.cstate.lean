/-! ===== the class: states of shipments (written by wip/whole/p49.py) ===== -/
section TK
variable {h : AH} {cs : Int → List (Int × List Int)} {s q o k : Int}
theorem qF_lik (hl : lik h o s) : qF h cs s q k = qF h cs o q k := by
  unfold qF
  refine fupI_congr (fun x _ _ t => ?_)
  unfold qS
  by_cases e : lik h x s ∧ fI h cs x q = 1
  · have e2 : lik h x o ∧ fI h cs x q = 1 := ⟨by have := e.1; unfold lik at *; omega, e.2⟩
    rw [if_pos e, if_pos e2]
  · rw [if_neg e, if_neg (fun z => e ⟨by have := z.1; unfold lik at *; omega, z.2⟩)]
theorem qF_at (hs : 0 ≤ s) (hf : fI h cs s q = 1) : (qF h cs s q (s + 1)).2 = oOK h cs q s (qF h cs s q s).1 := by
  rw [qF_s hs]
  unfold qS
  rw [if_pos ⟨⟨rfl, rfl, rfl, rfl⟩, hf⟩]
theorem stF_1 (hs : 0 ≤ s) (hf : fI h cs s q = 1) : stF h cs s q = if oOK h cs q s (qF h cs s q s).1 = 0 then 6 else 1 := by
  unfold stF
  rw [if_neg (fun z => z hf), qF_at hs hf]
theorem stF_n (hf : fI h cs s q ≠ 1) : stF h cs s q = fI h cs s q := if_pos hf
/-- what an earlier one like it took -/
def takS (h : AH) (cs : Int → List (Int × List Int)) (s q o : Int) : Int := if stF h cs o q = 1 ∧ lik h o s then h 151 o else 0
theorem qF_tak (hk0 : 0 ≤ k) : (qF h cs s q k).1 = sm (takS h cs s q) k := by
  have key : ∀ m : Nat, (qF h cs s q m).1 = sm (takS h cs s q) m := by
    intro m
    induction m with
    | zero => rfl
    | succ m ih =>
      rw [show ((m + 1 : Nat) : Int) = (m : Int) + 1 by omega, qF_s (by omega), sm_s (by omega), ← ih]
      unfold qS takS
      by_cases c : lik h m s ∧ fI h cs m q = 1
      · rw [if_pos c, stF_1 (by omega) c.2, qF_lik (k := (m : Int)) c.1]
        by_cases e : oOK h cs q m (qF h cs m q m).1 = 0
        · rw [if_pos e, if_pos e, if_neg (fun z => absurd z.1 (by decide))]
        · rw [if_neg e, if_neg e, if_pos ⟨rfl, c.1⟩]
      · rw [if_neg c, if_neg (fun z => ?_)]
        · omega
        · by_cases f : fI h cs m q = 1
          · exact c ⟨z.2, f⟩
          · rw [stF_n f] at z; exact f z.1
  have := key k.toNat
  rw [Int.toNat_of_nonneg hk0] at this
  exact this
theorem takS_r (S : RS h) {n : Int} (hn : n ≤ h 116 65) : ∀ o, 0 ≤ o → o < n → 0 ≤ takS h cs s q o ∧ takS h cs s q o ≤ 10000 := fun o h0 h1 => by
  have := S.2.2.1 o h0 (by omega)
  unfold takS
  split <;> omega
end TK

set_option maxHeartbeats 4000000 in
set_option maxRecDepth 100000 in
theorem s_cheading {l : Launch} {G : GG} {d : Nat} {h F : AH} {Q : Option AV → List Kd → AH → Prop} {cs : Int → List (Int × List Int)} {s : Int} (hd : 1 ≤ d) (I : CI h cs) (hs : 0 ≤ s ∧ s < h 116 65) (hq : Q (some (0, h 130 (h 150 s))) K0 (cst h F)) : Sp l G mX0_headingOf d 0 0 K0 [(2, 4), (0, s)] (cst h F) Q := by
  have nb := I.W.nb
  have ns := I.S.1
  have sh := I.S.2.2.1 s hs.1 hs.2
  refine sp_of (L := [(2, 4), (0, s)]) pl_X0 (Nat.le_of_ble_eq_true rfl) (tg_c (by decide) (tg_c (by decide) tg_0)) rfl ?_
  refine v_aload_n dX0_headingOf_0 rfl ?_
  refine v_getr (ci := 0) (j := 0) (ji := 0) (z := 5) dX0_headingOf_1 k_372 (by decide) kk_4 (by decide) rfl rfl (fun r => rt_4_0 (r rfl)) (by decide) ?_
  refine v_getrN (ci := 4) (j := 1) (ji := 1) (z := 41) dX0_headingOf_4 k_358 (by decide) kk_5 (by decide) rfl rfl (fun r => rt_5_1 (r rfl)) (by decide) ?_
  refine v_getrN (ci := 6) (j := 1) (ji := 1) (z := 43) dX0_headingOf_7 k_296 (by decide) kk_41 (by decide) rfl rfl (fun r => rt_41_1 (r rfl)) (by decide) ?_
  refine v_aload_n dX0_headingOf_10 rfl ?_
  refine v_getr (ci := 0) (j := 1) (ji := 1) (z := 64) dX0_headingOf_11 k_374 (by decide) kk_4 (by decide) rfl rfl (fun r => rt_4_1 (r rfl)) (by decide) ?_
  refine v_iload_n dX0_headingOf_14 rfl ?_
  refine v_ialoadv dX0_headingOf_15 (by decide) kk_64 (by omega) (by omega) ((cst_n (by decide)).trans ((congrFun I.e64 s))) ?_
  refine v_ialoadv dX0_headingOf_16 (by decide) kk_43 (by omega) (by omega) ((cst_n (by decide)).trans ((congrFun I.e43 (h 150 s)))) ?_
  refine v_ireti dX0_headingOf_17 rfl (Nat.le_refl _) (Nat.le_refl _) ?_
  exact hq

set_option maxHeartbeats 4000000 in
set_option maxRecDepth 100000 in
theorem s_ctell {l : Launch} {G : GG} {d : Nat} {h F : AH} {Q : Option AV → List Kd → AH → Prop} {p dy : Int} (hd : 1 ≤ d) (hq : ∀ F', Fr 2 F F' → (∀ i, 0 ≤ i → i < 8 → F' 39 i = if i = 5 then p else if i = 7 then idiv dy 360 else 0) → Q none K0 (cst h F')) : Sp l G mX2_tellTrade d 0 0 K0 [(2, 38), (0, p), (0, dy)] (cst h F) Q := by
  refine sp_of (L := [(2, 38), (0, p), (0, dy), (9, 0)]) pl_X2 (Nat.le_of_ble_eq_true rfl) (tg_c (by decide) (tg_c (by decide) (tg_c (by decide) tg_0))) rfl ?_
  refine v_iconst dX2_tellTrade_0 (c32 rfl) ?_
  refine v_istore_n_3 dX2_tellTrade_1 (by decide) rfl ?_
  refine v_iload_n dX2_tellTrade_2 rfl ?_
  refine v_aload_n dX2_tellTrade_3 rfl ?_
  refine v_getr (ci := 2) (j := 0) (ji := 0) (z := 39) dX2_tellTrade_4 k_203 (by decide) kk_38 (by decide) rfl rfl (fun r => rt_38_0 (r rfl)) (by decide) ?_
  refine v_alen (ni := 8) dX2_tellTrade_7 (by decide) kk_39 (by simp) rfl (c32 rfl) ?_
  refine v_icmp_ge_f (tgt := 24) dX2_tellTrade_8 (by decide) (by decide) ?_
  refine v_aload_n dX2_tellTrade_11 rfl ?_
  refine v_getr (ci := 2) (j := 0) (ji := 0) (z := 39) dX2_tellTrade_12 k_203 (by decide) kk_38 (by decide) rfl rfl (fun r => rt_38_0 (r rfl)) (by decide) ?_
  refine v_iload_n dX2_tellTrade_15 rfl ?_
  refine v_iconst dX2_tellTrade_16 (c32 rfl) ?_
  refine v_iastore dX2_tellTrade_17 (by decide) kk_39 (by omega) (by omega) ?_
  rw [cst_w1 (by decide)]
  refine v_iinc_3 dX2_tellTrade_18 (by decide) rfl ?_
  rw [show iadd 0 1 = 1 from by decide]
  refine v_goto (tgt := 2) dX2_tellTrade_21 (by decide) ?_
  refine v_iload_n dX2_tellTrade_2 rfl ?_
  refine v_aload_n dX2_tellTrade_3 rfl ?_
  refine v_getr (ci := 2) (j := 0) (ji := 0) (z := 39) dX2_tellTrade_4 k_203 (by decide) kk_38 (by decide) rfl rfl (fun r => rt_38_0 (r rfl)) (by decide) ?_
  refine v_alen (ni := 8) dX2_tellTrade_7 (by decide) kk_39 (by simp) rfl (c32 rfl) ?_
  refine v_icmp_ge_f (tgt := 24) dX2_tellTrade_8 (by decide) (by decide) ?_
  refine v_aload_n dX2_tellTrade_11 rfl ?_
  refine v_getr (ci := 2) (j := 0) (ji := 0) (z := 39) dX2_tellTrade_12 k_203 (by decide) kk_38 (by decide) rfl rfl (fun r => rt_38_0 (r rfl)) (by decide) ?_
  refine v_iload_n dX2_tellTrade_15 rfl ?_
  refine v_iconst dX2_tellTrade_16 (c32 rfl) ?_
  refine v_iastore dX2_tellTrade_17 (by decide) kk_39 (by omega) (by omega) ?_
  rw [cst_w1 (by decide)]
  refine v_iinc_3 dX2_tellTrade_18 (by decide) rfl ?_
  rw [show iadd 1 1 = 2 from by decide]
  refine v_goto (tgt := 2) dX2_tellTrade_21 (by decide) ?_
  refine v_iload_n dX2_tellTrade_2 rfl ?_
  refine v_aload_n dX2_tellTrade_3 rfl ?_
  refine v_getr (ci := 2) (j := 0) (ji := 0) (z := 39) dX2_tellTrade_4 k_203 (by decide) kk_38 (by decide) rfl rfl (fun r => rt_38_0 (r rfl)) (by decide) ?_
  refine v_alen (ni := 8) dX2_tellTrade_7 (by decide) kk_39 (by simp) rfl (c32 rfl) ?_
  refine v_icmp_ge_f (tgt := 24) dX2_tellTrade_8 (by decide) (by decide) ?_
  refine v_aload_n dX2_tellTrade_11 rfl ?_
  refine v_getr (ci := 2) (j := 0) (ji := 0) (z := 39) dX2_tellTrade_12 k_203 (by decide) kk_38 (by decide) rfl rfl (fun r => rt_38_0 (r rfl)) (by decide) ?_
  refine v_iload_n dX2_tellTrade_15 rfl ?_
  refine v_iconst dX2_tellTrade_16 (c32 rfl) ?_
  refine v_iastore dX2_tellTrade_17 (by decide) kk_39 (by omega) (by omega) ?_
  rw [cst_w1 (by decide)]
  refine v_iinc_3 dX2_tellTrade_18 (by decide) rfl ?_
  rw [show iadd 2 1 = 3 from by decide]
  refine v_goto (tgt := 2) dX2_tellTrade_21 (by decide) ?_
  refine v_iload_n dX2_tellTrade_2 rfl ?_
  refine v_aload_n dX2_tellTrade_3 rfl ?_
  refine v_getr (ci := 2) (j := 0) (ji := 0) (z := 39) dX2_tellTrade_4 k_203 (by decide) kk_38 (by decide) rfl rfl (fun r => rt_38_0 (r rfl)) (by decide) ?_
  refine v_alen (ni := 8) dX2_tellTrade_7 (by decide) kk_39 (by simp) rfl (c32 rfl) ?_
  refine v_icmp_ge_f (tgt := 24) dX2_tellTrade_8 (by decide) (by decide) ?_
  refine v_aload_n dX2_tellTrade_11 rfl ?_
  refine v_getr (ci := 2) (j := 0) (ji := 0) (z := 39) dX2_tellTrade_12 k_203 (by decide) kk_38 (by decide) rfl rfl (fun r => rt_38_0 (r rfl)) (by decide) ?_
  refine v_iload_n dX2_tellTrade_15 rfl ?_
  refine v_iconst dX2_tellTrade_16 (c32 rfl) ?_
  refine v_iastore dX2_tellTrade_17 (by decide) kk_39 (by omega) (by omega) ?_
  rw [cst_w1 (by decide)]
  refine v_iinc_3 dX2_tellTrade_18 (by decide) rfl ?_
  rw [show iadd 3 1 = 4 from by decide]
  refine v_goto (tgt := 2) dX2_tellTrade_21 (by decide) ?_
  refine v_iload_n dX2_tellTrade_2 rfl ?_
  refine v_aload_n dX2_tellTrade_3 rfl ?_
  refine v_getr (ci := 2) (j := 0) (ji := 0) (z := 39) dX2_tellTrade_4 k_203 (by decide) kk_38 (by decide) rfl rfl (fun r => rt_38_0 (r rfl)) (by decide) ?_
  refine v_alen (ni := 8) dX2_tellTrade_7 (by decide) kk_39 (by simp) rfl (c32 rfl) ?_
  refine v_icmp_ge_f (tgt := 24) dX2_tellTrade_8 (by decide) (by decide) ?_
  refine v_aload_n dX2_tellTrade_11 rfl ?_
  refine v_getr (ci := 2) (j := 0) (ji := 0) (z := 39) dX2_tellTrade_12 k_203 (by decide) kk_38 (by decide) rfl rfl (fun r => rt_38_0 (r rfl)) (by decide) ?_
  refine v_iload_n dX2_tellTrade_15 rfl ?_
  refine v_iconst dX2_tellTrade_16 (c32 rfl) ?_
  refine v_iastore dX2_tellTrade_17 (by decide) kk_39 (by omega) (by omega) ?_
  rw [cst_w1 (by decide)]
  refine v_iinc_3 dX2_tellTrade_18 (by decide) rfl ?_
  rw [show iadd 4 1 = 5 from by decide]
  refine v_goto (tgt := 2) dX2_tellTrade_21 (by decide) ?_
  refine v_iload_n dX2_tellTrade_2 rfl ?_
  refine v_aload_n dX2_tellTrade_3 rfl ?_
  refine v_getr (ci := 2) (j := 0) (ji := 0) (z := 39) dX2_tellTrade_4 k_203 (by decide) kk_38 (by decide) rfl rfl (fun r => rt_38_0 (r rfl)) (by decide) ?_
  refine v_alen (ni := 8) dX2_tellTrade_7 (by decide) kk_39 (by simp) rfl (c32 rfl) ?_
  refine v_icmp_ge_f (tgt := 24) dX2_tellTrade_8 (by decide) (by decide) ?_
  refine v_aload_n dX2_tellTrade_11 rfl ?_
  refine v_getr (ci := 2) (j := 0) (ji := 0) (z := 39) dX2_tellTrade_12 k_203 (by decide) kk_38 (by decide) rfl rfl (fun r => rt_38_0 (r rfl)) (by decide) ?_
  refine v_iload_n dX2_tellTrade_15 rfl ?_
  refine v_iconst dX2_tellTrade_16 (c32 rfl) ?_
  refine v_iastore dX2_tellTrade_17 (by decide) kk_39 (by omega) (by omega) ?_
  rw [cst_w1 (by decide)]
  refine v_iinc_3 dX2_tellTrade_18 (by decide) rfl ?_
  rw [show iadd 5 1 = 6 from by decide]
  refine v_goto (tgt := 2) dX2_tellTrade_21 (by decide) ?_
  refine v_iload_n dX2_tellTrade_2 rfl ?_
  refine v_aload_n dX2_tellTrade_3 rfl ?_
  refine v_getr (ci := 2) (j := 0) (ji := 0) (z := 39) dX2_tellTrade_4 k_203 (by decide) kk_38 (by decide) rfl rfl (fun r => rt_38_0 (r rfl)) (by decide) ?_
  refine v_alen (ni := 8) dX2_tellTrade_7 (by decide) kk_39 (by simp) rfl (c32 rfl) ?_
  refine v_icmp_ge_f (tgt := 24) dX2_tellTrade_8 (by decide) (by decide) ?_
  refine v_aload_n dX2_tellTrade_11 rfl ?_
  refine v_getr (ci := 2) (j := 0) (ji := 0) (z := 39) dX2_tellTrade_12 k_203 (by decide) kk_38 (by decide) rfl rfl (fun r => rt_38_0 (r rfl)) (by decide) ?_
  refine v_iload_n dX2_tellTrade_15 rfl ?_
  refine v_iconst dX2_tellTrade_16 (c32 rfl) ?_
  refine v_iastore dX2_tellTrade_17 (by decide) kk_39 (by omega) (by omega) ?_
  rw [cst_w1 (by decide)]
  refine v_iinc_3 dX2_tellTrade_18 (by decide) rfl ?_
  rw [show iadd 6 1 = 7 from by decide]
  refine v_goto (tgt := 2) dX2_tellTrade_21 (by decide) ?_
  refine v_iload_n dX2_tellTrade_2 rfl ?_
  refine v_aload_n dX2_tellTrade_3 rfl ?_
  refine v_getr (ci := 2) (j := 0) (ji := 0) (z := 39) dX2_tellTrade_4 k_203 (by decide) kk_38 (by decide) rfl rfl (fun r => rt_38_0 (r rfl)) (by decide) ?_
  refine v_alen (ni := 8) dX2_tellTrade_7 (by decide) kk_39 (by simp) rfl (c32 rfl) ?_
  refine v_icmp_ge_f (tgt := 24) dX2_tellTrade_8 (by decide) (by decide) ?_
  refine v_aload_n dX2_tellTrade_11 rfl ?_
  refine v_getr (ci := 2) (j := 0) (ji := 0) (z := 39) dX2_tellTrade_12 k_203 (by decide) kk_38 (by decide) rfl rfl (fun r => rt_38_0 (r rfl)) (by decide) ?_
  refine v_iload_n dX2_tellTrade_15 rfl ?_
  refine v_iconst dX2_tellTrade_16 (c32 rfl) ?_
  refine v_iastore dX2_tellTrade_17 (by decide) kk_39 (by omega) (by omega) ?_
  rw [cst_w1 (by decide)]
  refine v_iinc_3 dX2_tellTrade_18 (by decide) rfl ?_
  rw [show iadd 7 1 = 8 from by decide]
  refine v_goto (tgt := 2) dX2_tellTrade_21 (by decide) ?_
  refine v_iload_n dX2_tellTrade_2 rfl ?_
  refine v_aload_n dX2_tellTrade_3 rfl ?_
  refine v_getr (ci := 2) (j := 0) (ji := 0) (z := 39) dX2_tellTrade_4 k_203 (by decide) kk_38 (by decide) rfl rfl (fun r => rt_38_0 (r rfl)) (by decide) ?_
  refine v_alen (ni := 8) dX2_tellTrade_7 (by decide) kk_39 (by simp) rfl (c32 rfl) ?_
  refine v_icmp_ge_t (tgt := 24) dX2_tellTrade_8 (by decide) (by decide) ?_
  refine v_aload_n dX2_tellTrade_24 rfl ?_
  refine v_getr (ci := 2) (j := 0) (ji := 0) (z := 39) dX2_tellTrade_25 k_203 (by decide) kk_38 (by decide) rfl rfl (fun r => rt_38_0 (r rfl)) (by decide) ?_
  refine v_iconst dX2_tellTrade_28 (c32 rfl) ?_
  refine v_iload_n dX2_tellTrade_29 rfl ?_
  refine v_iastore dX2_tellTrade_30 (by decide) kk_39 (by omega) (by omega) ?_
  rw [cst_w1 (by decide), hset_dj (b := 7) (j := 5) (by decide), hset_dj (b := 6) (j := 5) (by decide), hset_tw]
  refine v_aload_n dX2_tellTrade_31 rfl ?_
  refine v_getr (ci := 2) (j := 0) (ji := 0) (z := 39) dX2_tellTrade_32 k_203 (by decide) kk_38 (by decide) rfl rfl (fun r => rt_38_0 (r rfl)) (by decide) ?_
  refine v_bipush dX2_tellTrade_35 (c32 rfl) (by decide) ?_
  refine v_iload_n dX2_tellTrade_37 rfl ?_
  refine v_sipush dX2_tellTrade_38 (c32 rfl) (by decide) ?_
  refine v_idiv dX2_tellTrade_41 (by decide) ?_
  refine v_iastore dX2_tellTrade_42 (by decide) kk_39 (by omega) (by omega) ?_
  rw [cst_w1 (by decide), hset_tw]
  refine v_vret dX2_tellTrade_43 rfl (Nat.le_refl _) (Nat.le_refl _) ?_
  refine hq _ ((Fr_w (Fr_w (Fr_w (Fr_w (Fr_w (Fr_w (Fr_w (Fr_s (by decide)) (by decide)) (by decide)) (by decide)) (by decide)) (by decide)) (by decide)) (by decide))) (fun i i0 i1 => ?_)
  rcases (show i = 0 ∨ i = 1 ∨ i = 2 ∨ i = 3 ∨ i = 4 ∨ i = 5 ∨ i = 6 ∨ i = 7 by omega) with e | e | e | e | e | e | e | e <;> subst e
  · show _ = 0
    rw [hset_j (by decide), hset_j (by decide), hset_j (by decide), hset_j (by decide), hset_j (by decide), hset_j (by decide), hset_j (by decide), hset_same]
  · show _ = 0
    rw [hset_j (by decide), hset_j (by decide), hset_j (by decide), hset_j (by decide), hset_j (by decide), hset_j (by decide), hset_same]
  · show _ = 0
    rw [hset_j (by decide), hset_j (by decide), hset_j (by decide), hset_j (by decide), hset_j (by decide), hset_same]
  · show _ = 0
    rw [hset_j (by decide), hset_j (by decide), hset_j (by decide), hset_j (by decide), hset_same]
  · show _ = 0
    rw [hset_j (by decide), hset_j (by decide), hset_j (by decide), hset_same]
  · show _ = p
    rw [hset_j (by decide), hset_j (by decide), hset_same]
  · show _ = 0
    rw [hset_j (by decide), hset_same]
  · show _ = idiv dy 360
    rw [hset_same]

set_option maxHeartbeats 4000000 in
set_option maxRecDepth 100000 in
theorem s_cproto {l : Launch} {G : GG} {d : Nat} {h F : AH} {Q : Option AV → List Kd → AH → Prop} {cs : Int → List (Int × List Int)} {s q : Int} (hd : 2 ≤ d) (I : CI h cs) (hs : 0 ≤ s ∧ s < h 116 65) (hq : ∀ F', Fr 2 F F' → (∀ i, 0 ≤ i → i < 8 → F' 39 i = sLt h s i) → Q (some (0, pOn h (h 153 s) (h 155 s) q)) K0 (cst h F')) : Sp l G mX0_protocolOf d 0 0 K0 [(2, 4), (0, s), (0, q)] (cst h F) Q := by
  have nb := I.W.nb
  have ns := I.S.1
  have sh := I.S.2.2.1 s hs.1 hs.2
  refine sp_of (L := [(2, 4), (0, s), (0, q)]) pl_X0 (Nat.le_of_ble_eq_true rfl) (tg_c (by decide) (tg_c (by decide) (tg_c (by decide) tg_0))) rfl ?_
  refine v_aload_n dX0_protocolOf_0 rfl ?_
  refine v_getr (ci := 0) (j := 0) (ji := 0) (z := 5) dX0_protocolOf_1 k_372 (by decide) kk_4 (by decide) rfl rfl (fun r => rt_4_0 (r rfl)) (by decide) ?_
  refine v_getrN (ci := 4) (j := 0) (ji := 0) (z := 6) dX0_protocolOf_4 k_355 (by decide) kk_5 (by decide) rfl rfl (fun r => rt_5_0 (r rfl)) (by decide) ?_
  refine v_getrN (ci := 8) (j := 5) (ji := 5) (z := 38) dX0_protocolOf_7 k_242 (by decide) kk_6 (by decide) rfl rfl (fun r => rt_6_5 (r rfl)) (by decide) ?_
  refine v_aload_n dX0_protocolOf_10 rfl ?_
  refine v_iload_n dX0_protocolOf_11 rfl ?_
  refine v_callv (M' := mX0_headingOf) (d' := d - 1) (mc' := 0) (ms' := 0) (ci := 0) (c := 4) (As := [_]) dX0_protocolOf_12 k_1105 cm_X0_headingOf rfl (by omega) (by decide) kk_4 (Nat.le_of_ble_eq_true rfl) rfl ⟨Nat.le_refl _, Nat.le_refl _⟩ ?_
  refine s_cheading (by omega) I ⟨by omega, by omega⟩ ?_
  dsimp only [Option.toList, List.cons_append, List.nil_append, Nat.add_zero]
  refine v_aload_n dX0_protocolOf_15 rfl ?_
  refine v_getr (ci := 0) (j := 6) (ji := 6) (z := 69) dX0_protocolOf_16 k_379 (by decide) kk_4 (by decide) rfl rfl (fun r => rt_4_6 (r rfl)) (by decide) ?_
  refine v_iload_n dX0_protocolOf_19 rfl ?_
  refine v_ialoadv dX0_protocolOf_20 (by decide) kk_69 (by omega) (by omega) ((cst_n (by decide)).trans ((congrFun I.e69 s))) ?_
  refine v_callv (M' := mX2_tellTrade) (d' := d - 1) (mc' := 0) (ms' := 0) (ci := 2) (c := 38) (As := [_, _]) dX0_protocolOf_21 k_1109 cm_X2_tellTrade rfl (by omega) (by decide) kk_38 (Nat.le_of_ble_eq_true rfl) rfl ⟨Nat.le_refl _, Nat.le_refl _⟩ ?_
  refine s_ctell (by omega) (fun xf_2 c21_1 c21_2 => ?_)
  dsimp only [Option.toList, List.cons_append, List.nil_append, Nat.add_zero]
  refine v_aload_n dX0_protocolOf_24 rfl ?_
  refine v_getr (ci := 0) (j := 0) (ji := 0) (z := 5) dX0_protocolOf_25 k_372 (by decide) kk_4 (by decide) rfl rfl (fun r => rt_4_0 (r rfl)) (by decide) ?_
  refine v_getrN (ci := 4) (j := 0) (ji := 0) (z := 6) dX0_protocolOf_28 k_355 (by decide) kk_5 (by decide) rfl rfl (fun r => rt_5_0 (r rfl)) (by decide) ?_
  refine v_getrN (ci := 8) (j := 2) (ji := 2) (z := 12) dX0_protocolOf_31 k_236 (by decide) kk_6 (by decide) rfl rfl (fun r => rt_6_2 (r rfl)) (by decide) ?_
  refine v_aload_n dX0_protocolOf_34 rfl ?_
  refine v_getr (ci := 0) (j := 4) (ji := 4) (z := 67) dX0_protocolOf_35 k_377 (by decide) kk_4 (by decide) rfl rfl (fun r => rt_4_4 (r rfl)) (by decide) ?_
  refine v_iload_n dX0_protocolOf_38 rfl ?_
  refine v_ialoadv dX0_protocolOf_39 (by decide) kk_67 (by omega) (by omega) ((cst_n (by decide)).trans ((congrFun I.e67 s))) ?_
  refine v_aload_n dX0_protocolOf_40 rfl ?_
  refine v_getr (ci := 0) (j := 6) (ji := 6) (z := 69) dX0_protocolOf_41 k_379 (by decide) kk_4 (by decide) rfl rfl (fun r => rt_4_6 (r rfl)) (by decide) ?_
  refine v_iload_n dX0_protocolOf_44 rfl ?_
  refine v_ialoadv dX0_protocolOf_45 (by decide) kk_69 (by omega) (by omega) ((cst_n (by decide)).trans ((congrFun I.e69 s))) ?_
  refine v_iload_n dX0_protocolOf_46 rfl ?_
  refine v_callv (M' := mX1_inForce) (d' := d - 1) (mc' := 0) (ms' := 0) (ci := 1) (c := 12) (As := [_, _, _]) dX0_protocolOf_47 k_1113 cm_X1_inForce rfl (by omega) (by decide) kk_12 (Nat.le_of_ble_eq_true rfl) rfl ⟨Nat.le_refl _, Nat.le_refl _⟩ ?_
  refine s_cforce (by omega) I ?_
  dsimp only [Option.toList, List.cons_append, List.nil_append, Nat.add_zero]
  refine v_ireti dX0_protocolOf_50 rfl (Nat.le_refl _) (Nat.le_refl _) ?_
  exact hq _ c21_1 (fun i i0 i1 => c21_2 i i0 i1)

set_option maxHeartbeats 4000000 in
set_option maxRecDepth 100000 in
theorem s_cisOwn {l : Launch} {G : GG} {d : Nat} {h F : AH} {Q : Option AV → List Kd → AH → Prop} {w b : Int} (hd : 1 ≤ d) (hw : 0 ≤ w ∧ w < 5) (hb : 0 ≤ b ∧ b < 100) (q1 : F (58 + w) b ≠ 0 → Q (some (0, 1)) K0 (cst h F)) (q0 : F (58 + w) b = 0 → Q (some (0, 0)) K0 (cst h F)) : Sp l G mX4_isOwn d 0 0 K0 [(2, 5), (0, w), (0, b)] (cst h F) Q := by
  refine sp_of (L := [(2, 5), (0, w), (0, b)]) pl_X4 (Nat.le_of_ble_eq_true rfl) (tg_c (by decide) (tg_c (by decide) (tg_c (by decide) tg_0))) rfl ?_
  refine v_aload_n dX4_isOwn_0 rfl ?_
  refine v_getr (ci := 4) (j := 2) (ji := 2) (z := 57) dX4_isOwn_1 k_359 (by decide) kk_5 (by decide) rfl rfl (fun r => rt_5_2 (r rfl)) (by decide) ?_
  refine v_iload_n dX4_isOwn_4 rfl ?_
  refine v_aaload dX4_isOwn_5 (by decide) kk_57 (by omega) (by omega) (fun r => rb_57 (r rfl) (by omega) (by omega)) (by omega) ?_
  refine v_iload_n dX4_isOwn_6 rfl ?_
  refine v_ialoadv dX4_isOwn_7 (by omega) (krow_57 (by omega) (by omega)) (by omega) (by omega) (cst_m (by unfold cR; omega)) ?_
  refine v_if_eq (tgt := 15) dX4_isOwn_8 (by decide) (fun c8_1 => ?_) (fun c8_1 => ?_)
  · refine v_iconst dX4_isOwn_15 (c32 rfl) ?_
    refine v_iretz dX4_isOwn_16 rfl (by decide) (Nat.le_refl _) (Nat.le_refl _) ?_
    exact q0 c8_1
  · refine v_iconst dX4_isOwn_11 (c32 rfl) ?_
    refine v_goto (tgt := 16) dX4_isOwn_12 (by decide) ?_
    refine v_iretz dX4_isOwn_16 rfl (by decide) (Nat.le_refl _) (Nat.le_refl _) ?_
    exact q1 c8_1

set_option maxHeartbeats 4000000 in
set_option maxRecDepth 100000 in
theorem lp_ctaken {l : Launch} {G : GG} {d : Nat} {h F : AH} {Q : Option AV → List Kd → AH → Prop} {cs : Int → List (Int × List Int)} {s q : Int} (hd : 2 ≤ d) (I : CI h cs) (hs : 0 ≤ s ∧ s < h 116 65) (hst : ∀ t, 0 ≤ t → t < s → F 75 t = stF h cs t q) (hq : Q (some (0, sm (takS h cs s q) s)) K0 (cst h F)) : ∀ k, 0 ≤ k → k ≤ s → V l G mX0_countTaken d 0 0 0 0 K0 4 [(2, 4), (0, s), (0, sm (takS h cs s q) k), (0, k), (9, 0)] [] (cst h F) Q := by
  have nb := I.W.nb
  have ns := I.S.1
  have sh := I.S.2.2.1 s hs.1 hs.2
  refine loop_m3 (fun k hk hkN ih => ?_)
  refine v_iload_n dX0_countTaken_4 rfl ?_
  refine v_iload_n dX0_countTaken_5 rfl ?_
  refine v_icmp_ge (tgt := 116) dX0_countTaken_6 (by decide) (fun c6_1 => ?_) (fun c6_1 => ?_)
  · refine v_iload_n dX0_countTaken_116 rfl ?_
    refine v_ireti dX0_countTaken_117 rfl (Nat.le_refl _) (Nat.le_refl _) ?_
    obtain rfl : k = s := by omega
    exact hq
  · have shk := I.S.2.2.1 k hk (by omega)
    have r9 := sm_rng (takS_r (cs := cs) (s := s) (q := q) I.S (n := h 116 65) (Int.le_refl _)) k hk (by omega)
    refine v_aload_n dX0_countTaken_9 rfl ?_
    refine v_getr (ci := 0) (j := 10) (ji := 10) (z := 75) dX0_countTaken_10 k_386 (by decide) kk_4 (by decide) rfl rfl (fun r => rt_4_10 (r rfl)) (by decide) ?_
    refine v_iload_n dX0_countTaken_13 rfl ?_
    refine v_ialoadv dX0_countTaken_14 (by decide) kk_75 (by omega) (by omega) ((cst_m (by decide)).trans ((hst k hk (by omega)))) ?_
    refine v_iconst dX0_countTaken_15 (c32 rfl) ?_
    refine v_icmp_ne (tgt := 89) dX0_countTaken_16 (by decide) (fun c16_2 => ?_) (fun c16_2 => ?_)
    · refine v_iconst dX0_countTaken_89 (c32 rfl) ?_
      refine v_istore_4 dX0_countTaken_90 (by decide) rfl ?_
      refine v_iload_n dX0_countTaken_92 rfl ?_
      refine v_iload dX0_countTaken_93 rfl ?_
      refine v_if_eq_t (tgt := 107) dX0_countTaken_95 (by decide) (by decide) ?_
      refine v_iconst dX0_countTaken_107 (c32 rfl) ?_
      refine v_iaddE dX0_countTaken_108 (by omega) ?_
      refine v_istore_n_2 dX0_countTaken_109 (by decide) rfl ?_
      refine v_iinc_3 dX0_countTaken_110 (by decide) rfl ?_
      rw [iadd_eq (x := k) (y := 1) (by unfold ok32; omega)]
      refine v_goto (tgt := 4) dX0_countTaken_113 (by decide) ?_
      have e8 : takS h cs s q k = 0 := if_neg (fun z => by have z1 := z.1; have z2 := z.2; unfold lik at z2; omega)
      have e9 : sm (takS h cs s q) (k + 1) = ((sm (takS h cs s q) k) + 0) := by rw [sm_s hk, e8]
      have ih9 := ih (by omega)
      rw [e9] at ih9
      refine v_loc (lo_k (lo_k (lo_k (lo_k (lo_d lo_nil))))) ?_
      exact ih9
    · refine v_aload_n dX0_countTaken_19 rfl ?_
      refine v_getr (ci := 0) (j := 3) (ji := 3) (z := 66) dX0_countTaken_20 k_376 (by decide) kk_4 (by decide) rfl rfl (fun r => rt_4_3 (r rfl)) (by decide) ?_
      refine v_iload_n dX0_countTaken_23 rfl ?_
      refine v_ialoadv dX0_countTaken_24 (by decide) kk_66 (by omega) (by omega) ((cst_n (by decide)).trans ((congrFun I.e66 k))) ?_
      refine v_aload_n dX0_countTaken_25 rfl ?_
      refine v_getr (ci := 0) (j := 3) (ji := 3) (z := 66) dX0_countTaken_26 k_376 (by decide) kk_4 (by decide) rfl rfl (fun r => rt_4_3 (r rfl)) (by decide) ?_
      refine v_iload_n dX0_countTaken_29 rfl ?_
      refine v_ialoadv dX0_countTaken_30 (by decide) kk_66 (by omega) (by omega) ((cst_n (by decide)).trans ((congrFun I.e66 s))) ?_
      refine v_icmp_ne (tgt := 89) dX0_countTaken_31 (by decide) (fun c31_3 => ?_) (fun c31_3 => ?_)
      · refine v_iconst dX0_countTaken_89 (c32 rfl) ?_
        refine v_istore_4 dX0_countTaken_90 (by decide) rfl ?_
        refine v_iload_n dX0_countTaken_92 rfl ?_
        refine v_iload dX0_countTaken_93 rfl ?_
        refine v_if_eq_t (tgt := 107) dX0_countTaken_95 (by decide) (by decide) ?_
        refine v_iconst dX0_countTaken_107 (c32 rfl) ?_
        refine v_iaddE dX0_countTaken_108 (by omega) ?_
        refine v_istore_n_2 dX0_countTaken_109 (by decide) rfl ?_
        refine v_iinc_3 dX0_countTaken_110 (by decide) rfl ?_
        rw [iadd_eq (x := k) (y := 1) (by unfold ok32; omega)]
        refine v_goto (tgt := 4) dX0_countTaken_113 (by decide) ?_
        have e8 : takS h cs s q k = 0 := if_neg (fun z => by have z1 := z.1; have z2 := z.2; unfold lik at z2; omega)
        have e9 : sm (takS h cs s q) (k + 1) = ((sm (takS h cs s q) k) + 0) := by rw [sm_s hk, e8]
        have ih9 := ih (by omega)
        rw [e9] at ih9
        refine v_loc (lo_k (lo_k (lo_k (lo_k (lo_d lo_nil))))) ?_
        exact ih9
      · refine v_aload_n dX0_countTaken_34 rfl ?_
        refine v_getr (ci := 0) (j := 4) (ji := 4) (z := 67) dX0_countTaken_35 k_377 (by decide) kk_4 (by decide) rfl rfl (fun r => rt_4_4 (r rfl)) (by decide) ?_
        refine v_iload_n dX0_countTaken_38 rfl ?_
        refine v_ialoadv dX0_countTaken_39 (by decide) kk_67 (by omega) (by omega) ((cst_n (by decide)).trans ((congrFun I.e67 k))) ?_
        refine v_aload_n dX0_countTaken_40 rfl ?_
        refine v_getr (ci := 0) (j := 4) (ji := 4) (z := 67) dX0_countTaken_41 k_377 (by decide) kk_4 (by decide) rfl rfl (fun r => rt_4_4 (r rfl)) (by decide) ?_
        refine v_iload_n dX0_countTaken_44 rfl ?_
        refine v_ialoadv dX0_countTaken_45 (by decide) kk_67 (by omega) (by omega) ((cst_n (by decide)).trans ((congrFun I.e67 s))) ?_
        refine v_icmp_ne (tgt := 89) dX0_countTaken_46 (by decide) (fun c46_4 => ?_) (fun c46_4 => ?_)
        · refine v_iconst dX0_countTaken_89 (c32 rfl) ?_
          refine v_istore_4 dX0_countTaken_90 (by decide) rfl ?_
          refine v_iload_n dX0_countTaken_92 rfl ?_
          refine v_iload dX0_countTaken_93 rfl ?_
          refine v_if_eq_t (tgt := 107) dX0_countTaken_95 (by decide) (by decide) ?_
          refine v_iconst dX0_countTaken_107 (c32 rfl) ?_
          refine v_iaddE dX0_countTaken_108 (by omega) ?_
          refine v_istore_n_2 dX0_countTaken_109 (by decide) rfl ?_
          refine v_iinc_3 dX0_countTaken_110 (by decide) rfl ?_
          rw [iadd_eq (x := k) (y := 1) (by unfold ok32; omega)]
          refine v_goto (tgt := 4) dX0_countTaken_113 (by decide) ?_
          have e8 : takS h cs s q k = 0 := if_neg (fun z => by have z1 := z.1; have z2 := z.2; unfold lik at z2; omega)
          have e9 : sm (takS h cs s q) (k + 1) = ((sm (takS h cs s q) k) + 0) := by rw [sm_s hk, e8]
          have ih9 := ih (by omega)
          rw [e9] at ih9
          refine v_loc (lo_k (lo_k (lo_k (lo_k (lo_d lo_nil))))) ?_
          exact ih9
        · refine v_aload_n dX0_countTaken_49 rfl ?_
          refine v_iload_n dX0_countTaken_50 rfl ?_
          refine v_callv (M' := mX0_headingOf) (d' := d - 1) (mc' := 0) (ms' := 0) (ci := 0) (c := 4) (As := [_]) dX0_countTaken_51 k_1105 cm_X0_headingOf rfl (by omega) (by decide) kk_4 (Nat.le_of_ble_eq_true rfl) rfl ⟨Nat.le_refl _, Nat.le_refl _⟩ ?_
          refine s_cheading (by omega) I ⟨by omega, by omega⟩ ?_
          dsimp only [Option.toList, List.cons_append, List.nil_append, Nat.add_zero]
          refine v_aload_n dX0_countTaken_54 rfl ?_
          refine v_iload_n dX0_countTaken_55 rfl ?_
          refine v_callv (M' := mX0_headingOf) (d' := d - 1) (mc' := 0) (ms' := 0) (ci := 0) (c := 4) (As := [_]) dX0_countTaken_56 k_1105 cm_X0_headingOf rfl (by omega) (by decide) kk_4 (Nat.le_of_ble_eq_true rfl) rfl ⟨Nat.le_refl _, Nat.le_refl _⟩ ?_
          refine s_cheading (by omega) I ⟨by omega, by omega⟩ ?_
          dsimp only [Option.toList, List.cons_append, List.nil_append, Nat.add_zero]
          refine v_icmp_ne (tgt := 89) dX0_countTaken_59 (by decide) (fun c59_5 => ?_) (fun c59_5 => ?_)
          · refine v_iconst dX0_countTaken_89 (c32 rfl) ?_
            refine v_istore_4 dX0_countTaken_90 (by decide) rfl ?_
            refine v_iload_n dX0_countTaken_92 rfl ?_
            refine v_iload dX0_countTaken_93 rfl ?_
            refine v_if_eq_t (tgt := 107) dX0_countTaken_95 (by decide) (by decide) ?_
            refine v_iconst dX0_countTaken_107 (c32 rfl) ?_
            refine v_iaddE dX0_countTaken_108 (by omega) ?_
            refine v_istore_n_2 dX0_countTaken_109 (by decide) rfl ?_
            refine v_iinc_3 dX0_countTaken_110 (by decide) rfl ?_
            rw [iadd_eq (x := k) (y := 1) (by unfold ok32; omega)]
            refine v_goto (tgt := 4) dX0_countTaken_113 (by decide) ?_
            have e8 : takS h cs s q k = 0 := if_neg (fun z => by have z1 := z.1; have z2 := z.2; unfold lik at z2; omega)
            have e9 : sm (takS h cs s q) (k + 1) = ((sm (takS h cs s q) k) + 0) := by rw [sm_s hk, e8]
            have ih9 := ih (by omega)
            rw [e9] at ih9
            refine v_loc (lo_k (lo_k (lo_k (lo_k (lo_d lo_nil))))) ?_
            exact ih9
          · refine v_aload_n dX0_countTaken_62 rfl ?_
            refine v_getr (ci := 0) (j := 6) (ji := 6) (z := 69) dX0_countTaken_63 k_379 (by decide) kk_4 (by decide) rfl rfl (fun r => rt_4_6 (r rfl)) (by decide) ?_
            refine v_iload_n dX0_countTaken_66 rfl ?_
            refine v_ialoadv dX0_countTaken_67 (by decide) kk_69 (by omega) (by omega) ((cst_n (by decide)).trans ((congrFun I.e69 k))) ?_
            refine v_sipush dX0_countTaken_68 (c32 rfl) (by decide) ?_
            refine v_idiv dX0_countTaken_71 (by decide) ?_
            refine v_aload_n dX0_countTaken_72 rfl ?_
            refine v_getr (ci := 0) (j := 6) (ji := 6) (z := 69) dX0_countTaken_73 k_379 (by decide) kk_4 (by decide) rfl rfl (fun r => rt_4_6 (r rfl)) (by decide) ?_
            refine v_iload_n dX0_countTaken_76 rfl ?_
            refine v_ialoadv dX0_countTaken_77 (by decide) kk_69 (by omega) (by omega) ((cst_n (by decide)).trans ((congrFun I.e69 s))) ?_
            refine v_sipush dX0_countTaken_78 (c32 rfl) (by decide) ?_
            refine v_idiv dX0_countTaken_81 (by decide) ?_
            refine v_icmp_ne (tgt := 89) dX0_countTaken_82 (by decide) (fun c82_6 => ?_) (fun c82_6 => ?_)
            · refine v_iconst dX0_countTaken_89 (c32 rfl) ?_
              refine v_istore_4 dX0_countTaken_90 (by decide) rfl ?_
              refine v_iload_n dX0_countTaken_92 rfl ?_
              refine v_iload dX0_countTaken_93 rfl ?_
              refine v_if_eq_t (tgt := 107) dX0_countTaken_95 (by decide) (by decide) ?_
              refine v_iconst dX0_countTaken_107 (c32 rfl) ?_
              refine v_iaddE dX0_countTaken_108 (by omega) ?_
              refine v_istore_n_2 dX0_countTaken_109 (by decide) rfl ?_
              refine v_iinc_3 dX0_countTaken_110 (by decide) rfl ?_
              rw [iadd_eq (x := k) (y := 1) (by unfold ok32; omega)]
              refine v_goto (tgt := 4) dX0_countTaken_113 (by decide) ?_
              have e8 : takS h cs s q k = 0 := if_neg (fun z => by have z1 := z.1; have z2 := z.2; unfold lik at z2; omega)
              have e9 : sm (takS h cs s q) (k + 1) = ((sm (takS h cs s q) k) + 0) := by rw [sm_s hk, e8]
              have ih9 := ih (by omega)
              rw [e9] at ih9
              refine v_loc (lo_k (lo_k (lo_k (lo_k (lo_d lo_nil))))) ?_
              exact ih9
            · refine v_iconst dX0_countTaken_85 (c32 rfl) ?_
              refine v_goto (tgt := 90) dX0_countTaken_86 (by decide) ?_
              refine v_istore_4 dX0_countTaken_90 (by decide) rfl ?_
              refine v_iload_n dX0_countTaken_92 rfl ?_
              refine v_iload dX0_countTaken_93 rfl ?_
              refine v_if_eq_f (tgt := 107) dX0_countTaken_95 (by decide) (by decide) ?_
              refine v_aload_n dX0_countTaken_98 rfl ?_
              refine v_getr (ci := 0) (j := 2) (ji := 2) (z := 65) dX0_countTaken_99 k_375 (by decide) kk_4 (by decide) rfl rfl (fun r => rt_4_2 (r rfl)) (by decide) ?_
              refine v_iload_n dX0_countTaken_102 rfl ?_
              refine v_ialoadv dX0_countTaken_103 (by decide) kk_65 (by omega) (by omega) ((cst_n (by decide)).trans ((congrFun I.e65 k))) ?_
              refine v_goto (tgt := 108) dX0_countTaken_104 (by decide) ?_
              refine v_iaddE dX0_countTaken_108 (by omega) ?_
              refine v_istore_n_2 dX0_countTaken_109 (by decide) rfl ?_
              refine v_iinc_3 dX0_countTaken_110 (by decide) rfl ?_
              rw [iadd_eq (x := k) (y := 1) (by unfold ok32; omega)]
              refine v_goto (tgt := 4) dX0_countTaken_113 (by decide) ?_
              have e8 : takS h cs s q k = h 151 k := if_pos ⟨by omega, by unfold lik; omega⟩
              have e9 : sm (takS h cs s q) (k + 1) = ((sm (takS h cs s q) k) + (h 151 k)) := by rw [sm_s hk, e8]
              have ih9 := ih (by omega)
              rw [e9] at ih9
              refine v_loc (lo_k (lo_k (lo_k (lo_k (lo_d lo_nil))))) ?_
              exact ih9

set_option maxHeartbeats 4000000 in
set_option maxRecDepth 100000 in
theorem s_ctaken {l : Launch} {G : GG} {d : Nat} {h F : AH} {Q : Option AV → List Kd → AH → Prop} {cs : Int → List (Int × List Int)} {s q : Int} (hd : 2 ≤ d) (I : CI h cs) (hs : 0 ≤ s ∧ s < h 116 65) (hst : ∀ t, 0 ≤ t → t < s → F 75 t = stF h cs t q) (hq : Q (some (0, sm (takS h cs s q) s)) K0 (cst h F)) : Sp l G mX0_countTaken d 0 0 K0 [(2, 4), (0, s)] (cst h F) Q := by
  refine sp_of (L := [(2, 4), (0, s), (9, 0), (9, 0), (9, 0)]) pl_X0 (Nat.le_of_ble_eq_true rfl) (tg_c (by decide) (tg_c (by decide) tg_0)) rfl ?_
  refine v_iconst dX0_countTaken_0 (c32 rfl) ?_
  refine v_istore_n_2 dX0_countTaken_1 (by decide) rfl ?_
  refine v_iconst dX0_countTaken_2 (c32 rfl) ?_
  refine v_istore_n_3 dX0_countTaken_3 (by decide) rfl ?_
  exact lp_ctaken (q := q) hd I hs hst hq 0 (Int.le_refl _) hs.1

set_option maxHeartbeats 4000000 in
set_option maxRecDepth 100000 in
theorem s_cfindState {l : Launch} {G : GG} {d : Nat} {h F : AH} {Q : Option AV → List Kd → AH → Prop} {cs : Int → List (Int × List Int)} {s q : Int} (hd : 5 ≤ d) (I : CI h cs) (hs : 0 ≤ s ∧ s < h 116 65) (hsq : h 155 s ≤ q) (hown : h 153 s ≠ -1 → F (58 + h 153 s) (h 150 s) = own h cs (h 153 s) q (-1) (h 150 s)) (hst : ∀ t, 0 ≤ t → t < s → F 75 t = stF h cs t q) (hq : ∀ F', Fr 2 F F' → Q (some (0, stF h cs s q)) K0 (cst h F')) : Sp l G mX0_findState d 0 0 K0 [(2, 4), (0, s), (0, q)] (cst h F) Q := by
  have nb := I.W.nb
  have ns := I.S.1
  have sh := I.S.2.2.1 s hs.1 hs.2
  have r9 := sm_rng (takS_r (cs := cs) (s := s) (q := q) I.S (n := h 116 65) (Int.le_refl _)) s hs.1 (by omega)
  refine sp_of (L := [(2, 4), (0, s), (0, q), (9, 0), (9, 0), (9, 0), (9, 0)]) pl_X0 (Nat.le_of_ble_eq_true rfl) (tg_c (by decide) (tg_c (by decide) (tg_c (by decide) tg_0))) rfl ?_
  refine v_aload_n dX0_findState_0 rfl ?_
  refine v_getr (ci := 0) (j := 4) (ji := 4) (z := 67) dX0_findState_1 k_377 (by decide) kk_4 (by decide) rfl rfl (fun r => rt_4_4 (r rfl)) (by decide) ?_
  refine v_iload_n dX0_findState_4 rfl ?_
  refine v_ialoadv dX0_findState_5 (by decide) kk_67 (by omega) (by omega) ((cst_n (by decide)).trans ((congrFun I.e67 s))) ?_
  refine v_iconst dX0_findState_6 (c32 rfl) ?_
  refine v_icmp_ne (tgt := 12) dX0_findState_7 (by decide) (fun c7_1 => ?_) (fun c7_1 => ?_)
  · refine v_aload_n dX0_findState_12 rfl ?_
    refine v_getr (ci := 0) (j := 0) (ji := 0) (z := 5) dX0_findState_13 k_372 (by decide) kk_4 (by decide) rfl rfl (fun r => rt_4_0 (r rfl)) (by decide) ?_
    refine v_getrN (ci := 4) (j := 1) (ji := 1) (z := 41) dX0_findState_16 k_358 (by decide) kk_5 (by decide) rfl rfl (fun r => rt_5_1 (r rfl)) (by decide) ?_
    refine v_getrN (ci := 6) (j := 0) (ji := 0) (z := 42) dX0_findState_19 k_293 (by decide) kk_41 (by decide) rfl rfl (fun r => rt_41_0 (r rfl)) (by decide) ?_
    refine v_aload_n dX0_findState_22 rfl ?_
    refine v_getr (ci := 0) (j := 1) (ji := 1) (z := 64) dX0_findState_23 k_374 (by decide) kk_4 (by decide) rfl rfl (fun r => rt_4_1 (r rfl)) (by decide) ?_
    refine v_iload_n dX0_findState_26 rfl ?_
    refine v_ialoadv dX0_findState_27 (by decide) kk_64 (by omega) (by omega) ((cst_n (by decide)).trans ((congrFun I.e64 s))) ?_
    refine v_ialoadv dX0_findState_28 (by decide) kk_42 (by omega) (by omega) ((cst_n (by decide)).trans ((congrFun I.e42 (h 150 s)))) ?_
    refine v_istore_n_3 dX0_findState_29 (by decide) rfl ?_
    refine v_aload_n dX0_findState_30 rfl ?_
    refine v_getr (ci := 0) (j := 0) (ji := 0) (z := 5) dX0_findState_31 k_372 (by decide) kk_4 (by decide) rfl rfl (fun r => rt_4_0 (r rfl)) (by decide) ?_
    refine v_getrN (ci := 4) (j := 0) (ji := 0) (z := 6) dX0_findState_34 k_355 (by decide) kk_5 (by decide) rfl rfl (fun r => rt_5_0 (r rfl)) (by decide) ?_
    refine v_aload_n dX0_findState_37 rfl ?_
    refine v_getr (ci := 0) (j := 4) (ji := 4) (z := 67) dX0_findState_38 k_377 (by decide) kk_4 (by decide) rfl rfl (fun r => rt_4_4 (r rfl)) (by decide) ?_
    refine v_iload_n dX0_findState_41 rfl ?_
    refine v_ialoadv dX0_findState_42 (by decide) kk_67 (by omega) (by omega) ((cst_n (by decide)).trans ((congrFun I.e67 s))) ?_
    refine v_iload_n dX0_findState_43 rfl ?_
    refine v_aload_n dX0_findState_44 rfl ?_
    refine v_getr (ci := 0) (j := 3) (ji := 3) (z := 66) dX0_findState_45 k_376 (by decide) kk_4 (by decide) rfl rfl (fun r => rt_4_3 (r rfl)) (by decide) ?_
    refine v_iload_n dX0_findState_48 rfl ?_
    refine v_ialoadv dX0_findState_49 (by decide) kk_66 (by omega) (by omega) ((cst_n (by decide)).trans ((congrFun I.e66 s))) ?_
    refine v_aload_n dX0_findState_50 rfl ?_
    refine v_getr (ci := 0) (j := 6) (ji := 6) (z := 69) dX0_findState_51 k_379 (by decide) kk_4 (by decide) rfl rfl (fun r => rt_4_6 (r rfl)) (by decide) ?_
    refine v_iload_n dX0_findState_54 rfl ?_
    refine v_ialoadv dX0_findState_55 (by decide) kk_69 (by omega) (by omega) ((cst_n (by decide)).trans ((congrFun I.e69 s))) ?_
    refine v_iload_n dX0_findState_56 rfl ?_
    have lb9 := I.W.la (h 150 s) sh.1.1 sh.1.2
    refine v_callv (M' := mX8_areTwoMembers) (d' := d - 1) (mc' := 0) (ms' := 0) (ci := 8) (c := 6) (As := [_, _, _, _, _]) dX0_findState_57 k_1096 cm_X8_areTwoMembers rfl (by omega) (by decide) kk_6 (Nat.le_of_ble_eq_true rfl) rfl ⟨Nat.le_refl _, Nat.le_refl _⟩ ?_
    refine s_cTwo (by omega) I ⟨by omega, by omega⟩ ⟨by omega, by omega⟩ (fun c57_2 => ?_) (fun c57_3 c57_4 c57_5 => ?_)
    · dsimp only [Option.toList, List.cons_append, List.nil_append, Nat.add_zero]
      refine v_if_ne_f (tgt := 65) dX0_findState_60 (by decide) (by decide) ?_
      refine v_iconst dX0_findState_63 (c32 rfl) ?_
      refine v_ireti dX0_findState_64 rfl (Nat.le_refl _) (Nat.le_refl _) ?_
      have hfI : fI h cs s q = fS h cs (fun _ => own h cs (h 153 s) q (-1) (h 150 s)) s q := if_pos hsq
      have e1 : fI h cs s q = 2 := by
        rw [hfI]
        unfold fS
        rw [if_neg c7_1, if_pos (by have := c57_2; omega)]
      have ej : stF h cs s q = 2 := by rw [stF_n (by rw [e1]; decide), e1]
      have hq9 := hq _ Fr_0
      rw [ej] at hq9
      exact hq9
    · dsimp only [Option.toList, List.cons_append, List.nil_append, Nat.add_zero]
      refine v_if_ne_t (tgt := 65) dX0_findState_60 (by decide) (by decide) ?_
      refine v_aload_n dX0_findState_65 rfl ?_
      refine v_getr (ci := 0) (j := 0) (ji := 0) (z := 5) dX0_findState_66 k_372 (by decide) kk_4 (by decide) rfl rfl (fun r => rt_4_0 (r rfl)) (by decide) ?_
      refine v_aload_n dX0_findState_69 rfl ?_
      refine v_getr (ci := 0) (j := 4) (ji := 4) (z := 67) dX0_findState_70 k_377 (by decide) kk_4 (by decide) rfl rfl (fun r => rt_4_4 (r rfl)) (by decide) ?_
      refine v_iload_n dX0_findState_73 rfl ?_
      refine v_ialoadv dX0_findState_74 (by decide) kk_67 (by omega) (by omega) ((cst_n (by decide)).trans ((congrFun I.e67 s))) ?_
      refine v_aload_n dX0_findState_75 rfl ?_
      refine v_getr (ci := 0) (j := 1) (ji := 1) (z := 64) dX0_findState_76 k_374 (by decide) kk_4 (by decide) rfl rfl (fun r => rt_4_1 (r rfl)) (by decide) ?_
      refine v_iload_n dX0_findState_79 rfl ?_
      refine v_ialoadv dX0_findState_80 (by decide) kk_64 (by omega) (by omega) ((cst_n (by decide)).trans ((congrFun I.e64 s))) ?_
      refine v_callv (M' := mX4_isOwn) (d' := d - 1) (mc' := 0) (ms' := 0) (ci := 4) (c := 5) (As := [_, _]) dX0_findState_81 k_1100 cm_X4_isOwn rfl (by omega) (by decide) kk_5 (Nat.le_of_ble_eq_true rfl) rfl ⟨Nat.le_refl _, Nat.le_refl _⟩ ?_
      refine s_cisOwn (by omega) ⟨by omega, by omega⟩ ⟨by omega, by omega⟩ (fun c81_6 => ?_) (fun c81_7 => ?_)
      · dsimp only [Option.toList, List.cons_append, List.nil_append, Nat.add_zero]
        refine v_if_ne_t (tgt := 89) dX0_findState_84 (by decide) (by decide) ?_
        refine v_aload_n dX0_findState_89 rfl ?_
        refine v_iload_n dX0_findState_90 rfl ?_
        refine v_iload_n dX0_findState_91 rfl ?_
        refine v_callv (M' := mX0_protocolOf) (d' := d - 1) (mc' := 0) (ms' := 0) (ci := 0) (c := 4) (As := [_, _]) dX0_findState_92 k_1101 cm_X0_protocolOf rfl (by omega) (by decide) kk_4 (Nat.le_of_ble_eq_true rfl) rfl ⟨Nat.le_refl _, Nat.le_refl _⟩ ?_
        refine s_cproto (by omega) I ⟨by omega, by omega⟩ (fun xf_9 c92_8 c92_9 => ?_)
        dsimp only [Option.toList, List.cons_append, List.nil_append, Nat.add_zero]
        refine v_istore_4 dX0_findState_95 (by decide) rfl ?_
        refine v_aload_n dX0_findState_97 rfl ?_
        refine v_getr (ci := 0) (j := 5) (ji := 5) (z := 68) dX0_findState_98 k_378 (by decide) kk_4 (by decide) rfl rfl (fun r => rt_4_5 (r rfl)) (by decide) ?_
        refine v_iload_n dX0_findState_101 rfl ?_
        refine v_ialoadv dX0_findState_102 (by decide) kk_68 (by omega) (by omega) ((cst_n (by decide)).trans ((congrFun I.e68 s))) ?_
        refine v_aload_n dX0_findState_103 rfl ?_
        refine v_getr (ci := 0) (j := 0) (ji := 0) (z := 5) dX0_findState_104 k_372 (by decide) kk_4 (by decide) rfl rfl (fun r => rt_4_0 (r rfl)) (by decide) ?_
        refine v_getrN (ci := 4) (j := 0) (ji := 0) (z := 6) dX0_findState_107 k_355 (by decide) kk_5 (by decide) rfl rfl (fun r => rt_5_0 (r rfl)) (by decide) ?_
        refine v_iload dX0_findState_110 rfl ?_
        refine v_bipush dX0_findState_112 (c32 rfl) (by decide) ?_
        refine v_callv (M' := mX8_worth) (d' := d - 1) (mc' := 0) (ms' := 0) (ci := 8) (c := 6) (As := [_, _]) dX0_findState_114 k_1114 cm_X8_worth rfl (by omega) (by decide) kk_6 (Nat.le_of_ble_eq_true rfl) rfl ⟨Nat.le_refl _, Nat.le_refl _⟩ ?_
        refine s_cworth (by omega) I.X (by have := @pOn_rng h I.W (h 153 s) (h 155 s) q; have := I.f12_4; omega) (fun xf_10 c114_10 => ?_)
        dsimp only [Option.toList, List.cons_append, List.nil_append, Nat.add_zero]
        refine v_icmp_le (tgt := 122) dX0_findState_117 (by decide) (fun c117_11 => ?_) (fun c117_11 => ?_)
        · refine v_aload_n dX0_findState_122 rfl ?_
          refine v_getr (ci := 0) (j := 8) (ji := 8) (z := 70) dX0_findState_123 k_383 (by decide) kk_4 (by decide) rfl rfl (fun r => rt_4_8 (r rfl)) (by decide) ?_
          refine v_iload_n dX0_findState_126 rfl ?_
          refine v_iload_n dX0_findState_127 rfl ?_
          refine v_iconst dX0_findState_128 (c32 rfl) ?_
          refine v_callv (M' := mX3_last) (d' := d - 1) (mc' := 0) (ms' := 0) (ci := 3) (c := 70) (As := [_, _, _]) dX0_findState_129 k_1115 cm_X3_last rfl (by omega) (by decide) kk_70 (Nat.le_of_ble_eq_true rfl) rfl ⟨Nat.le_refl _, Nat.le_refl _⟩ ?_
          refine s_cpap (by omega) I I.S.2.1 ?_
          dsimp only [Option.toList, List.cons_append, List.nil_append, Nat.add_zero]
          refine v_istore_5 dX0_findState_132 (by decide) rfl ?_
          refine v_iload dX0_findState_134 rfl ?_
          refine v_iconst dX0_findState_136 (c32 rfl) ?_
          refine v_icmp_eq (tgt := 166) dX0_findState_137 (by decide) (fun c137_12 => ?_) (fun c137_12 => ?_)
          · refine v_iconst dX0_findState_166 (c32 rfl) ?_
            refine v_ireti dX0_findState_167 rfl (Nat.le_refl _) (Nat.le_refl _) ?_
            have hfI : fI h cs s q = fS h cs (fun _ => own h cs (h 153 s) q (-1) (h 150 s)) s q := if_pos hsq
            have w0 : wth cs (xf_9 39) (pOn h (h 153 s) (h 155 s) q) 115 = wS h cs s q 115 := (wth_congr (fun i i0 i1 => c92_9 i i0 i1))
            have e1 : fI h cs s q = 5 := by
              rw [hfI]
              unfold fS
              rw [if_neg c7_1, if_neg (by have a1 := c57_3; have a2 := c57_4; have a3 := c57_5; omega), if_neg (by rw [← hown (by omega)]; exact c81_6), if_neg (by rw [← w0]; omega), if_pos (Or.inl (show pap h s q (h 116 66) = -1 from c137_12))]
            have ej : stF h cs s q = 5 := by rw [stF_n (by rw [e1]; decide), e1]
            have hq9 := hq _ (Fr_t c92_8 (Fr_m (by decide) c114_10))
            rw [ej] at hq9
            exact hq9
          · refine v_iload dX0_findState_140 rfl ?_
            refine v_aload_n dX0_findState_142 rfl ?_
            refine v_getr (ci := 0) (j := 6) (ji := 6) (z := 69) dX0_findState_143 k_379 (by decide) kk_4 (by decide) rfl rfl (fun r => rt_4_6 (r rfl)) (by decide) ?_
            refine v_iload_n dX0_findState_146 rfl ?_
            refine v_ialoadv dX0_findState_147 (by decide) kk_69 (by omega) (by omega) ((cst_n (by decide)).trans ((congrFun I.e69 s))) ?_
            refine v_aload_n dX0_findState_148 rfl ?_
            refine v_getr (ci := 0) (j := 0) (ji := 0) (z := 5) dX0_findState_149 k_372 (by decide) kk_4 (by decide) rfl rfl (fun r => rt_4_0 (r rfl)) (by decide) ?_
            refine v_getrN (ci := 4) (j := 0) (ji := 0) (z := 6) dX0_findState_152 k_355 (by decide) kk_5 (by decide) rfl rfl (fun r => rt_5_0 (r rfl)) (by decide) ?_
            refine v_iload dX0_findState_155 rfl ?_
            refine v_bipush dX0_findState_157 (c32 rfl) (by decide) ?_
            refine v_callv (M' := mX8_worth) (d' := d - 1) (mc' := 0) (ms' := 0) (ci := 8) (c := 6) (As := [_, _]) dX0_findState_159 k_1114 cm_X8_worth rfl (by omega) (by decide) kk_6 (Nat.le_of_ble_eq_true rfl) rfl ⟨Nat.le_refl _, Nat.le_refl _⟩ ?_
            refine s_cworth (by omega) I.X (by have := @pOn_rng h I.W (h 153 s) (h 155 s) q; have := I.f12_4; omega) (fun xf_13 c159_13 => ?_)
            dsimp only [Option.toList, List.cons_append, List.nil_append, Nat.add_zero]
            have wok9 := @wth_ok cs (xf_10 39) (pOn h (h 153 s) (h 155 s) q) 103
            refine v_iaddE dX0_findState_162 (by omega) ?_
            refine v_icmp_le (tgt := 168) dX0_findState_163 (by decide) (fun c163_14 => ?_) (fun c163_14 => ?_)
            · refine v_aload_n dX0_findState_168 rfl ?_
              refine v_getr (ci := 0) (j := 0) (ji := 0) (z := 5) dX0_findState_169 k_372 (by decide) kk_4 (by decide) rfl rfl (fun r => rt_4_0 (r rfl)) (by decide) ?_
              refine v_getrN (ci := 4) (j := 0) (ji := 0) (z := 6) dX0_findState_172 k_355 (by decide) kk_5 (by decide) rfl rfl (fun r => rt_5_0 (r rfl)) (by decide) ?_
              refine v_iload dX0_findState_175 rfl ?_
              refine v_bipush dX0_findState_177 (c32 rfl) (by decide) ?_
              refine v_callv (M' := mX8_worth) (d' := d - 1) (mc' := 0) (ms' := 0) (ci := 8) (c := 6) (As := [_, _]) dX0_findState_179 k_1114 cm_X8_worth rfl (by omega) (by decide) kk_6 (Nat.le_of_ble_eq_true rfl) rfl ⟨Nat.le_refl _, Nat.le_refl _⟩ ?_
              refine s_cworth (by omega) I.X (by have := @pOn_rng h I.W (h 153 s) (h 155 s) q; have := I.f12_4; omega) (fun xf_15 c179_15 => ?_)
              dsimp only [Option.toList, List.cons_append, List.nil_append, Nat.add_zero]
              refine v_istore_6 dX0_findState_182 (by decide) rfl ?_
              refine v_iload dX0_findState_184 rfl ?_
              refine v_if_le (tgt := 211) dX0_findState_186 (by decide) (fun c186_16 => ?_) (fun c186_16 => ?_)
              · refine v_iconst dX0_findState_211 (c32 rfl) ?_
                refine v_ireti dX0_findState_212 rfl (Nat.le_refl _) (Nat.le_refl _) ?_
                have hfI : fI h cs s q = fS h cs (fun _ => own h cs (h 153 s) q (-1) (h 150 s)) s q := if_pos hsq
                have w0 : wth cs (xf_9 39) (pOn h (h 153 s) (h 155 s) q) 115 = wS h cs s q 115 := (wth_congr (fun i i0 i1 => c92_9 i i0 i1))
                have w1 : wth cs (xf_10 39) (pOn h (h 153 s) (h 155 s) q) 103 = wS h cs s q 103 := (wth_congr (fun i i0 i1 => (c114_10 39 i (Nat.le_of_ble_eq_true rfl)).trans (c92_9 i i0 i1)))
                have w2 : wth cs (xf_13 39) (pOn h (h 153 s) (h 155 s) q) 122 = wS h cs s q 122 := (wth_congr (fun i i0 i1 => ((Fr_t c114_10 c159_13) 39 i (Nat.le_of_ble_eq_true rfl)).trans (c92_9 i i0 i1)))
                have e1 : fI h cs s q = 1 := by
                  rw [hfI]
                  unfold fS
                  rw [if_neg c7_1, if_neg (by have a1 := c57_3; have a2 := c57_4; have a3 := c57_5; omega), if_neg (by rw [← hown (by omega)]; exact c81_6), if_neg (by rw [← w0]; omega), if_neg (fun z => by rcases z with z | z; exact c137_12 z; rw [← w1] at z; have y : _ ≤ _ := c163_14; exact absurd z (Int.not_lt.mpr y))]
                have eo : oOK h cs q s (sm (takS h cs s q) s) = 1 := by
                  unfold oOK
                  rw [← w2]
                  rw [if_pos (by omega)]
                have ej : stF h cs s q = 1 := by rw [stF_1 hs.1 e1, qF_tak hs.1, eo]; rfl
                have hq9 := hq _ (Fr_t (Fr_t (Fr_t c92_8 (Fr_m (by decide) c114_10)) (Fr_m (by decide) c159_13)) (Fr_m (by decide) c179_15))
                rw [ej] at hq9
                exact hq9
              · refine v_aload_n dX0_findState_189 rfl ?_
                refine v_iload_n dX0_findState_190 rfl ?_
                refine v_callv (M' := mX0_countTaken) (d' := d - 1) (mc' := 0) (ms' := 0) (ci := 0) (c := 4) (As := [_]) dX0_findState_191 k_1119 cm_X0_countTaken rfl (by omega) (by decide) kk_4 (Nat.le_of_ble_eq_true rfl) rfl ⟨Nat.le_refl _, Nat.le_refl _⟩ ?_
                refine s_ctaken (q := q) (by omega) I hs (fun t t0 t1 => by rw [(Fr_t (Fr_t (Fr_t (Fr_m (n := 2) (m := 2) (by decide) c92_8) (Fr_m (by decide) c114_10)) (Fr_m (by decide) c159_13)) (Fr_m (by decide) c179_15)) 75 t (Nat.le_of_ble_eq_true rfl)]; exact hst t t0 t1) ?_
                dsimp only [Option.toList, List.cons_append, List.nil_append, Nat.add_zero]
                refine v_aload_n dX0_findState_194 rfl ?_
                refine v_getr (ci := 0) (j := 2) (ji := 2) (z := 65) dX0_findState_195 k_375 (by decide) kk_4 (by decide) rfl rfl (fun r => rt_4_2 (r rfl)) (by decide) ?_
                refine v_iload_n dX0_findState_198 rfl ?_
                refine v_ialoadv dX0_findState_199 (by decide) kk_65 (by omega) (by omega) ((cst_n (by decide)).trans ((congrFun I.e65 s))) ?_
                refine v_iaddE dX0_findState_200 (by omega) ?_
                refine v_iload dX0_findState_201 rfl ?_
                refine v_icmp_le (tgt := 211) dX0_findState_203 (by decide) (fun c203_17 => ?_) (fun c203_17 => ?_)
                · refine v_iconst dX0_findState_211 (c32 rfl) ?_
                  refine v_ireti dX0_findState_212 rfl (Nat.le_refl _) (Nat.le_refl _) ?_
                  have hfI : fI h cs s q = fS h cs (fun _ => own h cs (h 153 s) q (-1) (h 150 s)) s q := if_pos hsq
                  have w0 : wth cs (xf_9 39) (pOn h (h 153 s) (h 155 s) q) 115 = wS h cs s q 115 := (wth_congr (fun i i0 i1 => c92_9 i i0 i1))
                  have w1 : wth cs (xf_10 39) (pOn h (h 153 s) (h 155 s) q) 103 = wS h cs s q 103 := (wth_congr (fun i i0 i1 => (c114_10 39 i (Nat.le_of_ble_eq_true rfl)).trans (c92_9 i i0 i1)))
                  have w2 : wth cs (xf_13 39) (pOn h (h 153 s) (h 155 s) q) 122 = wS h cs s q 122 := (wth_congr (fun i i0 i1 => ((Fr_t c114_10 c159_13) 39 i (Nat.le_of_ble_eq_true rfl)).trans (c92_9 i i0 i1)))
                  have e1 : fI h cs s q = 1 := by
                    rw [hfI]
                    unfold fS
                    rw [if_neg c7_1, if_neg (by have a1 := c57_3; have a2 := c57_4; have a3 := c57_5; omega), if_neg (by rw [← hown (by omega)]; exact c81_6), if_neg (by rw [← w0]; omega), if_neg (fun z => by rcases z with z | z; exact c137_12 z; rw [← w1] at z; have y : _ ≤ _ := c163_14; exact absurd z (Int.not_lt.mpr y))]
                  have eo : oOK h cs q s (sm (takS h cs s q) s) = 1 := by
                    unfold oOK
                    rw [← w2]
                    rw [if_neg (by omega), if_pos (by omega)]
                  have ej : stF h cs s q = 1 := by rw [stF_1 hs.1 e1, qF_tak hs.1, eo]; rfl
                  have hq9 := hq _ (Fr_t (Fr_t (Fr_t c92_8 (Fr_m (by decide) c114_10)) (Fr_m (by decide) c159_13)) (Fr_m (by decide) c179_15))
                  rw [ej] at hq9
                  exact hq9
                · refine v_bipush dX0_findState_206 (c32 rfl) (by decide) ?_
                  refine v_goto (tgt := 212) dX0_findState_208 (by decide) ?_
                  refine v_ireti dX0_findState_212 rfl (Nat.le_refl _) (Nat.le_refl _) ?_
                  have hfI : fI h cs s q = fS h cs (fun _ => own h cs (h 153 s) q (-1) (h 150 s)) s q := if_pos hsq
                  have w0 : wth cs (xf_9 39) (pOn h (h 153 s) (h 155 s) q) 115 = wS h cs s q 115 := (wth_congr (fun i i0 i1 => c92_9 i i0 i1))
                  have w1 : wth cs (xf_10 39) (pOn h (h 153 s) (h 155 s) q) 103 = wS h cs s q 103 := (wth_congr (fun i i0 i1 => (c114_10 39 i (Nat.le_of_ble_eq_true rfl)).trans (c92_9 i i0 i1)))
                  have w2 : wth cs (xf_13 39) (pOn h (h 153 s) (h 155 s) q) 122 = wS h cs s q 122 := (wth_congr (fun i i0 i1 => ((Fr_t c114_10 c159_13) 39 i (Nat.le_of_ble_eq_true rfl)).trans (c92_9 i i0 i1)))
                  have e1 : fI h cs s q = 1 := by
                    rw [hfI]
                    unfold fS
                    rw [if_neg c7_1, if_neg (by have a1 := c57_3; have a2 := c57_4; have a3 := c57_5; omega), if_neg (by rw [← hown (by omega)]; exact c81_6), if_neg (by rw [← w0]; omega), if_neg (fun z => by rcases z with z | z; exact c137_12 z; rw [← w1] at z; have y : _ ≤ _ := c163_14; exact absurd z (Int.not_lt.mpr y))]
                  have eo : oOK h cs q s (sm (takS h cs s q) s) = 0 := by
                    unfold oOK
                    rw [← w2]
                    rw [if_neg (by omega), if_neg (by omega)]
                  have ej : stF h cs s q = 6 := by rw [stF_1 hs.1 e1, qF_tak hs.1, eo]; rfl
                  have hq9 := hq _ (Fr_t (Fr_t (Fr_t c92_8 (Fr_m (by decide) c114_10)) (Fr_m (by decide) c159_13)) (Fr_m (by decide) c179_15))
                  rw [ej] at hq9
                  exact hq9
            · refine v_iconst dX0_findState_166 (c32 rfl) ?_
              refine v_ireti dX0_findState_167 rfl (Nat.le_refl _) (Nat.le_refl _) ?_
              have hfI : fI h cs s q = fS h cs (fun _ => own h cs (h 153 s) q (-1) (h 150 s)) s q := if_pos hsq
              have w0 : wth cs (xf_9 39) (pOn h (h 153 s) (h 155 s) q) 115 = wS h cs s q 115 := (wth_congr (fun i i0 i1 => c92_9 i i0 i1))
              have w1 : wth cs (xf_10 39) (pOn h (h 153 s) (h 155 s) q) 103 = wS h cs s q 103 := (wth_congr (fun i i0 i1 => (c114_10 39 i (Nat.le_of_ble_eq_true rfl)).trans (c92_9 i i0 i1)))
              have e1 : fI h cs s q = 5 := by
                rw [hfI]
                unfold fS
                rw [if_neg c7_1, if_neg (by have a1 := c57_3; have a2 := c57_4; have a3 := c57_5; omega), if_neg (by rw [← hown (by omega)]; exact c81_6), if_neg (by rw [← w0]; omega), if_pos (Or.inr (by rw [← w1]; exact c163_14))]
              have ej : stF h cs s q = 5 := by rw [stF_n (by rw [e1]; decide), e1]
              have hq9 := hq _ (Fr_t (Fr_t c92_8 (Fr_m (by decide) c114_10)) (Fr_m (by decide) c159_13))
              rw [ej] at hq9
              exact hq9
        · refine v_iconst dX0_findState_120 (c32 rfl) ?_
          refine v_ireti dX0_findState_121 rfl (Nat.le_refl _) (Nat.le_refl _) ?_
          have hfI : fI h cs s q = fS h cs (fun _ => own h cs (h 153 s) q (-1) (h 150 s)) s q := if_pos hsq
          have w0 : wth cs (xf_9 39) (pOn h (h 153 s) (h 155 s) q) 115 = wS h cs s q 115 := (wth_congr (fun i i0 i1 => c92_9 i i0 i1))
          have e1 : fI h cs s q = 4 := by
            rw [hfI]
            unfold fS
            rw [if_neg c7_1, if_neg (by have a1 := c57_3; have a2 := c57_4; have a3 := c57_5; omega), if_neg (by rw [← hown (by omega)]; exact c81_6), if_pos (by rw [← w0]; exact c117_11)]
          have ej : stF h cs s q = 4 := by rw [stF_n (by rw [e1]; decide), e1]
          have hq9 := hq _ (Fr_t c92_8 (Fr_m (by decide) c114_10))
          rw [ej] at hq9
          exact hq9
      · dsimp only [Option.toList, List.cons_append, List.nil_append, Nat.add_zero]
        refine v_if_ne_f (tgt := 89) dX0_findState_84 (by decide) (by decide) ?_
        refine v_iconst dX0_findState_87 (c32 rfl) ?_
        refine v_ireti dX0_findState_88 rfl (Nat.le_refl _) (Nat.le_refl _) ?_
        have hfI : fI h cs s q = fS h cs (fun _ => own h cs (h 153 s) q (-1) (h 150 s)) s q := if_pos hsq
        have e1 : fI h cs s q = 3 := by
          rw [hfI]
          unfold fS
          rw [if_neg c7_1, if_neg (by have a1 := c57_3; have a2 := c57_4; have a3 := c57_5; omega), if_pos (by rw [← hown (by omega)]; exact c81_7)]
        have ej : stF h cs s q = 3 := by rw [stF_n (by rw [e1]; decide), e1]
        have hq9 := hq _ Fr_0
        rw [ej] at hq9
        exact hq9
  · refine v_iconst dX0_findState_10 (c32 rfl) ?_
    refine v_ireti dX0_findState_11 rfl (Nat.le_refl _) (Nat.le_refl _) ?_
    have hfI : fI h cs s q = fS h cs (fun _ => own h cs (h 153 s) q (-1) (h 150 s)) s q := if_pos hsq
    have e1 : fI h cs s q = 0 := by
      rw [hfI]
      unfold fS
      rw [if_pos c7_1]
    have ej : stF h cs s q = 0 := by rw [stF_n (by rw [e1]; decide), e1]
    have hq9 := hq _ Fr_0
    rw [ej] at hq9
    exact hq9

