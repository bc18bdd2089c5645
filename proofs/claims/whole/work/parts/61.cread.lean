/-! ===== the class's reader: signs, steps (written by wip/whole/p40.py) ===== -/
/-- the class's tape while it is read: R the steps' row, a at, f the fault, s how many steps -/
def cps (h : AH) (R : Int → Int) (a f s : Int) : AH := ov1 (hset (hset (hset h 1 2 a) 1 3 f) 1 5 s) 3 R
section CPS
variable {h : AH} {R : Int → Int} {a f s c j v i : Int}
theorem cps_r2 : cps h R a f s 1 2 = a := by unfold cps; rw [ov1_c (by decide), hset_j (by decide), hset_j (by decide), hset_same]
theorem cps_r3 : cps h R a f s 1 3 = f := by unfold cps; rw [ov1_c (by decide), hset_j (by decide), hset_same]
theorem cps_r5 : cps h R a f s 1 5 = s := by unfold cps; rw [ov1_c (by decide), hset_same]
theorem cps_R : cps h R a f s 3 i = R i := by unfold cps; rw [ov1_s]
theorem cps_c (q : c ≠ 1 ∧ c ≠ 3) : cps h R a f s c j = h c j := by unfold cps; rw [ov1_c q.2, hset_c q.1, hset_c q.1, hset_c q.1]
theorem cps_w (q : c ≠ 1 ∧ c ≠ 3) : cps h R a f s c = h c := funext fun _ => cps_c q
theorem cps_j (q : j ≠ 2 ∧ j ≠ 3 ∧ j ≠ 5) : cps h R a f s 1 j = h 1 j := by unfold cps; rw [ov1_c (by decide), hset_j q.2.2, hset_j q.2.1, hset_j q.1]
theorem cps_w2 : hset (cps h R a f s) 1 2 v = cps h R v f s := by
  unfold cps
  rw [ov1_n (by decide), hset_dj (b := 5) (j := 2) (by decide), hset_dj (b := 3) (j := 2) (by decide), hset_tw]
theorem cps_w3 : hset (cps h R a f s) 1 3 v = cps h R a v s := by
  unfold cps
  rw [ov1_n (by decide), hset_dj (b := 5) (j := 3) (by decide), hset_tw]
theorem cps_w5 : hset (cps h R a f s) 1 5 v = cps h R a f v := by
  unfold cps
  rw [ov1_n (by decide), hset_tw]
theorem cps_wR : hset (cps h R a f s) 3 i v = cps h (fset R i v) a f s := by
  unfold cps
  rw [ov1_w]
end CPS
/-- the class's text: its n bytes are u -/
def CT (h : AH) (u : Int → Int) (n : Int) : Prop := (0 ≤ n ∧ n ≤ 200) ∧ h 1 1 = n ∧ h 2 = u ∧ ∀ i, 0 ≤ i → i < n → 0 ≤ u i ∧ u i < 256
/-- the first s steps are K -/
def SL (R : Int → Int) (s : Int) (K : List Int) : Prop := s = (K.length : Int) ∧ ∀ i : Nat, i < K.length → R i = K.getD i 0
theorem SL_0 {R : Int → Int} : SL R 0 [] := ⟨rfl, fun i h => absurd h (Nat.not_lt_zero i)⟩
theorem getD_l {K L : List Int} {i : Nat} (h : i < K.length) : (K ++ L).getD i 0 = K.getD i 0 := by
  rw [List.getD_eq_getElem?_getD, List.getD_eq_getElem?_getD, List.getElem?_append_left h]
theorem getD_r {K L : List Int} {i : Nat} (h : K.length ≤ i) : (K ++ L).getD i 0 = L.getD (i - K.length) 0 := by
  rw [List.getD_eq_getElem?_getD, List.getD_eq_getElem?_getD, List.getElem?_append_right h]
theorem SL_put {R : Int → Int} {s x : Int} {K : List Int} (h : SL R s K) : SL (fset R s x) (s + 1) (K ++ [x]) := by
  obtain ⟨h1, h2⟩ := h
  subst h1
  refine ⟨by rw [List.length_append]; simp, fun i hi => ?_⟩
  rw [List.length_append, List.length_singleton] at hi
  by_cases e : i = K.length
  · subst e
    rw [fset_same, getD_r (Nat.le_refl _)]
    simp
  · rw [fset_ne (by omega), h2 i (by omega), getD_l (by omega)]
theorem SL_as {R : Int → Int} {s : Int} {K K2 : List Int} (h : SL R s K) (e : K = K2) : SL R s K2 := e ▸ h
theorem SL_nn {R : Int → Int} {s : Int} {K : List Int} (h : SL R s K) : 0 ≤ s := by have := h.1; omega
theorem ineg_b {x : Int} (h : 0 ≤ x ∧ x < 256) : ineg x = -x := by
  have key : ∀ m : Fin 256, ineg (m.val : Int) = -(m.val : Int) := by decide +kernel
  obtain ⟨m, rfl⟩ := Int.eq_ofNat_of_zero_le h.1
  exact key ⟨m, by omega⟩
theorem i2c_b {x : Int} (h : 0 ≤ x ∧ x < 256) : i2c x = x := by
  have key : ∀ m : Fin 256, i2c (m.val : Int) = (m.val : Int) := by decide +kernel
  obtain ⟨m, rfl⟩ := Int.eq_ofNat_of_zero_le h.1
  exact key ⟨m, by omega⟩
theorem plc_out {c : Int} (h : c < 97 ∨ 122 < c) : plc c = -1 := by
  unfold plc
  rw [if_neg (by omega), if_neg (by omega), if_neg (by omega), if_neg (by omega), if_neg (by omega), if_neg (by omega), if_neg (by omega), if_neg (by omega)]

set_option maxHeartbeats 4000000 in
set_option maxRecDepth 100000 in
theorem s_cpeek0 {l : Launch} {G : GG} {d : Nat} {h : AH} {Q : Option AV → List Kd → AH → Prop} {n : Int} {u : Int → Int} {R : Int → Int} {a s : Int} (hd : 1 ≤ d) (hT : CT h u n) (h0 : 0 ≤ a) (h1 : a ≤ n) (hq : Q (some (0, pk u n a)) K0 (cps h R (sk u n a) (-1) s)) : Sp l G mX7_peek d 0 0 K0 [(2, 1)] (cps h R a (-1) s) Q := by
  obtain ⟨⟨hn0, hn1⟩, hen, hu, hur⟩ := hT
  refine sp_of (L := [(2, 1)]) pl_X7 (Nat.le_of_ble_eq_true rfl) (tg_c (by decide) tg_0) rfl ?_
  have lp : ∀ k, a ≤ k → k ≤ n → Q (some (0, pk u n k)) K0 (cps h R (sk u n k) (-1) s) → V l G mX7_peek d 0 0 0 0 K0 0 [(2, 1)] [] (cps h R k (-1) s) Q := by
    refine loop_m3 (fun k hk hkn ih hq => ?_)
    refine v_aload_n dX7_peek_0 rfl ?_
    refine v_getv (ci := 7) (j := 2) (ji := 2) (tg := 0) dX7_peek_1 k_134 (by decide) kk_1 (by decide) rfl rfl (by decide) (cps_r2) ?_
    refine v_aload_n dX7_peek_4 rfl ?_
    refine v_getv (ci := 7) (j := 1) (ji := 1) (tg := 0) dX7_peek_5 k_132 (by decide) kk_1 (by decide) rfl rfl (by decide) ((cps_j (by decide)).trans (hen)) ?_
    refine v_icmp_ge (tgt := 38) dX7_peek_8 (by decide) (fun c8_1 => ?_) (fun c8_1 => ?_)
    · refine v_aload_n dX7_peek_38 rfl ?_
      refine v_getv (ci := 7) (j := 3) (ji := 3) (tg := 0) dX7_peek_39 k_135 (by decide) kk_1 (by decide) rfl rfl (by decide) (cps_r3) ?_
      refine v_iconst dX7_peek_42 (c32 rfl) ?_
      refine v_icmp_ne_f (tgt := 69) dX7_peek_43 (by decide) (by decide) ?_
      refine v_aload_n dX7_peek_46 rfl ?_
      refine v_getv (ci := 7) (j := 2) (ji := 2) (tg := 0) dX7_peek_47 k_134 (by decide) kk_1 (by decide) rfl rfl (by decide) (cps_r2) ?_
      refine v_aload_n dX7_peek_50 rfl ?_
      refine v_getv (ci := 7) (j := 1) (ji := 1) (tg := 0) dX7_peek_51 k_132 (by decide) kk_1 (by decide) rfl rfl (by decide) ((cps_j (by decide)).trans (hen)) ?_
      refine v_icmp_ge_t (tgt := 69) dX7_peek_54 (by decide) (by omega) ?_
      refine v_iconst dX7_peek_69 (c32 rfl) ?_
      refine v_ireti dX7_peek_70 rfl (Nat.le_refl _) (Nat.le_refl _) ?_
      rw [pk_n (by omega), sk_f (by omega)] at hq
      exact hq
    · refine v_aload_n dX7_peek_11 rfl ?_
      refine v_getr (ci := 7) (j := 0) (ji := 0) (z := 2) dX7_peek_12 k_131 (by decide) kk_1 (by decide) rfl rfl (fun r => rt_1_0 (r rfl)) (by decide) ?_
      refine v_aload_n dX7_peek_15 rfl ?_
      refine v_getv (ci := 7) (j := 2) (ji := 2) (tg := 0) dX7_peek_16 k_134 (by decide) kk_1 (by decide) rfl rfl (by decide) (cps_r2) ?_
      refine v_ialoadv dX7_peek_19 (by decide) kk_2 (by omega) (by omega) ((cps_c (by decide)).trans ((congrFun hu k))) ?_
      refine v_bipush dX7_peek_20 (c32 rfl) (by decide) ?_
      refine v_icmp_ne (tgt := 38) dX7_peek_22 (by decide) (fun c22_2 => ?_) (fun c22_2 => ?_)
      · refine v_aload_n dX7_peek_38 rfl ?_
        refine v_getv (ci := 7) (j := 3) (ji := 3) (tg := 0) dX7_peek_39 k_135 (by decide) kk_1 (by decide) rfl rfl (by decide) (cps_r3) ?_
        refine v_iconst dX7_peek_42 (c32 rfl) ?_
        refine v_icmp_ne_f (tgt := 69) dX7_peek_43 (by decide) (by decide) ?_
        refine v_aload_n dX7_peek_46 rfl ?_
        refine v_getv (ci := 7) (j := 2) (ji := 2) (tg := 0) dX7_peek_47 k_134 (by decide) kk_1 (by decide) rfl rfl (by decide) (cps_r2) ?_
        refine v_aload_n dX7_peek_50 rfl ?_
        refine v_getv (ci := 7) (j := 1) (ji := 1) (tg := 0) dX7_peek_51 k_132 (by decide) kk_1 (by decide) rfl rfl (by decide) ((cps_j (by decide)).trans (hen)) ?_
        refine v_icmp_ge_f (tgt := 69) dX7_peek_54 (by decide) (by omega) ?_
        refine v_aload_n dX7_peek_57 rfl ?_
        refine v_getr (ci := 7) (j := 0) (ji := 0) (z := 2) dX7_peek_58 k_131 (by decide) kk_1 (by decide) rfl rfl (fun r => rt_1_0 (r rfl)) (by decide) ?_
        refine v_aload_n dX7_peek_61 rfl ?_
        refine v_getv (ci := 7) (j := 2) (ji := 2) (tg := 0) dX7_peek_62 k_134 (by decide) kk_1 (by decide) rfl rfl (by decide) (cps_r2) ?_
        refine v_ialoadv dX7_peek_65 (by decide) kk_2 (by omega) (by omega) ((cps_c (by decide)).trans ((congrFun hu k))) ?_
        refine v_goto (tgt := 70) dX7_peek_66 (by decide) ?_
        refine v_ireti dX7_peek_70 rfl (Nat.le_refl _) (Nat.le_refl _) ?_
        have e32 : u k ≠ 32 := by omega
        rw [pk_f (by omega) e32, sk_f (fun q => e32 q.2)] at hq
        exact hq
      · refine v_aload_n dX7_peek_25 rfl ?_
        refine v_dup dX7_peek_26 rfl ?_
        refine v_getv (ci := 7) (j := 2) (ji := 2) (tg := 0) dX7_peek_27 k_134 (by decide) kk_1 (by decide) rfl rfl (by decide) (cps_r2) ?_
        refine v_iconst dX7_peek_30 (c32 rfl) ?_
        refine v_iaddE dX7_peek_31 (by omega) ?_
        refine v_puti (ci := 7) (j := 2) (ji := 2) dX7_peek_32 k_134 (by decide) kk_1 (by decide) rfl rfl rfl ?_
        rw [cps_w2]
        refine v_goto (tgt := 0) dX7_peek_35 (by decide) ?_
        have e32 : u k = 32 := by omega
        rw [pk_t (by omega) e32, sk_t (by omega) e32] at hq
        exact ih (by omega) hq
  exact lp a (by omega) h1 hq

theorem s_cpeek0b {l : Launch} {G : GG} {d : Nat} {h : AH} {Q : Option AV → List Kd → AH → Prop} {n : Int} {u : Int → Int} {R : Int → Int} {a s : Int} (hd : 1 ≤ d) (hT : CT h u n) (h0 : 0 ≤ a) (h1 : a ≤ n) (hq : Q (some (0, pk u n a)) K0 (cps h R (sk u n a) (-1) s)) : Sp l G mX7_peek d 0 0 K0 [(2, 1)] (cps h R (sk u n a) (-1) s) Q :=
  s_cpeek0 hd hT (by have := @sk_ge u n a; omega) (sk_le h1) (by simp only [pk_sk, sk_sk]; exact hq)

set_option maxHeartbeats 4000000 in
set_option maxRecDepth 100000 in
theorem s_cpeek1 {l : Launch} {G : GG} {d : Nat} {h : AH} {Q : Option AV → List Kd → AH → Prop} {n : Int} {u : Int → Int} {R : Int → Int} {a f s : Int} (hd : 1 ≤ d) (hT : CT h u n) (h0 : 0 ≤ a) (h1 : a ≤ n) (hf : f ≠ -1) (hq : Q (some (0, -1)) K0 (cps h R (sk u n a) f s)) : Sp l G mX7_peek d 0 0 K0 [(2, 1)] (cps h R a f s) Q := by
  obtain ⟨⟨hn0, hn1⟩, hen, hu, hur⟩ := hT
  refine sp_of (L := [(2, 1)]) pl_X7 (Nat.le_of_ble_eq_true rfl) (tg_c (by decide) tg_0) rfl ?_
  have lp : ∀ k, a ≤ k → k ≤ n → Q (some (0, -1)) K0 (cps h R (sk u n k) f s) → V l G mX7_peek d 0 0 0 0 K0 0 [(2, 1)] [] (cps h R k f s) Q := by
    refine loop_m3 (fun k hk hkn ih hq => ?_)
    refine v_aload_n dX7_peek_0 rfl ?_
    refine v_getv (ci := 7) (j := 2) (ji := 2) (tg := 0) dX7_peek_1 k_134 (by decide) kk_1 (by decide) rfl rfl (by decide) (cps_r2) ?_
    refine v_aload_n dX7_peek_4 rfl ?_
    refine v_getv (ci := 7) (j := 1) (ji := 1) (tg := 0) dX7_peek_5 k_132 (by decide) kk_1 (by decide) rfl rfl (by decide) ((cps_j (by decide)).trans (hen)) ?_
    refine v_icmp_ge (tgt := 38) dX7_peek_8 (by decide) (fun c8_1 => ?_) (fun c8_1 => ?_)
    · refine v_aload_n dX7_peek_38 rfl ?_
      refine v_getv (ci := 7) (j := 3) (ji := 3) (tg := 0) dX7_peek_39 k_135 (by decide) kk_1 (by decide) rfl rfl (by decide) (cps_r3) ?_
      refine v_iconst dX7_peek_42 (c32 rfl) ?_
      refine v_icmp_ne_t (tgt := 69) dX7_peek_43 (by decide) (by omega) ?_
      refine v_iconst dX7_peek_69 (c32 rfl) ?_
      refine v_ireti dX7_peek_70 rfl (Nat.le_refl _) (Nat.le_refl _) ?_
      rw [sk_f (fun q => by omega)] at hq
      exact hq
    · refine v_aload_n dX7_peek_11 rfl ?_
      refine v_getr (ci := 7) (j := 0) (ji := 0) (z := 2) dX7_peek_12 k_131 (by decide) kk_1 (by decide) rfl rfl (fun r => rt_1_0 (r rfl)) (by decide) ?_
      refine v_aload_n dX7_peek_15 rfl ?_
      refine v_getv (ci := 7) (j := 2) (ji := 2) (tg := 0) dX7_peek_16 k_134 (by decide) kk_1 (by decide) rfl rfl (by decide) (cps_r2) ?_
      refine v_ialoadv dX7_peek_19 (by decide) kk_2 (by omega) (by omega) ((cps_c (by decide)).trans ((congrFun hu k))) ?_
      refine v_bipush dX7_peek_20 (c32 rfl) (by decide) ?_
      refine v_icmp_ne (tgt := 38) dX7_peek_22 (by decide) (fun c22_2 => ?_) (fun c22_2 => ?_)
      · refine v_aload_n dX7_peek_38 rfl ?_
        refine v_getv (ci := 7) (j := 3) (ji := 3) (tg := 0) dX7_peek_39 k_135 (by decide) kk_1 (by decide) rfl rfl (by decide) (cps_r3) ?_
        refine v_iconst dX7_peek_42 (c32 rfl) ?_
        refine v_icmp_ne_t (tgt := 69) dX7_peek_43 (by decide) (by omega) ?_
        refine v_iconst dX7_peek_69 (c32 rfl) ?_
        refine v_ireti dX7_peek_70 rfl (Nat.le_refl _) (Nat.le_refl _) ?_
        rw [sk_f (fun q => by omega)] at hq
        exact hq
      · refine v_aload_n dX7_peek_25 rfl ?_
        refine v_dup dX7_peek_26 rfl ?_
        refine v_getv (ci := 7) (j := 2) (ji := 2) (tg := 0) dX7_peek_27 k_134 (by decide) kk_1 (by decide) rfl rfl (by decide) (cps_r2) ?_
        refine v_iconst dX7_peek_30 (c32 rfl) ?_
        refine v_iaddE dX7_peek_31 (by omega) ?_
        refine v_puti (ci := 7) (j := 2) (ji := 2) dX7_peek_32 k_134 (by decide) kk_1 (by decide) rfl rfl rfl ?_
        rw [cps_w2]
        refine v_goto (tgt := 0) dX7_peek_35 (by decide) ?_
        have e32 : u k = 32 := by omega
        rw [sk_t (by omega) e32] at hq
        exact ih (by omega) hq
  exact lp a (by omega) h1 hq

theorem s_cpeek1b {l : Launch} {G : GG} {d : Nat} {h : AH} {Q : Option AV → List Kd → AH → Prop} {n : Int} {u : Int → Int} {R : Int → Int} {a f s : Int} (hd : 1 ≤ d) (hT : CT h u n) (h0 : 0 ≤ a) (h1 : a ≤ n) (hf : f ≠ -1) (hq : Q (some (0, -1)) K0 (cps h R (sk u n a) f s)) : Sp l G mX7_peek d 0 0 K0 [(2, 1)] (cps h R (sk u n a) f s) Q :=
  s_cpeek1 hd hT (by have := @sk_ge u n a; omega) (sk_le h1) hf (by simp only [pk_sk, sk_sk]; exact hq)

set_option maxHeartbeats 4000000 in
set_option maxRecDepth 100000 in
theorem s_cfail0 {l : Launch} {G : GG} {d : Nat} {h : AH} {Q : Option AV → List Kd → AH → Prop} {R : Int → Int} {a s : Int} (hd : 1 ≤ d) (hq : Q none K0 (cps h R a a s)) : Sp l G mX7_fail d 0 0 K0 [(2, 1)] (cps h R a (-1) s) Q := by
  refine sp_of (L := [(2, 1)]) pl_X7 (Nat.le_of_ble_eq_true rfl) (tg_c (by decide) tg_0) rfl ?_
  refine v_aload_n dX7_fail_0 rfl ?_
  refine v_getv (ci := 7) (j := 3) (ji := 3) (tg := 0) dX7_fail_1 k_135 (by decide) kk_1 (by decide) rfl rfl (by decide) (cps_r3) ?_
  refine v_iconst dX7_fail_4 (c32 rfl) ?_
  refine v_icmp_ne_f (tgt := 16) dX7_fail_5 (by decide) (by decide) ?_
  refine v_aload_n dX7_fail_8 rfl ?_
  refine v_aload_n dX7_fail_9 rfl ?_
  refine v_getv (ci := 7) (j := 2) (ji := 2) (tg := 0) dX7_fail_10 k_134 (by decide) kk_1 (by decide) rfl rfl (by decide) (cps_r2) ?_
  refine v_puti (ci := 7) (j := 3) (ji := 3) dX7_fail_13 k_135 (by decide) kk_1 (by decide) rfl rfl rfl ?_
  rw [cps_w3]
  refine v_vret dX7_fail_16 rfl (Nat.le_refl _) (Nat.le_refl _) ?_
  exact hq

set_option maxHeartbeats 4000000 in
set_option maxRecDepth 100000 in
theorem s_cfail1 {l : Launch} {G : GG} {d : Nat} {h : AH} {Q : Option AV → List Kd → AH → Prop} {R : Int → Int} {a f s : Int} (hd : 1 ≤ d) (hf : f ≠ -1) (hq : Q none K0 (cps h R a f s)) : Sp l G mX7_fail d 0 0 K0 [(2, 1)] (cps h R a f s) Q := by
  refine sp_of (L := [(2, 1)]) pl_X7 (Nat.le_of_ble_eq_true rfl) (tg_c (by decide) tg_0) rfl ?_
  refine v_aload_n dX7_fail_0 rfl ?_
  refine v_getv (ci := 7) (j := 3) (ji := 3) (tg := 0) dX7_fail_1 k_135 (by decide) kk_1 (by decide) rfl rfl (by decide) (cps_r3) ?_
  refine v_iconst dX7_fail_4 (c32 rfl) ?_
  refine v_icmp_ne_t (tgt := 16) dX7_fail_5 (by decide) (by omega) ?_
  refine v_vret dX7_fail_16 rfl (Nat.le_refl _) (Nat.le_refl _) ?_
  exact hq

set_option maxHeartbeats 4000000 in
set_option maxRecDepth 100000 in
theorem s_cput {l : Launch} {G : GG} {d : Nat} {h : AH} {Q : Option AV → List Kd → AH → Prop} {R : Int → Int} {a f s x : Int} (hd : 1 ≤ d) (h0 : 0 ≤ s) (h1 : s < 200) (hq : Q none K0 (cps h (fset R s x) a f (s + 1))) : Sp l G mX7_put d 0 0 K0 [(2, 1), (0, x)] (cps h R a f s) Q := by
  refine sp_of (L := [(2, 1), (0, x)]) pl_X7 (Nat.le_of_ble_eq_true rfl) (tg_c (by decide) (tg_c (by decide) tg_0)) rfl ?_
  refine v_aload_n dX7_put_0 rfl ?_
  refine v_getv (ci := 7) (j := 5) (ji := 5) (tg := 0) dX7_put_1 k_139 (by decide) kk_1 (by decide) rfl rfl (by decide) (cps_r5) ?_
  refine v_sipush dX7_put_4 (c32 rfl) (by decide) ?_
  refine v_icmp_ge_f (tgt := 30) dX7_put_7 (by decide) (by omega) ?_
  refine v_aload_n dX7_put_10 rfl ?_
  refine v_getr (ci := 7) (j := 4) (ji := 4) (z := 3) dX7_put_11 k_136 (by decide) kk_1 (by decide) rfl rfl (fun r => rt_1_4 (r rfl)) (by decide) ?_
  refine v_aload_n dX7_put_14 rfl ?_
  refine v_getv (ci := 7) (j := 5) (ji := 5) (tg := 0) dX7_put_15 k_139 (by decide) kk_1 (by decide) rfl rfl (by decide) (cps_r5) ?_
  refine v_iload_n dX7_put_18 rfl ?_
  refine v_iastore dX7_put_19 (by decide) kk_3 (by omega) (by omega) ?_
  rw [cps_wR]
  refine v_aload_n dX7_put_20 rfl ?_
  refine v_dup dX7_put_21 rfl ?_
  refine v_getv (ci := 7) (j := 5) (ji := 5) (tg := 0) dX7_put_22 k_139 (by decide) kk_1 (by decide) rfl rfl (by decide) (cps_r5) ?_
  refine v_iconst dX7_put_25 (c32 rfl) ?_
  refine v_iaddE dX7_put_26 (by omega) ?_
  refine v_puti (ci := 7) (j := 5) (ji := 5) dX7_put_27 k_139 (by decide) kk_1 (by decide) rfl rfl rfl ?_
  rw [cps_w5]
  refine v_vret dX7_put_30 rfl (Nat.le_refl _) (Nat.le_refl _) ?_
  exact hq

theorem s_cputN {l : Launch} {G : GG} {d : Nat} {h : AH} {Q : Option AV → List Kd → AH → Prop} {R : Int → Int} {a f s x : Int} (hd : 1 ≤ d) (h0 : 0 ≤ s) (h1 : s < 200) (hx : 0 ≤ x ∧ x < 256) (hq : Q none K0 (cps h (fset R s (-x)) a f (s + 1))) : Sp l G mX7_put d 0 0 K0 [(2, 1), (0, ineg x)] (cps h R a f s) Q := by
  rw [ineg_b hx]
  exact s_cput hd h0 h1 hq

set_option maxHeartbeats 4000000 in
set_option maxRecDepth 100000 in
theorem s_cputF {l : Launch} {G : GG} {d : Nat} {h : AH} {Q : Option AV → List Kd → AH → Prop} {R : Int → Int} {a f s x : Int} (hd : 1 ≤ d) (h0 : 0 ≤ s) (h1 : s ≤ 200) (hq : ∀ R s, 0 ≤ s → s ≤ 200 → Q none K0 (cps h R a f s)) : Sp l G mX7_put d 0 0 K0 [(2, 1), (0, x)] (cps h R a f s) Q := by
  refine sp_of (L := [(2, 1), (0, x)]) pl_X7 (Nat.le_of_ble_eq_true rfl) (tg_c (by decide) (tg_c (by decide) tg_0)) rfl ?_
  refine v_aload_n dX7_put_0 rfl ?_
  refine v_getv (ci := 7) (j := 5) (ji := 5) (tg := 0) dX7_put_1 k_139 (by decide) kk_1 (by decide) rfl rfl (by decide) (cps_r5) ?_
  refine v_sipush dX7_put_4 (c32 rfl) (by decide) ?_
  refine v_icmp_ge (tgt := 30) dX7_put_7 (by decide) (fun c7_1 => ?_) (fun c7_1 => ?_)
  · refine v_vret dX7_put_30 rfl (Nat.le_refl _) (Nat.le_refl _) ?_
    exact hq _ _ (by omega) (by omega)
  · refine v_aload_n dX7_put_10 rfl ?_
    refine v_getr (ci := 7) (j := 4) (ji := 4) (z := 3) dX7_put_11 k_136 (by decide) kk_1 (by decide) rfl rfl (fun r => rt_1_4 (r rfl)) (by decide) ?_
    refine v_aload_n dX7_put_14 rfl ?_
    refine v_getv (ci := 7) (j := 5) (ji := 5) (tg := 0) dX7_put_15 k_139 (by decide) kk_1 (by decide) rfl rfl (by decide) (cps_r5) ?_
    refine v_iload_n dX7_put_18 rfl ?_
    refine v_iastore dX7_put_19 (by decide) kk_3 (by omega) (by omega) ?_
    rw [cps_wR]
    refine v_aload_n dX7_put_20 rfl ?_
    refine v_dup dX7_put_21 rfl ?_
    refine v_getv (ci := 7) (j := 5) (ji := 5) (tg := 0) dX7_put_22 k_139 (by decide) kk_1 (by decide) rfl rfl (by decide) (cps_r5) ?_
    refine v_iconst dX7_put_25 (c32 rfl) ?_
    refine v_iaddE dX7_put_26 (by omega) ?_
    refine v_puti (ci := 7) (j := 5) (ji := 5) dX7_put_27 k_139 (by decide) kk_1 (by decide) rfl rfl rfl ?_
    rw [cps_w5]
    refine v_vret dX7_put_30 rfl (Nat.le_refl _) (Nat.le_refl _) ?_
    exact hq _ _ (by omega) (by omega)

set_option maxHeartbeats 4000000 in
set_option maxRecDepth 100000 in
theorem s_ctakes0 {l : Launch} {G : GG} {d : Nat} {h : AH} {Q : Option AV → List Kd → AH → Prop} {n : Int} {u : Int → Int} {R : Int → Int} {a s c : Int} (hd : 2 ≤ d) (hT : CT h u n) (h0 : 0 ≤ a) (h1 : a ≤ n) (q_1 : (pk u n a) = c → Q (some (0, 1)) K0 (cps h R ((sk u n a) + 1) (-1) s)) (q_2 : (pk u n a) ≠ c → Q (some (0, 0)) K0 (cps h R (sk u n a) (-1) s)) : Sp l G mX7_takes d 0 0 K0 [(2, 1), (0, c)] (cps h R a (-1) s) Q := by
  have hT0 := hT
  obtain ⟨⟨hn0, hn1⟩, hen, hu, hur⟩ := hT
  have hpk := @pk_rng u n a hur h0
  have hsg := @sk_ge u n a
  have hsl := @sk_le u n a h1
  refine sp_of (L := [(2, 1), (0, c)]) pl_X7 (Nat.le_of_ble_eq_true rfl) (tg_c (by decide) (tg_c (by decide) tg_0)) rfl ?_
  refine v_aload_n dX7_takes_0 rfl ?_
  refine v_callv (M' := mX7_peek) (d' := d - 1) (mc' := 0) (ms' := 0) (ci := 7) (c := 1) (As := []) dX7_takes_1 k_654 cm_X7_peek rfl (by omega) (by decide) kk_1 (Nat.le_of_ble_eq_true rfl) rfl ⟨Nat.le_refl _, Nat.le_refl _⟩ ?_
  refine s_cpeek0 (by omega) hT0 (by omega) (by omega) ?_
  dsimp only [Option.toList, List.cons_append, List.nil_append, Nat.add_zero]
  refine v_iload_n dX7_takes_4 rfl ?_
  refine v_icmp_eq (tgt := 10) dX7_takes_5 (by decide) (fun c5_1 => ?_) (fun c5_1 => ?_)
  · refine v_aload_n dX7_takes_10 rfl ?_
    refine v_dup dX7_takes_11 rfl ?_
    refine v_getv (ci := 7) (j := 2) (ji := 2) (tg := 0) dX7_takes_12 k_134 (by decide) kk_1 (by decide) rfl rfl (by decide) (cps_r2) ?_
    refine v_iconst dX7_takes_15 (c32 rfl) ?_
    refine v_iaddE dX7_takes_16 (by omega) ?_
    refine v_puti (ci := 7) (j := 2) (ji := 2) dX7_takes_17 k_134 (by decide) kk_1 (by decide) rfl rfl rfl ?_
    rw [cps_w2]
    refine v_iconst dX7_takes_20 (c32 rfl) ?_
    refine v_iretz dX7_takes_21 rfl (by decide) (Nat.le_refl _) (Nat.le_refl _) ?_
    exact q_1 c5_1
  · refine v_iconst dX7_takes_8 (c32 rfl) ?_
    refine v_iretz dX7_takes_9 rfl (by decide) (Nat.le_refl _) (Nat.le_refl _) ?_
    exact q_2 c5_1

theorem s_ctakes0b {l : Launch} {G : GG} {d : Nat} {h : AH} {Q : Option AV → List Kd → AH → Prop} {n : Int} {u : Int → Int} {R : Int → Int} {a s c : Int} (hd : 2 ≤ d) (hT : CT h u n) (h0 : 0 ≤ a) (h1 : a ≤ n) (q_1 : (pk u n a) = c → Q (some (0, 1)) K0 (cps h R ((sk u n a) + 1) (-1) s)) (q_2 : (pk u n a) ≠ c → Q (some (0, 0)) K0 (cps h R (sk u n a) (-1) s)) : Sp l G mX7_takes d 0 0 K0 [(2, 1), (0, c)] (cps h R (sk u n a) (-1) s) Q :=
  s_ctakes0 hd hT (by have := @sk_ge u n a; omega) (sk_le h1) (by simp only [pk_sk, sk_sk]; exact q_1) (by simp only [pk_sk, sk_sk]; exact q_2)

set_option maxHeartbeats 4000000 in
set_option maxRecDepth 100000 in
theorem s_ctakes1 {l : Launch} {G : GG} {d : Nat} {h : AH} {Q : Option AV → List Kd → AH → Prop} {n : Int} {u : Int → Int} {R : Int → Int} {a f s c : Int} (hd : 2 ≤ d) (hT : CT h u n) (h0 : 0 ≤ a) (h1 : a ≤ n) (hf : f ≠ -1) (hc : c ≠ -1) (q_1 : Q (some (0, 0)) K0 (cps h R (sk u n a) f s)) : Sp l G mX7_takes d 0 0 K0 [(2, 1), (0, c)] (cps h R a f s) Q := by
  have hT0 := hT
  obtain ⟨⟨hn0, hn1⟩, hen, hu, hur⟩ := hT
  have hpk := @pk_rng u n a hur h0
  have hsg := @sk_ge u n a
  have hsl := @sk_le u n a h1
  refine sp_of (L := [(2, 1), (0, c)]) pl_X7 (Nat.le_of_ble_eq_true rfl) (tg_c (by decide) (tg_c (by decide) tg_0)) rfl ?_
  refine v_aload_n dX7_takes_0 rfl ?_
  refine v_callv (M' := mX7_peek) (d' := d - 1) (mc' := 0) (ms' := 0) (ci := 7) (c := 1) (As := []) dX7_takes_1 k_654 cm_X7_peek rfl (by omega) (by decide) kk_1 (Nat.le_of_ble_eq_true rfl) rfl ⟨Nat.le_refl _, Nat.le_refl _⟩ ?_
  refine s_cpeek1 (by omega) hT0 (by omega) (by omega) (by omega) ?_
  dsimp only [Option.toList, List.cons_append, List.nil_append, Nat.add_zero]
  refine v_iload_n dX7_takes_4 rfl ?_
  refine v_icmp_eq_f (tgt := 10) dX7_takes_5 (by decide) (by omega) ?_
  refine v_iconst dX7_takes_8 (c32 rfl) ?_
  refine v_iretz dX7_takes_9 rfl (by decide) (Nat.le_refl _) (Nat.le_refl _) ?_
  exact q_1 

theorem s_ctakes1b {l : Launch} {G : GG} {d : Nat} {h : AH} {Q : Option AV → List Kd → AH → Prop} {n : Int} {u : Int → Int} {R : Int → Int} {a f s c : Int} (hd : 2 ≤ d) (hT : CT h u n) (h0 : 0 ≤ a) (h1 : a ≤ n) (hf : f ≠ -1) (hc : c ≠ -1) (q_1 : Q (some (0, 0)) K0 (cps h R (sk u n a) f s)) : Sp l G mX7_takes d 0 0 K0 [(2, 1), (0, c)] (cps h R (sk u n a) f s) Q :=
  s_ctakes1 hd hT (by have := @sk_ge u n a; omega) (sk_le h1) hf hc (by simp only [pk_sk, sk_sk]; exact q_1)

set_option maxHeartbeats 4000000 in
set_option maxRecDepth 100000 in
theorem s_cneed0 {l : Launch} {G : GG} {d : Nat} {h : AH} {Q : Option AV → List Kd → AH → Prop} {n : Int} {u : Int → Int} {R : Int → Int} {a s c : Int} (hd : 3 ≤ d) (hT : CT h u n) (h0 : 0 ≤ a) (h1 : a ≤ n) (q_1 : (pk u n a) = c → Q none K0 (cps h R ((sk u n a) + 1) (-1) s)) (q_2 : (pk u n a) ≠ c → Q none K0 (cps h R (sk u n a) (sk u n a) s)) : Sp l G mX7_need d 0 0 K0 [(2, 1), (0, c)] (cps h R a (-1) s) Q := by
  have hT0 := hT
  obtain ⟨⟨hn0, hn1⟩, hen, hu, hur⟩ := hT
  have hpk := @pk_rng u n a hur h0
  have hsg := @sk_ge u n a
  have hsl := @sk_le u n a h1
  refine sp_of (L := [(2, 1), (0, c)]) pl_X7 (Nat.le_of_ble_eq_true rfl) (tg_c (by decide) (tg_c (by decide) tg_0)) rfl ?_
  refine v_aload_n dX7_need_0 rfl ?_
  refine v_iload_n dX7_need_1 rfl ?_
  refine v_callv (M' := mX7_takes) (d' := d - 1) (mc' := 0) (ms' := 0) (ci := 7) (c := 1) (As := [_]) dX7_need_2 k_757 cm_X7_takes rfl (by omega) (by decide) kk_1 (Nat.le_of_ble_eq_true rfl) rfl ⟨Nat.le_refl _, Nat.le_refl _⟩ ?_
  refine s_ctakes0 (by omega) hT0 (by omega) (by omega) (fun c2_1 => ?_) (fun c2_2 => ?_)
  · dsimp only [Option.toList, List.cons_append, List.nil_append, Nat.add_zero]
    refine v_if_ne_t (tgt := 12) dX7_need_5 (by decide) (by decide) ?_
    refine v_vret dX7_need_12 rfl (Nat.le_refl _) (Nat.le_refl _) ?_
    exact q_1 c2_1
  · dsimp only [Option.toList, List.cons_append, List.nil_append, Nat.add_zero]
    refine v_if_ne_f (tgt := 12) dX7_need_5 (by decide) (by decide) ?_
    refine v_aload_n dX7_need_8 rfl ?_
    refine v_callv (M' := mX7_fail) (d' := d - 1) (mc' := 0) (ms' := 0) (ci := 7) (c := 1) (As := []) dX7_need_9 k_745 cm_X7_fail rfl (by omega) (by decide) kk_1 (Nat.le_of_ble_eq_true rfl) rfl ⟨Nat.le_refl _, Nat.le_refl _⟩ ?_
    refine s_cfail0 (by omega) ?_
    dsimp only [Option.toList, List.cons_append, List.nil_append, Nat.add_zero]
    refine v_vret dX7_need_12 rfl (Nat.le_refl _) (Nat.le_refl _) ?_
    exact q_2 c2_2

theorem s_cneed0b {l : Launch} {G : GG} {d : Nat} {h : AH} {Q : Option AV → List Kd → AH → Prop} {n : Int} {u : Int → Int} {R : Int → Int} {a s c : Int} (hd : 3 ≤ d) (hT : CT h u n) (h0 : 0 ≤ a) (h1 : a ≤ n) (q_1 : (pk u n a) = c → Q none K0 (cps h R ((sk u n a) + 1) (-1) s)) (q_2 : (pk u n a) ≠ c → Q none K0 (cps h R (sk u n a) (sk u n a) s)) : Sp l G mX7_need d 0 0 K0 [(2, 1), (0, c)] (cps h R (sk u n a) (-1) s) Q :=
  s_cneed0 hd hT (by have := @sk_ge u n a; omega) (sk_le h1) (by simp only [pk_sk, sk_sk]; exact q_1) (by simp only [pk_sk, sk_sk]; exact q_2)

set_option maxHeartbeats 4000000 in
set_option maxRecDepth 100000 in
theorem s_cneed1 {l : Launch} {G : GG} {d : Nat} {h : AH} {Q : Option AV → List Kd → AH → Prop} {n : Int} {u : Int → Int} {R : Int → Int} {a f s c : Int} (hd : 3 ≤ d) (hT : CT h u n) (h0 : 0 ≤ a) (h1 : a ≤ n) (hf : f ≠ -1) (hc : c ≠ -1) (q_1 : Q none K0 (cps h R (sk u n a) f s)) : Sp l G mX7_need d 0 0 K0 [(2, 1), (0, c)] (cps h R a f s) Q := by
  have hT0 := hT
  obtain ⟨⟨hn0, hn1⟩, hen, hu, hur⟩ := hT
  have hpk := @pk_rng u n a hur h0
  have hsg := @sk_ge u n a
  have hsl := @sk_le u n a h1
  refine sp_of (L := [(2, 1), (0, c)]) pl_X7 (Nat.le_of_ble_eq_true rfl) (tg_c (by decide) (tg_c (by decide) tg_0)) rfl ?_
  refine v_aload_n dX7_need_0 rfl ?_
  refine v_iload_n dX7_need_1 rfl ?_
  refine v_callv (M' := mX7_takes) (d' := d - 1) (mc' := 0) (ms' := 0) (ci := 7) (c := 1) (As := [_]) dX7_need_2 k_757 cm_X7_takes rfl (by omega) (by decide) kk_1 (Nat.le_of_ble_eq_true rfl) rfl ⟨Nat.le_refl _, Nat.le_refl _⟩ ?_
  refine s_ctakes1 (by omega) hT0 (by omega) (by omega) (by omega) (by first | decide | omega) ?_
  dsimp only [Option.toList, List.cons_append, List.nil_append, Nat.add_zero]
  refine v_if_ne_f (tgt := 12) dX7_need_5 (by decide) (by decide) ?_
  refine v_aload_n dX7_need_8 rfl ?_
  refine v_callv (M' := mX7_fail) (d' := d - 1) (mc' := 0) (ms' := 0) (ci := 7) (c := 1) (As := []) dX7_need_9 k_745 cm_X7_fail rfl (by omega) (by decide) kk_1 (Nat.le_of_ble_eq_true rfl) rfl ⟨Nat.le_refl _, Nat.le_refl _⟩ ?_
  refine s_cfail1 (by omega) (by omega) ?_
  dsimp only [Option.toList, List.cons_append, List.nil_append, Nat.add_zero]
  refine v_vret dX7_need_12 rfl (Nat.le_refl _) (Nat.le_refl _) ?_
  exact q_1 

theorem s_cneed1b {l : Launch} {G : GG} {d : Nat} {h : AH} {Q : Option AV → List Kd → AH → Prop} {n : Int} {u : Int → Int} {R : Int → Int} {a f s c : Int} (hd : 3 ≤ d) (hT : CT h u n) (h0 : 0 ≤ a) (h1 : a ≤ n) (hf : f ≠ -1) (hc : c ≠ -1) (q_1 : Q none K0 (cps h R (sk u n a) f s)) : Sp l G mX7_need d 0 0 K0 [(2, 1), (0, c)] (cps h R (sk u n a) f s) Q :=
  s_cneed1 hd hT (by have := @sk_ge u n a; omega) (sk_le h1) hf hc (by simp only [pk_sk, sk_sk]; exact q_1)

set_option maxHeartbeats 4000000 in
set_option maxRecDepth 100000 in
theorem s_copens {l : Launch} {G : GG} {d : Nat} {h : AH} {Q : Option AV → List Kd → AH → Prop} {R : Int → Int} {a s p : Int} (hd : 2 ≤ d) (h0 : 0 ≤ a ∧ a < 200) (q_1 : p < 8 → Q (some (0, 1)) K0 (cps h R (a + 1) (-1) s)) (q_2 : 8 ≤ p → Q (some (0, 0)) K0 (cps h R a a s)) : Sp l G mX7_opens d 0 0 K0 [(2, 1), (0, p)] (cps h R a (-1) s) Q := by
  refine sp_of (L := [(2, 1), (0, p)]) pl_X7 (Nat.le_of_ble_eq_true rfl) (tg_c (by decide) (tg_c (by decide) tg_0)) rfl ?_
  refine v_iload_n dX7_opens_0 rfl ?_
  refine v_bipush dX7_opens_1 (c32 rfl) (by decide) ?_
  refine v_icmp_lt (tgt := 12) dX7_opens_3 (by decide) (fun c3_1 => ?_) (fun c3_1 => ?_)
  · refine v_aload_n dX7_opens_12 rfl ?_
    refine v_dup dX7_opens_13 rfl ?_
    refine v_getv (ci := 7) (j := 2) (ji := 2) (tg := 0) dX7_opens_14 k_134 (by decide) kk_1 (by decide) rfl rfl (by decide) (cps_r2) ?_
    refine v_iconst dX7_opens_17 (c32 rfl) ?_
    refine v_iaddE dX7_opens_18 (by omega) ?_
    refine v_puti (ci := 7) (j := 2) (ji := 2) dX7_opens_19 k_134 (by decide) kk_1 (by decide) rfl rfl rfl ?_
    rw [cps_w2]
    refine v_iconst dX7_opens_22 (c32 rfl) ?_
    refine v_iretz dX7_opens_23 rfl (by decide) (Nat.le_refl _) (Nat.le_refl _) ?_
    exact q_1 c3_1
  · refine v_aload_n dX7_opens_6 rfl ?_
    refine v_callv (M' := mX7_fail) (d' := d - 1) (mc' := 0) (ms' := 0) (ci := 7) (c := 1) (As := []) dX7_opens_7 k_745 cm_X7_fail rfl (by omega) (by decide) kk_1 (Nat.le_of_ble_eq_true rfl) rfl ⟨Nat.le_refl _, Nat.le_refl _⟩ ?_
    refine s_cfail0 (by omega) ?_
    dsimp only [Option.toList, List.cons_append, List.nil_append, Nat.add_zero]
    refine v_iconst dX7_opens_10 (c32 rfl) ?_
    refine v_iretz dX7_opens_11 rfl (by decide) (Nat.le_refl _) (Nat.le_refl _) ?_
    exact q_2 c3_1

set_option maxHeartbeats 4000000 in
set_option maxRecDepth 100000 in
theorem s_X7_isDigit {l : Launch} {G : GG} {d : Nat} {h : AH} {Q : Option AV → List Kd → AH → Prop} {p0 : Int} (hd : 1 ≤ d) 
    (q_1 : p0 < 48 → Q (some (0, 0)) K0 h)
    (q_2 : 48 ≤ p0 → 57 < p0 → Q (some (0, 0)) K0 h)
    (q_3 : 48 ≤ p0 → p0 ≤ 57 → Q (some (0, 1)) K0 h) : Sp l G mX7_isDigit d 0 0 K0 [(0, p0)] h Q := by
  refine sp_of (L := [(0, p0)]) pl_X7 (Nat.le_of_ble_eq_true rfl) (tg_c (by decide) tg_0) rfl ?_
  refine v_iload_n dX7_isDigit_0 rfl ?_
  refine v_bipush dX7_isDigit_1 (c32 rfl) (by decide) ?_
  refine v_icmp_lt (tgt := 16) dX7_isDigit_3 (by decide) (fun c3_1 => ?_) (fun c3_1 => ?_)
  · refine v_iconst dX7_isDigit_16 (c32 rfl) ?_
    refine v_iretz dX7_isDigit_17 rfl (by decide) (Nat.le_refl _) (Nat.le_refl _) ?_
    exact q_1 c3_1
  · refine v_iload_n dX7_isDigit_6 rfl ?_
    refine v_bipush dX7_isDigit_7 (c32 rfl) (by decide) ?_
    refine v_icmp_gt (tgt := 16) dX7_isDigit_9 (by decide) (fun c9_2 => ?_) (fun c9_2 => ?_)
    · refine v_iconst dX7_isDigit_16 (c32 rfl) ?_
      refine v_iretz dX7_isDigit_17 rfl (by decide) (Nat.le_refl _) (Nat.le_refl _) ?_
      exact q_2 c3_1 c9_2
    · refine v_iconst dX7_isDigit_12 (c32 rfl) ?_
      refine v_goto (tgt := 17) dX7_isDigit_13 (by decide) ?_
      refine v_iretz dX7_isDigit_17 rfl (by decide) (Nat.le_refl _) (Nat.le_refl _) ?_
      exact q_3 c3_1 c9_2

set_option maxHeartbeats 4000000 in
set_option maxRecDepth 100000 in
theorem s_X7_isComparison {l : Launch} {G : GG} {d : Nat} {h : AH} {Q : Option AV → List Kd → AH → Prop} {p0 : Int} (hd : 1 ≤ d) 
    (q_1 : p0 = 61 → Q (some (0, 1)) K0 h)
    (q_2 : p0 ≠ 61 → p0 = 60 → Q (some (0, 1)) K0 h)
    (q_3 : p0 ≠ 61 → p0 ≠ 60 → p0 ≠ 62 → Q (some (0, 0)) K0 h)
    (q_4 : p0 ≠ 61 → p0 ≠ 60 → p0 = 62 → Q (some (0, 1)) K0 h) : Sp l G mX7_isComparison d 0 0 K0 [(0, p0)] h Q := by
  refine sp_of (L := [(0, p0)]) pl_X7 (Nat.le_of_ble_eq_true rfl) (tg_c (by decide) tg_0) rfl ?_
  refine v_iload_n dX7_isComparison_0 rfl ?_
  refine v_bipush dX7_isComparison_1 (c32 rfl) (by decide) ?_
  refine v_icmp_eq (tgt := 18) dX7_isComparison_3 (by decide) (fun c3_1 => ?_) (fun c3_1 => ?_)
  · refine v_iconst dX7_isComparison_18 (c32 rfl) ?_
    refine v_goto (tgt := 23) dX7_isComparison_19 (by decide) ?_
    refine v_iretz dX7_isComparison_23 rfl (by decide) (Nat.le_refl _) (Nat.le_refl _) ?_
    exact q_1 c3_1
  · refine v_iload_n dX7_isComparison_6 rfl ?_
    refine v_bipush dX7_isComparison_7 (c32 rfl) (by decide) ?_
    refine v_icmp_eq (tgt := 18) dX7_isComparison_9 (by decide) (fun c9_2 => ?_) (fun c9_2 => ?_)
    · refine v_iconst dX7_isComparison_18 (c32 rfl) ?_
      refine v_goto (tgt := 23) dX7_isComparison_19 (by decide) ?_
      refine v_iretz dX7_isComparison_23 rfl (by decide) (Nat.le_refl _) (Nat.le_refl _) ?_
      exact q_2 c3_1 c9_2
    · refine v_iload_n dX7_isComparison_12 rfl ?_
      refine v_bipush dX7_isComparison_13 (c32 rfl) (by decide) ?_
      refine v_icmp_ne (tgt := 22) dX7_isComparison_15 (by decide) (fun c15_3 => ?_) (fun c15_3 => ?_)
      · refine v_iconst dX7_isComparison_22 (c32 rfl) ?_
        refine v_iretz dX7_isComparison_23 rfl (by decide) (Nat.le_refl _) (Nat.le_refl _) ?_
        exact q_3 c3_1 c9_2 c15_3
      · refine v_iconst dX7_isComparison_18 (c32 rfl) ?_
        refine v_goto (tgt := 23) dX7_isComparison_19 (by decide) ?_
        refine v_iretz dX7_isComparison_23 rfl (by decide) (Nat.le_refl _) (Nat.le_refl _) ?_
        exact q_4 c3_1 c9_2 c15_3

set_option maxHeartbeats 4000000 in
set_option maxRecDepth 100000 in
theorem s_placeOf {l : Launch} {G : GG} {d : Nat} {h : AH} {Q : Option AV → List Kd → AH → Prop} {c : Int} (hd : 5 ≤ d) (hq : Q (some (0, plc c)) K0 h) : Sp l G mX11_placeOf d 0 0 K0 [(0, c)] h Q := by
  refine sp_of (L := [(0, c)]) pl_X11 (Nat.le_of_ble_eq_true rfl) (tg_c (by decide) tg_0) rfl ?_
  refine v_iload_n dX11_placeOf_0 rfl ?_
  refine v_bipush dX11_placeOf_1 (c32 rfl) (by decide) ?_
  refine v_bipush dX11_placeOf_3 (c32 rfl) (by decide) ?_
  refine v_calls (M' := mX11_within) (d' := d - 1) (mc' := 0) (ms' := 0) (As := [_, _, _]) dX11_placeOf_5 k_586 cm_X11_within (by omega) (Nat.le_of_ble_eq_true rfl) rfl ⟨Nat.le_refl _, Nat.le_refl _⟩ ?_
  refine s_X11_within (by omega) (fun c5_1 => ?_) (fun c5_2 c5_3 => ?_) (fun c5_4 c5_5 => ?_)
  · dsimp only [Option.toList, List.cons_append, List.nil_append, Nat.add_zero]
    refine v_if_eq_t (tgt := 22) dX11_placeOf_8 (by decide) (by decide) ?_
    refine v_iconst dX11_placeOf_22 (c32 rfl) ?_
    refine v_ireti dX11_placeOf_23 rfl (Nat.le_refl _) (Nat.le_refl _) ?_
    rw [plc_out (by omega)] at hq
    exact hq
  · dsimp only [Option.toList, List.cons_append, List.nil_append, Nat.add_zero]
    refine v_if_eq_t (tgt := 22) dX11_placeOf_8 (by decide) (by decide) ?_
    refine v_iconst dX11_placeOf_22 (c32 rfl) ?_
    refine v_ireti dX11_placeOf_23 rfl (Nat.le_refl _) (Nat.le_refl _) ?_
    rw [plc_out (by omega)] at hq
    exact hq
  · dsimp only [Option.toList, List.cons_append, List.nil_append, Nat.add_zero]
    refine v_if_eq_f (tgt := 22) dX11_placeOf_8 (by decide) (by decide) ?_
    refine v_ldcwS (i := 1) dX11_placeOf_11 (fun _ q => q.2.2.2.1) ?_
    refine v_iload_n dX11_placeOf_14 rfl ?_
    refine v_i2c dX11_placeOf_15 ?_
    refine v_callvS (M' := mJ0_indexOf_0f7a4) (d' := d - 1) (i := 1) (As := [_]) dX11_placeOf_16 k_777 cm_J0_indexOf_0f7a4 rfl (by omega) (by decide) (Nat.le_of_ble_eq_true rfl) rfl ⟨Nat.le_refl _, Nat.le_refl _⟩ ?_
    refine s_indexOf_1 (by omega) ?_
    dsimp only [Option.toList, List.cons_append, List.nil_append, Nat.add_zero]
    refine v_goto (tgt := 23) dX11_placeOf_19 (by decide) ?_
    refine v_ireti dX11_placeOf_23 rfl (Nat.le_refl _) (Nat.le_refl _) ?_
    rw [i2c_b ⟨by omega, by omega⟩]
    exact hq

set_option maxHeartbeats 4000000 in
set_option maxRecDepth 100000 in
theorem lp_cnum {l : Launch} {G : GG} {d : Nat} {h : AH} {Q : Option AV → List Kd → AH → Prop} {n : Int} {u : Int → Int} {R : Int → Int} {s : Int} (hd : 2 ≤ d) (hT : CT h u n) (hs0 : 0 ≤ s ∧ s < 200) : ∀ {m : Nat} {g v a : Int}, g = 5 - m → m ≤ 5 → 0 ≤ a → a ≤ n → 0 ≤ v → v ≤ nB m → (((numF u n m v a).2 < n ∧ 48 ≤ u (numF u n m v a).2 ∧ u (numF u n m v a).2 ≤ 57) → Q none K0 (cps h (fset R s (numF u n m v a).1) (numF u n m v a).2 (numF u n m v a).2 (s + 1))) → (¬ ((numF u n m v a).2 < n ∧ 48 ≤ u (numF u n m v a).2 ∧ u (numF u n m v a).2 ≤ 57) → Q none K0 (cps h (fset R s (numF u n m v a).1) (numF u n m v a).2 (-1) (s + 1))) →
    V l G mX7_readNumber d 0 0 0 0 K0 4 [(2, 1), (0, v), (0, g)] [] (cps h R a (-1) s) Q := by
  obtain ⟨⟨hn0, hn1⟩, hen, hu, hur⟩ := hT
  intro m
  induction m with
  | zero =>
    intro g v a hg hm h0 h1 hv hv2 hf hs
    refine v_iload_n dX7_readNumber_4 rfl ?_
    refine v_iconst dX7_readNumber_5 (c32 rfl) ?_
    refine v_icmp_ge_t (tgt := 69) dX7_readNumber_6 (by decide) (by omega) ?_
    have hnd : True := trivial
    rw [show numF u n 0 v a = (v, a) from rfl] at hs hf
    refine v_aload_n dX7_readNumber_69 rfl ?_
    refine v_getv (ci := 7) (j := 2) (ji := 2) (tg := 0) dX7_readNumber_70 k_134 (by decide) kk_1 (by decide) rfl rfl (by decide) (cps_r2) ?_
    refine v_aload_n dX7_readNumber_73 rfl ?_
    refine v_getv (ci := 7) (j := 1) (ji := 1) (tg := 0) dX7_readNumber_74 k_132 (by decide) kk_1 (by decide) rfl rfl (by decide) ((cps_j (by decide)).trans (hen)) ?_
    refine v_icmp_ge (tgt := 99) dX7_readNumber_77 (by decide) (fun c77_1 => ?_) (fun c77_1 => ?_)
    · refine v_aload_n dX7_readNumber_99 rfl ?_
      refine v_iload_n dX7_readNumber_100 rfl ?_
      refine v_callv (M' := mX7_put) (d' := d - 1) (mc' := 0) (ms' := 0) (ci := 7) (c := 1) (As := [_]) dX7_readNumber_101 k_749 cm_X7_put rfl (by omega) (by decide) kk_1 (Nat.le_of_ble_eq_true rfl) rfl ⟨Nat.le_refl _, Nat.le_refl _⟩ ?_
      refine s_cput (by omega) (by omega) (by omega) ?_
      dsimp only [Option.toList, List.cons_append, List.nil_append, Nat.add_zero]
      refine v_vret dX7_readNumber_104 rfl (Nat.le_refl _) (Nat.le_refl _) ?_
      exact hs (fun q => by simp only at q; omega)
    · refine v_aload_n dX7_readNumber_80 rfl ?_
      refine v_getr (ci := 7) (j := 0) (ji := 0) (z := 2) dX7_readNumber_81 k_131 (by decide) kk_1 (by decide) rfl rfl (fun r => rt_1_0 (r rfl)) (by decide) ?_
      refine v_aload_n dX7_readNumber_84 rfl ?_
      refine v_getv (ci := 7) (j := 2) (ji := 2) (tg := 0) dX7_readNumber_85 k_134 (by decide) kk_1 (by decide) rfl rfl (by decide) (cps_r2) ?_
      refine v_ialoadv dX7_readNumber_88 (by decide) kk_2 (by omega) (by omega) ((cps_c (by decide)).trans ((congrFun hu a))) ?_
      refine v_calls (M' := mX7_isDigit) (d' := d - 1) (mc' := 0) (ms' := 0) (As := [_]) dX7_readNumber_89 k_778 cm_X7_isDigit (by omega) (Nat.le_of_ble_eq_true rfl) rfl ⟨Nat.le_refl _, Nat.le_refl _⟩ ?_
      refine s_X7_isDigit (by omega) (fun c89_2 => ?_) (fun c89_3 c89_4 => ?_) (fun c89_5 c89_6 => ?_)
      · dsimp only [Option.toList, List.cons_append, List.nil_append, Nat.add_zero]
        refine v_if_eq_t (tgt := 99) dX7_readNumber_92 (by decide) (by decide) ?_
        refine v_aload_n dX7_readNumber_99 rfl ?_
        refine v_iload_n dX7_readNumber_100 rfl ?_
        refine v_callv (M' := mX7_put) (d' := d - 1) (mc' := 0) (ms' := 0) (ci := 7) (c := 1) (As := [_]) dX7_readNumber_101 k_749 cm_X7_put rfl (by omega) (by decide) kk_1 (Nat.le_of_ble_eq_true rfl) rfl ⟨Nat.le_refl _, Nat.le_refl _⟩ ?_
        refine s_cput (by omega) (by omega) (by omega) ?_
        dsimp only [Option.toList, List.cons_append, List.nil_append, Nat.add_zero]
        refine v_vret dX7_readNumber_104 rfl (Nat.le_refl _) (Nat.le_refl _) ?_
        exact hs (fun q => by simp only at q; omega)
      · dsimp only [Option.toList, List.cons_append, List.nil_append, Nat.add_zero]
        refine v_if_eq_t (tgt := 99) dX7_readNumber_92 (by decide) (by decide) ?_
        refine v_aload_n dX7_readNumber_99 rfl ?_
        refine v_iload_n dX7_readNumber_100 rfl ?_
        refine v_callv (M' := mX7_put) (d' := d - 1) (mc' := 0) (ms' := 0) (ci := 7) (c := 1) (As := [_]) dX7_readNumber_101 k_749 cm_X7_put rfl (by omega) (by decide) kk_1 (Nat.le_of_ble_eq_true rfl) rfl ⟨Nat.le_refl _, Nat.le_refl _⟩ ?_
        refine s_cput (by omega) (by omega) (by omega) ?_
        dsimp only [Option.toList, List.cons_append, List.nil_append, Nat.add_zero]
        refine v_vret dX7_readNumber_104 rfl (Nat.le_refl _) (Nat.le_refl _) ?_
        exact hs (fun q => by simp only at q; omega)
      · dsimp only [Option.toList, List.cons_append, List.nil_append, Nat.add_zero]
        refine v_if_eq_f (tgt := 99) dX7_readNumber_92 (by decide) (by decide) ?_
        refine v_aload_n dX7_readNumber_95 rfl ?_
        refine v_callv (M' := mX7_fail) (d' := d - 1) (mc' := 0) (ms' := 0) (ci := 7) (c := 1) (As := []) dX7_readNumber_96 k_745 cm_X7_fail rfl (by omega) (by decide) kk_1 (Nat.le_of_ble_eq_true rfl) rfl ⟨Nat.le_refl _, Nat.le_refl _⟩ ?_
        refine s_cfail0 (by omega) ?_
        dsimp only [Option.toList, List.cons_append, List.nil_append, Nat.add_zero]
        refine v_aload_n dX7_readNumber_99 rfl ?_
        refine v_iload_n dX7_readNumber_100 rfl ?_
        refine v_callv (M' := mX7_put) (d' := d - 1) (mc' := 0) (ms' := 0) (ci := 7) (c := 1) (As := [_]) dX7_readNumber_101 k_749 cm_X7_put rfl (by omega) (by decide) kk_1 (Nat.le_of_ble_eq_true rfl) rfl ⟨Nat.le_refl _, Nat.le_refl _⟩ ?_
        refine s_cput (by omega) (by omega) (by omega) ?_
        dsimp only [Option.toList, List.cons_append, List.nil_append, Nat.add_zero]
        refine v_vret dX7_readNumber_104 rfl (Nat.le_refl _) (Nat.le_refl _) ?_
        exact hf ⟨by show a < n; omega, by show 48 ≤ u a; omega, by show u a ≤ 57; omega⟩
  | succ m ih =>
    intro g v a hg hm h0 h1 hv hv2 hf hs
    refine v_iload_n dX7_readNumber_4 rfl ?_
    refine v_iconst dX7_readNumber_5 (c32 rfl) ?_
    refine v_icmp_ge_f (tgt := 69) dX7_readNumber_6 (by decide) (by omega) ?_
    refine v_aload_n dX7_readNumber_9 rfl ?_
    refine v_getv (ci := 7) (j := 2) (ji := 2) (tg := 0) dX7_readNumber_10 k_134 (by decide) kk_1 (by decide) rfl rfl (by decide) (cps_r2) ?_
    refine v_aload_n dX7_readNumber_13 rfl ?_
    refine v_getv (ci := 7) (j := 1) (ji := 1) (tg := 0) dX7_readNumber_14 k_132 (by decide) kk_1 (by decide) rfl rfl (by decide) ((cps_j (by decide)).trans (hen)) ?_
    refine v_icmp_ge (tgt := 69) dX7_readNumber_17 (by decide) (fun c17_1 => ?_) (fun c17_1 => ?_)
    · have hnd : ¬ (a < n ∧ 48 ≤ u a ∧ u a ≤ 57) := by omega
      have en : numF u n (m + 1) v a = (v, a) := by rw [numF, if_neg hnd]
      rw [en] at hs hf
      refine v_aload_n dX7_readNumber_69 rfl ?_
      refine v_getv (ci := 7) (j := 2) (ji := 2) (tg := 0) dX7_readNumber_70 k_134 (by decide) kk_1 (by decide) rfl rfl (by decide) (cps_r2) ?_
      refine v_aload_n dX7_readNumber_73 rfl ?_
      refine v_getv (ci := 7) (j := 1) (ji := 1) (tg := 0) dX7_readNumber_74 k_132 (by decide) kk_1 (by decide) rfl rfl (by decide) ((cps_j (by decide)).trans (hen)) ?_
      refine v_icmp_ge_t (tgt := 99) dX7_readNumber_77 (by decide) (by omega) ?_
      refine v_aload_n dX7_readNumber_99 rfl ?_
      refine v_iload_n dX7_readNumber_100 rfl ?_
      refine v_callv (M' := mX7_put) (d' := d - 1) (mc' := 0) (ms' := 0) (ci := 7) (c := 1) (As := [_]) dX7_readNumber_101 k_749 cm_X7_put rfl (by omega) (by decide) kk_1 (Nat.le_of_ble_eq_true rfl) rfl ⟨Nat.le_refl _, Nat.le_refl _⟩ ?_
      refine s_cput (by omega) (by omega) (by omega) ?_
      dsimp only [Option.toList, List.cons_append, List.nil_append, Nat.add_zero]
      refine v_vret dX7_readNumber_104 rfl (Nat.le_refl _) (Nat.le_refl _) ?_
      exact hs (fun q => by simp only at q; omega)
    · refine v_aload_n dX7_readNumber_20 rfl ?_
      refine v_getr (ci := 7) (j := 0) (ji := 0) (z := 2) dX7_readNumber_21 k_131 (by decide) kk_1 (by decide) rfl rfl (fun r => rt_1_0 (r rfl)) (by decide) ?_
      refine v_aload_n dX7_readNumber_24 rfl ?_
      refine v_getv (ci := 7) (j := 2) (ji := 2) (tg := 0) dX7_readNumber_25 k_134 (by decide) kk_1 (by decide) rfl rfl (by decide) (cps_r2) ?_
      refine v_ialoadv dX7_readNumber_28 (by decide) kk_2 (by omega) (by omega) ((cps_c (by decide)).trans ((congrFun hu a))) ?_
      refine v_calls (M' := mX7_isDigit) (d' := d - 1) (mc' := 0) (ms' := 0) (As := [_]) dX7_readNumber_29 k_778 cm_X7_isDigit (by omega) (Nat.le_of_ble_eq_true rfl) rfl ⟨Nat.le_refl _, Nat.le_refl _⟩ ?_
      refine s_X7_isDigit (by omega) (fun c29_2 => ?_) (fun c29_3 c29_4 => ?_) (fun c29_5 c29_6 => ?_)
      · dsimp only [Option.toList, List.cons_append, List.nil_append, Nat.add_zero]
        refine v_if_eq_t (tgt := 69) dX7_readNumber_32 (by decide) (by decide) ?_
        have hnd : ¬ (a < n ∧ 48 ≤ u a ∧ u a ≤ 57) := by omega
        have en : numF u n (m + 1) v a = (v, a) := by rw [numF, if_neg hnd]
        rw [en] at hs hf
        refine v_aload_n dX7_readNumber_69 rfl ?_
        refine v_getv (ci := 7) (j := 2) (ji := 2) (tg := 0) dX7_readNumber_70 k_134 (by decide) kk_1 (by decide) rfl rfl (by decide) (cps_r2) ?_
        refine v_aload_n dX7_readNumber_73 rfl ?_
        refine v_getv (ci := 7) (j := 1) (ji := 1) (tg := 0) dX7_readNumber_74 k_132 (by decide) kk_1 (by decide) rfl rfl (by decide) ((cps_j (by decide)).trans (hen)) ?_
        refine v_icmp_ge_f (tgt := 99) dX7_readNumber_77 (by decide) (by omega) ?_
        refine v_aload_n dX7_readNumber_80 rfl ?_
        refine v_getr (ci := 7) (j := 0) (ji := 0) (z := 2) dX7_readNumber_81 k_131 (by decide) kk_1 (by decide) rfl rfl (fun r => rt_1_0 (r rfl)) (by decide) ?_
        refine v_aload_n dX7_readNumber_84 rfl ?_
        refine v_getv (ci := 7) (j := 2) (ji := 2) (tg := 0) dX7_readNumber_85 k_134 (by decide) kk_1 (by decide) rfl rfl (by decide) (cps_r2) ?_
        refine v_ialoadv dX7_readNumber_88 (by decide) kk_2 (by omega) (by omega) ((cps_c (by decide)).trans ((congrFun hu a))) ?_
        refine v_calls (M' := mX7_isDigit) (d' := d - 1) (mc' := 0) (ms' := 0) (As := [_]) dX7_readNumber_89 k_778 cm_X7_isDigit (by omega) (Nat.le_of_ble_eq_true rfl) rfl ⟨Nat.le_refl _, Nat.le_refl _⟩ ?_
        refine s_X7_isDigit (by omega) (fun c89_1 => ?_) (fun c89_2 c89_3 => ?_) (fun c89_4 c89_5 => ?_)
        · dsimp only [Option.toList, List.cons_append, List.nil_append, Nat.add_zero]
          refine v_if_eq_t (tgt := 99) dX7_readNumber_92 (by decide) (by decide) ?_
          refine v_aload_n dX7_readNumber_99 rfl ?_
          refine v_iload_n dX7_readNumber_100 rfl ?_
          refine v_callv (M' := mX7_put) (d' := d - 1) (mc' := 0) (ms' := 0) (ci := 7) (c := 1) (As := [_]) dX7_readNumber_101 k_749 cm_X7_put rfl (by omega) (by decide) kk_1 (Nat.le_of_ble_eq_true rfl) rfl ⟨Nat.le_refl _, Nat.le_refl _⟩ ?_
          refine s_cput (by omega) (by omega) (by omega) ?_
          dsimp only [Option.toList, List.cons_append, List.nil_append, Nat.add_zero]
          refine v_vret dX7_readNumber_104 rfl (Nat.le_refl _) (Nat.le_refl _) ?_
          exact hs (fun q => by simp only at q; omega)
        · dsimp only [Option.toList, List.cons_append, List.nil_append, Nat.add_zero]
          refine v_if_eq_t (tgt := 99) dX7_readNumber_92 (by decide) (by decide) ?_
          refine v_aload_n dX7_readNumber_99 rfl ?_
          refine v_iload_n dX7_readNumber_100 rfl ?_
          refine v_callv (M' := mX7_put) (d' := d - 1) (mc' := 0) (ms' := 0) (ci := 7) (c := 1) (As := [_]) dX7_readNumber_101 k_749 cm_X7_put rfl (by omega) (by decide) kk_1 (Nat.le_of_ble_eq_true rfl) rfl ⟨Nat.le_refl _, Nat.le_refl _⟩ ?_
          refine s_cput (by omega) (by omega) (by omega) ?_
          dsimp only [Option.toList, List.cons_append, List.nil_append, Nat.add_zero]
          refine v_vret dX7_readNumber_104 rfl (Nat.le_refl _) (Nat.le_refl _) ?_
          exact hs (fun q => by simp only at q; omega)
        · dsimp only [Option.toList, List.cons_append, List.nil_append, Nat.add_zero]
          refine v_if_eq_f (tgt := 99) dX7_readNumber_92 (by decide) (by decide) ?_
          refine v_aload_n dX7_readNumber_95 rfl ?_
          refine v_callv (M' := mX7_fail) (d' := d - 1) (mc' := 0) (ms' := 0) (ci := 7) (c := 1) (As := []) dX7_readNumber_96 k_745 cm_X7_fail rfl (by omega) (by decide) kk_1 (Nat.le_of_ble_eq_true rfl) rfl ⟨Nat.le_refl _, Nat.le_refl _⟩ ?_
          refine s_cfail0 (by omega) ?_
          dsimp only [Option.toList, List.cons_append, List.nil_append, Nat.add_zero]
          refine v_aload_n dX7_readNumber_99 rfl ?_
          refine v_iload_n dX7_readNumber_100 rfl ?_
          refine v_callv (M' := mX7_put) (d' := d - 1) (mc' := 0) (ms' := 0) (ci := 7) (c := 1) (As := [_]) dX7_readNumber_101 k_749 cm_X7_put rfl (by omega) (by decide) kk_1 (Nat.le_of_ble_eq_true rfl) rfl ⟨Nat.le_refl _, Nat.le_refl _⟩ ?_
          refine s_cput (by omega) (by omega) (by omega) ?_
          dsimp only [Option.toList, List.cons_append, List.nil_append, Nat.add_zero]
          refine v_vret dX7_readNumber_104 rfl (Nat.le_refl _) (Nat.le_refl _) ?_
          exact hf ⟨by show a < n; omega, by show 48 ≤ u a; omega, by show u a ≤ 57; omega⟩
      · dsimp only [Option.toList, List.cons_append, List.nil_append, Nat.add_zero]
        refine v_if_eq_t (tgt := 69) dX7_readNumber_32 (by decide) (by decide) ?_
        have hnd : ¬ (a < n ∧ 48 ≤ u a ∧ u a ≤ 57) := by omega
        have en : numF u n (m + 1) v a = (v, a) := by rw [numF, if_neg hnd]
        rw [en] at hs hf
        refine v_aload_n dX7_readNumber_69 rfl ?_
        refine v_getv (ci := 7) (j := 2) (ji := 2) (tg := 0) dX7_readNumber_70 k_134 (by decide) kk_1 (by decide) rfl rfl (by decide) (cps_r2) ?_
        refine v_aload_n dX7_readNumber_73 rfl ?_
        refine v_getv (ci := 7) (j := 1) (ji := 1) (tg := 0) dX7_readNumber_74 k_132 (by decide) kk_1 (by decide) rfl rfl (by decide) ((cps_j (by decide)).trans (hen)) ?_
        refine v_icmp_ge_f (tgt := 99) dX7_readNumber_77 (by decide) (by omega) ?_
        refine v_aload_n dX7_readNumber_80 rfl ?_
        refine v_getr (ci := 7) (j := 0) (ji := 0) (z := 2) dX7_readNumber_81 k_131 (by decide) kk_1 (by decide) rfl rfl (fun r => rt_1_0 (r rfl)) (by decide) ?_
        refine v_aload_n dX7_readNumber_84 rfl ?_
        refine v_getv (ci := 7) (j := 2) (ji := 2) (tg := 0) dX7_readNumber_85 k_134 (by decide) kk_1 (by decide) rfl rfl (by decide) (cps_r2) ?_
        refine v_ialoadv dX7_readNumber_88 (by decide) kk_2 (by omega) (by omega) ((cps_c (by decide)).trans ((congrFun hu a))) ?_
        refine v_calls (M' := mX7_isDigit) (d' := d - 1) (mc' := 0) (ms' := 0) (As := [_]) dX7_readNumber_89 k_778 cm_X7_isDigit (by omega) (Nat.le_of_ble_eq_true rfl) rfl ⟨Nat.le_refl _, Nat.le_refl _⟩ ?_
        refine s_X7_isDigit (by omega) (fun c89_1 => ?_) (fun c89_2 c89_3 => ?_) (fun c89_4 c89_5 => ?_)
        · dsimp only [Option.toList, List.cons_append, List.nil_append, Nat.add_zero]
          refine v_if_eq_t (tgt := 99) dX7_readNumber_92 (by decide) (by decide) ?_
          refine v_aload_n dX7_readNumber_99 rfl ?_
          refine v_iload_n dX7_readNumber_100 rfl ?_
          refine v_callv (M' := mX7_put) (d' := d - 1) (mc' := 0) (ms' := 0) (ci := 7) (c := 1) (As := [_]) dX7_readNumber_101 k_749 cm_X7_put rfl (by omega) (by decide) kk_1 (Nat.le_of_ble_eq_true rfl) rfl ⟨Nat.le_refl _, Nat.le_refl _⟩ ?_
          refine s_cput (by omega) (by omega) (by omega) ?_
          dsimp only [Option.toList, List.cons_append, List.nil_append, Nat.add_zero]
          refine v_vret dX7_readNumber_104 rfl (Nat.le_refl _) (Nat.le_refl _) ?_
          exact hs (fun q => by simp only at q; omega)
        · dsimp only [Option.toList, List.cons_append, List.nil_append, Nat.add_zero]
          refine v_if_eq_t (tgt := 99) dX7_readNumber_92 (by decide) (by decide) ?_
          refine v_aload_n dX7_readNumber_99 rfl ?_
          refine v_iload_n dX7_readNumber_100 rfl ?_
          refine v_callv (M' := mX7_put) (d' := d - 1) (mc' := 0) (ms' := 0) (ci := 7) (c := 1) (As := [_]) dX7_readNumber_101 k_749 cm_X7_put rfl (by omega) (by decide) kk_1 (Nat.le_of_ble_eq_true rfl) rfl ⟨Nat.le_refl _, Nat.le_refl _⟩ ?_
          refine s_cput (by omega) (by omega) (by omega) ?_
          dsimp only [Option.toList, List.cons_append, List.nil_append, Nat.add_zero]
          refine v_vret dX7_readNumber_104 rfl (Nat.le_refl _) (Nat.le_refl _) ?_
          exact hs (fun q => by simp only at q; omega)
        · dsimp only [Option.toList, List.cons_append, List.nil_append, Nat.add_zero]
          refine v_if_eq_f (tgt := 99) dX7_readNumber_92 (by decide) (by decide) ?_
          refine v_aload_n dX7_readNumber_95 rfl ?_
          refine v_callv (M' := mX7_fail) (d' := d - 1) (mc' := 0) (ms' := 0) (ci := 7) (c := 1) (As := []) dX7_readNumber_96 k_745 cm_X7_fail rfl (by omega) (by decide) kk_1 (Nat.le_of_ble_eq_true rfl) rfl ⟨Nat.le_refl _, Nat.le_refl _⟩ ?_
          refine s_cfail0 (by omega) ?_
          dsimp only [Option.toList, List.cons_append, List.nil_append, Nat.add_zero]
          refine v_aload_n dX7_readNumber_99 rfl ?_
          refine v_iload_n dX7_readNumber_100 rfl ?_
          refine v_callv (M' := mX7_put) (d' := d - 1) (mc' := 0) (ms' := 0) (ci := 7) (c := 1) (As := [_]) dX7_readNumber_101 k_749 cm_X7_put rfl (by omega) (by decide) kk_1 (Nat.le_of_ble_eq_true rfl) rfl ⟨Nat.le_refl _, Nat.le_refl _⟩ ?_
          refine s_cput (by omega) (by omega) (by omega) ?_
          dsimp only [Option.toList, List.cons_append, List.nil_append, Nat.add_zero]
          refine v_vret dX7_readNumber_104 rfl (Nat.le_refl _) (Nat.le_refl _) ?_
          exact hf ⟨by show a < n; omega, by show 48 ≤ u a; omega, by show u a ≤ 57; omega⟩
      · dsimp only [Option.toList, List.cons_append, List.nil_append, Nat.add_zero]
        refine v_if_eq_f (tgt := 69) dX7_readNumber_32 (by decide) (by decide) ?_
        have hrq := hur a (by omega) (by omega)
        have hBq := @nB_le m
        have hBs := @nB_s m (by omega)
        refine v_iload_n dX7_readNumber_35 rfl ?_
        refine v_bipush dX7_readNumber_36 (c32 rfl) (by decide) ?_
        refine v_imulE dX7_readNumber_38 (by omega) ?_
        refine v_aload_n dX7_readNumber_39 rfl ?_
        refine v_getr (ci := 7) (j := 0) (ji := 0) (z := 2) dX7_readNumber_40 k_131 (by decide) kk_1 (by decide) rfl rfl (fun r => rt_1_0 (r rfl)) (by decide) ?_
        refine v_aload_n dX7_readNumber_43 rfl ?_
        refine v_getv (ci := 7) (j := 2) (ji := 2) (tg := 0) dX7_readNumber_44 k_134 (by decide) kk_1 (by decide) rfl rfl (by decide) (cps_r2) ?_
        refine v_ialoadv dX7_readNumber_47 (by decide) kk_2 (by omega) (by omega) ((cps_c (by decide)).trans ((congrFun hu a))) ?_
        refine v_iaddE dX7_readNumber_48 (by omega) ?_
        refine v_bipush dX7_readNumber_49 (c32 rfl) (by decide) ?_
        refine v_isubE dX7_readNumber_51 (by omega) ?_
        refine v_istore_n_1 dX7_readNumber_52 (by decide) rfl ?_
        refine v_aload_n dX7_readNumber_53 rfl ?_
        refine v_dup dX7_readNumber_54 rfl ?_
        refine v_getv (ci := 7) (j := 2) (ji := 2) (tg := 0) dX7_readNumber_55 k_134 (by decide) kk_1 (by decide) rfl rfl (by decide) (cps_r2) ?_
        refine v_iconst dX7_readNumber_58 (c32 rfl) ?_
        refine v_iaddE dX7_readNumber_59 (by omega) ?_
        refine v_puti (ci := 7) (j := 2) (ji := 2) dX7_readNumber_60 k_134 (by decide) kk_1 (by decide) rfl rfl rfl ?_
        rw [cps_w2]
        refine v_iinc_2 dX7_readNumber_63 (by decide) rfl ?_
        rw [iadd_eq (x := g) (y := 1) (by unfold ok32; omega)]
        refine v_goto (tgt := 4) dX7_readNumber_66 (by decide) ?_
        have en : numF u n (m + 1) v a = numF u n m (v * 10 + u a - 48) (a + 1) := by rw [numF, if_pos ⟨by omega, by omega, by omega⟩]
        rw [en] at hf hs
        rw [show (((v * 10) + (u a)) - 48) = v * 10 + u a - 48 by omega]
        exact ih (by omega) (by omega) (by omega) (by omega) (by omega) (by omega) hf hs

set_option maxHeartbeats 4000000 in
set_option maxRecDepth 100000 in
theorem s_cnum {l : Launch} {G : GG} {d : Nat} {h : AH} {Q : Option AV → List Kd → AH → Prop} {n : Int} {u : Int → Int} {R : Int → Int} {a s : Int} (hd : 2 ≤ d) (hT : CT h u n) (hs0 : 0 ≤ s ∧ s < 200) (h0 : 0 ≤ a) (h1 : a ≤ n) (hf : (((numF u n 5 0 a).2 < n ∧ 48 ≤ u (numF u n 5 0 a).2 ∧ u (numF u n 5 0 a).2 ≤ 57) → Q none K0 (cps h (fset R s (numF u n 5 0 a).1) (numF u n 5 0 a).2 (numF u n 5 0 a).2 (s + 1)))) (hs : (¬ ((numF u n 5 0 a).2 < n ∧ 48 ≤ u (numF u n 5 0 a).2 ∧ u (numF u n 5 0 a).2 ≤ 57) → Q none K0 (cps h (fset R s (numF u n 5 0 a).1) (numF u n 5 0 a).2 (-1) (s + 1)))) : Sp l G mX7_readNumber d 0 0 K0 [(2, 1)] (cps h R a (-1) s) Q := by
  refine sp_of (L := [(2, 1), (9, 0), (9, 0)]) pl_X7 (Nat.le_of_ble_eq_true rfl) (tg_c (by decide) tg_0) rfl ?_
  refine v_iconst dX7_readNumber_0 (c32 rfl) ?_
  refine v_istore_n_1 dX7_readNumber_1 (by decide) rfl ?_
  refine v_iconst dX7_readNumber_2 (c32 rfl) ?_
  refine v_istore_n_2 dX7_readNumber_3 (by decide) rfl ?_
  exact lp_cnum hd hT hs0 (m := 5) (by omega) (by omega) h0 h1 (by omega) (by decide) hf hs

