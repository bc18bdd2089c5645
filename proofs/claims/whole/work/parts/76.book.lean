/-! ===== booking: both sides (written by wip/whole/p51.py) ===== -/
abbrev BKT : Type := Int × (Int → Int) × (Int → Int) × (Int → Int) × (Int → Int) × Int
/-- one shipment booked: how many lines, what is booked, the lines' shipments, coins, days, their sum -/
def bkS (du : Int → Int) (now s : Int) (p : BKT) : BKT := if du s = p.2.1 s then p else (p.1 + 1, fset p.2.1 s (du s), fset p.2.2.1 p.1 s, fset p.2.2.2.1 p.1 (du s - p.2.1 s), fset p.2.2.2.2.1 p.1 now, ladd p.2.2.2.2.2 (du s - p.2.1 s))
def bkF (du : Int → Int) (now : Int) (p : BKT) (k : Int) : BKT := fupI (bkS du now) p k
def ubF (du B : Int → Int) (s : Int) : Int := if du s = B s then 0 else 1
theorem bkF_s {du : Int → Int} {now k : Int} {p : BKT} (h : 0 ≤ k) : bkF du now p (k + 1) = bkS du now k (bkF du now p k) := fupI_s h
theorem ubF_r {du B : Int → Int} {n : Int} : ∀ i, 0 ≤ i → i < n → 0 ≤ ubF du B i ∧ ubF du B i ≤ 1 := fun i _ _ => by unfold ubF; split <;> omega
theorem bkF_B {du : Int → Int} {now : Int} {p : BKT} : ∀ {k s : Int}, 0 ≤ k → k ≤ s → (bkF du now p k).2.1 s = p.2.1 s := by
  have key : ∀ m : Nat, ∀ s : Int, (m : Int) ≤ s → (bkF du now p m).2.1 s = p.2.1 s := by
    intro m
    induction m with
    | zero => intro s _; rfl
    | succ m ih =>
      intro s hs
      rw [show ((m + 1 : Nat) : Int) = (m : Int) + 1 by omega, bkF_s (by omega)]
      unfold bkS
      split
      · exact ih s (by omega)
      · show fset _ (m : Int) _ s = _
        rw [fset_ne (by omega)]
        exact ih s (by omega)
  intro k s h0 h1
  have := key k.toNat s (by omega)
  rw [Int.toNat_of_nonneg h0] at this
  exact this
theorem bkF_n {du : Int → Int} {now : Int} {p : BKT} {k : Int} (h0 : 0 ≤ k) : (bkF du now p k).1 = p.1 + sm (ubF du p.2.1) k := by
  have key : ∀ m : Nat, (bkF du now p m).1 = p.1 + sm (ubF du p.2.1) m := by
    intro m
    induction m with
    | zero => show p.1 = p.1 + 0; omega
    | succ m ih =>
      rw [show ((m + 1 : Nat) : Int) = (m : Int) + 1 by omega, bkF_s (by omega), sm_s (by omega)]
      have e := bkF_B (du := du) (now := now) (p := p) (k := m) (s := m) (by omega) (Int.le_refl _)
      unfold bkS ubF
      rw [e]
      by_cases c : du m = p.2.1 m
      · rw [if_pos c, if_pos c, ih]; unfold ubF; omega
      · rw [if_neg c, if_neg c]
        show (bkF du now p m).1 + 1 = _
        rw [ih]; unfold ubF; omega
  have := key k.toNat
  rw [Int.toNat_of_nonneg h0] at this
  exact this
theorem bkS_0 {du : Int → Int} {now s : Int} {p : BKT} (c : du s = p.2.1 s) : bkS du now s p = p := if_pos c
theorem bkS_1 {du : Int → Int} {now s : Int} {p : BKT} (c : du s ≠ p.2.1 s) : bkS du now s p = (p.1 + 1, fset p.2.1 s (du s), fset p.2.2.1 p.1 s, fset p.2.2.2.1 p.1 (du s - p.2.1 s), fset p.2.2.2.2.1 p.1 now, ladd p.2.2.2.2.2 (du s - p.2.1 s)) := if_neg c
/-- the class's lines and the reference's -/
def bkc (h : AH) (p : BKT) : AH := ov1 (ov1 (ov1 (ov1 (hset (hset h 4 15 p.1) 4 16 p.2.2.2.2.2) 76 p.2.1) 77 p.2.2.1) 78 p.2.2.2.1) 79 p.2.2.2.2.1
def bkr (h : AH) (p : BKT) : AH := ov1 (ov1 (ov1 (ov1 (hset (hset h 116 67 p.1) 116 68 p.2.2.2.2.2) 160 p.2.1) 162 p.2.2.1) 161 p.2.2.2.1) 163 p.2.2.2.2.1
theorem Ag_ls {h : AH} {c j x : Int} (q : lS c j) : Ag h (hset h c j x) := Ag_s (fun z => z.2 q)
theorem Ag_lo {h : AH} {c : Int} {R : Int → Int} (q : ∀ j, lS c j) : Ag h (ov1 h c R) := fun a b z => ov1_c (fun e => z.2 (by rw [e]; exact q b))
theorem Ag_bkc {h : AH} {p : BKT} : Ag h (bkc h p) := Ag_t (Ag_t (Ag_t (Ag_t (Ag_t (Ag_ls (by decide)) (Ag_ls (by decide))) (Ag_lo (fun j => Or.inl (by decide)))) (Ag_lo (fun j => Or.inl (by decide)))) (Ag_lo (fun j => Or.inl (by decide)))) (Ag_lo (fun j => Or.inl (by decide)))
theorem Ag_bkr {h : AH} {p : BKT} : Ag h (bkr h p) := Ag_t (Ag_t (Ag_t (Ag_t (Ag_t (Ag_ls (by decide)) (Ag_ls (by decide))) (Ag_lo (fun j => Or.inr (Or.inl (by decide))))) (Ag_lo (fun j => Or.inr (Or.inl (by decide))))) (Ag_lo (fun j => Or.inr (Or.inl (by decide))))) (Ag_lo (fun j => Or.inr (Or.inl (by decide))))
theorem bkc_mk {h : AH} : bkc h (h 4 15, h 76, h 77, h 78, h 79, h 4 16) = h := by
  unfold bkc
  dsimp only
  rw [hset_mk, hset_mk, ov1_mk, ov1_mk, ov1_mk, ov1_mk]
theorem bkr_mk {h : AH} : bkr h (h 116 67, h 160, h 162, h 161, h 163, h 116 68) = h := by
  unfold bkr
  dsimp only
  rw [hset_mk, hset_mk, ov1_mk, ov1_mk, ov1_mk, ov1_mk]
theorem duF_rng {h : AH} {cs : Int → List (Int × List Int)} (I : CI h cs) {s q : Int} (hs : 0 ≤ s ∧ s < h 116 65) : 0 ≤ duF h cs s q ∧ duF h cs s q ≤ 100000000 := by
  have sh := I.S.2.2.1 s hs.1 hs.2
  have pc := I.W.pc (q := q) sh.1.1 sh.1.2
  have he := I.W.he (h 150 s) sh.1.1 sh.1.2
  have hr : 0 ≤ rtF h cs s q ∧ rtF h cs s q ≤ 1000 := by
    unfold rtF
    split
    · omega
    · exact I.ta _ (by omega) (by omega)
  have hb := duF_b (x := prc h q (h 150 s) * h 151 s) (y := rtF h cs s q) (mul_r8 pc.1 pc.2 sh.2.1.1 sh.2.1.2) hr
  unfold duF
  rw [ldiv_nn hb.1 (by omega) (by decide) (by decide)]
  omega

set_option maxHeartbeats 4000000 in
set_option maxRecDepth 100000 in
theorem lp_cub {l : Launch} {G : GG} {d : Nat} {h : AH} {Q : Option AV → List Kd → AH → Prop} {cs : Int → List (Int × List Int)} {F0 : AH} (hd : 6 ≤ d) (I : CI h cs) (e76 : h 76 = h 160) (hq : ∀ F', Fr 2 F0 F' → (∀ s, 0 ≤ s → s < h 116 65 → F' 75 s = stF h cs s (h 116 1)) → Q (some (0, sm (ubF (fun s => duF h cs s (h 116 1)) (h 160)) (h 116 65))) K0 (cst h F')) : ∀ k, 0 ≤ k → k ≤ h 116 65 → ∀ F : AH, Fr 2 F0 F → (∀ s, 0 ≤ s → s < h 116 65 → F 75 s = stF h cs s (h 116 1)) → V l G mX0_countUnbooked d 0 0 0 0 K0 4 [(2, 4), (0, h 116 1), (0, sm (ubF (fun s => duF h cs s (h 116 1)) (h 160)) k), (0, k)] [] (cst h F) Q := by
  have ns := I.S.1
  refine loop_m3 (fun k hk hkN ih F hF hJ => ?_)
  refine v_iload_n dX0_countUnbooked_4 rfl ?_
  refine v_aload_n dX0_countUnbooked_5 rfl ?_
  refine v_getv (ci := 0) (j := 7) (ji := 7) (tg := 0) dX0_countUnbooked_6 k_381 (by decide) kk_4 (by decide) rfl rfl (by decide) ((cst_n (by decide)).trans (I.f4_7)) ?_
  refine v_icmp_ge (tgt := 42) dX0_countUnbooked_9 (by decide) (fun c9_1 => ?_) (fun c9_1 => ?_)
  · refine v_iload_n dX0_countUnbooked_42 rfl ?_
    refine v_ireti dX0_countUnbooked_43 rfl (Nat.le_refl _) (Nat.le_refl _) ?_
    obtain rfl : k = h 116 65 := by omega
    exact hq _ hF hJ
  · have r9 := sm_rng (ubF_r (du := (fun s => duF h cs s (h 116 1))) (B := h 160) (n := h 116 65)) k hk (by omega)
    refine v_iload_n dX0_countUnbooked_12 rfl ?_
    refine v_aload_n dX0_countUnbooked_13 rfl ?_
    refine v_iload_n dX0_countUnbooked_14 rfl ?_
    refine v_iload_n dX0_countUnbooked_15 rfl ?_
    refine v_callv (M' := mX0_dutyOf) (d' := d - 1) (mc' := 0) (ms' := 0) (ci := 0) (c := 4) (As := [_, _]) dX0_countUnbooked_16 k_1156 cm_X0_dutyOf rfl (by omega) (by decide) kk_4 (Nat.le_of_ble_eq_true rfl) rfl ⟨Nat.le_refl _, Nat.le_refl _⟩ ?_
    refine s_cduty (by omega) I ⟨by omega, by omega⟩ (hJ k hk (by omega)) (fun xf_2 c16_2 => ?_)
    dsimp only [Option.toList, List.cons_append, List.nil_append, Nat.add_zero]
    refine v_aload_n dX0_countUnbooked_19 rfl ?_
    refine v_getr (ci := 0) (j := 11) (ji := 11) (z := 76) dX0_countUnbooked_20 k_388 (by decide) kk_4 (by decide) rfl rfl (fun r => rt_4_11 (r rfl)) (by decide) ?_
    refine v_iload_n dX0_countUnbooked_23 rfl ?_
    refine v_laloadv dX0_countUnbooked_24 (by decide) kk_76 (by omega) (by omega) ((cst_n (by decide)).trans ((congrFun e76 k))) ?_
    refine v_lcmp_eq (tgt := 33) dX0_countUnbooked_25 dX0_countUnbooked_26 (by decide) (fun c25_3 => ?_) (fun c25_3 => ?_)
    · refine v_iconst dX0_countUnbooked_33 (c32 rfl) ?_
      refine v_iaddE dX0_countUnbooked_34 (by omega) ?_
      refine v_istore_n_2 dX0_countUnbooked_35 (by decide) rfl ?_
      refine v_iinc_3 dX0_countUnbooked_36 (by decide) rfl ?_
      rw [iadd_eq (x := k) (y := 1) (by unfold ok32; omega)]
      refine v_goto (tgt := 4) dX0_countUnbooked_39 (by decide) ?_
      have e8 : ubF (fun s => duF h cs s (h 116 1)) (h 160) k = 0 := if_pos (by omega)
      have e9 : sm (ubF (fun s => duF h cs s (h 116 1)) (h 160)) (k + 1) = ((sm (ubF (fun s => duF h cs s (h 116 1)) (h 160)) k) + 0) := by rw [sm_s hk, e8]
      have ih9 := ih (by omega) _ (Fr_t hF c16_2) (fun s s0 s1 => by rw [c16_2 75 s (Nat.le_of_ble_eq_true rfl)]; exact hJ s s0 s1)
      rw [e9] at ih9
      exact ih9
    · refine v_iconst dX0_countUnbooked_29 (c32 rfl) ?_
      refine v_goto (tgt := 34) dX0_countUnbooked_30 (by decide) ?_
      refine v_iaddE dX0_countUnbooked_34 (by omega) ?_
      refine v_istore_n_2 dX0_countUnbooked_35 (by decide) rfl ?_
      refine v_iinc_3 dX0_countUnbooked_36 (by decide) rfl ?_
      rw [iadd_eq (x := k) (y := 1) (by unfold ok32; omega)]
      refine v_goto (tgt := 4) dX0_countUnbooked_39 (by decide) ?_
      have e8 : ubF (fun s => duF h cs s (h 116 1)) (h 160) k = 1 := if_neg (by omega)
      have e9 : sm (ubF (fun s => duF h cs s (h 116 1)) (h 160)) (k + 1) = ((sm (ubF (fun s => duF h cs s (h 116 1)) (h 160)) k) + 1) := by rw [sm_s hk, e8]
      have ih9 := ih (by omega) _ (Fr_t hF c16_2) (fun s s0 s1 => by rw [c16_2 75 s (Nat.le_of_ble_eq_true rfl)]; exact hJ s s0 s1)
      rw [e9] at ih9
      exact ih9

set_option maxHeartbeats 4000000 in
set_option maxRecDepth 100000 in
theorem s_cub {l : Launch} {G : GG} {d : Nat} {h F : AH} {Q : Option AV → List Kd → AH → Prop} {cs : Int → List (Int × List Int)} (hd : 6 ≤ d) (I : CI h cs) (e76 : h 76 = h 160) (hJ : ∀ s, 0 ≤ s → s < h 116 65 → F 75 s = stF h cs s (h 116 1)) (hq : ∀ F', Fr 2 F F' → (∀ s, 0 ≤ s → s < h 116 65 → F' 75 s = stF h cs s (h 116 1)) → Q (some (0, sm (ubF (fun s => duF h cs s (h 116 1)) (h 160)) (h 116 65))) K0 (cst h F')) : Sp l G mX0_countUnbooked d 0 0 K0 [(2, 4), (0, (h 116 1))] (cst h F) Q := by
  refine sp_of (L := [(2, 4), (0, (h 116 1)), (9, 0), (9, 0)]) pl_X0 (Nat.le_of_ble_eq_true rfl) (tg_c (by decide) (tg_c (by decide) tg_0)) rfl ?_
  refine v_iconst dX0_countUnbooked_0 (c32 rfl) ?_
  refine v_istore_n_2 dX0_countUnbooked_1 (by decide) rfl ?_
  refine v_iconst dX0_countUnbooked_2 (c32 rfl) ?_
  refine v_istore_n_3 dX0_countUnbooked_3 (by decide) rfl ?_
  exact lp_cub hd I e76 hq 0 (Int.le_refl _) I.S.1.1 _ Fr_0 hJ

theorem s_cdutyB {l : Launch} {G : GG} {d : Nat} {h F : AH} {Q : Option AV → List Kd → AH → Prop} {cs : Int → List (Int × List Int)} {s : Int} {p : BKT} (hd : 5 ≤ d) (I : CI h cs) (hs : 0 ≤ s ∧ s < h 116 65) (hst : F 75 s = stF h cs s (h 116 1)) (hq : ∀ F', Fr 2 F F' → Q (some (1, duF h cs s (h 116 1))) K0 (cst (ov1 (ov1 (ov1 (ov1 (hset (hset h 4 15 p.1) 4 16 p.2.2.2.2.2) 76 p.2.1) 77 p.2.2.1) 78 p.2.2.2.1) 79 p.2.2.2.2.1) F')) : Sp l G mX0_dutyOf d 0 0 K0 [(2, 4), (0, s), (0, h 116 1)] (cst (ov1 (ov1 (ov1 (ov1 (hset (hset h 4 15 p.1) 4 16 p.2.2.2.2.2) 76 p.2.1) 77 p.2.2.1) 78 p.2.2.2.1) 79 p.2.2.2.2.1) F) Q :=
  s_cduty (h := bkc h p) hd (CI_ag Ag_bkc I) (by rw [Ag_bkc.f116_65]; exact hs) (by rw [stF_ag Ag_bkc]; exact hst) (fun F' a => by rw [duF_ag Ag_bkc]; exact hq F' a)

theorem sm_le {f : Int → Int} {N : Int} (hf : ∀ i, 0 ≤ i → i < N → 0 ≤ f i) : ∀ {a b : Int}, 0 ≤ a → a ≤ b → b ≤ N → sm f a ≤ sm f b := by
  intro a b ha hab hb
  have key : ∀ m : Nat, a + m ≤ N → sm f a ≤ sm f (a + m) := by
    intro m
    induction m with
    | zero => intro _; rw [show a + ((0 : Nat) : Int) = a by omega]; exact Int.le_refl _
    | succ m ih =>
      intro hm
      have := ih (by omega)
      have e : sm f (a + ((m + 1 : Nat) : Int)) = sm f (a + m) + f (a + m) := by rw [show a + ((m + 1 : Nat) : Int) = (a + m) + 1 by omega]; exact sm_s (by omega)
      have := hf (a + m) (by omega) (by omega)
      omega
  have := key (b - a).toNat (by omega)
  rw [show a + ((b - a).toNat : Int) = b by omega] at this
  exact this
/-- one that counts is still to come -/
theorem sm_up {f : Int → Int} {N k : Int} (hf : ∀ i, 0 ≤ i → i < N → 0 ≤ f i ∧ f i ≤ 1) (hk : 0 ≤ k) (h1 : k ≤ N) : sm f k ≤ sm f N ∧ (k < N → sm f k + f k ≤ sm f N) := by
  have hf2 : ∀ i, 0 ≤ i → i < N → 0 ≤ f i := fun i a b => (hf i a b).1
  refine ⟨sm_le hf2 hk h1 (Int.le_refl _), fun q => ?_⟩
  rw [← sm_s hk]
  exact sm_le hf2 (by omega) (by omega) (Int.le_refl _)

set_option maxHeartbeats 4000000 in
set_option maxRecDepth 100000 in
theorem lp_cbook {l : Launch} {G : GG} {d : Nat} {h : AH} {Q : Option AV → List Kd → AH → Prop} {cs : Int → List (Int × List Int)} {F0 : AH} {n0 : Int} (hd : 6 ≤ d) (I : CI h cs) (e76 : h 76 = h 160) (bk : ∀ s, 0 ≤ s → s < 100 → 0 ≤ h 160 s ∧ h 160 s ≤ 100000000) (hn0 : n0 = h 4 15) (hl : 0 ≤ h 4 15) (hn : h 4 15 + sm (ubF (fun s => duF h cs s (h 116 1)) (h 76)) (h 116 65) ≤ 400) (hq : ∀ F' (p : BKT), p = bkF (fun s => duF h cs s (h 116 1)) (h 116 1) (h 4 15, h 76, h 77, h 78, h 79, h 4 16) (h 116 65) → Fr 2 F0 F' → p.1 - n0 = sm (ubF (fun s => duF h cs s (h 116 1)) (h 76)) (h 116 65) → Q (some (0, p.1 - n0)) K0 (cst (ov1 (ov1 (ov1 (ov1 (hset (hset h 4 15 p.1) 4 16 p.2.2.2.2.2) 76 p.2.1) 77 p.2.2.1) 78 p.2.2.2.1) 79 p.2.2.2.2.1) F')) : ∀ k, 0 ≤ k → k ≤ h 116 65 → ∀ p : BKT, p = bkF (fun s => duF h cs s (h 116 1)) (h 116 1) (h 4 15, h 76, h 77, h 78, h 79, h 4 16) k → ∀ F : AH, Fr 2 F0 F → (∀ s, 0 ≤ s → s < h 116 65 → F 75 s = stF h cs s (h 116 1)) → V l G mX0_bookLines d 0 0 0 0 K0 22 [(2, 4), (0, h 116 1), (0, n0), (0, k), (9, 0), (9, 0)] [] (cst (ov1 (ov1 (ov1 (ov1 (hset (hset h 4 15 p.1) 4 16 p.2.2.2.2.2) 76 p.2.1) 77 p.2.2.1) 78 p.2.2.2.1) 79 p.2.2.2.2.1) F) Q := by
  have ns := I.S.1
  refine loop_m3 (fun k hk hkN ih p hp F hF hJ => ?_)
  refine v_iload_n dX0_bookLines_22 rfl ?_
  refine v_aload_n dX0_bookLines_23 rfl ?_
  refine v_getv (ci := 0) (j := 7) (ji := 7) (tg := 0) dX0_bookLines_24 k_381 (by decide) kk_4 (by decide) rfl rfl (by decide) ((cst_n (by decide)).trans ((ov1_c (by decide)).trans ((ov1_c (by decide)).trans ((ov1_c (by decide)).trans ((ov1_c (by decide)).trans ((hset_j (by decide)).trans ((hset_j (by decide)).trans (I.f4_7)))))))) ?_
  refine v_icmp_ge (tgt := 131) dX0_bookLines_27 (by decide) (fun c27_1 => ?_) (fun c27_1 => ?_)
  · obtain rfl : k = h 116 65 := by omega
    have hPN : p.1 = h 4 15 + sm (ubF (fun s => duF h cs s (h 116 1)) (h 76)) (h 116 65) := by rw [hp, bkF_n hk]
    have r8 := sm_rng (ubF_r (du := fun s => duF h cs s (h 116 1)) (B := h 76) (n := h 116 65)) (h 116 65) hk (Int.le_refl _)
    refine v_aload_n dX0_bookLines_131 rfl ?_
    refine v_getv (ci := 0) (j := 15) (ji := 15) (tg := 0) dX0_bookLines_132 k_392 (by decide) kk_4 (by decide) rfl rfl (by decide) ((cst_n (by decide)).trans ((ov1_c (by decide)).trans ((ov1_c (by decide)).trans ((ov1_c (by decide)).trans ((ov1_c (by decide)).trans ((hset_j (by decide)).trans (hset_same _ _ _ _))))))) ?_
    refine v_iload_n dX0_bookLines_135 rfl ?_
    refine v_isubE dX0_bookLines_136 (by omega) ?_
    refine v_ireti dX0_bookLines_137 rfl (Nat.le_refl _) (Nat.le_refl _) ?_
    exact hq _ p hp hF (by omega)
  · have hPB : p.2.1 k = h 160 k := by rw [hp, bkF_B hk (Int.le_refl _), ← e76]
    have hPN : p.1 = h 4 15 + sm (ubF (fun s => duF h cs s (h 116 1)) (h 76)) k := by rw [hp, bkF_n hk]
    have r8 := sm_rng (ubF_r (du := fun s => duF h cs s (h 116 1)) (B := h 76) (n := h 116 65)) k hk (by omega)
    have r7 := sm_up (ubF_r (du := fun s => duF h cs s (h 116 1)) (B := h 76) (n := h 116 65)) (k := k) hk (by omega)
    have hdk := duF_rng (q := h 116 1) I (s := k) ⟨hk, by omega⟩
    have hbk := bk k hk (by omega)
    refine v_aload_n dX0_bookLines_30 rfl ?_
    refine v_iload_n dX0_bookLines_31 rfl ?_
    refine v_iload_n dX0_bookLines_32 rfl ?_
    refine v_callv (M' := mX0_dutyOf) (d' := d - 1) (mc' := 0) (ms' := 0) (ci := 0) (c := 4) (As := [_, _]) dX0_bookLines_33 k_1156 cm_X0_dutyOf rfl (by omega) (by decide) kk_4 (Nat.le_of_ble_eq_true rfl) rfl ⟨Nat.le_refl _, Nat.le_refl _⟩ ?_
    refine s_cdutyB (p := p) (by omega) I ⟨by omega, by omega⟩ (hJ k hk (by omega)) (fun xf_2 c33_2 => ?_)
    dsimp only [Option.toList, List.cons_append, List.nil_append, Nat.add_zero]
    refine v_aload_n dX0_bookLines_36 rfl ?_
    refine v_getr (ci := 0) (j := 11) (ji := 11) (z := 76) dX0_bookLines_37 k_388 (by decide) kk_4 (by decide) rfl rfl (fun r => rt_4_11 (r rfl)) (by decide) ?_
    refine v_iload_n dX0_bookLines_40 rfl ?_
    refine v_laloadv dX0_bookLines_41 (by decide) kk_76 (by omega) (by omega) ((cst_n (by decide)).trans ((ov1_c (by decide)).trans ((ov1_c (by decide)).trans ((ov1_c (by decide)).trans ((ov1_s).trans (hPB)))))) ?_
    refine v_lsubE dX0_bookLines_42 (by omega) ?_
    refine v_lstore_4 dX0_bookLines_43 (by decide) rfl ?_
    have hcn : ubF (fun s => duF h cs s (h 116 1)) (h 76) k = if duF h cs k (h 116 1) = h 76 k then 0 else 1 := rfl
    rw [congrFun e76 k] at hcn
    refine v_lload dX0_bookLines_45 rfl ?_
    refine v_lconst (z := 0) dX0_bookLines_47 (c64 rfl) (by decide) ?_
    refine v_lcmp_eq (tgt := 125) dX0_bookLines_48 dX0_bookLines_49 (by decide) (fun c48_3 => ?_) (fun c48_3 => ?_)
    · refine v_iinc_3 dX0_bookLines_125 (by decide) rfl ?_
      rw [iadd_eq (x := k) (y := 1) (by unfold ok32; omega)]
      refine v_goto (tgt := 22) dX0_bookLines_128 (by decide) ?_
      have ec : (fun s => duF h cs s (h 116 1)) k = p.2.1 k := by show duF h cs k (h 116 1) = p.2.1 k; rw [hPB]; omega
      have eS := bkS_0 (du := fun s => duF h cs s (h 116 1)) (now := h 116 1) (s := k) (p := p) ec
      have ih9 := ih (by omega) (bkS (fun s => duF h cs s (h 116 1)) (h 116 1) k p) (by rw [hp]; exact (bkF_s hk).symm) _ (Fr_t hF c33_2) (fun s s0 s1 => by rw [c33_2 75 s (Nat.le_of_ble_eq_true rfl)]; exact hJ s s0 s1)
      rw [eS] at ih9
      refine v_loc (lo_k (lo_k (lo_k (lo_k (lo_d (lo_d lo_nil)))))) ?_
      exact ih9
    · refine v_aload_n dX0_bookLines_52 rfl ?_
      refine v_getv (ci := 0) (j := 15) (ji := 15) (tg := 0) dX0_bookLines_53 k_392 (by decide) kk_4 (by decide) rfl rfl (by decide) ((cst_n (by decide)).trans ((ov1_c (by decide)).trans ((ov1_c (by decide)).trans ((ov1_c (by decide)).trans ((ov1_c (by decide)).trans ((hset_j (by decide)).trans (hset_same _ _ _ _))))))) ?_
      refine v_sipush dX0_bookLines_56 (c32 rfl) (by decide) ?_
      refine v_icmp_ge (tgt := 125) dX0_bookLines_59 (by decide) (fun c59_4 => ?_) (fun c59_4 => ?_)
      · refine v_iinc_3 dX0_bookLines_125 (by decide) rfl ?_
        rw [iadd_eq (x := k) (y := 1) (by unfold ok32; omega)]
        refine v_goto (tgt := 22) dX0_bookLines_128 (by decide) ?_
        exfalso
        rw [if_neg (by omega)] at hcn
        have r6 := r7.2 (by omega)
        omega
      · refine v_aload_n dX0_bookLines_62 rfl ?_
        refine v_getr (ci := 0) (j := 12) (ji := 12) (z := 77) dX0_bookLines_63 k_389 (by decide) kk_4 (by decide) rfl rfl (fun r => rt_4_12 (r rfl)) (by decide) ?_
        refine v_aload_n dX0_bookLines_66 rfl ?_
        refine v_getv (ci := 0) (j := 15) (ji := 15) (tg := 0) dX0_bookLines_67 k_392 (by decide) kk_4 (by decide) rfl rfl (by decide) ((cst_n (by decide)).trans ((ov1_c (by decide)).trans ((ov1_c (by decide)).trans ((ov1_c (by decide)).trans ((ov1_c (by decide)).trans ((hset_j (by decide)).trans (hset_same _ _ _ _))))))) ?_
        refine v_iload_n dX0_bookLines_70 rfl ?_
        refine v_iastore dX0_bookLines_71 (by decide) kk_77 (by omega) (by omega) ?_
        rw [cst_wr (by decide), ov1_n (by decide), ov1_n (by decide), ov1_w]
        refine v_aload_n dX0_bookLines_72 rfl ?_
        refine v_getr (ci := 0) (j := 13) (ji := 13) (z := 78) dX0_bookLines_73 k_390 (by decide) kk_4 (by decide) rfl rfl (fun r => rt_4_13 (r rfl)) (by decide) ?_
        refine v_aload_n dX0_bookLines_76 rfl ?_
        refine v_getv (ci := 0) (j := 15) (ji := 15) (tg := 0) dX0_bookLines_77 k_392 (by decide) kk_4 (by decide) rfl rfl (by decide) ((cst_n (by decide)).trans ((ov1_c (by decide)).trans ((ov1_c (by decide)).trans ((ov1_c (by decide)).trans ((ov1_c (by decide)).trans ((hset_j (by decide)).trans (hset_same _ _ _ _))))))) ?_
        refine v_lload dX0_bookLines_80 rfl ?_
        refine v_lastore dX0_bookLines_82 (by decide) kk_78 (by omega) (by omega) ?_
        rw [cst_wr (by decide), ov1_n (by decide), ov1_w]
        refine v_aload_n dX0_bookLines_83 rfl ?_
        refine v_getr (ci := 0) (j := 14) (ji := 14) (z := 79) dX0_bookLines_84 k_391 (by decide) kk_4 (by decide) rfl rfl (fun r => rt_4_14 (r rfl)) (by decide) ?_
        refine v_aload_n dX0_bookLines_87 rfl ?_
        refine v_getv (ci := 0) (j := 15) (ji := 15) (tg := 0) dX0_bookLines_88 k_392 (by decide) kk_4 (by decide) rfl rfl (by decide) ((cst_n (by decide)).trans ((ov1_c (by decide)).trans ((ov1_c (by decide)).trans ((ov1_c (by decide)).trans ((ov1_c (by decide)).trans ((hset_j (by decide)).trans (hset_same _ _ _ _))))))) ?_
        refine v_iload_n dX0_bookLines_91 rfl ?_
        refine v_iastore dX0_bookLines_92 (by decide) kk_79 (by omega) (by omega) ?_
        rw [cst_wr (by decide), ov1_w]
        refine v_aload_n dX0_bookLines_93 rfl ?_
        refine v_dup dX0_bookLines_94 rfl ?_
        refine v_getv (ci := 0) (j := 15) (ji := 15) (tg := 0) dX0_bookLines_95 k_392 (by decide) kk_4 (by decide) rfl rfl (by decide) ((cst_n (by decide)).trans ((ov1_c (by decide)).trans ((ov1_c (by decide)).trans ((ov1_c (by decide)).trans ((ov1_c (by decide)).trans ((hset_j (by decide)).trans (hset_same _ _ _ _))))))) ?_
        refine v_iconst dX0_bookLines_98 (c32 rfl) ?_
        refine v_iaddE dX0_bookLines_99 (by omega) ?_
        refine v_puti (ci := 0) (j := 15) (ji := 15) dX0_bookLines_100 k_392 (by decide) kk_4 (by decide) rfl rfl rfl ?_
        rw [cst_wr (by decide), ov1_n (by decide), ov1_n (by decide), ov1_n (by decide), ov1_n (by decide), hset_dj (b := 16) (j := 15) (by decide), hset_tw]
        refine v_aload_n dX0_bookLines_103 rfl ?_
        refine v_dup dX0_bookLines_104 rfl ?_
        refine v_getv (ci := 0) (j := 16) (ji := 16) (tg := 1) dX0_bookLines_105 k_394 (by decide) kk_4 (by decide) rfl rfl (by decide) ((cst_n (by decide)).trans ((ov1_c (by decide)).trans ((ov1_c (by decide)).trans ((ov1_c (by decide)).trans ((ov1_c (by decide)).trans (hset_same _ _ _ _)))))) ?_
        refine v_lload dX0_bookLines_108 rfl ?_
        refine v_ladd dX0_bookLines_110 ?_
        refine v_putl (ci := 0) (j := 16) (ji := 16) dX0_bookLines_111 k_394 (by decide) kk_4 (by decide) rfl rfl rfl ?_
        rw [cst_wr (by decide), ov1_n (by decide), ov1_n (by decide), ov1_n (by decide), ov1_n (by decide), hset_tw]
        refine v_aload_n dX0_bookLines_114 rfl ?_
        refine v_getr (ci := 0) (j := 11) (ji := 11) (z := 76) dX0_bookLines_115 k_388 (by decide) kk_4 (by decide) rfl rfl (fun r => rt_4_11 (r rfl)) (by decide) ?_
        refine v_iload_n dX0_bookLines_118 rfl ?_
        refine v_dup2 dX0_bookLines_119 rfl rfl ?_
        refine v_laloadv dX0_bookLines_120 (by decide) kk_76 (by omega) (by omega) ((cst_n (by decide)).trans ((ov1_c (by decide)).trans ((ov1_c (by decide)).trans ((ov1_c (by decide)).trans ((ov1_s).trans (hPB)))))) ?_
        refine v_lload dX0_bookLines_121 rfl ?_
        refine v_laddE dX0_bookLines_123 (by omega) ?_
        refine v_lastore dX0_bookLines_124 (by decide) kk_76 (by omega) (by omega) ?_
        rw [cst_wr (by decide), ov1_n (by decide), ov1_n (by decide), ov1_n (by decide), ov1_w]
        refine v_iinc_3 dX0_bookLines_125 (by decide) rfl ?_
        rw [iadd_eq (x := k) (y := 1) (by unfold ok32; omega)]
        refine v_goto (tgt := 22) dX0_bookLines_128 (by decide) ?_
        have ec : (fun s => duF h cs s (h 116 1)) k ≠ p.2.1 k := by show duF h cs k (h 116 1) ≠ p.2.1 k; rw [hPB]; omega
        have eS := bkS_1 (du := fun s => duF h cs s (h 116 1)) (now := h 116 1) (s := k) (p := p) ec
        rw [hPB] at eS
        rw [show (h 160 k) + (duF h cs k (h 116 1) - (h 160 k)) = duF h cs k (h 116 1) by omega]
        have ih9 := ih (by omega) (bkS (fun s => duF h cs s (h 116 1)) (h 116 1) k p) (by rw [hp]; exact (bkF_s hk).symm) _ (Fr_t hF c33_2) (fun s s0 s1 => by rw [c33_2 75 s (Nat.le_of_ble_eq_true rfl)]; exact hJ s s0 s1)
        rw [eS] at ih9
        refine v_loc (lo_k (lo_k (lo_k (lo_k (lo_d (lo_d lo_nil)))))) ?_
        exact ih9

