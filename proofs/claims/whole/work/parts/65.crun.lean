/-! ===== the class: a protocol's worth (written by wip/whole/p44.py) ===== -/
/-- the class's stack -/
def SK (St : Int → Int) (tp : Int) : List Int → Prop
  | [] => tp = 0
  | x :: st => St (tp - 1) = x ∧ SK St (tp - 1) st
theorem SK_len {St : Int → Int} : ∀ {st : List Int} {tp : Int}, SK St tp st → tp = (st.length : Int) := by
  intro st
  induction st with
  | nil => intro tp h; exact h
  | cons x st ih => intro tp h; have := ih h.2; rw [List.length_cons]; omega
theorem SK_fset {St : Int → Int} {j v : Int} : ∀ {st : List Int} {tp : Int}, SK St tp st → tp ≤ j → SK (fset St j v) tp st := by
  intro st
  induction st with
  | nil => intro tp h _; exact h
  | cons x st ih => intro tp h hj; exact ⟨by rw [fset_ne (by omega)]; exact h.1, ih h.2 (by omega)⟩
theorem SK_push {St : Int → Int} {st : List Int} {tp v : Int} (h : SK St tp st) : SK (fset St tp v) (tp + 1) (v :: st) := by
  refine ⟨by rw [show tp + 1 - 1 = tp by omega, fset_same], ?_⟩
  rw [show tp + 1 - 1 = tp by omega]
  exact SK_fset h (Int.le_refl _)
def AB (st : List Int) : Prop := ∀ x ∈ st, -10000000 ≤ x ∧ x ≤ 10000000
theorem AB_0 : AB [] := fun x h => by cases h
theorem AB_psh {x : Int} {st : List Int} (h : AB st) : AB (psh x st) := by
  unfold psh
  split
  · intro y hy
    rcases List.mem_cons.mp hy with e | e
    · rw [e]; exact bd_rng
    · exact h y e
  · exact h
theorem AB_tail {st : List Int} (h : AB st) : AB st.tail := fun x hx => h x (List.mem_of_mem_tail hx)
theorem AB_head {st : List Int} (h : AB st) : -10000000 ≤ st.headD 0 ∧ st.headD 0 ≤ 10000000 := by
  cases st with
  | nil => exact ⟨by decide, by decide⟩
  | cons x st => exact h x (List.mem_cons_self ..)
theorem ineg_j {x l r : Int} (h : ok32 x) : jn (ineg x) l r = jn (-x) l r := by
  by_cases e : x = -2147483648
  · subst e
    rw [show ineg (-2147483648) = -2147483648 by decide]
    rfl
  · have e2 : ineg x = -x := by
      unfold ineg
      rw [Int32.toInt_neg, t32 h]
      unfold ok32 at h
      exact Int.bmod_eq_of_le (by omega) (by omega)
    rw [e2]

set_option maxHeartbeats 4000000 in
set_option maxRecDepth 100000 in
theorem s_pushL {l : Launch} {G : GG} {d : Nat} {h : AH} {Q : Option AV → List Kd → AH → Prop} {St : Int → Int} {tp : Int} {st : List Int} {x : Int} (hd : 1 ≤ d) (hK : SK St tp st) (hq : ∀ St tp, SK St tp (psh x st) → Q none K0 (ov1 (hset h 6 7 tp) 40 St)) : Sp l G mX8_push d 0 0 K0 [(2, 6), (1, x)] (ov1 (hset h 6 7 tp) 40 St) Q := by
  have hl := SK_len hK
  refine sp_of (L := [(2, 6), (1, x), (8, 0)]) pl_X8 (Nat.le_of_ble_eq_true rfl) (tg_c (by decide) (tg_c (by decide) tg_0)) rfl ?_
  refine v_aload_n dX8_push_0 rfl ?_
  refine v_getv (ci := 8) (j := 7) (ji := 7) (tg := 0) dX8_push_1 k_244 (by decide) kk_6 (by decide) rfl rfl (by decide) ((ov1_c (by decide)).trans (hset_same _ _ _ _)) ?_
  refine v_bipush dX8_push_4 (c32 rfl) (by decide) ?_
  refine v_icmp_ge (tgt := 42) dX8_push_6 (by decide) (fun c6_1 => ?_) (fun c6_1 => ?_)
  · refine v_vret dX8_push_42 rfl (Nat.le_refl _) (Nat.le_refl _) ?_
    unfold psh at hq
    rw [if_neg (by omega)] at hq
    exact hq _ _ hK
  · refine v_aload_n dX8_push_9 rfl ?_
    refine v_getr (ci := 8) (j := 6) (ji := 6) (z := 40) dX8_push_10 k_243 (by decide) kk_6 (by decide) rfl rfl (fun r => rt_6_6 (r rfl)) (by decide) ?_
    refine v_aload_n dX8_push_13 rfl ?_
    refine v_getv (ci := 8) (j := 7) (ji := 7) (tg := 0) dX8_push_14 k_244 (by decide) kk_6 (by decide) rfl rfl (by decide) ((ov1_c (by decide)).trans (hset_same _ _ _ _)) ?_
    refine v_ldc2 (n := -10000000) dX8_push_17 k_1017 (c64 rfl) (by decide) ?_
    refine v_ldc2 (n := 10000000) dX8_push_20 k_1018 (c64 rfl) (by decide) ?_
    refine v_lload_n dX8_push_23 rfl ?_
    refine v_mminl dX8_push_24 k_1019 (by omega) (Nat.le_of_ble_eq_true rfl) ⟨Nat.le_refl _, Nat.le_refl _⟩ ?_
    refine v_mmaxl dX8_push_27 k_1020 (by omega) (Nat.le_of_ble_eq_true rfl) ⟨Nat.le_refl _, Nat.le_refl _⟩ ?_
    refine v_l2i dX8_push_30 ?_
    refine v_iastore dX8_push_31 (by decide) kk_40 (by omega) (by omega) ?_
    rw [ov1_w]
    refine v_aload_n dX8_push_32 rfl ?_
    refine v_dup dX8_push_33 rfl ?_
    refine v_getv (ci := 8) (j := 7) (ji := 7) (tg := 0) dX8_push_34 k_244 (by decide) kk_6 (by decide) rfl rfl (by decide) ((ov1_c (by decide)).trans (hset_same _ _ _ _)) ?_
    refine v_iconst dX8_push_37 (c32 rfl) ?_
    refine v_iaddE dX8_push_38 (by omega) ?_
    refine v_puti (ci := 8) (j := 7) (ji := 7) dX8_push_39 k_244 (by decide) kk_6 (by decide) rfl rfl rfl ?_
    rw [ov1_n (by decide), hset_tw]
    refine v_vret dX8_push_42 rfl (Nat.le_refl _) (Nat.le_refl _) ?_
    unfold psh at hq
    rw [if_pos (by omega)] at hq
    rw [l2i_bd]
    exact hq _ _ (SK_push hK)

set_option maxHeartbeats 4000000 in
set_option maxRecDepth 100000 in
theorem s_popL {l : Launch} {G : GG} {d : Nat} {h : AH} {Q : Option AV → List Kd → AH → Prop} {St : Int → Int} {tp : Int} {st : List Int} (hd : 1 ≤ d) (hK : SK St tp st) (hl2 : st.length ≤ 64) (hq : ∀ tp, SK St tp st.tail → Q (some (0, st.headD 0)) K0 (ov1 (hset h 6 7 tp) 40 St)) : Sp l G mX8_pop d 0 0 K0 [(2, 6)] (ov1 (hset h 6 7 tp) 40 St) Q := by
  have hl := SK_len hK
  refine sp_of (L := [(2, 6)]) pl_X8 (Nat.le_of_ble_eq_true rfl) (tg_c (by decide) tg_0) rfl ?_
  refine v_aload_n dX8_pop_0 rfl ?_
  refine v_getv (ci := 8) (j := 7) (ji := 7) (tg := 0) dX8_pop_1 k_244 (by decide) kk_6 (by decide) rfl rfl (by decide) ((ov1_c (by decide)).trans (hset_same _ _ _ _)) ?_
  refine v_if_gt (tgt := 9) dX8_pop_4 (by decide) (fun c4_1 => ?_) (fun c4_1 => ?_)
  · refine v_aload_n dX8_pop_9 rfl ?_
    refine v_dup dX8_pop_10 rfl ?_
    refine v_getv (ci := 8) (j := 7) (ji := 7) (tg := 0) dX8_pop_11 k_244 (by decide) kk_6 (by decide) rfl rfl (by decide) ((ov1_c (by decide)).trans (hset_same _ _ _ _)) ?_
    refine v_iconst dX8_pop_14 (c32 rfl) ?_
    refine v_isubE dX8_pop_15 (by omega) ?_
    refine v_puti (ci := 8) (j := 7) (ji := 7) dX8_pop_16 k_244 (by decide) kk_6 (by decide) rfl rfl rfl ?_
    rw [ov1_n (by decide), hset_tw]
    refine v_aload_n dX8_pop_19 rfl ?_
    refine v_getr (ci := 8) (j := 6) (ji := 6) (z := 40) dX8_pop_20 k_243 (by decide) kk_6 (by decide) rfl rfl (fun r => rt_6_6 (r rfl)) (by decide) ?_
    refine v_aload_n dX8_pop_23 rfl ?_
    refine v_getv (ci := 8) (j := 7) (ji := 7) (tg := 0) dX8_pop_24 k_244 (by decide) kk_6 (by decide) rfl rfl (by decide) ((ov1_c (by decide)).trans (hset_same _ _ _ _)) ?_
    refine v_ialoadv dX8_pop_27 (by decide) kk_40 (by omega) (by omega) (ov1_s) ?_
    refine v_ireti dX8_pop_28 rfl (Nat.le_refl _) (Nat.le_refl _) ?_
    cases st with
    | nil => exfalso; simp only [List.length_nil] at hl; omega
    | cons x st =>
      obtain ⟨k1, k2⟩ := hK
      rw [k1]
      exact hq _ k2
  · refine v_iconst dX8_pop_7 (c32 rfl) ?_
    refine v_ireti dX8_pop_8 rfl (Nat.le_refl _) (Nat.le_refl _) ?_
    cases st with
    | nil => exact hq _ hK
    | cons x st => exfalso; rw [List.length_cons] at hl; omega

set_option maxHeartbeats 4000000 in
set_option maxRecDepth 100000 in
theorem s_join {l : Launch} {G : GG} {d : Nat} {h : AH} {Q : Option AV → List Kd → AH → Prop} {p0 p1 p2 : Int} (hd : 1 ≤ d) (h1 : -10000000 ≤ p1 ∧ p1 ≤ 10000000) (h2 : -10000000 ≤ p2 ∧ p2 ≤ 10000000) (hq : Q (some (1, jn p0 p1 p2)) K0 h) : Sp l G mX8_join d 0 0 K0 [(0, p0), (1, p1), (1, p2)] h Q := by
  refine sp_of (L := [(0, p0), (1, p1), (8, 0), (1, p2), (8, 0)]) pl_X8 (Nat.le_of_ble_eq_true rfl) (tg_c (by decide) (tg_c (by decide) (tg_c (by decide) tg_0))) rfl ?_
  refine v_iload_n dX8_join_0 rfl ?_
  rcases (show (p0 ≠ 38 ∧ p0 ≠ 42 ∧ p0 ≠ 43 ∧ p0 ≠ 45 ∧ p0 ≠ 47 ∧ p0 ≠ 60 ∧ p0 ≠ 61 ∧ p0 ≠ 62 ∧ p0 ≠ 124) ∨ p0 = 38 ∨ p0 = 42 ∨ p0 = 43 ∨ p0 = 45 ∨ p0 = 47 ∨ p0 = 60 ∨ p0 = 61 ∨ p0 = 62 ∨ p0 = 124 by omega) with c1_1 | c1_1 | c1_1 | c1_1 | c1_1 | c1_1 | c1_1 | c1_1 | c1_1 | c1_1
  · refine v_lsw (off := 153) (tgt := 154) dX8_join_1 (by decide) (by show Op.lookupswitch.offset [(38, 119), (42, 135), (43, 127), (45, 131), (47, 139), (60, 95), (61, 83), (62, 107), (124, 123)] 153 p0 = 153; rw [Op.lookupswitch.offset_cons, if_neg (by omega), Op.lookupswitch.offset_cons, if_neg (by omega), Op.lookupswitch.offset_cons, if_neg (by omega), Op.lookupswitch.offset_cons, if_neg (by omega), Op.lookupswitch.offset_cons, if_neg (by omega), Op.lookupswitch.offset_cons, if_neg (by omega), Op.lookupswitch.offset_cons, if_neg (by omega), Op.lookupswitch.offset_cons, if_neg (by omega), Op.lookupswitch.offset_cons, if_neg (by omega), Op.lookupswitch.offset_nil]) (by decide) ?_
    refine v_lconst (z := 0) dX8_join_154 (c64 rfl) (by decide) ?_
    refine v_lret dX8_join_155 rfl (Nat.le_refl _) (Nat.le_refl _) ?_
    have e9 : jn p0 p1 p2 = 0 := by unfold jn; rw [if_neg (by omega), if_neg (by omega), if_neg (by omega), if_neg (by omega), if_neg (by omega), if_neg (by omega), if_neg (by omega), if_neg (by omega), if_neg (by omega)]
    rw [e9] at hq
    exact hq
  · refine v_lsw (off := 119) (tgt := 120) dX8_join_1 (by decide) (by rw [c1_1]; decide) (by decide) ?_
    refine v_lload_n dX8_join_120 rfl ?_
    refine v_lload_n dX8_join_121 rfl ?_
    refine v_land dX8_join_122 ?_
    refine v_lret dX8_join_123 rfl (Nat.le_refl _) (Nat.le_refl _) ?_
    subst c1_1
    exact hq
  · refine v_lsw (off := 135) (tgt := 136) dX8_join_1 (by decide) (by rw [c1_1]; decide) (by decide) ?_
    refine v_lload_n dX8_join_136 rfl ?_
    refine v_lload_n dX8_join_137 rfl ?_
    refine v_lmul dX8_join_138 ?_
    refine v_lret dX8_join_139 rfl (Nat.le_refl _) (Nat.le_refl _) ?_
    subst c1_1
    rw [lmul_bd h1.1 h1.2 h2.1 h2.2]
    exact hq
  · refine v_lsw (off := 127) (tgt := 128) dX8_join_1 (by decide) (by rw [c1_1]; decide) (by decide) ?_
    refine v_lload_n dX8_join_128 rfl ?_
    refine v_lload_n dX8_join_129 rfl ?_
    refine v_ladd dX8_join_130 ?_
    refine v_lret dX8_join_131 rfl (Nat.le_refl _) (Nat.le_refl _) ?_
    subst c1_1
    rw [ladd_bd h1.1 h1.2 h2.1 h2.2]
    exact hq
  · refine v_lsw (off := 131) (tgt := 132) dX8_join_1 (by decide) (by rw [c1_1]; decide) (by decide) ?_
    refine v_lload_n dX8_join_132 rfl ?_
    refine v_lload_n dX8_join_133 rfl ?_
    refine v_lsub dX8_join_134 ?_
    refine v_lret dX8_join_135 rfl (Nat.le_refl _) (Nat.le_refl _) ?_
    subst c1_1
    rw [lsub_bd h1.1 h1.2 h2.1 h2.2]
    exact hq
  · refine v_lsw (off := 139) (tgt := 140) dX8_join_1 (by decide) (by rw [c1_1]; decide) (by decide) ?_
    refine v_lload_n dX8_join_140 rfl ?_
    refine v_lconst (z := 0) dX8_join_141 (c64 rfl) (by decide) ?_
    refine v_lcmp_ne (tgt := 150) dX8_join_142 dX8_join_143 (by decide) (fun c142_2 => ?_) (fun c142_2 => ?_)
    · refine v_lload_n dX8_join_150 rfl ?_
      refine v_lload_n dX8_join_151 rfl ?_
      refine v_ldiv dX8_join_152 (by omega) ?_
      refine v_lret dX8_join_153 rfl (Nat.le_refl _) (Nat.le_refl _) ?_
      subst c1_1
      rw [ldiv_bd (by omega)]
      exact hq
    · refine v_lconst (z := 0) dX8_join_146 (c64 rfl) (by decide) ?_
      refine v_goto (tgt := 153) dX8_join_147 (by decide) ?_
      refine v_lret dX8_join_153 rfl (Nat.le_refl _) (Nat.le_refl _) ?_
      subst c1_1
      rw [← zdiv_bd (by omega)] at hq
      exact hq
  · refine v_lsw (off := 95) (tgt := 96) dX8_join_1 (by decide) (by rw [c1_1]; decide) (by decide) ?_
    refine v_lload_n dX8_join_96 rfl ?_
    refine v_lload_n dX8_join_97 rfl ?_
    refine v_lcmp_ge (tgt := 106) dX8_join_98 dX8_join_99 (by decide) (fun c98_3 => ?_) (fun c98_3 => ?_)
    · refine v_lconst (z := 0) dX8_join_106 (c64 rfl) (by decide) ?_
      refine v_lret dX8_join_107 rfl (Nat.le_refl _) (Nat.le_refl _) ?_
      subst c1_1
      rw [show jn 60 p1 p2 = if p1 < p2 then 1 else 0 from rfl, if_neg (by omega)] at hq
      exact hq
    · refine v_lconst (z := 1) dX8_join_102 (c64 rfl) (by decide) ?_
      refine v_goto (tgt := 107) dX8_join_103 (by decide) ?_
      refine v_lret dX8_join_107 rfl (Nat.le_refl _) (Nat.le_refl _) ?_
      subst c1_1
      rw [show jn 60 p1 p2 = if p1 < p2 then 1 else 0 from rfl, if_pos (by omega)] at hq
      exact hq
  · refine v_lsw (off := 83) (tgt := 84) dX8_join_1 (by decide) (by rw [c1_1]; decide) (by decide) ?_
    refine v_lload_n dX8_join_84 rfl ?_
    refine v_lload_n dX8_join_85 rfl ?_
    refine v_lcmp_ne (tgt := 94) dX8_join_86 dX8_join_87 (by decide) (fun c86_4 => ?_) (fun c86_4 => ?_)
    · refine v_lconst (z := 0) dX8_join_94 (c64 rfl) (by decide) ?_
      refine v_lret dX8_join_95 rfl (Nat.le_refl _) (Nat.le_refl _) ?_
      subst c1_1
      rw [show jn 61 p1 p2 = if p1 = p2 then 1 else 0 from rfl, if_neg (by omega)] at hq
      exact hq
    · refine v_lconst (z := 1) dX8_join_90 (c64 rfl) (by decide) ?_
      refine v_goto (tgt := 95) dX8_join_91 (by decide) ?_
      refine v_lret dX8_join_95 rfl (Nat.le_refl _) (Nat.le_refl _) ?_
      subst c1_1
      rw [show jn 61 p1 p2 = if p1 = p2 then 1 else 0 from rfl, if_pos (by omega)] at hq
      exact hq
  · refine v_lsw (off := 107) (tgt := 108) dX8_join_1 (by decide) (by rw [c1_1]; decide) (by decide) ?_
    refine v_lload_n dX8_join_108 rfl ?_
    refine v_lload_n dX8_join_109 rfl ?_
    refine v_lcmp_le (tgt := 118) dX8_join_110 dX8_join_111 (by decide) (fun c110_5 => ?_) (fun c110_5 => ?_)
    · refine v_lconst (z := 0) dX8_join_118 (c64 rfl) (by decide) ?_
      refine v_lret dX8_join_119 rfl (Nat.le_refl _) (Nat.le_refl _) ?_
      subst c1_1
      rw [show jn 62 p1 p2 = if p2 < p1 then 1 else 0 from rfl, if_neg (by omega)] at hq
      exact hq
    · refine v_lconst (z := 1) dX8_join_114 (c64 rfl) (by decide) ?_
      refine v_goto (tgt := 119) dX8_join_115 (by decide) ?_
      refine v_lret dX8_join_119 rfl (Nat.le_refl _) (Nat.le_refl _) ?_
      subst c1_1
      rw [show jn 62 p1 p2 = if p2 < p1 then 1 else 0 from rfl, if_pos (by omega)] at hq
      exact hq
  · refine v_lsw (off := 123) (tgt := 124) dX8_join_1 (by decide) (by rw [c1_1]; decide) (by decide) ?_
    refine v_lload_n dX8_join_124 rfl ?_
    refine v_lload_n dX8_join_125 rfl ?_
    refine v_lor dX8_join_126 ?_
    refine v_lret dX8_join_127 rfl (Nat.le_refl _) (Nat.le_refl _) ?_
    subst c1_1
    exact hq

theorem psh_len {x : Int} {st : List Int} (h : st.length ≤ 64) : (psh x st).length ≤ 64 := by
  unfold psh
  split
  · rw [List.length_cons]; omega
  · exact h
theorem stp_len {lt : Int → Int} {x : Int} {st s : List Int} (h : st.length ≤ 64) (e : stp lt x st = some s) : s.length ≤ 64 := by
  have ht : st.tail.length ≤ 64 := by rw [List.length_tail]; omega
  have ht2 : st.tail.tail.length ≤ 64 := by rw [List.length_tail]; omega
  unfold stp at e
  split at e
  · cases e; exact psh_len h
  · split at e
    · cases e; exact psh_len h
    · split at e
      · split at e
        · cases e
        · cases e; exact ht
      · split at e
        · cases e; exact psh_len ht
        · cases e; exact psh_len ht2

set_option maxHeartbeats 4000000 in
set_option maxRecDepth 100000 in
theorem lp_run {l : Launch} {G : GG} {d : Nat} {h : AH} {Q : Option AV → List Kd → AH → Prop} {p fr e : Int} {lt : Int → Int} (hd : 2 ≤ d) (hp : 0 ≤ p ∧ p < 20) (he2 : e ≤ 200) (hlt : ∀ i, 0 ≤ i → i < 8 → lt i = h 39 i) : ∀ {k : List Int} {a tp : Int} {St : Int → Int} {st : List Int}, 0 ≤ a → (∀ i : Nat, i < k.length → h (17 + p) (a + i) = k.getD i 0) → a + (k.length : Int) = e → SK St tp st → AB st → st.length ≤ 64 →
    (exC lt k st = none → ∀ St tp, Q (some (0, 0)) K0 (ov1 (hset h 6 7 tp) 40 St)) →
    (∀ st' St tp, exC lt k st = some st' → SK St tp st' → AB st' → Q (some (0, 1)) K0 (ov1 (hset h 6 7 tp) 40 St)) →
    V l G mX8_run d 0 0 0 0 K0 8 [(2, 6), (2, 17 + p), (0, fr), (0, e), (0, a), (9, 0), (9, 0)] [] (ov1 (hset h 6 7 tp) 40 St) Q := by
  intro k
  induction k with
  | nil =>
    intro a tp St st ha hk he hK hAB hl64 q0 q1
    have he9 : e = a := by simp only [List.length_nil] at he; omega
    refine v_iload dX8_run_8 rfl ?_
    refine v_iload_n dX8_run_10 rfl ?_
    refine v_icmp_ge_t (tgt := 136) dX8_run_11 (by decide) (by omega) ?_
    refine v_iconst dX8_run_136 (c32 rfl) ?_
    refine v_iretz dX8_run_137 rfl (by decide) (Nat.le_refl _) (Nat.le_refl _) ?_
    exact q1 _ _ _ rfl hK hAB
  | cons x k ih =>
    intro a tp St st ha hk he hK hAB hl64 q0 q1
    have hx : h (17 + p) a = x := by have := hk 0 (by rw [List.length_cons]; omega); rw [show a + ((0 : Nat) : Int) = a by omega] at this; exact this
    have hle : a < e := by rw [List.length_cons] at he; omega
    refine v_iload dX8_run_8 rfl ?_
    refine v_iload_n dX8_run_10 rfl ?_
    refine v_icmp_ge_f (tgt := 136) dX8_run_11 (by decide) (by omega) ?_
    refine v_iload dX8_run_14 rfl ?_
    refine v_aload_n dX8_run_16 rfl ?_
    refine v_alen (ni := 200) dX8_run_17 (by omega) (krow_16 (by omega) (by omega)) (by simp) rfl (c32 rfl) ?_
    refine v_icmp_ge_f (tgt := 136) dX8_run_18 (by decide) (by omega) ?_
    refine v_aload_n dX8_run_21 rfl ?_
    refine v_iload dX8_run_22 rfl ?_
    refine v_ialoadv dX8_run_24 (by omega) (krow_16 (by omega) (by omega)) (by omega) (by omega) ((ov1_c (by omega)).trans ((hset_c (by omega)).trans (hx))) ?_
    refine v_istore_5 dX8_run_25 (by decide) rfl ?_
    refine v_known (fun hL9 _ => ?_)
    have hst : ok32 x := (hL9 (0, x) (by simp)).1 rfl
    have hah := AB_head hAB
    have hah2 := AB_head (AB_tail hAB)
    refine v_iload dX8_run_27 rfl ?_
    refine v_if_lt (tgt := 42) dX8_run_29 (by decide) (fun c29_1 => ?_) (fun c29_1 => ?_)
    · refine v_iload dX8_run_42 rfl ?_
      refine v_bipush dX8_run_44 (c32 rfl) (by decide) ?_
      refine v_icmp_lt (tgt := 69) dX8_run_46 (by decide) (fun c46_2 => ?_) (fun c46_2 => ?_)
      · refine v_iload dX8_run_69 rfl ?_
        refine v_bipush dX8_run_71 (c32 rfl) (by decide) ?_
        refine v_icmp_ne (tgt := 85) dX8_run_73 (by decide) (fun c73_3 => ?_) (fun c73_3 => ?_)
        · refine v_iload dX8_run_85 rfl ?_
          refine v_bipush dX8_run_87 (c32 rfl) (by decide) ?_
          refine v_icmp_ne (tgt := 106) dX8_run_89 (by decide) (fun c89_4 => ?_) (fun c89_4 => ?_)
          · refine v_aload_n dX8_run_106 rfl ?_
            refine v_callv (M' := mX8_pop) (d' := d - 1) (mc' := 0) (ms' := 0) (ci := 8) (c := 6) (As := []) dX8_run_107 k_1023 cm_X8_pop rfl (by omega) (by decide) kk_6 (Nat.le_of_ble_eq_true rfl) rfl ⟨Nat.le_refl _, Nat.le_refl _⟩ ?_
            refine s_popL (by omega) hK hl64 (fun xp_5 c107_5 => ?_)
            dsimp only [Option.toList, List.cons_append, List.nil_append, Nat.add_zero]
            refine v_istore_6 dX8_run_110 (by decide) rfl ?_
            refine v_aload_n dX8_run_112 rfl ?_
            refine v_iload dX8_run_113 rfl ?_
            refine v_ineg dX8_run_115 ?_
            refine v_aload_n dX8_run_116 rfl ?_
            refine v_callv (M' := mX8_pop) (d' := d - 1) (mc' := 0) (ms' := 0) (ci := 8) (c := 6) (As := []) dX8_run_117 k_1023 cm_X8_pop rfl (by omega) (by decide) kk_6 (Nat.le_of_ble_eq_true rfl) rfl ⟨Nat.le_refl _, Nat.le_refl _⟩ ?_
            refine s_popL (by omega) c107_5 (by have := @List.length_tail Int st; omega) (fun xp_6 c117_6 => ?_)
            dsimp only [Option.toList, List.cons_append, List.nil_append, Nat.add_zero]
            refine v_i2l dX8_run_120 ?_
            refine v_iload dX8_run_121 rfl ?_
            refine v_i2l dX8_run_123 ?_
            refine v_calls (M' := mX8_join) (d' := d - 1) (mc' := 0) (ms' := 0) (As := [_, _, _]) dX8_run_124 k_1027 cm_X8_join (by omega) (Nat.le_of_ble_eq_true rfl) rfl ⟨Nat.le_refl _, Nat.le_refl _⟩ ?_
            refine s_join (by omega) (AB_head (AB_tail hAB)) (AB_head hAB) ?_
            dsimp only [Option.toList, List.cons_append, List.nil_append, Nat.add_zero]
            refine v_callv (M' := mX8_push) (d' := d - 1) (mc' := 0) (ms' := 0) (ci := 8) (c := 6) (As := [_]) dX8_run_127 k_1013 cm_X8_push rfl (by omega) (by decide) kk_6 (Nat.le_of_ble_eq_true rfl) rfl ⟨Nat.le_refl _, Nat.le_refl _⟩ ?_
            refine s_pushL (by omega) c117_6 (fun xt_7 xp_7 c127_7 => ?_)
            dsimp only [Option.toList, List.cons_append, List.nil_append, Nat.add_zero]
            refine v_iinc_4 dX8_run_130 (by decide) rfl ?_
            rw [iadd_eq (x := a) (y := 1) (by unfold ok32; omega)]
            refine v_goto (tgt := 8) dX8_run_133 (by decide) ?_
            rw [ineg_j hst] at c127_7
            have es : stp lt x st = some (psh (jn (-x) ((st.tail).headD 0) (st.headD 0)) ((st.tail).tail)) := by unfold stp; rw [if_neg (by omega), if_neg (by omega), if_neg (by omega), if_neg (by omega)]
            have ee : exC lt (x :: k) st = exC lt k (psh (jn (-x) ((st.tail).headD 0) (st.headD 0)) ((st.tail).tail)) := by
              show (match stp lt x st with | none => none | some s => exC lt k s) = _
              rw [es]
            rw [ee] at q0 q1
            refine v_loc (lo_k (lo_k (lo_k (lo_k (lo_k (lo_d (lo_d lo_nil))))))) ?_
            exact ih (by omega) (fun i hi => by rw [show a + 1 + (i : Int) = a + ((i + 1 : Nat) : Int) by omega, hk (i + 1) (by rw [List.length_cons]; omega)]; rfl) (by rw [List.length_cons] at he; omega) c127_7 (AB_psh (AB_tail (AB_tail hAB))) (stp_len hl64 es) q0 q1
          · refine v_aload_n dX8_run_92 rfl ?_
            refine v_iconst dX8_run_93 (c32 rfl) ?_
            refine v_aload_n dX8_run_94 rfl ?_
            refine v_callv (M' := mX8_pop) (d' := d - 1) (mc' := 0) (ms' := 0) (ci := 8) (c := 6) (As := []) dX8_run_95 k_1023 cm_X8_pop rfl (by omega) (by decide) kk_6 (Nat.le_of_ble_eq_true rfl) rfl ⟨Nat.le_refl _, Nat.le_refl _⟩ ?_
            refine s_popL (by omega) hK hl64 (fun xp_8 c95_8 => ?_)
            dsimp only [Option.toList, List.cons_append, List.nil_append, Nat.add_zero]
            refine v_isubE dX8_run_98 (by omega) ?_
            refine v_i2l dX8_run_99 ?_
            refine v_callv (M' := mX8_push) (d' := d - 1) (mc' := 0) (ms' := 0) (ci := 8) (c := 6) (As := [_]) dX8_run_100 k_1013 cm_X8_push rfl (by omega) (by decide) kk_6 (Nat.le_of_ble_eq_true rfl) rfl ⟨Nat.le_refl _, Nat.le_refl _⟩ ?_
            refine s_pushL (by omega) c95_8 (fun xt_9 xp_9 c100_9 => ?_)
            dsimp only [Option.toList, List.cons_append, List.nil_append, Nat.add_zero]
            refine v_goto (tgt := 130) dX8_run_103 (by decide) ?_
            refine v_iinc_4 dX8_run_130 (by decide) rfl ?_
            rw [iadd_eq (x := a) (y := 1) (by unfold ok32; omega)]
            refine v_goto (tgt := 8) dX8_run_133 (by decide) ?_
            have es : stp lt x st = some (psh (1 - (st.headD 0)) (st.tail)) := by unfold stp; rw [if_neg (by omega), if_neg (by omega), if_neg (by omega), if_pos c89_4]
            have ee : exC lt (x :: k) st = exC lt k (psh (1 - (st.headD 0)) (st.tail)) := by
              show (match stp lt x st with | none => none | some s => exC lt k s) = _
              rw [es]
            rw [ee] at q0 q1
            refine v_loc (lo_k (lo_k (lo_k (lo_k (lo_k (lo_d (lo_d lo_nil))))))) ?_
            exact ih (by omega) (fun i hi => by rw [show a + 1 + (i : Int) = a + ((i + 1 : Nat) : Int) by omega, hk (i + 1) (by rw [List.length_cons]; omega)]; rfl) (by rw [List.length_cons] at he; omega) c100_9 (AB_psh (AB_tail hAB)) (stp_len hl64 es) q0 q1
        · refine v_aload_n dX8_run_76 rfl ?_
          refine v_callv (M' := mX8_pop) (d' := d - 1) (mc' := 0) (ms' := 0) (ci := 8) (c := 6) (As := []) dX8_run_77 k_1023 cm_X8_pop rfl (by omega) (by decide) kk_6 (Nat.le_of_ble_eq_true rfl) rfl ⟨Nat.le_refl _, Nat.le_refl _⟩ ?_
          refine s_popL (by omega) hK hl64 (fun xp_10 c77_10 => ?_)
          dsimp only [Option.toList, List.cons_append, List.nil_append, Nat.add_zero]
          refine v_if_ne (tgt := 130) dX8_run_80 (by decide) (fun c80_11 => ?_) (fun c80_11 => ?_)
          · refine v_iinc_4 dX8_run_130 (by decide) rfl ?_
            rw [iadd_eq (x := a) (y := 1) (by unfold ok32; omega)]
            refine v_goto (tgt := 8) dX8_run_133 (by decide) ?_
            have es : stp lt x st = some (st.tail) := by unfold stp; rw [if_neg (by omega), if_neg (by omega), if_pos c73_3, if_neg c80_11]
            have ee : exC lt (x :: k) st = exC lt k (st.tail) := by
              show (match stp lt x st with | none => none | some s => exC lt k s) = _
              rw [es]
            rw [ee] at q0 q1
            refine v_loc (lo_k (lo_k (lo_k (lo_k (lo_k (lo_d (lo_d lo_nil))))))) ?_
            exact ih (by omega) (fun i hi => by rw [show a + 1 + (i : Int) = a + ((i + 1 : Nat) : Int) by omega, hk (i + 1) (by rw [List.length_cons]; omega)]; rfl) (by rw [List.length_cons] at he; omega) c77_10 (AB_tail hAB) (stp_len hl64 es) q0 q1
          · refine v_iconst dX8_run_83 (c32 rfl) ?_
            refine v_iretz dX8_run_84 rfl (by decide) (Nat.le_refl _) (Nat.le_refl _) ?_
            have es : stp lt x st = none := by unfold stp; rw [if_neg (by omega), if_neg (by omega), if_pos c73_3, if_pos c80_11]
            refine q0 ?_ _ _
            show (match stp lt x st with | none => none | some s => exC lt k s) = none
            rw [es]
      · refine v_aload_n dX8_run_49 rfl ?_
        refine v_aload_n dX8_run_50 rfl ?_
        refine v_getr (ci := 8) (j := 5) (ji := 5) (z := 38) dX8_run_51 k_239 (by decide) kk_6 (by decide) rfl rfl (fun r => rt_6_5 (r rfl)) (by decide) ?_
        refine v_getrN (ci := 2) (j := 0) (ji := 0) (z := 39) dX8_run_54 k_205 (by decide) kk_38 (by decide) rfl rfl (fun r => rt_38_0 (r rfl)) (by decide) ?_
        refine v_iconst dX8_run_57 (c32 rfl) ?_
        refine v_iload dX8_run_58 rfl ?_
        refine v_isubE dX8_run_60 (by omega) ?_
        refine v_ialoadv dX8_run_61 (by decide) kk_39 (by omega) (by omega) ((ov1_c (by decide)).trans (hset_c (by decide))) ?_
        refine v_i2l dX8_run_62 ?_
        refine v_callv (M' := mX8_push) (d' := d - 1) (mc' := 0) (ms' := 0) (ci := 8) (c := 6) (As := [_]) dX8_run_63 k_1013 cm_X8_push rfl (by omega) (by decide) kk_6 (Nat.le_of_ble_eq_true rfl) rfl ⟨Nat.le_refl _, Nat.le_refl _⟩ ?_
        refine s_pushL (by omega) hK (fun xt_12 xp_12 c63_12 => ?_)
        dsimp only [Option.toList, List.cons_append, List.nil_append, Nat.add_zero]
        refine v_goto (tgt := 130) dX8_run_66 (by decide) ?_
        refine v_iinc_4 dX8_run_130 (by decide) rfl ?_
        rw [iadd_eq (x := a) (y := 1) (by unfold ok32; omega)]
        refine v_goto (tgt := 8) dX8_run_133 (by decide) ?_
        have es : stp lt x st = some (psh (h 39 ((-1) - x)) st) := by unfold stp; rw [if_neg (by omega), if_pos c46_2]; rw [hlt _ (by omega) (by omega)]
        have ee : exC lt (x :: k) st = exC lt k (psh (h 39 ((-1) - x)) st) := by
          show (match stp lt x st with | none => none | some s => exC lt k s) = _
          rw [es]
        rw [ee] at q0 q1
        refine v_loc (lo_k (lo_k (lo_k (lo_k (lo_k (lo_d (lo_d lo_nil))))))) ?_
        exact ih (by omega) (fun i hi => by rw [show a + 1 + (i : Int) = a + ((i + 1 : Nat) : Int) by omega, hk (i + 1) (by rw [List.length_cons]; omega)]; rfl) (by rw [List.length_cons] at he; omega) c63_12 (AB_psh hAB) (stp_len hl64 es) q0 q1
    · refine v_aload_n dX8_run_32 rfl ?_
      refine v_iload dX8_run_33 rfl ?_
      refine v_i2l dX8_run_35 ?_
      refine v_callv (M' := mX8_push) (d' := d - 1) (mc' := 0) (ms' := 0) (ci := 8) (c := 6) (As := [_]) dX8_run_36 k_1013 cm_X8_push rfl (by omega) (by decide) kk_6 (Nat.le_of_ble_eq_true rfl) rfl ⟨Nat.le_refl _, Nat.le_refl _⟩ ?_
      refine s_pushL (by omega) hK (fun xt_13 xp_13 c36_13 => ?_)
      dsimp only [Option.toList, List.cons_append, List.nil_append, Nat.add_zero]
      refine v_goto (tgt := 130) dX8_run_39 (by decide) ?_
      refine v_iinc_4 dX8_run_130 (by decide) rfl ?_
      rw [iadd_eq (x := a) (y := 1) (by unfold ok32; omega)]
      refine v_goto (tgt := 8) dX8_run_133 (by decide) ?_
      have es : stp lt x st = some (psh x st) := by unfold stp; rw [if_pos c29_1]
      have ee : exC lt (x :: k) st = exC lt k (psh x st) := by
        show (match stp lt x st with | none => none | some s => exC lt k s) = _
        rw [es]
      rw [ee] at q0 q1
      refine v_loc (lo_k (lo_k (lo_k (lo_k (lo_k (lo_d (lo_d lo_nil))))))) ?_
      exact ih (by omega) (fun i hi => by rw [show a + 1 + (i : Int) = a + ((i + 1 : Nat) : Int) by omega, hk (i + 1) (by rw [List.length_cons]; omega)]; rfl) (by rw [List.length_cons] at he; omega) c36_13 (AB_psh hAB) (stp_len hl64 es) q0 q1

set_option maxHeartbeats 4000000 in
set_option maxRecDepth 100000 in
theorem s_run {l : Launch} {G : GG} {d : Nat} {h : AH} {Q : Option AV → List Kd → AH → Prop} {p a e : Int} {lt : Int → Int} {k : List Int} (hd : 2 ≤ d) (hp : 0 ≤ p ∧ p < 20) (he2 : e ≤ 200) (hlt : ∀ i, 0 ≤ i → i < 8 → lt i = h 39 i) (ha : 0 ≤ a) (hk : ∀ i : Nat, i < k.length → h (17 + p) (a + i) = k.getD i 0) (he : a + (k.length : Int) = e)
    (q0 : exC lt k [] = none → ∀ St tp, Q (some (0, 0)) K0 (ov1 (hset h 6 7 tp) 40 St))
    (q1 : ∀ st' St tp, exC lt k [] = some st' → SK St tp st' → AB st' → Q (some (0, 1)) K0 (ov1 (hset h 6 7 tp) 40 St)) : Sp l G mX8_run d 0 0 K0 [(2, 6), (2, 17 + p), (0, a), (0, e)] h Q := by
  refine sp_of (L := [(2, 6), (2, 17 + p), (0, a), (0, e), (9, 0), (9, 0), (9, 0)]) pl_X8 (Nat.le_of_ble_eq_true rfl) (tg_c (by decide) (tg_c (by decide) (tg_c (by decide) (tg_c (by decide) tg_0)))) rfl ?_
  refine v_aload_n dX8_run_0 rfl ?_
  refine v_iconst dX8_run_1 (c32 rfl) ?_
  refine v_puti (ci := 8) (j := 7) (ji := 7) dX8_run_2 k_244 (by decide) kk_6 (by decide) rfl rfl rfl ?_
  refine v_iload_n dX8_run_5 rfl ?_
  refine v_istore_4 dX8_run_6 (by decide) rfl ?_
  have e9 := (ov1_mk (h := hset h 6 7 0) (a := 40)).symm
  rw [hset_r (by decide)] at e9
  rw [e9]
  exact lp_run hd hp he2 hlt (St := h 40) (st := []) (by omega) hk he rfl AB_0 (by decide) q0 q1

