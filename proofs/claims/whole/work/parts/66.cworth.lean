/-! ===== the class: worth of a label (written by wip/whole/p45.py) ===== -/
/-- how deep a place lies in the class's scratch -/
def lev (c j : Int) : Nat := if c = 40 then 1 else if c = 6 then (if j = 7 then 1 else 9) else if c = 38 then 2 else if c = 39 then 2 else if c = 63 then 3 else if 58 ≤ c ∧ c ≤ 62 then 4 else if c = 75 then 5 else if c = 80 then 6 else 9
/-- nothing but places up to level n has changed -/
def Fr (n : Nat) (F F' : AH) : Prop := ∀ c j, n < lev c j → F' c j = F c j
theorem Fr_0 {n : Nat} {F : AH} : Fr n F F := fun _ _ _ => rfl
theorem Fr_t {n : Nat} {F F1 F2 : AH} (a : Fr n F F1) (b : Fr n F1 F2) : Fr n F F2 := fun c j q => (b c j q).trans (a c j q)
theorem Fr_m {n m : Nat} {F F1 : AH} (h : n ≤ m) (a : Fr n F F1) : Fr m F F1 := fun c j q => a c j (by omega)
theorem Fr_s {n : Nat} {F : AH} {c j x : Int} (h : lev c j ≤ n) : Fr n F (hset F c j x) := fun a b q => hset_ne F (fun e => by rw [e.1, e.2] at q; omega)
theorem Fr_o {n : Nat} {F : AH} {c : Int} {A : Int → Int} (h : ∀ j, lev c j ≤ n) : Fr n F (ov1 F c A) := fun a b q => ov1_c (fun e => by rw [e] at q; have := h b; omega)
theorem Fr_r {n : Nat} {F F1 : AH} {c : Int} (a : Fr n F F1) (h : ∀ j, n < lev c j) : F1 c = F c := funext fun j => a c j (h j)
theorem Fr_w {n : Nat} {F F1 : AH} {c j x : Int} (a : Fr n F F1) (h : lev c j ≤ n) : Fr n F (hset F1 c j x) := Fr_t a (Fr_s h)
theorem lev_own {c j : Int} (h : 58 ≤ c ∧ c ≤ 62) : lev c j = 4 := by
  unfold lev
  rw [if_neg (by omega), if_neg (by omega), if_neg (by omega), if_neg (by omega), if_neg (by omega), if_pos h]
theorem cst_ov {h F : AH} {c : Int} {A : Int → Int} (q : cR c) : ov1 (cst h F) c A = cst h (ov1 F c A) := by
  funext a b
  unfold ov1 cst
  dsimp only
  by_cases e : a = c
  · subst e
    rw [if_pos rfl, if_pos (Or.inl q), if_pos rfl]
  · rw [if_neg e, if_neg e]
theorem cst_st {h F : AH} {tp : Int} {St : Int → Int} : ov1 (hset (cst h F) 6 7 tp) 40 St = cst h (ov1 (hset F 6 7 tp) 40 St) := by
  rw [cst_w (by decide), cst_ov (by decide)]
theorem Fr_st {F : AH} {tp : Int} {St : Int → Int} : Fr 1 F (ov1 (hset F 6 7 tp) 40 St) := Fr_t (Fr_s (by decide)) (Fr_o (fun j => Nat.le_of_ble_eq_true rfl))
/-- a code that ends with something that is pushed -/
def GC (k : List Int) : Prop := ∃ k' x, k = k' ++ [x] ∧ x ≠ -63
theorem psh_ne {x : Int} {st : List Int} : psh x st ≠ [] := by
  unfold psh
  split
  · exact fun q => by cases q
  · rename_i q; exact fun e => by rw [e] at q; exact q (by decide)
theorem GC_exC {lt : Int → Int} {k st s : List Int} (h : GC k) (e : exC lt k st = some s) : s ≠ [] := by
  obtain ⟨k', x, rfl, hx⟩ := h
  rw [exC_app] at e
  cases e1 : exC lt k' st with
  | none => rw [e1] at e; cases e
  | some s1 =>
    rw [e1] at e
    have e2 : (match stp lt x s1 with | none => none | some s => exC lt [] s) = some s := e
    have e3 : stp lt x s1 = some s := by
      revert e2
      cases stp lt x s1 with
      | none => intro e2; cases e2
      | some s2 => intro e2; exact e2
    unfold stp at e3
    split at e3
    · cases e3; exact psh_ne
    · split at e3
      · cases e3; exact psh_ne
      · split at e3
        · cases e3; exact psh_ne
        · cases e3; exact psh_ne
theorem GC_1 {x : Int} (h : x ≠ -63) : GC [x] := ⟨[], x, rfl, h⟩
theorem GC_a {k k2 : List Int} (h : GC k2) : GC (k ++ k2) := by
  obtain ⟨k', x, rfl, hx⟩ := h
  exact ⟨k ++ k', x, by rw [List.append_assoc], hx⟩
theorem pThen_inv {x : PR} {g : Int → List Int → PR} {r : Int × List Int} (h : pThen x g = .inr r) : ∃ r1, x = .inr r1 ∧ g r1.1 r1.2 = .inr r := by
  cases x with
  | inl e => cases h
  | inr r1 => exact ⟨r1, rfl, h⟩
def GP (P : Int → PR) : Prop := ∀ a r, P a = .inr r → GC r.2
section GPS
variable {u : Int → Int} {n : Int}
theorem GP_atom {nest : Option (Int → PR)} (hn : ∀ f, nest = some f → GP f) : GP (pAtom u n nest) := by
  intro a r h
  unfold pAtom at h
  split at h
  · unfold pNum at h
    split at h
    · cases h
    · cases h
      have := numF_val (u := u) (n := n) (m := 5) (v := 0) (a := sk u n a) (by decide) (by decide) (by decide)
      exact GC_1 (by omega)
  · split at h
    · cases h
      have := @plc_rng (pk u n a)
      exact GC_1 (by omega)
    · split at h
      · cases nest with
        | none => cases h
        | some f =>
          have h2 : (match f (sk u n a + 1) with | .inl e => (.inl e : PR) | .inr r => if pk u n r.1 = 93 then .inr (sk u n r.1 + 1, r.2) else .inl (sk u n r.1)) = .inr r := h
          cases e : f (sk u n a + 1) with
          | inl e2 => rw [e] at h2; cases h2
          | inr r2 =>
            rw [e] at h2
            have h3 : (if pk u n r2.1 = 93 then (.inr (sk u n r2.1 + 1, r2.2) : PR) else .inl (sk u n r2.1)) = .inr r := h2
            split at h3
            · cases h3; exact hn f rfl _ r2 e
            · cases h3
      · cases h
theorem GC_loop {ops : Int → Bool} {f : Int → PR} (ho : ∀ c, ops c = true → c ≠ 63) : ∀ {m : Nat} {a : Int} {k : List Int} {r : Int × List Int}, GC k → pLoop u n ops f m a k = .inr r → GC r.2 := by
  intro m
  induction m with
  | zero => intro a k r hk h; cases h; exact hk
  | succ m ih =>
    intro a k r hk h
    rw [pLoop] at h
    split at h
    · rename_i q
      cases e : f (sk u n a + 1) with
      | inl e2 => rw [e] at h; cases h
      | inr r2 =>
        rw [e] at h
        exact ih (GC_a (GC_1 (by have := ho _ q; omega))) h
    · cases h; exact hk
theorem oMul_n {c : Int} (h : oMul c = true) : c ≠ 63 := by unfold oMul at h; simp only [Bool.or_eq_true, beq_iff_eq] at h; omega
theorem oAdd_n {c : Int} (h : oAdd c = true) : c ≠ 63 := by unfold oAdd at h; simp only [Bool.or_eq_true, beq_iff_eq] at h; omega
theorem GP_sum {nest : Option (Int → PR)} (hn : ∀ f, nest = some f → GP f) : GP (pSum u n nest) := by
  have ht : GP (pTerm u n nest) := by
    intro a r h
    obtain ⟨r1, e1, e2⟩ := pThen_inv h
    exact GC_loop (fun c => oMul_n) (GP_atom hn _ _ e1) e2
  intro a r h
  obtain ⟨r1, e1, e2⟩ := pThen_inv h
  exact GC_loop (fun c => oAdd_n) (ht _ _ e1) e2
theorem GP_sumL : ∀ {D : Nat}, GP (sumL u n D) := by
  intro D
  induction D with
  | zero => exact GP_sum (fun f e => by cases e)
  | succ D ih => exact GP_sum (fun f e => by cases e; exact ih)
theorem GC_rest {x : PR} {r : Int × List Int} (h : pRest u n x = .inr r) : GC r.2 := by
  obtain ⟨r1, _, e2⟩ := pThen_inv h
  obtain ⟨r2, e3, e4⟩ := pThen_inv e2
  cases e4
  exact GC_a (GP_sumL _ _ e3)
theorem GC_body {a : Int} {r : Int × List Int} (h : pBody u n a = .inr r) : GC r.2 := by
  unfold pBody at h
  split at h
  · exact GC_rest h
  · obtain ⟨r1, e1, e2⟩ := pThen_inv h
    have e3 : (if oCmp (pk u n r1.1) = true then pRest u n (pCondS u n 8 r1.1 r1.2) else .inr (sk u n r1.1, r1.2)) = .inr r := e2
    split at e3
    · exact GC_rest e3
    · cases e3; exact GP_sumL _ r1 e1
theorem GC_clause {a : Int} {r : Int × Int × List Int} (h : pClause u n a = .inr r) : GC r.2.2 := by
  unfold pClause at h
  split at h
  · split at h
    · cases e : pBody u n (sk u n (sk u n a + 1) + 1) with
      | inl e2 => rw [e] at h; cases h
      | inr r2 => rw [e] at h; cases h; exact GC_body (r := r2) e
    · cases h
  · cases h
theorem GC_text : ∀ {m : Nat} {a : Int} {cs cs2 : List (Int × List Int)}, (∀ c ∈ cs, GC c.2) → pText u n m a cs = .inr cs2 → ∀ c ∈ cs2, GC c.2 := by
  intro m
  induction m with
  | zero => intro a cs cs2 _ h; cases h
  | succ m ih =>
    intro a cs cs2 hc h
    rw [pText] at h
    cases e : pClause u n a with
    | inl e2 => rw [e] at h; cases h
    | inr r =>
      rw [e] at h
      have hc2 : ∀ c ∈ cs ++ [r.2], GC c.2 := fun c q => by
        rcases List.mem_append.mp q with q | q
        · exact hc c q
        · rw [List.mem_singleton.mp q]; exact GC_clause e
      have h2 : (if pk u n r.1 = 59 then pText u n m (sk u n r.1 + 1) (cs ++ [r.2]) else if pk u n r.1 = -1 then .inr (cs ++ [r.2]) else .inl (sk u n r.1)) = .inr cs2 := h
      split at h2
      · exact ih hc2 h2
      · split at h2
        · cases h2; exact hc2
        · cases h2
end GPS
/-- the class's protocols: their steps are the clauses' -/
def CX (h : AH) (cs : Int → List (Int × List Int)) : Prop := (0 ≤ h 12 4 ∧ h 12 4 ≤ 20) ∧ ∀ p, 0 ≤ p → p < h 12 4 → SL (h (17 + p)) (h 37 p) (flCl (cs p) 0) ∧ h 37 p ≤ 200 ∧ ∀ c ∈ cs p, GC c.2
theorem flCl_c {c : Int × List Int} {cs : List (Int × List Int)} {s : Int} : flCl (c :: cs) s = c.1 :: (s + 2 + (c.2.length : Int)) :: (c.2 ++ flCl cs (s + 2 + (c.2.length : Int))) := rfl
theorem s_runC {l : Launch} {G : GG} {d : Nat} {h F : AH} {Q : Option AV → List Kd → AH → Prop} {p a e : Int} {lt : Int → Int} {k : List Int} (hd : 2 ≤ d) (hp : 0 ≤ p ∧ p < 20) (he2 : e ≤ 200) (hlt : lt = F 39) (ha : 0 ≤ a) (hk : ∀ i : Nat, i < k.length → h (17 + p) (a + i) = k.getD i 0) (he : a + (k.length : Int) = e)
    (q0 : ∀ St tp, exC lt k [] = none → Q (some (0, 0)) K0 (cst h (ov1 (hset F 6 7 tp) 40 St)))
    (q1 : ∀ st' St tp, exC lt k [] = some st' → SK St tp st' → AB st' → Q (some (0, 1)) K0 (cst h (ov1 (hset F 6 7 tp) 40 St))) : Sp l G mX8_run d 0 0 K0 [(2, 6), (2, 17 + p), (0, a), (0, e)] (cst h F) Q :=
  s_run (lt := lt) hd hp he2 (fun i _ _ => by rw [hlt, cst_m (by decide)]) ha (fun i hi => by rw [cst_n (by unfold cN cR; omega)]; exact hk i hi) he (fun q St tp => by rw [cst_st]; exact q0 _ _ q) (fun st' St tp a1 a2 a3 => by rw [cst_st]; exact q1 _ _ _ a1 a2 a3)
theorem s_popC {l : Launch} {G : GG} {d : Nat} {h F : AH} {Q : Option AV → List Kd → AH → Prop} {St : Int → Int} {tp v : Int} {st : List Int} (hd : 1 ≤ d) (hK : SK St tp (v :: st)) (hl : (v :: st).length ≤ 64) (hq : ∀ tp, Q (some (0, v)) K0 (cst h (ov1 (hset F 6 7 tp) 40 St))) : Sp l G mX8_pop d 0 0 K0 [(2, 6)] (cst h (ov1 (hset F 6 7 tp) 40 St)) Q := by
  rw [← cst_st]
  exact s_popL hd hK hl (fun tp' _ => by rw [cst_st]; exact hq tp')
theorem exC_len {lt : Int → Int} : ∀ {k st s : List Int}, st.length ≤ 64 → exC lt k st = some s → s.length ≤ 64 := by
  intro k
  induction k with
  | nil => intro st s h e; cases e; exact h
  | cons x k ih =>
    intro st s h e
    have e2 : (match stp lt x st with | none => none | some s => exC lt k s) = some s := e
    cases e3 : stp lt x st with
    | none => rw [e3] at e2; cases e2
    | some s1 => rw [e3] at e2; exact ih (stp_len h e3) e2

set_option maxHeartbeats 4000000 in
set_option maxRecDepth 100000 in
theorem lp_cworth {l : Launch} {G : GG} {d : Nat} {h : AH} {Q : Option AV → List Kd → AH → Prop} {p lb : Int} {F0 : AH} {sz : Int} (hd : 3 ≤ d) (hp : 0 ≤ p ∧ p < 20) (hsz : sz ≤ 200) : ∀ {cs : List (Int × List Int)} {a g : Int} {F : AH}, (∀ i : Nat, i < (flCl cs a).length → h (17 + p) (a + i) = (flCl cs a).getD i 0) → a + ((flCl cs a).length : Int) = sz → 0 ≤ g → g ≤ a → 0 ≤ a → (∀ c ∈ cs, GC c.2) → Fr 1 F0 F → (∀ F', Fr 1 F0 F' → Q (some (0, (fndL (F0 39) lb cs).getD 0)) K0 (cst h F')) →
    V l G mX8_worth d 0 0 0 0 K0 34 [(2, 6), (0, p), (0, lb), (2, 17 + p), (0, sz), (0, a), (0, g), (9, 0)] [] (cst h F) Q := by
  intro cs
  induction cs with
  | nil =>
    intro a g F hk he hg0 hga ha hG hF hq
    have he9 : a = sz := by have : (flCl ([] : List (Int × List Int)) a).length = 0 := rfl; omega
    refine v_iload dX8_worth_34 rfl ?_
    refine v_sipush dX8_worth_36 (c32 rfl) (by decide) ?_
    refine v_icmp_ge (tgt := 96) dX8_worth_39 (by decide) (fun c39_1 => ?_) (fun c39_1 => ?_)
    · refine v_iconst dX8_worth_96 (c32 rfl) ?_
      refine v_ireti dX8_worth_97 rfl (Nat.le_refl _) (Nat.le_refl _) ?_
      exact hq _ hF
    · refine v_iload dX8_worth_42 rfl ?_
      refine v_iconst dX8_worth_44 (c32 rfl) ?_
      refine v_iaddE dX8_worth_45 (by omega) ?_
      refine v_iload dX8_worth_46 rfl ?_
      refine v_icmp_ge_t (tgt := 96) dX8_worth_48 (by decide) (by omega) ?_
      refine v_iconst dX8_worth_96 (c32 rfl) ?_
      refine v_ireti dX8_worth_97 rfl (Nat.le_refl _) (Nat.le_refl _) ?_
      exact hq _ hF
  | cons c cs ih =>
    intro a g F hk he hg0 hga ha hG hF hq
    rw [flCl_c] at hk he
    simp only [List.length_cons, List.length_append] at hk he
    have hlb : h (17 + p) a = c.1 := by have := hk 0 (by omega); rw [show a + ((0 : Nat) : Int) = a by omega] at this; exact this
    have hnx : h (17 + p) (a + 1) = a + 2 + (c.2.length : Int) := by have := hk 1 (by omega); exact this
    have hkc : ∀ i : Nat, i < c.2.length → h (17 + p) (a + 2 + i) = c.2.getD i 0 := fun i hi => by
      have := hk (i + 2) (by omega)
      rw [show a + ((i + 2 : Nat) : Int) = a + 2 + (i : Int) by omega] at this
      rw [this]
      show (c.2 ++ flCl cs (a + 2 + (c.2.length : Int))).getD i 0 = _
      exact getD_l hi
    have hkr : ∀ i : Nat, i < (flCl cs (a + 2 + (c.2.length : Int))).length → h (17 + p) (a + 2 + (c.2.length : Int) + i) = (flCl cs (a + 2 + (c.2.length : Int))).getD i 0 := fun i hi => by
      have := hk (c.2.length + i + 2) (by omega)
      rw [show a + ((c.2.length + i + 2 : Nat) : Int) = a + 2 + (c.2.length : Int) + (i : Int) by omega] at this
      rw [this]
      show (c.2 ++ flCl cs (a + 2 + (c.2.length : Int))).getD (c.2.length + i) 0 = _
      rw [getD_r (by omega), show c.2.length + i - c.2.length = i by omega]
    have hlt : F0 39 = F 39 := (Fr_r hF (fun j => Nat.le_of_ble_eq_true rfl)).symm
    refine v_iload dX8_worth_34 rfl ?_
    refine v_sipush dX8_worth_36 (c32 rfl) (by decide) ?_
    refine v_icmp_ge (tgt := 96) dX8_worth_39 (by decide) (fun c39_1 => ?_) (fun c39_1 => ?_)
    · refine v_iconst dX8_worth_96 (c32 rfl) ?_
      refine v_ireti dX8_worth_97 rfl (Nat.le_refl _) (Nat.le_refl _) ?_
      exfalso; omega
    · refine v_iload dX8_worth_42 rfl ?_
      refine v_iconst dX8_worth_44 (c32 rfl) ?_
      refine v_iaddE dX8_worth_45 (by omega) ?_
      refine v_iload dX8_worth_46 rfl ?_
      refine v_icmp_ge (tgt := 96) dX8_worth_48 (by decide) (fun c48_2 => ?_) (fun c48_2 => ?_)
      · refine v_iconst dX8_worth_96 (c32 rfl) ?_
        refine v_ireti dX8_worth_97 rfl (Nat.le_refl _) (Nat.le_refl _) ?_
        exfalso; omega
      · refine v_aload_n dX8_worth_51 rfl ?_
        refine v_iload dX8_worth_52 rfl ?_
        refine v_iconst dX8_worth_54 (c32 rfl) ?_
        refine v_iaddE dX8_worth_55 (by omega) ?_
        refine v_ialoadv dX8_worth_56 (by omega) (krow_16 (by omega) (by omega)) (by omega) (by omega) ((cst_n (by unfold cN cR; omega)).trans (hnx)) ?_
        refine v_istore_7 dX8_worth_57 (by decide) rfl ?_
        refine v_aload_n dX8_worth_59 rfl ?_
        refine v_iload dX8_worth_60 rfl ?_
        refine v_ialoadv dX8_worth_62 (by omega) (krow_16 (by omega) (by omega)) (by omega) (by omega) ((cst_n (by unfold cN cR; omega)).trans (hlb)) ?_
        refine v_iload_n dX8_worth_63 rfl ?_
        refine v_icmp_ne (tgt := 86) dX8_worth_64 (by decide) (fun c64_3 => ?_) (fun c64_3 => ?_)
        · refine v_iload dX8_worth_86 rfl ?_
          refine v_istore_5 dX8_worth_88 (by decide) rfl ?_
          refine v_iinc_6 dX8_worth_90 (by decide) rfl ?_
          rw [iadd_eq (x := g) (y := 1) (by unfold ok32; omega)]
          refine v_goto (tgt := 34) dX8_worth_93 (by decide) ?_
          have ef : fndL (F0 39) lb (c :: cs) = fndL (F0 39) lb cs := by
            show (match fnd1 (F0 39) lb c with | some v => some v | none => fndL (F0 39) lb cs) = fndL (F0 39) lb cs
            rw [show fnd1 (F0 39) lb c = none from by unfold fnd1; rw [if_neg c64_3]]
          rw [ef] at hq
          refine v_loc (lo_k (lo_k (lo_k (lo_k (lo_k (lo_k (lo_k (lo_d lo_nil)))))))) ?_
          exact ih hkr (by omega) (by omega) (by omega) (by omega) (fun c q => hG c (List.mem_cons_of_mem _ q)) hF hq
        · refine v_aload_n dX8_worth_67 rfl ?_
          refine v_aload_n dX8_worth_68 rfl ?_
          refine v_iload dX8_worth_69 rfl ?_
          refine v_iconst dX8_worth_71 (c32 rfl) ?_
          refine v_iaddE dX8_worth_72 (by omega) ?_
          refine v_iload dX8_worth_73 rfl ?_
          refine v_callv (M' := mX8_run) (d' := d - 1) (mc' := 0) (ms' := 0) (ci := 8) (c := 6) (As := [_, _, _]) dX8_worth_75 k_1009 cm_X8_run rfl (by omega) (by decide) kk_6 (Nat.le_of_ble_eq_true rfl) rfl ⟨Nat.le_refl _, Nat.le_refl _⟩ ?_
          refine s_runC (k := c.2) (by omega) hp (by omega) hlt (by omega) hkc rfl (fun xt_4 xp_4 c75_4 => ?_) (fun xs_7 xt_7 xp_7 c75_5 c75_6 c75_7 => ?_)
          · dsimp only [Option.toList, List.cons_append, List.nil_append, Nat.add_zero]
            refine v_if_eq_t (tgt := 86) dX8_worth_78 (by decide) (by decide) ?_
            refine v_iload dX8_worth_86 rfl ?_
            refine v_istore_5 dX8_worth_88 (by decide) rfl ?_
            refine v_iinc_6 dX8_worth_90 (by decide) rfl ?_
            rw [iadd_eq (x := g) (y := 1) (by unfold ok32; omega)]
            refine v_goto (tgt := 34) dX8_worth_93 (by decide) ?_
            have ef : fndL (F0 39) lb (c :: cs) = fndL (F0 39) lb cs := by
              show (match fnd1 (F0 39) lb c with | some v => some v | none => fndL (F0 39) lb cs) = fndL (F0 39) lb cs
              rw [show fnd1 (F0 39) lb c = none from by unfold fnd1; rw [if_pos c64_3, c75_4]]
            rw [ef] at hq
            refine v_loc (lo_k (lo_k (lo_k (lo_k (lo_k (lo_k (lo_k (lo_d lo_nil)))))))) ?_
            exact ih hkr (by omega) (by omega) (by omega) (by omega) (fun c q => hG c (List.mem_cons_of_mem _ q)) (Fr_t hF Fr_st) hq
          · dsimp only [Option.toList, List.cons_append, List.nil_append, Nat.add_zero]
            refine v_if_eq_f (tgt := 86) dX8_worth_78 (by decide) (by decide) ?_
            obtain ⟨v9, s9, e9⟩ : ∃ v9 s9, xs_7 = v9 :: s9 := by
              cases xs_7 with
              | nil => exact absurd rfl (GC_exC (hG c (List.mem_cons_self ..)) c75_5)
              | cons v9 s9 => exact ⟨v9, s9, rfl⟩
            have hl9 := exC_len (st := []) (by decide) c75_5
            have hK9 := c75_6
            rw [e9] at hK9 hl9
            have hx9 := c75_5
            rw [e9] at hx9
            refine v_aload_n dX8_worth_81 rfl ?_
            refine v_callv (M' := mX8_pop) (d' := d - 1) (mc' := 0) (ms' := 0) (ci := 8) (c := 6) (As := []) dX8_worth_82 k_1023 cm_X8_pop rfl (by omega) (by decide) kk_6 (Nat.le_of_ble_eq_true rfl) rfl ⟨Nat.le_refl _, Nat.le_refl _⟩ ?_
            refine s_popC (by omega) hK9 hl9 (fun xp_7 => ?_)
            dsimp only [Option.toList, List.cons_append, List.nil_append, Nat.add_zero]
            refine v_ireti dX8_worth_85 rfl (Nat.le_refl _) (Nat.le_refl _) ?_
            have ef : fndL (F0 39) lb (c :: cs) = some v9 := by
              show (match fnd1 (F0 39) lb c with | some v => some v | none => fndL (F0 39) lb cs) = some v9
              unfold fnd1
              rw [if_pos c64_3, hx9]
            rw [ef] at hq
            exact hq _ (Fr_t hF Fr_st)

set_option maxHeartbeats 4000000 in
set_option maxRecDepth 100000 in
theorem s_cworthP {l : Launch} {G : GG} {d : Nat} {h : AH} {Q : Option AV → List Kd → AH → Prop} {p lb : Int} {F : AH} {cs : Int → List (Int × List Int)} (hd : 4 ≤ d) (hX : CX h cs) (hp0 : 0 ≤ p) (hp1 : p < h 12 4) (hq : ∀ F', Fr 1 F F' → Q (some (0, (fndL (F 39) lb (cs p)).getD 0)) K0 (cst h F')) : Sp l G mX8_worth d 0 0 K0 [(2, 6), (0, p), (0, lb)] (cst h F) Q := by
  have hX1 := hX.1
  have hX2 := hX.2 p hp0 hp1
  have hd3 : 3 ≤ d := by omega
  refine sp_of (L := [(2, 6), (0, p), (0, lb), (9, 0), (9, 0), (9, 0), (9, 0), (9, 0)]) pl_X8 (Nat.le_of_ble_eq_true rfl) (tg_c (by decide) (tg_c (by decide) (tg_c (by decide) tg_0))) rfl ?_
  refine v_aload_n dX8_worth_0 rfl ?_
  refine v_getr (ci := 8) (j := 2) (ji := 2) (z := 12) dX8_worth_1 k_232 (by decide) kk_6 (by decide) rfl rfl (fun r => rt_6_2 (r rfl)) (by decide) ?_
  refine v_iload_n dX8_worth_4 rfl ?_
  refine v_callv (M' := mX1_has) (d' := d - 1) (mc' := 0) (ms' := 0) (ci := 1) (c := 12) (As := [_]) dX8_worth_5 k_1005 cm_X1_has rfl (by omega) (by decide) kk_12 (Nat.le_of_ble_eq_true rfl) rfl ⟨Nat.le_refl _, Nat.le_refl _⟩ ?_
  refine s_X1_has_12 (by omega) (by rw [show (cst h F) 12 4 = (h 12 4) from (cst_n (by decide))]; omega) (by rw [show (cst h F) 12 4 = (h 12 4) from (cst_n (by decide))]; omega) (fun c5_1 => ?_) (fun c5_2 c5_3 => ?_) (fun c5_4 c5_5 => ?_)
  · dsimp only [Option.toList, List.cons_append, List.nil_append, Nat.add_zero]
    refine v_if_ne_f (tgt := 13) dX8_worth_8 (by decide) (by decide) ?_
    refine v_iconst dX8_worth_11 (c32 rfl) ?_
    refine v_ireti dX8_worth_12 rfl (Nat.le_refl _) (Nat.le_refl _) ?_
    exfalso; omega
  · dsimp only [Option.toList, List.cons_append, List.nil_append, Nat.add_zero]
    rw [show (cst h F) 12 4 = (h 12 4) from (cst_n (by decide))] at c5_3
    refine v_if_ne_f (tgt := 13) dX8_worth_8 (by decide) (by decide) ?_
    refine v_iconst dX8_worth_11 (c32 rfl) ?_
    refine v_ireti dX8_worth_12 rfl (Nat.le_refl _) (Nat.le_refl _) ?_
    exfalso; omega
  · dsimp only [Option.toList, List.cons_append, List.nil_append, Nat.add_zero]
    rw [show (cst h F) 12 4 = (h 12 4) from (cst_n (by decide))] at c5_5
    refine v_if_ne_t (tgt := 13) dX8_worth_8 (by decide) (by decide) ?_
    refine v_aload_n dX8_worth_13 rfl ?_
    refine v_getr (ci := 8) (j := 3) (ji := 3) (z := 16) dX8_worth_14 k_237 (by decide) kk_6 (by decide) rfl rfl (fun r => rt_6_3 (r rfl)) (by decide) ?_
    refine v_iload_n dX8_worth_17 rfl ?_
    refine v_aaload dX8_worth_18 (by decide) kk_16 (by omega) (by omega) (fun r => rb_16 (r rfl) (by omega) (by omega)) (by omega) ?_
    refine v_astore_n_3 dX8_worth_19 (by decide) rfl ?_
    refine v_aload_n dX8_worth_20 rfl ?_
    refine v_getr (ci := 8) (j := 4) (ji := 4) (z := 37) dX8_worth_21 k_238 (by decide) kk_6 (by decide) rfl rfl (fun r => rt_6_4 (r rfl)) (by decide) ?_
    refine v_iload_n dX8_worth_24 rfl ?_
    refine v_ialoadv dX8_worth_25 (by decide) kk_37 (by omega) (by omega) (cst_n (by decide)) ?_
    refine v_istore_4 dX8_worth_26 (by decide) rfl ?_
    refine v_iconst dX8_worth_28 (c32 rfl) ?_
    refine v_istore_5 dX8_worth_29 (by decide) rfl ?_
    refine v_iconst dX8_worth_31 (c32 rfl) ?_
    refine v_istore_6 dX8_worth_32 (by decide) rfl ?_
    exact lp_cworth (cs := cs p) hd3 ⟨hp0, by omega⟩ hX2.2.1 (fun i hi => by rw [Int.zero_add]; exact hX2.1.2 i hi) (by have := hX2.1.1; omega) (by omega) (by omega) (by omega) hX2.2.2 Fr_0 hq

set_option maxHeartbeats 4000000 in
set_option maxRecDepth 100000 in
theorem s_cworthN {l : Launch} {G : GG} {d : Nat} {h : AH} {Q : Option AV → List Kd → AH → Prop} {lb : Int} {F : AH} (hd : 4 ≤ d) (hX1 : 0 ≤ h 12 4 ∧ h 12 4 ≤ 20) (hq : Q (some (0, 0)) K0 (cst h F)) : Sp l G mX8_worth d 0 0 K0 [(2, 6), (0, -1), (0, lb)] (cst h F) Q := by
  refine sp_of (L := [(2, 6), (0, -1), (0, lb), (9, 0), (9, 0), (9, 0), (9, 0), (9, 0)]) pl_X8 (Nat.le_of_ble_eq_true rfl) (tg_c (by decide) (tg_c (by decide) (tg_c (by decide) tg_0))) rfl ?_
  refine v_aload_n dX8_worth_0 rfl ?_
  refine v_getr (ci := 8) (j := 2) (ji := 2) (z := 12) dX8_worth_1 k_232 (by decide) kk_6 (by decide) rfl rfl (fun r => rt_6_2 (r rfl)) (by decide) ?_
  refine v_iload_n dX8_worth_4 rfl ?_
  refine v_callv (M' := mX1_has) (d' := d - 1) (mc' := 0) (ms' := 0) (ci := 1) (c := 12) (As := [_]) dX8_worth_5 k_1005 cm_X1_has rfl (by omega) (by decide) kk_12 (Nat.le_of_ble_eq_true rfl) rfl ⟨Nat.le_refl _, Nat.le_refl _⟩ ?_
  refine s_X1_has_12 (by omega) (by rw [show (cst h F) 12 4 = (h 12 4) from (cst_n (by decide))]; omega) (by rw [show (cst h F) 12 4 = (h 12 4) from (cst_n (by decide))]; omega) (fun c5_1 => ?_) (fun c5_2 c5_3 => ?_) (fun c5_4 c5_5 => ?_)
  · dsimp only [Option.toList, List.cons_append, List.nil_append, Nat.add_zero]
    refine v_if_ne_f (tgt := 13) dX8_worth_8 (by decide) (by decide) ?_
    refine v_iconst dX8_worth_11 (c32 rfl) ?_
    refine v_ireti dX8_worth_12 rfl (Nat.le_refl _) (Nat.le_refl _) ?_
    exact hq
  · dsimp only [Option.toList, List.cons_append, List.nil_append, Nat.add_zero]
    rw [show (cst h F) 12 4 = (h 12 4) from (cst_n (by decide))] at c5_3
    refine v_if_ne_f (tgt := 13) dX8_worth_8 (by decide) (by decide) ?_
    refine v_iconst dX8_worth_11 (c32 rfl) ?_
    refine v_ireti dX8_worth_12 rfl (Nat.le_refl _) (Nat.le_refl _) ?_
    exact hq
  · dsimp only [Option.toList, List.cons_append, List.nil_append, Nat.add_zero]
    rw [show (cst h F) 12 4 = (h 12 4) from (cst_n (by decide))] at c5_5
    refine v_if_ne_t (tgt := 13) dX8_worth_8 (by decide) (by decide) ?_
    exfalso; omega

theorem s_cworth {l : Launch} {G : GG} {d : Nat} {h : AH} {Q : Option AV → List Kd → AH → Prop} {p lb : Int} {F : AH} {cs : Int → List (Int × List Int)} (hd : 4 ≤ d) (hX : CX h cs) (hp : -1 ≤ p ∧ (p < h 12 4 ∨ p = -1)) (hq : ∀ F', Fr 1 F F' → Q (some (0, wth cs (F 39) p lb)) K0 (cst h F')) : Sp l G mX8_worth d 0 0 K0 [(2, 6), (0, p), (0, lb)] (cst h F) Q := by
  by_cases e : p = -1
  · subst e
    exact s_cworthN hd hX.1 (hq F Fr_0)
  · refine s_cworthP hd hX (by omega) (by omega) (fun F' h9 => ?_)
    have := hq F' h9
    unfold wth at this
    rw [if_neg e] at this
    exact this

