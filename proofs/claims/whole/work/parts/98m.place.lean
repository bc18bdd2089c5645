/-! ===== a fault stands at a place of the text (written by wip/whole/p79.py) ===== -/
/-- its place is none before the first -/
def nnP (x : PR) : Prop := match x with
  | .inl e => 0 ≤ e
  | .inr r => 0 ≤ r.1
section NNS
variable {u : Int → Int} {n : Int}
theorem sk_nn {a : Int} (h : 0 ≤ a) : 0 ≤ sk u n a := Int.le_trans h sk_ge
theorem nn_then {x : PR} {g : Int → List Int → PR} (hx : nnP x) (hg : ∀ a k, 0 ≤ a → nnP (g a k)) : nnP (pThen x g) := by
  cases x with
  | inl e => exact hx
  | inr r => exact hg r.1 r.2 hx
theorem nn_loop {ops : Int → Bool} {f : Int → PR} (hf : ∀ a, 0 ≤ a → nnP (f a)) : ∀ {m : Nat} {a : Int} {k : List Int}, 0 ≤ a → nnP (pLoop u n ops f m a k) := by
  intro m
  induction m with
  | zero => intro a k h; exact h
  | succ m ih =>
    intro a k h
    rw [pLoop]
    split
    · have q := hf (sk u n a + 1) (by have := sk_nn (u := u) (n := n) h; omega)
      split
      · rename_i e9; rw [e9] at q; exact q
      · rename_i e9; rw [e9] at q; exact ih q
    · exact sk_nn h
theorem numF_ge : ∀ {m : Nat} {v a : Int}, a ≤ (numF u n m v a).2 := by
  intro m
  induction m with
  | zero => intro v a; exact Int.le_refl _
  | succ m ih =>
    intro v a
    rw [numF]
    split
    · have := @ih (v * 10 + u a - 48) (a + 1); omega
    · exact Int.le_refl _
theorem nn_num {a : Int} (h : 0 ≤ a) : nnP (pNum u n a) := by
  have := @numF_ge u n 5 0 a
  unfold pNum
  split
  · show 0 ≤ (numF u n 5 0 a).2; omega
  · show 0 ≤ (numF u n 5 0 a).2; omega
theorem nn_atom {nest : Option (Int → PR)} (hn : ∀ f, nest = some f → ∀ a, 0 ≤ a → nnP (f a)) {a : Int} (h : 0 ≤ a) : nnP (pAtom u n nest a) := by
  have s := sk_nn (u := u) (n := n) h
  unfold pAtom
  split
  · exact nn_num s
  · split
    · show 0 ≤ sk u n a + 1; omega
    · split
      · cases nest with
        | none => exact s
        | some f =>
          have q := hn f rfl (sk u n a + 1) (by omega)
          dsimp only
          split
          · rename_i e9; rw [e9] at q; exact q
          · rename_i r e9
            rw [e9] at q
            have q2 : 0 ≤ r.1 := q
            have s2 := sk_nn (u := u) (n := n) q2
            split
            · show 0 ≤ sk u n r.1 + 1; omega
            · exact s2
      · exact s
theorem nn_term {nest : Option (Int → PR)} (hn : ∀ f, nest = some f → ∀ a, 0 ≤ a → nnP (f a)) {a : Int} (h : 0 ≤ a) : nnP (pTerm u n nest a) := nn_then (nn_atom hn h) (fun _ _ h2 => nn_loop (fun _ h3 => nn_atom hn h3) h2)
theorem nn_sum {nest : Option (Int → PR)} (hn : ∀ f, nest = some f → ∀ a, 0 ≤ a → nnP (f a)) {a : Int} (h : 0 ≤ a) : nnP (pSum u n nest a) := nn_then (nn_term hn h) (fun _ _ h2 => nn_loop (fun _ h3 => nn_term hn h3) h2)
theorem nn_sumL : ∀ {D : Nat} {a : Int}, 0 ≤ a → nnP (sumL u n D a) := by
  intro D
  induction D with
  | zero => intro a h; exact nn_sum (fun f e => by cases e) h
  | succ D ih => intro a h; exact nn_sum (fun f e => by cases e; exact fun b hb => ih hb) h
theorem nn_cmp {D : Nat} {a : Int} {k : List Int} (h : 0 ≤ a) : nnP (pCmp u n D a k) := by
  have s := sk_nn (u := u) (n := n) h
  unfold pCmp
  split
  · exact nn_then (nn_sumL (by omega)) (fun a2 k2 h2 => h2)
  · exact s
theorem nn_part {f : Int → PR} (hf : ∀ a, 0 ≤ a → nnP (f a)) {a : Int} (h : 0 ≤ a) : nnP (pPart u n f a) := nn_then (hf a h) (fun _ _ h2 => nn_loop hf h2)
theorem nn_cond {f : Int → PR} (hf : ∀ a, 0 ≤ a → nnP (f a)) {a : Int} (h : 0 ≤ a) : nnP (pCond u n f a) := nn_then (nn_part hf h) (fun _ _ h2 => nn_loop (fun _ h3 => nn_part hf h3) h2)
theorem nn_need {c : Int} {x : PR} (hx : nnP x) : nnP (pNeed u n c x) := nn_then hx (fun a k h => by
  have s := sk_nn (u := u) (n := n) h
  split
  · show 0 ≤ sk u n a + 1; omega
  · exact s)
theorem nn_unit : ∀ {D : Nat} {a : Int}, 0 ≤ a → nnP (unitL u n D a) := by
  intro D
  induction D with
  | zero =>
    intro a h
    rw [unitL]
    split
    · exact sk_nn h
    · exact nn_then (nn_sumL h) (fun _ _ h2 => nn_cmp h2)
  | succ D ih =>
    intro a h
    have s := sk_nn (u := u) (n := n) h
    rw [unitL]
    split
    · exact nn_then (ih (by omega)) (fun _ _ h2 => h2)
    · split
      · exact nn_need (nn_cond (fun _ h2 => ih h2) (by omega))
      · exact nn_then (nn_sumL h) (fun _ _ h2 => nn_cmp h2)
theorem nn_condS {D : Nat} {a : Int} {k : List Int} (h : 0 ≤ a) : nnP (pCondS u n D a k) := nn_then (nn_then (nn_cmp h) (fun _ _ h2 => nn_loop (fun _ h3 => nn_unit h3) h2)) (fun _ _ h2 => nn_loop (fun _ h3 => nn_part (fun _ h4 => nn_unit h4) h3) h2)
theorem nn_rest {x : PR} (hx : nnP x) : nnP (pRest u n x) := nn_then (nn_need hx) (fun _ _ h => nn_then (nn_sumL h) (fun _ _ h2 => h2))
theorem nn_body {a : Int} (h : 0 ≤ a) : nnP (pBody u n a) := by
  unfold pBody
  split
  · exact nn_rest (nn_cond (fun _ h2 => nn_unit h2) h)
  · exact nn_then (nn_sumL h) (fun a1 k1 h2 => by
      split
      · exact nn_rest (nn_condS h2)
      · exact sk_nn (u := u) (n := n) h2)
theorem nn_clause {a : Int} (h : 0 ≤ a) : (∀ e, pClause u n a = .inl e → 0 ≤ e) ∧ ∀ r, pClause u n a = .inr r → 0 ≤ r.1 := by
  have s := sk_nn (u := u) (n := n) h
  have s2 := sk_nn (u := u) (n := n) (a := sk u n a + 1) (by omega)
  have b := nn_body (u := u) (n := n) (a := sk u n (sk u n a + 1) + 1) (by omega)
  unfold pClause
  by_cases c1 : isLab (pk u n a) = true
  · rw [if_pos c1]
    by_cases c2 : pk u n (sk u n a + 1) = 58
    · rw [if_pos c2]
      revert b
      cases pBody u n (sk u n (sk u n a + 1) + 1) with
      | inl e => exact fun b => ⟨fun e2 q => (by cases q; exact b), fun r q => (by cases q)⟩
      | inr r => exact fun b => ⟨fun e2 q => (by cases q), fun r2 q => (by cases q; exact b)⟩
    · rw [if_neg c2]
      exact ⟨fun e q => (by cases q; exact s2), fun r q => (by cases q)⟩
  · rw [if_neg c1]
    exact ⟨fun e q => (by cases q; exact s), fun r q => (by cases q)⟩
theorem nn_text : ∀ {m : Nat} {a e : Int} {cs : List (Int × List Int)}, 0 ≤ a → pText u n m a cs = .inl e → 0 ≤ e := by
  intro m
  induction m with
  | zero => intro a e cs h q; cases q; exact h
  | succ m ih =>
    intro a e cs h q
    have c := nn_clause (u := u) (n := n) h
    rw [pText] at q
    revert q c
    cases pClause u n a with
    | inl e2 => exact fun q c => (by cases q; exact c.1 _ rfl)
    | inr r =>
      intro q c
      have r0 := c.2 r rfl
      have s := sk_nn (u := u) (n := n) r0
      dsimp only at q
      by_cases c1 : pk u n r.1 = 59
      · rw [if_pos c1] at q
        exact ih (by omega) q
      · rw [if_neg c1] at q
        by_cases c2 : pk u n r.1 = -1
        · rw [if_pos c2] at q; cases q
        · rw [if_neg c2] at q; cases q; exact s
theorem fault_s (h : pFault u n = -1) : ∃ cs, pText u n 201 0 [] = .inr cs := by
  unfold pFault at h
  cases q : pText u n 201 0 [] with
  | inl e =>
    rw [q] at h
    have := nn_text (Int.le_refl 0) q
    have h2 : e = -1 := h
    omega
  | inr cs => exact ⟨cs, rfl⟩
end NNS

