/-! ===== the reference's reader: what its methods promise ===== -/
def lch (i : Int) : Int := if i = 0 then 97 else if i = 1 then 110 else if i = 2 then 98 else if i = 3 then 111 else if i = 4 then 99 else if i = 5 then 104 else if i = 6 then 112 else 121
def ltr (h : AH) (i : Int) : Int := h 126 (lch i)
theorem ix2_cases {c : Int} : (ix2 c < 0 ∧ plc c = -1 ∧ ¬ (97 ≤ c ∧ c ≤ 99)) ∨ (0 ≤ ix2 c ∧ plc c ≠ -1 ∧ 97 ≤ c ∧ c ≤ 121 ∧ lch (plc c) = c ∧ 0 ≤ plc c ∧ plc c < 8) := by
  by_cases e0 : c = 97
  · subst e0; exact Or.inr (by decide)
  by_cases e1 : c = 110
  · subst e1; exact Or.inr (by decide)
  by_cases e2 : c = 98
  · subst e2; exact Or.inr (by decide)
  by_cases e3 : c = 111
  · subst e3; exact Or.inr (by decide)
  by_cases e4 : c = 99
  · subst e4; exact Or.inr (by decide)
  by_cases e5 : c = 104
  · subst e5; exact Or.inr (by decide)
  by_cases e6 : c = 112
  · subst e6; exact Or.inr (by decide)
  by_cases e7 : c = 121
  · subst e7; exact Or.inr (by decide)
  refine Or.inl ⟨?_, ?_, ?_⟩
  · unfold ix2; rw [if_neg e5, if_neg e6, if_neg e0, if_neg e1, if_neg e2, if_neg e3, if_neg e4, if_neg e7]; decide
  · unfold plc; rw [if_neg e0, if_neg e1, if_neg e2, if_neg e3, if_neg e4, if_neg e5, if_neg e6, if_neg e7]
  · omega
section PATOM
variable {u : Int → Int} {n a e : Int} {nest : Option (Int → PR)} {f : Int → PR} {r : Int × List Int}
theorem pAtom_let (h : plc (pk u n a) ≠ -1) (h2 : 97 ≤ pk u n a) : pAtom u n nest a = .inr (sk u n a + 1, [-1 - plc (pk u n a)]) := by
  unfold pAtom
  rw [if_neg (by omega), if_pos h]
theorem pAtom_num (h : 48 ≤ pk u n a ∧ pk u n a ≤ 57) : pAtom u n nest a = pNum u n (sk u n a) := by
  unfold pAtom
  rw [if_pos h]
theorem pAtom_91 (h : pk u n a = 91) : pAtom u n nest a = match nest with
    | none => .inl (sk u n a)
    | some f => match f (sk u n a + 1) with
      | .inl e => .inl e
      | .inr r => if pk u n r.1 = 93 then .inr (sk u n r.1 + 1, r.2) else .inl (sk u n r.1) := by
  unfold pAtom
  rw [if_neg (by omega), if_neg (by rw [h]; decide), if_pos h]
  cases nest with
  | none => rfl
  | some f => rfl
theorem pAtom_none (h : pk u n a = 91) : pAtom u n none a = .inl (sk u n a) := by rw [pAtom_91 h]
theorem pAtom_nf (h : pk u n a = 91) (hf : f (sk u n a + 1) = .inl e) : pAtom u n (some f) a = .inl e := by rw [pAtom_91 h]; simp only [hf]
theorem pAtom_nc (h : pk u n a = 91) (hf : f (sk u n a + 1) = .inr r) (hc : pk u n r.1 ≠ 93) : pAtom u n (some f) a = .inl (sk u n r.1) := by rw [pAtom_91 h]; simp only [hf]; rw [if_neg hc]
theorem pAtom_ns (h : pk u n a = 91) (hf : f (sk u n a + 1) = .inr r) (hc : pk u n r.1 = 93) : pAtom u n (some f) a = .inr (sk u n r.1 + 1, r.2) := by rw [pAtom_91 h]; simp only [hf]; rw [if_pos hc]
theorem pAtom_bad (h : ¬ (48 ≤ pk u n a ∧ pk u n a ≤ 57)) (h2 : plc (pk u n a) = -1) (h3 : pk u n a ≠ 91) : pAtom u n nest a = .inl (sk u n a) := by
  unfold pAtom
  rw [if_neg h, if_neg (by omega), if_neg h3]
variable {ops : Int → Bool} {m : Nat} {k : List Int}
theorem pLoop_no (h : ops (pk u n a) = false) : pLoop u n ops f (m + 1) a k = .inr (sk u n a, k) := by
  rw [pLoop, if_neg (by rw [h]; decide)]
theorem pLoop_f (h : ops (pk u n a) = true) (hf : f (sk u n a + 1) = .inl e) : pLoop u n ops f (m + 1) a k = .inl e := by
  rw [pLoop, if_pos h, hf]
theorem pLoop_s (h : ops (pk u n a) = true) (hf : f (sk u n a + 1) = .inr r) : pLoop u n ops f (m + 1) a k = pLoop u n ops f m r.1 (k ++ r.2 ++ [-(pk u n a)]) := by
  rw [pLoop, if_pos h, hf]
theorem pThen_l {x : PR} {g : Int → List Int → PR} (h : x = .inl e) : pThen x g = .inl e := by rw [h]; rfl
theorem pThen_r {x : PR} {g : Int → List Int → PR} (h : x = .inr r) : pThen x g = g r.1 r.2 := by rw [h]; rfl
end PATOM
def nB (m : Nat) : Int := if m = 0 then 99999 else if m = 1 then 9999 else if m = 2 then 999 else if m = 3 then 99 else if m = 4 then 9 else 0
theorem nB_s {m : Nat} (h : m < 5) : 10 * nB (m + 1) + 9 ≤ nB m := by
  rcases m with _ | _ | _ | _ | _ | m
  · decide
  · decide
  · decide
  · decide
  · decide
  · omega
theorem nB_le {m : Nat} : nB m ≤ 99999 := by unfold nB; split <;> (try split) <;> (try split) <;> (try split) <;> (try split) <;> omega
/-- a reader of a number: what it promises at this depth -/
def RdS (l : Launch) (G : GG) (h : AH) (u : Int → Int) (n dp : Int) (N mm : Nat) (M : MI) (P : Int → PR) : Prop :=
  ∀ ⦃d : Nat⦄ ⦃a : Int⦄ ⦃Q : Option AV → List Kd → AH → Prop⦄, N ≤ d → 0 ≤ a → a ≤ n →
    (∀ e v a' dp', P a = .inl e → 0 ≤ e → dp ≤ dp' → dp' ≤ 8 → Q (some (0, v)) K0 (pst h a' e dp')) →
    (∀ a' k v, P a = .inr (a', k) → a < a' → a' ≤ n → VH (ltr h) k v mm → -10000000 ≤ v → v ≤ 10000000 → Q (some (0, v)) K0 (pst h a' (-1) dp)) →
    Sp l G M d 0 0 K0 [(2, 116)] (pst h a (-1) dp) Q
def LTB (h : AH) : Prop := ∀ i, 0 ≤ i → i < 8 → -10000000 ≤ ltr h i ∧ ltr h i ≤ 10000000
theorem lmul_bd {x y : Int} (h1 : -10000000 ≤ x) (h2 : x ≤ 10000000) (h3 : -10000000 ≤ y) (h4 : y ≤ 10000000) : lmul x y = jn 42 x y := by
  have e : jn 42 x y = x * y := rfl
  rw [e]
  have b1 : x * y ≤ 10000000 * 10000000 := by
    have q := Int.natAbs_mul x y
    have a1 : x.natAbs ≤ 10000000 := by omega
    have a2 : y.natAbs ≤ 10000000 := by omega
    have a3 := Nat.mul_le_mul a1 a2
    omega
  have b2 : -(10000000 * 10000000) ≤ x * y := by
    have q := Int.natAbs_mul x y
    have a1 : x.natAbs ≤ 10000000 := by omega
    have a2 : y.natAbs ≤ 10000000 := by omega
    have a3 := Nat.mul_le_mul a1 a2
    omega
  exact lmul_eq ⟨by omega, by omega⟩
theorem ladd_bd {x y : Int} (h1 : -10000000 ≤ x) (h2 : x ≤ 10000000) (h3 : -10000000 ≤ y) (h4 : y ≤ 10000000) : ladd x y = jn 43 x y := by
  have e : jn 43 x y = x + y := rfl
  rw [e]
  exact ladd_eq (by unfold ok64; omega)
theorem lsub_bd {x y : Int} (h1 : -10000000 ≤ x) (h2 : x ≤ 10000000) (h3 : -10000000 ≤ y) (h4 : y ≤ 10000000) : lsub x y = jn 45 x y := by
  have e : jn 45 x y = x - y := rfl
  rw [e]
  exact lsub_eq (by unfold ok64; omega)
theorem ldiv_bd {x y : Int} (h : y ≠ 0) : ldiv x y = jn 47 x y := by
  have e : jn 47 x y = if y = 0 then 0 else ldiv x y := rfl
  rw [e, if_neg h]
theorem zdiv_bd {x y : Int} (h : y = 0) : 0 = jn 47 x y := by
  have e : jn 47 x y = if y = 0 then 0 else ldiv x y := rfl
  rw [e, if_pos h]
theorem l2i_eq {x : Int} (q : ok32 x) : l2i x = x := by
  unfold l2i
  rw [Int64.toInt32_ofInt, t32 q]
theorem l2i_bd {x : Int} : l2i (max (-10000000) (min 10000000 x)) = bd x := l2i_eq (by unfold ok32; omega)
