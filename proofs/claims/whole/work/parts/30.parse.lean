/-! ===== the grammar: one reader, in words of numbers: what both readers find ===== -/
def skF (u : Int → Int) (n : Int) : Nat → Int → Int
  | 0, a => a
  | m + 1, a => if a < n ∧ u a = 32 then skF u n m (a + 1) else a
/-- behind blanks -/
def sk (u : Int → Int) (n a : Int) : Int := skF u n (n - a).toNat a
theorem sk_t {u : Int → Int} {n a : Int} (h : a < n) (h2 : u a = 32) : sk u n a = sk u n (a + 1) := by
  unfold sk
  have e : (n - a).toNat = (n - (a + 1)).toNat + 1 := by omega
  rw [e, skF, if_pos ⟨h, h2⟩]
theorem sk_f {u : Int → Int} {n a : Int} (h : ¬ (a < n ∧ u a = 32)) : sk u n a = a := by
  unfold sk
  cases e : (n - a).toNat with
  | zero => rfl
  | succ m => rw [skF, if_neg h]
theorem skF_ge {u : Int → Int} {n : Int} : ∀ (m : Nat) (a : Int), a ≤ skF u n m a := by
  intro m
  induction m with
  | zero => intro a; exact Int.le_refl _
  | succ m ih =>
    intro a
    rw [skF]
    split
    · have := ih (a + 1); omega
    · omega
theorem skF_le {u : Int → Int} {n : Int} : ∀ (m : Nat) (a : Int), a ≤ n → skF u n m a ≤ n := by
  intro m
  induction m with
  | zero => intro a h; exact h
  | succ m ih =>
    intro a h
    rw [skF]
    split
    · exact ih (a + 1) (by omega)
    · omega
theorem sk_ge {u : Int → Int} {n a : Int} : a ≤ sk u n a := skF_ge _ _
theorem sk_le {u : Int → Int} {n a : Int} (h : a ≤ n) : sk u n a ≤ n := skF_le _ _ h
theorem skF_nb {u : Int → Int} {n : Int} : ∀ (m : Nat) (a : Int), n - a ≤ m → ¬ (skF u n m a < n ∧ u (skF u n m a) = 32) := by
  intro m
  induction m with
  | zero => intro a h q; have : skF u n 0 a = a := rfl
            rw [this] at q; omega
  | succ m ih =>
    intro a h
    rw [skF]
    split
    · exact ih (a + 1) (by omega)
    · assumption
theorem sk_nb {u : Int → Int} {n a : Int} : ¬ (sk u n a < n ∧ u (sk u n a) = 32) := skF_nb _ _ (by omega)
theorem sk_sk {u : Int → Int} {n a : Int} : sk u n (sk u n a) = sk u n a := sk_f sk_nb
/-- the sign behind blanks, -1 at the end -/
def pk (u : Int → Int) (n a : Int) : Int := if sk u n a < n then u (sk u n a) else -1
theorem pk_sk {u : Int → Int} {n a : Int} : pk u n (sk u n a) = pk u n a := by
  unfold pk
  rw [sk_sk]
abbrev PR : Type := Int ⊕ (Int × List Int)
def isD (c : Int) : Prop := 48 ≤ c ∧ c ≤ 57
def numF (u : Int → Int) (n : Int) : Nat → Int → Int → Int × Int
  | 0, v, a => (v, a)
  | m + 1, v, a => if a < n ∧ 48 ≤ u a ∧ u a ≤ 57 then numF u n m (v * 10 + u a - 48) (a + 1) else (v, a)
def pNum (u : Int → Int) (n a : Int) : PR :=
  if (numF u n 5 0 a).2 < n ∧ 48 ≤ u (numF u n 5 0 a).2 ∧ u (numF u n 5 0 a).2 ≤ 57 then .inl (numF u n 5 0 a).2 else .inr ((numF u n 5 0 a).2, [(numF u n 5 0 a).1])
/-- a letter's place in anbochpy -/
def plc (c : Int) : Int := if c = 97 then 0 else if c = 110 then 1 else if c = 98 then 2 else if c = 111 then 3 else if c = 99 then 4 else if c = 104 then 5 else if c = 112 then 6 else if c = 121 then 7 else -1
def pAtom (u : Int → Int) (n : Int) (nest : Option (Int → PR)) (a : Int) : PR :=
  if 48 ≤ pk u n a ∧ pk u n a ≤ 57 then pNum u n (sk u n a)
  else if plc (pk u n a) ≠ -1 then .inr (sk u n a + 1, [-1 - plc (pk u n a)])
  else if pk u n a = 91 then
    match nest with
    | none => .inl (sk u n a)
    | some f => match f (sk u n a + 1) with
      | .inl e => .inl e
      | .inr r => if pk u n r.1 = 93 then .inr (sk u n r.1 + 1, r.2) else .inl (sk u n r.1)
  else .inl (sk u n a)
def pLoop (u : Int → Int) (n : Int) (ops : Int → Bool) (f : Int → PR) : Nat → Int → List Int → PR
  | 0, a, k => .inr (a, k)
  | m + 1, a, k => if ops (pk u n a) = true then
      match f (sk u n a + 1) with
      | .inl e => .inl e
      | .inr r => pLoop u n ops f m r.1 (k ++ r.2 ++ [-(pk u n a)])
    else .inr (sk u n a, k)
def pThen (x : PR) (g : Int → List Int → PR) : PR := match x with
  | .inl e => .inl e
  | .inr r => g r.1 r.2
def oMul (c : Int) : Bool := c == 42 || c == 47
def oAdd (c : Int) : Bool := c == 43 || c == 45
def oCmp (c : Int) : Bool := c == 61 || c == 60 || c == 62
def oAnd (c : Int) : Bool := c == 38
def oOr (c : Int) : Bool := c == 124
def pTerm (u : Int → Int) (n : Int) (nest : Option (Int → PR)) (a : Int) : PR := pThen (pAtom u n nest a) (pLoop u n oMul (pAtom u n nest) 201)
def pSum (u : Int → Int) (n : Int) (nest : Option (Int → PR)) (a : Int) : PR := pThen (pTerm u n nest a) (pLoop u n oAdd (pTerm u n nest) 201)
/-- a sum with D levels left -/
def sumL (u : Int → Int) (n : Int) : Nat → Int → PR
  | 0 => pSum u n none
  | D + 1 => pSum u n (some (sumL u n D))
def nestL (u : Int → Int) (n : Int) : Nat → Option (Int → PR)
  | 0 => none
  | D + 1 => some (sumL u n D)
theorem sumL_eq {u : Int → Int} {n : Int} {D : Nat} : sumL u n D = pSum u n (nestL u n D) := by cases D <;> rfl
def pCmp (u : Int → Int) (n : Int) (D : Nat) (a1 : Int) (k1 : List Int) : PR :=
  if oCmp (pk u n a1) = true then pThen (sumL u n D (sk u n a1 + 1)) (fun a2 k2 => .inr (a2, k1 ++ k2 ++ [-(pk u n a1)])) else .inl (sk u n a1)
def pPart (u : Int → Int) (n : Int) (f : Int → PR) (a : Int) : PR := pThen (f a) (pLoop u n oAnd f 201)
def pCond (u : Int → Int) (n : Int) (f : Int → PR) (a : Int) : PR := pThen (pPart u n f a) (pLoop u n oOr (pPart u n f) 201)
def pNeed (u : Int → Int) (n c : Int) (x : PR) : PR := pThen x (fun a k => if pk u n a = c then .inr (sk u n a + 1, k) else .inl (sk u n a))
def unitL (u : Int → Int) (n : Int) : Nat → Int → PR
  | 0, a => if pk u n a = 33 ∨ pk u n a = 40 then .inl (sk u n a) else pThen (sumL u n 0 a) (pCmp u n 0)
  | D + 1, a => if pk u n a = 33 then pThen (unitL u n D (sk u n a + 1)) (fun a2 k2 => .inr (a2, k2 ++ [-33]))
      else if pk u n a = 40 then pNeed u n 41 (pCond u n (unitL u n D) (sk u n a + 1))
      else pThen (sumL u n (D + 1) a) (pCmp u n (D + 1))
/-- a condition whose first sum is read -/
def pCondS (u : Int → Int) (n : Int) (D : Nat) (a : Int) (k : List Int) : PR :=
  pThen (pThen (pCmp u n D a k) (pLoop u n oAnd (unitL u n D) 201)) (pLoop u n oOr (pPart u n (unitL u n D)) 201)
def isLab (c : Int) : Bool := c == 114 || c == 100 || c == 115 || c == 103 || c == 122
/-- behind a condition: ? and a sum -/
def pRest (u : Int → Int) (n : Int) (x : PR) : PR := pThen (pNeed u n 63 x) (fun a k => pThen (sumL u n 8 a) (fun a2 k2 => .inr (a2, k ++ [-63] ++ k2)))
def pBody (u : Int → Int) (n a : Int) : PR :=
  if pk u n a = 33 ∨ pk u n a = 40 then pRest u n (pCond u n (unitL u n 8) a)
  else pThen (sumL u n 8 a) (fun a1 k1 => if oCmp (pk u n a1) = true then pRest u n (pCondS u n 8 a1 k1) else .inr (sk u n a1, k1))
/-- a clause: where it ends, its label, its body -/
def pClause (u : Int → Int) (n a : Int) : Int ⊕ (Int × Int × List Int) :=
  if isLab (pk u n a) = true then
    if pk u n (sk u n a + 1) = 58 then
      match pBody u n (sk u n (sk u n a + 1) + 1) with
      | .inl e => .inl e
      | .inr r => .inr (r.1, pk u n a, r.2)
    else .inl (sk u n (sk u n a + 1))
  else .inl (sk u n a)
def pText (u : Int → Int) (n : Int) : Nat → Int → List (Int × List Int) → Int ⊕ List (Int × List Int)
  | 0, a, _ => .inl a
  | m + 1, a, cs => match pClause u n a with
    | .inl e => .inl e
    | .inr r => if pk u n r.1 = 59 then pText u n m (sk u n r.1 + 1) (cs ++ [r.2]) else if pk u n r.1 = -1 then .inr (cs ++ [r.2]) else .inl (sk u n r.1)
/-- the fault of a text, -1: none -/
def pFault (u : Int → Int) (n : Int) : Int := match pText u n 201 0 [] with
  | .inl e => e
  | .inr _ => -1
