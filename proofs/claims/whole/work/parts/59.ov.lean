/-! ===== rows written over, the class's scratch ===== -/
def ov1 (h : AH) (a : Int) (A : Int → Int) : AH := fun c j => if c = a then A j else h c j
section OV
variable {h : AH} {a c j x : Int} {A B : Int → Int}
theorem ov1_s : ov1 h a A a j = A j := if_pos rfl
theorem ov1_rs : ov1 h a A a = A := funext fun _ => ov1_s
theorem ov1_c (q : c ≠ a) : ov1 h a A c j = h c j := if_neg q
theorem ov1_r (q : c ≠ a) : ov1 h a A c = h c := funext fun _ => ov1_c q
theorem ov1_w : hset (ov1 h a A) a j x = ov1 h a (fset A j x) := by
  funext u v
  unfold hset ov1 fset
  by_cases e : u = a
  · subst e
    by_cases e2 : v = j
    · rw [if_pos ⟨rfl, e2⟩, if_pos rfl, if_pos e2]
    · rw [if_neg (fun z => e2 z.2), if_pos rfl, if_pos rfl, if_neg e2]
  · rw [if_neg (fun z => e z.1), if_neg e, if_neg e]
theorem ov1_n (q : c ≠ a) : hset (ov1 h a A) c j x = ov1 (hset h c j x) a A := by
  funext u v
  unfold hset ov1
  by_cases e : u = a
  · rw [if_neg (fun z => q (z.1.symm.trans e)), if_pos e, if_pos e]
  · rw [if_neg e, if_neg e]
theorem ov1_mk : ov1 h a (h a) = h := by
  funext u v
  unfold ov1
  by_cases e : u = a
  · rw [if_pos e, e]
  · rw [if_neg e]
theorem ov1_tw : ov1 (ov1 h a A) a B = ov1 h a B := by
  funext u v
  unfold ov1
  by_cases e : u = a
  · rw [if_pos e, if_pos e]
  · rw [if_neg e, if_neg e, if_neg e]
theorem hset_mk : hset h c j (h c j) = h := by
  funext u v
  unfold hset
  by_cases e : u = c ∧ v = j
  · rw [if_pos e, e.1, e.2]
  · rw [if_neg e]
theorem kst_wn {F : AH} (q : ¬ kS c j) : hset (kst h F) c j x = kst (hset h c j x) F := by
  funext a b
  unfold hset kst
  by_cases e : a = c ∧ b = j
  · obtain ⟨rfl, rfl⟩ := e
    simp only [if_neg q, and_self, if_true]
  · simp only [if_neg e]
end OV
/-- the class's scratch: rows, fields -/
abbrev cR (c : Int) : Prop := c = 3 ∨ (38 ≤ c ∧ c ≤ 40) ∨ (58 ≤ c ∧ c ≤ 63) ∨ c = 75 ∨ c = 80 ∨ (93 ≤ c ∧ c ≤ 96) ∨ c = 100 ∨ (102 ≤ c ∧ c ≤ 115)
abbrev cF (c j : Int) : Prop := (c = 1 ∧ (j = 2 ∨ j = 3 ∨ j = 5)) ∨ (c = 6 ∧ j = 7) ∨ (c = 87 ∧ ((5 ≤ j ∧ j ≤ 10) ∨ j = 13)) ∨ (c = 97 ∧ (j = 4 ∨ j = 7))
abbrev cN (c : Int) : Prop := ¬ cR c ∧ c ≠ 1 ∧ c ≠ 6 ∧ c ≠ 87 ∧ c ≠ 97
abbrev cS (c j : Int) : Prop := cR c ∨ cF c j
def cst (h F : AH) : AH := fun c j => if cS c j then F c j else h c j
section CST
variable {h F : AH} {c j x : Int}
theorem cst_s (q : cS c j) : cst h F c j = F c j := if_pos q
theorem cst_c (q : ¬ cS c j) : cst h F c j = h c j := if_neg q
theorem cst_m (q : cR c) : cst h F c j = F c j := cst_s (Or.inl q)
theorem cst_rm (q : cR c) : cst h F c = F c := funext fun _ => cst_m q
theorem cst_n (q : cN c) : cst h F c j = h c j := cst_c (fun z => z.elim q.1 (fun z => by unfold cN at q; unfold cF at z; omega))
theorem cst_r (q : cN c) : cst h F c = h c := funext fun _ => cst_n q
theorem cst_w (q : cS c j) : hset (cst h F) c j x = cst h (hset F c j x) := by
  funext a b
  unfold hset cst
  by_cases e : a = c ∧ b = j
  · obtain ⟨rfl, rfl⟩ := e
    simp only [if_pos q, and_self, if_true]
  · simp only [if_neg e]
theorem cst_wn (q : ¬ cS c j) : hset (cst h F) c j x = cst (hset h c j x) F := by
  funext a b
  unfold hset cst
  by_cases e : a = c ∧ b = j
  · obtain ⟨rfl, rfl⟩ := e
    simp only [if_neg q, and_self, if_true]
  · simp only [if_neg e]
theorem cst_mk : cst h h = h := by
  funext a b
  unfold cst
  split <;> rfl
theorem cst_cst {F2 : AH} : cst (cst h F) F2 = cst h F2 := by
  funext a b
  unfold cst
  by_cases e : cS a b
  · simp only [if_pos e]
  · simp only [if_neg e]
theorem cst_wr (q : cN c) : hset (cst h F) c j x = cst (hset h c j x) F := cst_wn (fun z => z.elim q.1 (fun z => by unfold cN at q; unfold cF at z; omega))
theorem cst_w1 (q : cR c) : hset (cst h F) c j x = cst h (hset F c j x) := cst_w (Or.inl q)
end CST
