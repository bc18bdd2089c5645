/-! ===== scratch of the reference: what a reading, a judging leave behind ===== -/
def fset (O : Int → Int) (i x : Int) : Int → Int := fun j => if j = i then x else O j
theorem fset_same {O : Int → Int} {i x : Int} : fset O i x i = x := if_pos rfl
theorem fset_ne {O : Int → Int} {i x j : Int} (h : j ≠ i) : fset O i x j = O j := if_neg h
/-- h with the reader's fields z, isOwn O, letters Lr -/
def jst (h : AH) (z O Lr : Int → Int) : AH := fun c j => if c = 116 ∧ 17 ≤ j ∧ j ≤ 25 then z j else if c = 148 then O j else if c = 126 then Lr j else h c j
section JST
variable {h : AH} {z O Lr : Int → Int} {c j x n : Int}
theorem jst_j (q : j < 17 ∨ 25 < j) : jst h z O Lr 116 j = h 116 j := by
  unfold jst
  rw [if_neg (by omega), if_neg (by decide), if_neg (by decide)]
theorem jst_z (q : 17 ≤ j ∧ j ≤ 25) : jst h z O Lr 116 j = z j := by
  unfold jst
  rw [if_pos ⟨rfl, q⟩]
theorem jst_c (q : c ≠ 116 ∧ c ≠ 148 ∧ c ≠ 126) : jst h z O Lr c j = h c j := by
  unfold jst
  rw [if_neg (fun e => q.1 e.1), if_neg q.2.1, if_neg q.2.2]
theorem jst_o : jst h z O Lr 148 j = O j := by
  unfold jst
  rw [if_neg (fun e => absurd e.1 (by decide)), if_pos rfl]
theorem jst_l : jst h z O Lr 126 j = Lr j := by
  unfold jst
  rw [if_neg (fun e => absurd e.1 (by decide)), if_neg (by decide), if_pos rfl]
theorem jst_r (q : c ≠ 116 ∧ c ≠ 148 ∧ c ≠ 126) : jst h z O Lr c = h c := funext fun _ => jst_c q
theorem jst_ro : jst h z O Lr 148 = O := funext fun _ => jst_o
theorem jst_rl : jst h z O Lr 126 = Lr := funext fun _ => jst_l
theorem jst_wo : hset (jst h z O Lr) 148 j x = jst h z (fset O j x) Lr := by
  funext a b
  unfold hset fset jst
  dsimp only
  by_cases e1 : a = 148
  · subst e1
    by_cases e2 : b = j
    · rw [if_pos ⟨rfl, e2⟩, if_neg (fun e => absurd e.1 (by decide)), if_pos rfl, if_pos e2]
    · rw [if_neg (fun e => e2 e.2), if_neg (fun e => absurd e.1 (by decide)), if_pos rfl, if_neg (fun e => absurd e.1 (by decide)), if_pos rfl, if_neg e2]
  · rw [if_neg (fun e => e1 e.1), if_neg e1, if_neg e1]
theorem jst_wl : hset (jst h z O Lr) 126 j x = jst h z O (fset Lr j x) := by
  funext a b
  unfold hset fset jst
  dsimp only
  by_cases e1 : a = 126
  · subst e1
    by_cases e2 : b = j
    · rw [if_pos ⟨rfl, e2⟩, if_neg (fun e => absurd e.1 (by decide)), if_neg (by decide), if_pos rfl, if_pos e2]
    · rw [if_neg (fun e => e2 e.2), if_neg (fun e => absurd e.1 (by decide)), if_neg (by decide), if_pos rfl, if_neg (fun e => absurd e.1 (by decide)), if_neg (by decide), if_pos rfl, if_neg e2]
  · rw [if_neg (fun e => e1 e.1), if_neg e1, if_neg e1]
theorem jst_wc (q : c ≠ 116 ∧ c ≠ 148 ∧ c ≠ 126) : hset (jst h z O Lr) c j x = jst (hset h c j x) z O Lr := by
  funext a b
  unfold hset jst
  dsimp only
  by_cases e1 : a = c ∧ b = j
  · rw [if_pos e1, if_neg (fun e => q.1 (e1.1.symm.trans e.1)), if_neg (fun e => q.2.1 (e1.1.symm.trans e)), if_neg (fun e => q.2.2 (e1.1.symm.trans e)), if_pos e1]
  · rw [if_neg e1, if_neg e1]
theorem jst_wj (q : j < 17 ∨ 25 < j) : hset (jst h z O Lr) 116 j x = jst (hset h 116 j x) z O Lr := by
  funext a b
  unfold hset jst
  dsimp only
  by_cases e1 : a = 116 ∧ b = j
  · rw [if_pos e1, if_neg (by omega), if_neg (by omega), if_neg (by omega), if_pos e1]
  · rw [if_neg e1, if_neg e1]
/-- the letters cleared -/
def fclr (L : Int → Int) : Int → Int := fun j => if 0 ≤ j ∧ j < 128 then 0 else L j
theorem jst_clr : hfil (jst h z O Lr) 126 128 0 = jst h z O (fclr Lr) := by
  funext a b
  unfold hfil fclr jst
  dsimp only
  by_cases e1 : a = 126
  · subst e1
    by_cases e2 : 0 ≤ b ∧ b < 128
    · rw [if_pos ⟨rfl, e2⟩, if_neg (fun e => absurd e.1 (by decide)), if_neg (by decide), if_pos rfl, if_pos e2]
    · rw [if_neg (fun e => e2 e.2), if_neg (fun e => absurd e.1 (by decide)), if_neg (by decide), if_pos rfl, if_neg (fun e => absurd e.1 (by decide)), if_neg (by decide), if_pos rfl, if_neg e2]
  · rw [if_neg (fun e => e1 e.1), if_neg e1, if_neg e1]
theorem jst_mk : jst h (h 116) (h 148) (h 126) = h := by
  funext a b
  unfold jst
  by_cases e : a = 116 ∧ 17 ≤ b ∧ b ≤ 25
  · rw [if_pos e, e.1]
  · rw [if_neg e]
    by_cases e1 : a = 148
    · rw [if_pos e1, e1]
    · rw [if_neg e1]
      by_cases e2 : a = 126
      · rw [if_pos e2, e2]
      · rw [if_neg e2]
/-- a heap that differs in the reader's fields alone -/
theorem jst_of {h' : AH} (q : ∀ a b, ¬ (a = 116 ∧ 17 ≤ b ∧ b ≤ 25) → h' a b = jst h z O Lr a b) : h' = jst h (h' 116) O Lr := by
  funext a b
  by_cases e : a = 116 ∧ 17 ≤ b ∧ b ≤ 25
  · obtain ⟨rfl, e2⟩ := e
    rw [jst_z e2]
  · rw [q a b e]
    unfold jst
    rw [if_neg e, if_neg e]
end JST
def ltF (Lr : Int → Int) (i : Int) : Int := Lr (lch i)
theorem ltr_jst {h : AH} {z O Lr : Int → Int} : ltr (jst h z O Lr) = ltF Lr := funext fun i => by unfold ltr ltF; rw [jst_l]
theorem scr_of {h : AH} {t b n lb g w a f dp x y : Int} (e : ¬ (x = 116 ∧ 17 ≤ y ∧ y ≤ 25)) : pst (gst (tst h t b n lb) g w) a f dp x y = h x y := by
  by_cases e1 : x = 116
  · subst e1
    rw [pst_j (by omega), gst_j (by omega), tst_j (by omega)]
  · rw [pst_c e1, gst_c e1, tst_c e1]
/-- a protocol's text p, of n bytes u -/
def PT (h : AH) (p : Int) (u : Int → Int) : Prop := 0 ≤ h 124 p ∧ h 124 p ≤ 200 ∧ (∀ i, 0 ≤ i → i < h 124 p → 0 ≤ u i ∧ u i < 256) ∧ (∀ i, 0 ≤ i → i < h 124 p → h 128 (200 * p + i) = s8 (u i))
/-- the tape's bytes -/
def TT (h : AH) (u : Int → Int) : Prop := 0 ≤ h 116 16 ∧ h 116 16 ≤ 200 ∧ (∀ i, 0 ≤ i → i < h 116 16 → 0 ≤ u i ∧ u i < 256) ∧ (∀ i, 0 ≤ i → i < h 116 16 → h 127 i = s8 (u i))
def lbok (L : Int → Int) : Prop := ∀ i, 0 ≤ i → i < 8 → -10000000 ≤ L i ∧ L i ≤ 10000000
theorem TxE_f {lt : Int → Int} {lab f w : Int} {u : Int → Int} {n : Int} (h : TxE lt lab f w (pText u n 201 0 [])) : f = pFault u n := by
  unfold pFault
  revert h
  cases pText u n 201 0 [] with
  | inl e => intro h; exact h.1
  | inr cs => intro h; exact h.1
