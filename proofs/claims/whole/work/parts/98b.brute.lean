/-! ===== words struck: all sets tried, the pure side ===== -/
/-- set m goes before set b -/
abbrev bts (m b : Int) : Prop := bcI m < bcI b ∨ (bcI m = bcI b ∧ iand m (iand (ixor m b) (ineg (ixor m b))) ≠ 0)
theorem bts_n {n m b : Nat} (hn : n ≤ 12) (hm : m < 2 ^ n) (hb : b < 2 ^ n) (hne : m ≠ b) : bts (m : Int) (b : Int) ↔ (wCn n (fun i => m.testBit i) n < wCn n (fun i => b.testBit i) n ∨ (wCn n (fun i => m.testBit i) n = wCn n (fun i => b.testBit i) n ∧ ∃ i, i < 12 ∧ m.testBit i = true ∧ b.testBit i = false ∧ ∀ j, j < i → m.testBit j = b.testBit j)) := by
  have h2 : 2 ^ n ≤ 2 ^ 12 := Nat.pow_le_pow_right (by decide) hn
  have hm2 : m < 4096 := by omega
  have hb2 : b < 4096 := by omega
  have hx : m ^^^ b < 2 ^ 12 := Nat.xor_lt_two_pow (by omega) (by omega)
  have hx0 : m ^^^ b ≠ 0 := fun e => hne (Nat.eq_of_testBit_eq (fun i => by
    have := congrArg (fun z => z.testBit i) e
    simp only [Nat.testBit_xor, Nat.zero_testBit] at this
    revert this
    cases m.testBit i <;> cases b.testBit i <;> decide))
  obtain ⟨i, i0, i1, i2, i3⟩ := lo_n (by omega) hx0
  unfold bts
  rw [bc_n hn hm, bc_n hn hb, ixor_n hm2 hb2, i3, bp_n hm2 i0]
  have dif : m.testBit i ≠ b.testBit i := fun e => by
    rw [Nat.testBit_xor, e] at i1
    revert i1
    cases b.testBit i <;> decide
  have sam : ∀ j, j < i → m.testBit j = b.testBit j := fun j hj => by
    have := i2 j hj
    rw [Nat.testBit_xor] at this
    revert this
    cases m.testBit j <;> cases b.testBit j <;> decide
  constructor
  · rintro (q | ⟨q1, q2⟩)
    · exact Or.inl (by omega)
    · refine Or.inr ⟨by omega, i, i0, q2, ?_, sam⟩
      rw [q2] at dif
      cases e : b.testBit i
      · rfl
      · rw [e] at dif; exact absurd rfl dif
  · rintro (q | ⟨q1, j, j0, j1, j2, j3⟩)
    · exact Or.inl (by omega)
    · refine Or.inr ⟨by omega, ?_⟩
      rcases Nat.lt_trichotomy j i with y | y | y
      · have := sam j y; rw [j1, j2] at this; exact absurd this (by decide)
      · rw [← y]; exact j1
      · exact absurd (j3 i y) dif
/-- the best of the first sets -/
def fbS (fe : Int → Prop) [DecidablePred fe] (m b : Int) : Int := if fe m then (if b = -1 ∨ bts m b then m else b) else b
theorem fb_g {fe : Int → Prop} [DecidablePred fe] {N g : Nat} (hg : fe (g : Int)) (hN : g < N) (ho : ∀ m : Nat, m < N → fe (m : Int) → m ≠ g → bts (g : Int) (m : Int) ∧ ¬ bts (m : Int) (g : Int)) : ∀ M : Nat, M ≤ N → (M ≤ g → fupI (fbS fe) (-1) (M : Int) = -1 ∨ ∃ b : Nat, b < M ∧ fe (b : Int) ∧ fupI (fbS fe) (-1) (M : Int) = (b : Int)) ∧ (g < M → fupI (fbS fe) (-1) (M : Int) = (g : Int)) := by
  intro M
  induction M with
  | zero => intro _; exact ⟨fun _ => Or.inl rfl, fun z => absurd z (by omega)⟩
  | succ M ih =>
    intro hM
    obtain ⟨a, b⟩ := ih (by omega)
    rw [show ((M + 1 : Nat) : Int) = (M : Int) + 1 by omega, fupI_s (by omega)]
    refine ⟨fun z => ?_, fun z => ?_⟩
    · unfold fbS
      by_cases f : fe (M : Int)
      · rw [if_pos f]
        rcases a (by omega) with q | ⟨x, x0, x1, x2⟩
        · exact Or.inr ⟨M, by omega, f, if_pos (Or.inl q)⟩
        · by_cases t : fupI (fbS fe) (-1) (M : Int) = -1 ∨ bts (M : Int) (fupI (fbS fe) (-1) (M : Int))
          · exact Or.inr ⟨M, by omega, f, if_pos t⟩
          · exact Or.inr ⟨x, by omega, x1, (if_neg t).trans x2⟩
      · rw [if_neg f]
        rcases a (by omega) with q | ⟨x, x0, x1, x2⟩
        · exact Or.inl q
        · exact Or.inr ⟨x, by omega, x1, x2⟩
    · by_cases e : M = g
      · subst e
        unfold fbS
        rw [if_pos hg]
        rcases a (Nat.le_refl _) with q | ⟨x, x0, x1, x2⟩
        · exact if_pos (Or.inl q)
        · rw [show fupI (fun m b => if fe m then (if b = -1 ∨ bts m b then m else b) else b) (-1) (M : Int) = (x : Int) from x2]
          exact if_pos (Or.inr (ho x (by omega) x1 (by omega)).1)
      · have b9 := b (by omega)
        unfold fbS
        rw [show fupI (fun m b => if fe m then (if b = -1 ∨ bts m b then m else b) else b) (-1) (M : Int) = (g : Int) from b9]
        by_cases f : fe (M : Int)
        · rw [if_pos f]
          exact if_neg (fun y => by
            rcases y with y | y
            · omega
            · exact (ho M (by omega) f e).2 y)
        · rw [if_neg f]
