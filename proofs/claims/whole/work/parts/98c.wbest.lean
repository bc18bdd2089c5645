/-! ===== words struck: the greedy set is the one that trying finds ===== -/
/-- the set as a number -/
def gmN (c : Nat → Bool) : Nat → Nat
  | 0 => 0
  | r + 1 => 2 ^ r * (c r).toNat + gmN c r
theorem gmN_lt {c : Nat → Bool} : ∀ {r : Nat}, gmN c r < 2 ^ r := by
  intro r
  induction r with
  | zero => exact Nat.lt_succ_self 0
  | succ r ih =>
    show 2 ^ r * (c r).toNat + gmN c r < 2 ^ (r + 1)
    rw [Nat.pow_succ]
    cases c r
    · rw [show (false).toNat = 0 from rfl]; omega
    · rw [show (true).toNat = 1 from rfl]; omega
theorem gmN_b {c : Nat → Bool} : ∀ {r i : Nat}, i < r → (gmN c r).testBit i = c i := by
  intro r
  induction r with
  | zero => intro i h; omega
  | succ r ih =>
    intro i hi
    show (2 ^ r * (c r).toNat + gmN c r).testBit i = c i
    rw [Nat.testBit_two_pow_mul_add _ gmN_lt]
    by_cases e : i < r
    · rw [if_pos e]; exact ih e
    · rw [if_neg e, show i = r by omega, Nat.sub_self]
      cases c r <;> rfl
theorem wbest {v : Nat → Int} {n k : Nat} {e : Int} {fe : Int → Prop} [DecidablePred fe] (hn : n ≤ 12) (hv : ∀ i, i < n → 0 ≤ v i ∧ v i ≤ 10000) (hf : ∀ m : Nat, m < 2 ^ n → (fe (m : Int) ↔ e ≤ wSu v n (fun i => m.testBit i) n)) (hk : k ≤ n) (hk1 : e ≤ wMo v n n k) (hk2 : ∀ k', k' < k → wMo v n n k' < e) (hb : -800000 ≤ e) : fupI (fbS fe) (-1) ((2 ^ n : Nat) : Int) = (gmN (wGr v n n k e) n : Int) := by
  have gl := @gmN_lt (wGr v n n k e) n
  have gb : ∀ i, n - n ≤ i → i < n → (fun i => (gmN (wGr v n n k e) n).testBit i) i = wGr v n n k e i := fun i _ i1 => gmN_b i1
  obtain ⟨g1, g2⟩ := wGr_ok hv (r := n) (k := k) (e := e) (Nat.le_refl _) hk hk1 (by omega) hn
  have c1 := wCn_c (Nat.le_refl n) gb
  have s1 := wSu_c (v := v) (Nat.le_refl n) gb
  refine (fb_g (N := 2 ^ n) (g := gmN (wGr v n n k e) n) ((hf _ gl).mpr (by rw [s1]; exact g2)) gl (fun m hm fm hne => ?_) (2 ^ n) (Nat.le_refl _)).2 gl
  have fm2 := (hf m hm).mp fm
  have le := wSu_le (v := v) (c := fun i => m.testBit i) hv (r := n) (Nat.le_refl _)
  have ck : k ≤ wCn n (fun i => m.testBit i) n := by
    by_cases z : k ≤ wCn n (fun i => m.testBit i) n
    · exact z
    · have := hk2 _ (show wCn n (fun i => m.testBit i) n < k by omega)
      omega
  rw [bts_n hn gl hm (fun y => hne y.symm), bts_n hn hm gl hne, c1, g1]
  by_cases z : k = wCn n (fun i => m.testBit i) n
  · rcases wGr_opt (c := fun i => m.testBit i) hv (r := n) (k := k) (e := e) (Nat.le_refl _) z.symm fm2 with q | ⟨i, i0, i1, i2, i3, i4⟩
    · refine absurd (Nat.eq_of_testBit_eq (fun i => ?_)) hne
      by_cases y : i < n
      · rw [gmN_b y]; exact q i (by omega) y
      · rw [Nat.testBit_lt_two_pow (Nat.lt_of_lt_of_le hm (Nat.pow_le_pow_right (by decide) (by omega))), Nat.testBit_lt_two_pow (Nat.lt_of_lt_of_le gl (Nat.pow_le_pow_right (by decide) (by omega)))]
    · refine ⟨Or.inr ⟨z, i, by omega, by rw [gmN_b i1]; exact i2, i3, fun j hj => by rw [gmN_b (by omega)]; exact (i4 j (by omega) hj).symm⟩, fun y => ?_⟩
      rcases y with y | ⟨_, j, j0, j1, j2, j3⟩
      · omega
      · rcases Nat.lt_trichotomy j i with w | w | w
        · have a := i4 j (by omega) w
          have a2 : m.testBit j = wGr v n n k e j := a
          rw [← gmN_b (c := wGr v n n k e) (r := n) (by omega), j1, j2] at a2
          exact absurd a2 (by decide)
        · subst w
          have a3 : m.testBit j = false := i3
          rw [j1] at a3
          exact absurd a3 (by decide)
        · have a := j3 i w
          have a3 : m.testBit i = false := i3
          rw [a3, gmN_b i1, i2] at a
          exact absurd a (by decide)
  · exact ⟨Or.inl (by omega), fun y => by rcases y with y | y <;> omega⟩
