/-! ===== words struck: the pure side ===== -/
section WDS
variable (v : Nat → Int) (n : Nat)
/-- the most that k of the last r words are together -/
def wMo : Nat → Nat → Int
  | 0, 0 => 0
  | 0, _ + 1 => -10000000
  | _ + 1, 0 => 0
  | r + 1, k + 1 => max (wMo r (k + 1)) (v (n - (r + 1)) + wMo r k)
/-- how many of the last r words are chosen; their sum -/
def wCn (c : Nat → Bool) : Nat → Nat
  | 0 => 0
  | r + 1 => (if c (n - (r + 1)) then 1 else 0) + wCn c r
def wSu (c : Nat → Bool) : Nat → Int
  | 0 => 0
  | r + 1 => (if c (n - (r + 1)) then v (n - (r + 1)) else 0) + wSu c r
/-- whether the greedy way takes the first of the last r + 1 -/
abbrev wTk (r k : Nat) (e : Int) : Prop := 0 < k ∧ e ≤ v (n - (r + 1)) + wMo v n r (k - 1)
def wGr : Nat → Nat → Int → Nat → Bool
  | 0, _, _ => fun _ => false
  | r + 1, k, e => fun i =>
    if i = n - (r + 1) then decide (wTk v n r k e)
    else if wTk v n r k e then wGr r (k - 1) (e - v (n - (r + 1))) i else wGr r k e i
end WDS
section WDT
variable {v : Nat → Int} {n : Nat} {c c' : Nat → Bool}
theorem wCn_c : ∀ {r : Nat}, r ≤ n → (∀ i, n - r ≤ i → i < n → c i = c' i) → wCn n c r = wCn n c' r := by
  intro r
  induction r with
  | zero => intro _ _; rfl
  | succ r ih =>
    intro hr h
    show (if c (n - (r + 1)) then 1 else 0) + wCn n c r = (if c' (n - (r + 1)) then 1 else 0) + wCn n c' r
    rw [h (n - (r + 1)) (Nat.le_refl _) (by omega), ih (by omega) (fun i i0 i1 => h i (by omega) i1)]
theorem wSu_c : ∀ {r : Nat}, r ≤ n → (∀ i, n - r ≤ i → i < n → c i = c' i) → wSu v n c r = wSu v n c' r := by
  intro r
  induction r with
  | zero => intro _ _; rfl
  | succ r ih =>
    intro hr h
    show (if c (n - (r + 1)) then v (n - (r + 1)) else 0) + wSu v n c r = (if c' (n - (r + 1)) then v (n - (r + 1)) else 0) + wSu v n c' r
    rw [h (n - (r + 1)) (Nat.le_refl _) (by omega), ih (by omega) (fun i i0 i1 => h i (by omega) i1)]
theorem wMo_s {r k : Nat} : wMo v n (r + 1) (k + 1) = max (wMo v n r (k + 1)) (v (n - (r + 1)) + wMo v n r k) := rfl
theorem wMo_0 {r : Nat} : wMo v n r 0 = 0 := by cases r <;> rfl
/-- more words than there are: impossible -/
theorem wMo_i (hv : ∀ i, i < n → 0 ≤ v i ∧ v i ≤ 10000) : ∀ {r k : Nat}, r ≤ n → r < k → wMo v n r k ≤ -10000000 + 10000 * (r : Int) := by
  intro r
  induction r with
  | zero =>
    intro k _ hk
    cases k with
    | zero => omega
    | succ k => show (-10000000 : Int) ≤ _; omega
  | succ r ih =>
    intro k hr hk
    cases k with
    | zero => omega
    | succ k =>
      rw [wMo_s]
      have h1 := ih (k := k + 1) (by omega) (by omega)
      have h2 := ih (k := k) (by omega) (by omega)
      have h3 := hv (n - (r + 1)) (by omega)
      omega
theorem wSu_le (hv : ∀ i, i < n → 0 ≤ v i ∧ v i ≤ 10000) : ∀ {r : Nat}, r ≤ n → wSu v n c r ≤ wMo v n r (wCn n c r) := by
  intro r
  induction r with
  | zero => intro _; exact Int.le_refl _
  | succ r ih =>
    intro hr
    have h1 := ih (by omega)
    have h3 := hv (n - (r + 1)) (by omega)
    show (if c (n - (r + 1)) then v (n - (r + 1)) else 0) + wSu v n c r ≤ wMo v n (r + 1) ((if c (n - (r + 1)) then 1 else 0) + wCn n c r)
    by_cases z : c (n - (r + 1)) = true
    · rw [if_pos z, if_pos z, Nat.add_comm 1, wMo_s]
      omega
    · rw [if_neg z, if_neg z, Nat.zero_add]
      cases hk : wCn n c r with
      | zero =>
        rw [hk, wMo_0] at h1
        rw [wMo_0]
        omega
      | succ k =>
        rw [hk] at h1
        rw [wMo_s]
        omega
theorem wGr_at {r k : Nat} {e : Int} : wGr v n (r + 1) k e (n - (r + 1)) = decide (wTk v n r k e) := if_pos rfl
theorem wGr_t {r k i : Nat} {e : Int} (hi : i ≠ n - (r + 1)) (t : wTk v n r k e) : wGr v n (r + 1) k e i = wGr v n r (k - 1) (e - v (n - (r + 1))) i := by
  show (if i = n - (r + 1) then decide (wTk v n r k e) else if wTk v n r k e then wGr v n r (k - 1) (e - v (n - (r + 1))) i else wGr v n r k e i) = _
  rw [if_neg hi, if_pos t]
theorem wGr_f {r k i : Nat} {e : Int} (hi : i ≠ n - (r + 1)) (t : ¬ wTk v n r k e) : wGr v n (r + 1) k e i = wGr v n r k e i := by
  show (if i = n - (r + 1) then decide (wTk v n r k e) else if wTk v n r k e then wGr v n r (k - 1) (e - v (n - (r + 1))) i else wGr v n r k e i) = _
  rw [if_neg hi, if_neg t]
/-- the greedy way takes k words that are enough -/
theorem wGr_ok (hv : ∀ i, i < n → 0 ≤ v i ∧ v i ≤ 10000) : ∀ {r k : Nat} {e : Int}, r ≤ n → k ≤ r → e ≤ wMo v n r k → -1000000 + 10000 * (r : Int) ≤ e → r ≤ 12 → wCn n (wGr v n r k e) r = k ∧ e ≤ wSu v n (wGr v n r k e) r := by
  intro r
  induction r with
  | zero =>
    intro k e _ hk he _ _
    obtain rfl : k = 0 := by omega
    exact ⟨rfl, he⟩
  | succ r ih =>
    intro k e hr hk he hb h12
    have h3 := hv (n - (r + 1)) (by omega)
    show (if wGr v n (r + 1) k e (n - (r + 1)) then 1 else 0) + wCn n (wGr v n (r + 1) k e) r = k ∧ e ≤ (if wGr v n (r + 1) k e (n - (r + 1)) then v (n - (r + 1)) else 0) + wSu v n (wGr v n (r + 1) k e) r
    rw [wGr_at]
    by_cases t : wTk v n r k e
    · have ec : ∀ i, n - r ≤ i → i < n → wGr v n (r + 1) k e i = wGr v n r (k - 1) (e - v (n - (r + 1))) i := fun i i0 i1 => wGr_t (by omega) t
      rw [wCn_c (by omega) ec, wSu_c (by omega) ec]
      have t2 := t.2
      have i9 := ih (k := k - 1) (e := e - v (n - (r + 1))) (by omega) (by omega) (by omega) (by omega) (by omega)
      have t1 := t.1
      rw [if_pos (decide_eq_true t), if_pos (decide_eq_true t)]
      omega
    · have ec : ∀ i, n - r ≤ i → i < n → wGr v n (r + 1) k e i = wGr v n r k e i := fun i i0 i1 => wGr_f (by omega) t
      rw [wCn_c (by omega) ec, wSu_c (by omega) ec]
      have nt : ¬ (decide (wTk v n r k e) = true) := fun z => t (of_decide_eq_true z)
      rw [if_neg nt, if_neg nt]
      cases k with
      | zero =>
        have i9 := ih (k := 0) (e := e) (by omega) (by omega) (by rw [wMo_0] at he ⊢; exact he) (by omega) (by omega)
        omega
      | succ k =>
        rw [wMo_s] at he
        have nt2 : ¬ (e ≤ v (n - (r + 1)) + wMo v n r k) := fun z => t ⟨by omega, z⟩
        have i8 : k + 1 ≤ r := by
          by_cases z : k + 1 ≤ r
          · exact z
          · have := wMo_i hv (r := r) (k := k + 1) (by omega) (by omega)
            omega
        have i9 := ih (k := k + 1) (e := e) (by omega) i8 (by omega) (by omega) (by omega)
        omega
/-- and no other k words that are enough come before it -/
theorem wGr_opt (hv : ∀ i, i < n → 0 ≤ v i ∧ v i ≤ 10000) : ∀ {r k : Nat} {e : Int}, r ≤ n → wCn n c r = k → e ≤ wSu v n c r → (∀ i, n - r ≤ i → i < n → c i = wGr v n r k e i) ∨ ∃ i, n - r ≤ i ∧ i < n ∧ wGr v n r k e i = true ∧ c i = false ∧ ∀ j, n - r ≤ j → j < i → c j = wGr v n r k e j := by
  intro r
  induction r with
  | zero => intro k e _ _ _; exact Or.inl (fun i i0 i1 => by omega)
  | succ r ih =>
    intro k e hr hk he
    have h3 := hv (n - (r + 1)) (by omega)
    have hk2 : (if c (n - (r + 1)) then 1 else 0) + wCn n c r = k := hk
    have he2 : e ≤ (if c (n - (r + 1)) then v (n - (r + 1)) else 0) + wSu v n c r := he
    have hl := wSu_le (v := v) (c := c) hv (r := r) (by omega)
    by_cases t : wTk v n r k e
    · have ec : ∀ i, n - r ≤ i → i < n → wGr v n (r + 1) k e i = wGr v n r (k - 1) (e - v (n - (r + 1))) i := fun i i0 i1 => wGr_t (by omega) t
      by_cases z : c (n - (r + 1)) = true
      · rw [if_pos z] at hk2 he2
        rcases ih (k := k - 1) (e := e - v (n - (r + 1))) (by omega) (by omega) (by omega) with q | ⟨i, i0, i1, i2, i3, i4⟩
        · refine Or.inl (fun i i0 i1 => ?_)
          by_cases y : i = n - (r + 1)
          · rw [y, wGr_at, z]; exact (decide_eq_true t).symm
          · rw [ec i (by omega) i1]; exact q i (by omega) i1
        · refine Or.inr ⟨i, by omega, i1, by rw [ec i i0 i1]; exact i2, i3, fun j j0 j1 => ?_⟩
          by_cases y : j = n - (r + 1)
          · rw [y, wGr_at, z]; exact (decide_eq_true t).symm
          · rw [ec j (by omega) (by omega)]; exact i4 j (by omega) j1
      · exact Or.inr ⟨n - (r + 1), by omega, by omega, by rw [wGr_at]; exact decide_eq_true t, by simpa using z, fun j j0 j1 => by omega⟩
    · have ec : ∀ i, n - r ≤ i → i < n → wGr v n (r + 1) k e i = wGr v n r k e i := fun i i0 i1 => wGr_f (by omega) t
      have z : ¬ c (n - (r + 1)) = true := fun z => by
        rw [if_pos z] at hk2 he2
        refine t ⟨by omega, ?_⟩
        rw [show k - 1 = wCn n c r by omega]
        omega
      rw [if_neg z] at hk2 he2
      have zf : c (n - (r + 1)) = false := by simpa using z
      have tf : decide (wTk v n r k e) = false := decide_eq_false t
      rcases ih (k := k) (e := e) (by omega) (by omega) (by omega) with q | ⟨i, i0, i1, i2, i3, i4⟩
      · refine Or.inl (fun i i0 i1 => ?_)
        by_cases y : i = n - (r + 1)
        · rw [y, wGr_at, zf, tf]
        · rw [ec i (by omega) i1]; exact q i (by omega) i1
      · refine Or.inr ⟨i, by omega, i1, by rw [ec i i0 i1]; exact i2, i3, fun j j0 j1 => ?_⟩
        by_cases y : j = n - (r + 1)
        · rw [y, wGr_at, zf, tf]
        · rw [ec j (by omega) (by omega)]; exact i4 j (by omega) j1
end WDT
