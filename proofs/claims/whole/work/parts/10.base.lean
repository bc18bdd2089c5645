/-! ===== loops and their sums ===== -/
theorem loop_up {N : Int} (W : Int → Prop) (hx : W N) (hs : ∀ k, 0 ≤ k → k < N → W (k + 1) → W k) : ∀ k, 0 ≤ k → k ≤ N → W k := by
  have key : ∀ (m : Nat) (k : Int), 0 ≤ k → k + m = N → W k := by
    intro m
    induction m with
    | zero => intro k h0 h1; have e : k = N := by omega
              rw [e]; exact hx
    | succ m ih => intro k h0 h1; exact hs k h0 (by omega) (ih (k + 1) (by omega) (by omega))
  intro k h0 h1
  exact key (N - k).toNat k h0 (by omega)
/-- a loop from s on: k from a to N -/
theorem loop_from {N : Int} (a : Int) (W : Int → Prop) (hx : W N) (hs : ∀ k, a ≤ k → k < N → W (k + 1) → W k) : ∀ k, a ≤ k → k ≤ N → W k := by
  have key : ∀ (m : Nat) (k : Int), a ≤ k → k + m = N → W k := by
    intro m
    induction m with
    | zero => intro k h0 h1; have e : k = N := by omega
              rw [e]; exact hx
    | succ m ih => intro k h0 h1; exact hs k h0 (by omega) (ih (k + 1) (by omega) (by omega))
  intro k h0 h1
  exact key (N - k).toNat k h0 (by omega)
/-- what a loop over 0 .. n - 1 makes of s -/
def fup {σ : Type} (f : Int → σ → σ) (s : σ) : Nat → σ
  | 0 => s
  | n + 1 => f n (fup f s n)
def fupI {σ : Type} (f : Int → σ → σ) (s : σ) (k : Int) : σ := fup f s k.toNat
theorem fupI_0 {σ : Type} {f : Int → σ → σ} {s : σ} : fupI f s 0 = s := rfl
theorem fupI_s {σ : Type} {f : Int → σ → σ} {s : σ} {k : Int} (h : 0 ≤ k) : fupI f s (k + 1) = f k (fupI f s k) := by
  unfold fupI
  have e : (k + 1).toNat = k.toNat + 1 := by omega
  rw [e, fup, Int.toNat_of_nonneg h]
theorem fup_congr {σ : Type} {f g : Int → σ → σ} {s : σ} : ∀ {n : Nat}, (∀ k : Nat, k < n → ∀ t, f k t = g k t) → fup f s n = fup g s n := by
  intro n
  induction n with
  | zero => intro _; rfl
  | succ n ih => intro h; rw [fup, fup, ih (fun k hk t => h k (by omega) t), h n (by omega)]
theorem fupI_congr {σ : Type} {f g : Int → σ → σ} {s : σ} {n : Int} (h : ∀ k : Int, 0 ≤ k → k < n → ∀ t, f k t = g k t) : fupI f s n = fupI g s n := fup_congr fun k hk t => h k (by omega) (by omega) t
theorem tg_0 : ∀ v ∈ ([] : List AV), v.1 < 8 := fun v h => by cases h
theorem tg_c {t : Nat} {x : Int} {vs : List AV} (ht : t < 8) (h : ∀ v ∈ vs, v.1 < 8) : ∀ v ∈ (t, x) :: vs, v.1 < 8 := fun v hv => by
  rcases List.mem_cons.mp hv with q | q
  · rw [q]; exact ht
  · exact h v q
theorem pl_X0 : plainName RX0 = true := by decide +kernel
theorem pl_X1 : plainName RX1 = true := by decide +kernel
theorem pl_X2 : plainName RX2 = true := by decide +kernel
theorem pl_X3 : plainName RX3 = true := by decide +kernel
theorem pl_X4 : plainName RX4 = true := by decide +kernel
theorem pl_X5 : plainName RX5 = true := by decide +kernel
theorem pl_X6 : plainName RX6 = true := by decide +kernel
theorem pl_X7 : plainName RX7 = true := by decide +kernel
theorem pl_X8 : plainName RX8 = true := by decide +kernel
theorem pl_X9 : plainName RX9 = true := by decide +kernel
theorem pl_X10 : plainName RX10 = true := by decide +kernel
theorem pl_X11 : plainName RX11 = true := by decide +kernel
theorem pl_X12 : plainName RX12 = true := by decide +kernel
theorem c32 {n : Int} (h : decide (-2147483648 ≤ n ∧ n < 2147483648) = true) : ok32 n := by unfold ok32; exact of_decide_eq_true h
theorem c64 {n : Int} (h : decide (-9223372036854775808 ≤ n ∧ n < 9223372036854775808) = true) : ok64 n := by unfold ok64; exact of_decide_eq_true h
