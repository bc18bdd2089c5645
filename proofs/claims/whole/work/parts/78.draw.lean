/-! ===== draws: the pure side ===== -/
theorem lushr33 {x : Int} : 0 ≤ lushr x 33 ∧ lushr x 33 < 2147483648 := by
  unfold lushr
  rw [show ((Int32.ofInt 33).toInt64.toUInt64 &&& Int64.toUInt64 63) = (33 : UInt64) by decide]
  generalize (Int64.ofInt x).toUInt64 = u
  have h1 : (u >>> (33 : UInt64)).toNat = u.toNat >>> (33 % 64) := UInt64.toNat_shiftRight u 33
  have h2 : u.toNat < 18446744073709551616 := u.toNat_lt
  have h3 : (u >>> (33 : UInt64)).toNat < 2147483648 := by
    rw [h1, Nat.shiftRight_eq_div_pow]
    show u.toNat / 8589934592 < 2147483648
    omega
  show 0 ≤ (u >>> (33 : UInt64)).toBitVec.toInt ∧ (u >>> (33 : UInt64)).toBitVec.toInt < _
  rw [BitVec.toInt_eq_toNat_cond]
  have h4 : (u >>> (33 : UInt64)).toBitVec.toNat = (u >>> (33 : UInt64)).toNat := rfl
  rw [h4]
  split <;> omega
theorem lrem_nn {x y : Int} (hx : 0 ≤ x) (hx2 : x < 2147483648) (hy : 0 < y) (hy2 : y < 2147483648) : lrem x y = x % y := by
  unfold lrem
  have e := ldiv_nn (x := x) (y := y) hx (by omega) hy (by omega)
  unfold ldiv at e
  have h1 : 0 ≤ x / y := Int.ediv_nonneg hx (by omega)
  have h3 : x / y * y ≤ x := Int.ediv_mul_le _ (by omega)
  have h4 : 0 ≤ x / y * y := Int.mul_nonneg h1 (by omega)
  have e2 : (Int64.ofInt x / Int64.ofInt y * Int64.ofInt y).toInt = x / y * y := by
    rw [Int64.toInt_mul, e, t64 (by unfold ok64; omega)]
    exact Int.bmod_eq_of_le (by omega) (by omega)
  rw [Int64.toInt_sub, e2, t64 (by unfold ok64; omega), Int.emod_def, Int.mul_comm y]
  exact Int.bmod_eq_of_le (by omega) (by omega)
/-- the first behind whose weights the place lies -/
def pkA (W : Int → Int) : Nat → Int → Int → Int
  | 0, _, _ => 0
  | m + 1, j, r => if r < W j then j else pkA W m (j + 1) (r - W j)
def dpk (W : Int → Int) (n r : Int) : Int := pkA W n.toNat 0 r
/-- the sum of weights from j on -/
def smF (W : Int → Int) : Nat → Int → Int
  | 0, _ => 0
  | m + 1, j => W j + smF W m (j + 1)
theorem smF_sm {W : Int → Int} {m : Nat} : ∀ {j : Int}, 0 ≤ j → sm W j + smF W m j = sm W (j + m) := by
  induction m with
  | zero => intro j hj; show sm W j + 0 = _; rw [show j + ((0 : Nat) : Int) = j by omega]; omega
  | succ m ih =>
    intro j hj
    have := ih (j := j + 1) (by omega)
    rw [sm_s hj] at this
    show sm W j + (W j + smF W m (j + 1)) = _
    rw [show j + ((m + 1 : Nat) : Int) = j + 1 + (m : Int) by omega, ← this]
    omega
theorem pkA_rng {W : Int → Int} {m : Nat} : ∀ {j r : Int}, 0 ≤ r → r < smF W m j → j ≤ pkA W m j r ∧ pkA W m j r < j + m ∧ 0 < W (pkA W m j r) := by
  induction m with
  | zero => intro j r h0 h1; exact absurd h1 (by show ¬ r < 0; omega)
  | succ m ih =>
    intro j r h0 h1
    rw [pkA]
    by_cases c : r < W j
    · rw [if_pos c]; exact ⟨Int.le_refl _, by omega, by omega⟩
    · rw [if_neg c]
      have h2 : r < W j + smF W m (j + 1) := h1
      have := ih (j := j + 1) (r := r - W j) (by omega) (by omega)
      exact ⟨by omega, by omega, this.2.2⟩
theorem dpk_rng {W : Int → Int} {n r : Int} (hn : 0 ≤ n) (h0 : 0 ≤ r) (h1 : r < sm W n) : 0 ≤ dpk W n r ∧ dpk W n r < n ∧ 0 < W (dpk W n r) := by
  have e := smF_sm (W := W) (m := n.toNat) (j := 0) (Int.le_refl _)
  rw [sm_0, Int.zero_add, Int.zero_add, Int.toNat_of_nonneg hn] at e
  have := pkA_rng (W := W) (m := n.toNat) (j := 0) (r := r) h0 (by omega)
  unfold dpk
  omega
theorem sm_fset {W : Int → Int} {n j v : Int} (hj : 0 ≤ j) (hn : j < n) : sm (fset W j v) n = sm W n - W j + v := by
  have key : ∀ m : Nat, ((m : Int) ≤ j → sm (fset W j v) m = sm W m) ∧ (j < m → sm (fset W j v) m = sm W m - W j + v) := by
    intro m
    induction m with
    | zero => exact ⟨fun _ => rfl, fun h => by omega⟩
    | succ m ih =>
      have e : ((m + 1 : Nat) : Int) = (m : Int) + 1 := by omega
      rw [e, sm_s (by omega), sm_s (by omega)]
      refine ⟨fun h => ?_, fun h => ?_⟩
      · rw [ih.1 (by omega), fset_ne (by omega)]
      · by_cases c : (m : Int) = j
        · rw [ih.1 (by omega), c, fset_same]; omega
        · rw [ih.2 (by omega), fset_ne c]; omega
  have := (key n.toNat).2 (by omega)
  rw [Int.toNat_of_nonneg (by omega)] at this
  exact this
/-- how many weigh anything -/
def psC (W : Int → Int) (s : Int) : Int := if 0 < W s then 1 else 0
theorem psC_fset {W : Int → Int} {j : Int} : psC (fset W j 0) = fset (psC W) j 0 := by
  funext s
  unfold psC
  by_cases e : s = j
  · subst e; rw [fset_same, fset_same]; rfl
  · rw [fset_ne e, fset_ne e]
theorem sm_mono {f g : Int → Int} {n : Int} (h : ∀ i, 0 ≤ i → i < n → f i ≤ g i) (hn : 0 ≤ n) : sm f n ≤ sm g n := by
  have key : ∀ m : Nat, (m : Int) ≤ n → sm f m ≤ sm g m := by
    intro m
    induction m with
    | zero => intro _; exact Int.le_refl _
    | succ m ih =>
      intro hm
      rw [show ((m + 1 : Nat) : Int) = (m : Int) + 1 by omega, sm_s (by omega), sm_s (by omega)]
      have := ih (by omega)
      have := h m (by omega) (by omega)
      omega
  have := key n.toNat (by omega)
  rw [Int.toNat_of_nonneg hn] at this
  exact this
abbrev DT : Type := Int × Int × (Int → Int) × Int
def mrk (p : DT) : Int := lrem (lushr (ladd (lmul p.1 6364136223846793005) 1442695040888963407) 33) p.2.1
/-- one drawn -/
def dS (n : Int) (p : DT) : DT := (ladd (lmul p.1 6364136223846793005) 1442695040888963407, p.2.1 - p.2.2.1 (dpk p.2.2.1 n (mrk p)), fset p.2.2.1 (dpk p.2.2.1 n (mrk p)) 0, dpk p.2.2.1 n (mrk p))
def dF (n : Int) (p : DT) (k : Int) : DT := fupI (fun _ p => dS n p) p k
theorem dF_s {n k : Int} {p : DT} (h : 0 ≤ k) : dF n p (k + 1) = dS n (dF n p k) := fupI_s h
/-- what holds while it is drawn: how many are left -/
def DI (n left : Int) (p : DT) : Prop := p.2.1 = sm p.2.2.1 n ∧ sm (psC p.2.2.1) n = left ∧ ∀ s, 0 ≤ s → s < n → 0 ≤ p.2.2.1 s ∧ p.2.2.1 s ≤ 200000
theorem DI_pos {n left : Int} {p : DT} (hn : 0 ≤ n ∧ n ≤ 100) (D : DI n left p) (hl : 0 < left) : 0 < p.2.1 ∧ p.2.1 ≤ 20000000 := by
  have h1 := sm_mono (f := psC p.2.2.1) (g := p.2.2.1) (n := n) (fun i i0 i1 => by have := D.2.2 i i0 i1; unfold psC; split <;> omega) hn.1
  have h2 := sm_rng (f := p.2.2.1) (N := n) (B := 200000) D.2.2 n hn.1 (Int.le_refl _)
  rw [D.1]
  have := D.2.1
  omega
theorem mrk_rng {p : DT} (h0 : 0 < p.2.1) (h1 : p.2.1 ≤ 20000000) : 0 ≤ mrk p ∧ mrk p < p.2.1 := by
  have h := @lushr33 (ladd (lmul p.1 6364136223846793005) 1442695040888963407)
  unfold mrk
  rw [lrem_nn h.1 h.2 h0 (by omega)]
  exact ⟨Int.emod_nonneg _ (by omega), Int.emod_lt_of_pos _ h0⟩
theorem DI_pick {n left : Int} {p : DT} (hn : 0 ≤ n ∧ n ≤ 100) (D : DI n left p) (hl : 0 < left) : 0 ≤ dpk p.2.2.1 n (mrk p) ∧ dpk p.2.2.1 n (mrk p) < n ∧ 0 < p.2.2.1 (dpk p.2.2.1 n (mrk p)) := by
  have h1 := DI_pos hn D hl
  have h2 := mrk_rng h1.1 h1.2
  exact dpk_rng hn.1 h2.1 (by rw [← D.1]; exact h2.2)
theorem DI_s {n left : Int} {p : DT} (hn : 0 ≤ n ∧ n ≤ 100) (D : DI n left p) (hl : 0 < left) : DI n (left - 1) (dS n p) := by
  have h := DI_pick hn D hl
  refine ⟨?_, ?_, fun s s0 s1 => ?_⟩
  · show p.2.1 - _ = sm (fset _ _ 0) n
    rw [sm_fset h.1 h.2.1, D.1]
    omega
  · show sm (psC (fset _ _ 0)) n = _
    rw [psC_fset, sm_fset h.1 h.2.1, D.2.1]
    have : psC p.2.2.1 (dpk p.2.2.1 n (mrk p)) = 1 := if_pos h.2.2
    omega
  · show 0 ≤ fset _ _ 0 s ∧ fset _ _ 0 s ≤ 200000
    by_cases e : s = dpk p.2.2.1 n (mrk p)
    · rw [e, fset_same]; omega
    · rw [fset_ne e]; exact D.2.2 s s0 s1
/-- a shipment's weight -/
def wF (h : AH) (cs : Int → List (Int × List Int)) (s : Int) : Int := if stF h cs s (h 116 1) = 1 then wgt h cs s (h 116 1) else 0
theorem wgt_rng {h : AH} {cs : Int → List (Int × List Int)} (I : CI h cs) {s q : Int} (hs : 0 ≤ s ∧ s < h 116 65) : 1 ≤ wgt h cs s q ∧ wgt h cs s q ≤ 100001 := by
  have sh := I.S.2.2.1 s hs.1 hs.2
  have W := I.W
  unfold wgt
  split
  · omega
  · have he := W.en (h 150 s) sh.1.1 sh.1.2
    have hv := W.ev (q := q) sh.1.1 sh.1.2
    have hp := W.pb (q := q) sh.1.1 sh.1.2
    have r2 := sm_rng (f := fO h (fun e => own h cs (h 153 s) q (-1) e) (h 150 s) q) (hfO hv) _ he.1 (Int.le_refl _)
    have := shr_rng (p := sm (fO h (fun e => own h cs (h 153 s) q (-1) e) (h 150 s) q) (h 137 (h 150 s))) (w := prc h q (h 150 s) * h 132 (h 150 s)) (by omega) (by omega) (by omega) (by omega)
    rw [show mLt h (fun e => own h cs (h 153 s) q (-1) e) (h 150 s) q 1 = shr (sm (fO h (fun e => own h cs (h 153 s) q (-1) e) (h 150 s) q) (h 137 (h 150 s))) (prc h q (h 150 s) * h 132 (h 150 s)) from rfl, idiv_nn (by omega) (by omega) (by decide) (by decide)]
    omega
theorem wF_rng {h : AH} {cs : Int → List (Int × List Int)} (I : CI h cs) : ∀ s, 0 ≤ s → s < h 116 65 → 0 ≤ wF h cs s ∧ wF h cs s ≤ 200000 := fun s h0 h1 => by
  have := wgt_rng (q := h 116 1) I ⟨h0, h1⟩
  unfold wF
  split <;> omega
theorem psC_wF {h : AH} {cs : Int → List (Int × List Int)} (I : CI h cs) : sm (psC (wF h cs)) (h 116 65) = sm (cP h cs (h 116 1)) (h 116 65) :=
  sm_congr (fun i h0 h1 => by
    have := wgt_rng (q := h 116 1) I (s := i) ⟨h0, h1⟩
    unfold psC wF cP
    by_cases e : stF h cs i (h 116 1) = 1
    · rw [if_pos e, if_pos e, if_pos (by omega)]
    · rw [if_neg e, if_neg e]; rfl)
theorem DI_0 {h : AH} {cs : Int → List (Int × List Int)} (I : CI h cs) {x : Int} : DI (h 116 65) (sm (cP h cs (h 116 1)) (h 116 65)) (x, sm (wF h cs) (h 116 65), wF h cs, -1) :=
  ⟨rfl, psC_wF I, wF_rng I⟩
