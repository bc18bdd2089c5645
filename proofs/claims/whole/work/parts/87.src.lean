/-! ===== sourcing: the pure side ===== -/
/-- how many parts -/
def npF (f : Int → Int) : Int := if f 0 ≤ 0 then 0 else if f 1 ≤ 0 then 1 else if f 2 ≤ 0 then 2 else if f 3 ≤ 0 then 3 else 4
theorem npF_r {f : Int → Int} : (0 ≤ npF f ∧ npF f ≤ 4) ∧ (∀ p, 0 ≤ p → p < npF f → 0 < f p) ∧ (npF f < 4 → f (npF f) ≤ 0) := by
  unfold npF
  by_cases c0 : f 0 ≤ 0
  · rw [if_pos c0]; exact ⟨by omega, fun p h0 h1 => by omega, fun _ => c0⟩
  · rw [if_neg c0]
    by_cases c1 : f 1 ≤ 0
    · rw [if_pos c1]; exact ⟨by omega, fun p h0 h1 => by rw [show p = 0 by omega]; omega, fun _ => c1⟩
    · rw [if_neg c1]
      by_cases c2 : f 2 ≤ 0
      · rw [if_pos c2]; exact ⟨by omega, fun p h0 h1 => by rcases (show p = 0 ∨ p = 1 by omega) with rfl | rfl <;> omega, fun _ => c2⟩
      · rw [if_neg c2]
        by_cases c3 : f 3 ≤ 0
        · rw [if_pos c3]; exact ⟨by omega, fun p h0 h1 => by rcases (show p = 0 ∨ p = 1 ∨ p = 2 by omega) with rfl | rfl | rfl <;> omega, fun _ => c3⟩
        · rw [if_neg c3]; exact ⟨by omega, fun p h0 h1 => by rcases (show p = 0 ∨ p = 1 ∨ p = 2 ∨ p = 3 by omega) with rfl | rfl | rfl | rfl <;> omega, fun z => absurd z (by decide)⟩
/-- a good: land, heading, process, price, to -/
abbrev GD : Type := Int × Int × Int × Int × Int
section SRC
variable (h : AH) (cs : Int → List (Int × List Int)) (g : GD) (w : Int) (t : Int → Int)
def cV (p : Int) : Int := h 168 (4 * p + t p)
/-- whether the offer is own of the web: 1, 0 -/
def cW (p : Int) : Int := iand (ishr (h 170 (4 * p + t p)) w) 1
def cO (p : Int) : Int := if cW h w t p = 0 then cV h t p else 0
def cK (p : Int) : Int := if cW h w t p = 0 then (if h 169 (4 * p + t p) = g.2.1 then cV h t p else 0) else 0
def cB (p : Int) : Int := if cW h w t p = 0 then 0 else if h 171 (4 * p + t p) ≠ g.1 then cV h t p else 0
def cC (p : Int) : Int := if cW h w t p = 0 then 1 else 0
def oLt (i : Int) : Int :=
  if i = 0 then shr (sm (cV h t) (npF (h 167))) g.2.2.2.1
  else if i = 1 then shr (sm (cO h w t) (npF (h 167))) g.2.2.2.1
  else if i = 2 then shr (sm (cK h g w t) (npF (h 167))) g.2.2.2.1
  else if i = 3 then shr (sm (cB h g w t) (npF (h 167))) g.2.2.2.1
  else if i = 4 then sm (cC h w t) (npF (h 167))
  else if i = 5 then g.2.1
  else if i = 6 then g.2.2.1
  else 0
def tLt (i : Int) : Int := if i = 5 then g.2.1 else if i = 7 then idiv (h 116 1) 360 else 0
/-- both lands bound by the web -/
abbrev twoW : Prop := g.1 ≠ g.2.2.2.2 ∧ isM h g.1 w (h 116 1) (h 116 1) = 1 ∧ isM h g.2.2.2.2 w (h 116 1) (h 116 1) = 1
def rtW : Int := max 0 (min 1000 (wth cs (tLt h g) (pOn h w (h 116 1) (h 116 1)) 100))
abbrev okW : Prop := twoW h g w ∧ wth cs (oLt h g w t) (pOn h w (h 116 1) (h 116 1)) 114 ≠ 0
def rS (w r : Int) : Int := if okW h cs g w t then min r (rtW h cs g w) else r
def trf : Int := h 125 (100 * g.2.2.2.2 + g.2.1)
def rtF4 (k : Int) : Int := fupI (rS h cs g t) (trf h g) k
def lrS (w r : Int) : Int := if twoW h g w then min r (rtW h cs g w) else r
def lrF (k : Int) : Int := fupI (lrS h cs g) (trf h g) k
def cst4 : Int := sm (cV h t) (npF (h 167)) + ldiv (g.2.2.2.1 * rtF4 h cs g t 4) 1000
end SRC
section SRC2
variable {h : AH} {cs : Int → List (Int × List Int)} {g : GD} {w k : Int} {t t' : Int → Int}
theorem rtF4_s (hk : 0 ≤ k) : rtF4 h cs g t (k + 1) = rS h cs g t k (rtF4 h cs g t k) := fupI_s hk
theorem lrF_s (hk : 0 ≤ k) : lrF h cs g (k + 1) = lrS h cs g k (lrF h cs g k) := fupI_s hk
theorem rtW_r : 0 ≤ rtW h cs g w ∧ rtW h cs g w ≤ 1000 := by unfold rtW; omega
theorem rtF4_r (ht : 0 ≤ trf h g ∧ trf h g ≤ 1000) (hk : 0 ≤ k) : 0 ≤ rtF4 h cs g t k ∧ rtF4 h cs g t k ≤ 1000 := by
  have key : ∀ m : Nat, 0 ≤ rtF4 h cs g t m ∧ rtF4 h cs g t m ≤ 1000 := by
    intro m
    induction m with
    | zero => exact ht
    | succ m ih =>
      rw [show ((m + 1 : Nat) : Int) = (m : Int) + 1 by omega, rtF4_s (by omega)]
      have := @rtW_r h cs g m
      unfold rS
      split <;> omega
  have := key k.toNat
  rw [Int.toNat_of_nonneg hk] at this
  exact this
theorem lrF_r (ht : 0 ≤ trf h g ∧ trf h g ≤ 1000) (hk : 0 ≤ k) : 0 ≤ lrF h cs g k ∧ lrF h cs g k ≤ 1000 := by
  have key : ∀ m : Nat, 0 ≤ lrF h cs g m ∧ lrF h cs g m ≤ 1000 := by
    intro m
    induction m with
    | zero => exact ht
    | succ m ih =>
      rw [show ((m + 1 : Nat) : Int) = (m : Int) + 1 by omega, lrF_s (by omega)]
      have := @rtW_r h cs g m
      unfold lrS
      split <;> omega
  have := key k.toNat
  rw [Int.toNat_of_nonneg hk] at this
  exact this
theorem lrF_le (hk : 0 ≤ k) : lrF h cs g k ≤ rtF4 h cs g t k := by
  have key : ∀ m : Nat, lrF h cs g m ≤ rtF4 h cs g t m := by
    intro m
    induction m with
    | zero => exact Int.le_refl _
    | succ m ih =>
      rw [show ((m + 1 : Nat) : Int) = (m : Int) + 1 by omega, rtF4_s (by omega), lrF_s (by omega)]
      unfold rS lrS
      by_cases a : twoW h g m
      · rw [if_pos a]
        split <;> omega
      · rw [if_neg a, if_neg (fun z => a z.1)]
        exact ih
  have := key k.toNat
  rw [Int.toNat_of_nonneg hk] at this
  exact this
theorem du1000 {x a b : Int} (hx : 0 ≤ x ∧ x ≤ 1000000) (ha : 0 ≤ a) (hab : a ≤ b) (hb : b ≤ 1000) : 0 ≤ ldiv (x * a) 1000 ∧ ldiv (x * a) 1000 ≤ ldiv (x * b) 1000 ∧ ldiv (x * b) 1000 ≤ 1000000 ∧ (0 ≤ x * a ∧ x * a ≤ 1000000000) ∧ (0 ≤ x * b ∧ x * b ≤ 1000000000) := by
  have h1 : 0 ≤ x * a := Int.mul_nonneg hx.1 ha
  have h2 : x * a ≤ x * b := Int.mul_le_mul_of_nonneg_left hab hx.1
  have h3 : x * b ≤ 1000000 * 1000 := Int.mul_le_mul hx.2 hb (by omega) (by omega)
  rw [ldiv_nn h1 (by omega) (by decide) (by decide), ldiv_nn (by omega) (by omega) (by decide) (by decide)]
  omega
theorem cV_c (e : ∀ p, 0 ≤ p → p < npF (h 167) → t p = t' p) : ∀ p, 0 ≤ p → p < npF (h 167) → cV h t p = cV h t' p := fun p h0 h1 => by unfold cV; rw [e p h0 h1]
theorem cW_c (e : ∀ p, 0 ≤ p → p < npF (h 167) → t p = t' p) : ∀ p, 0 ≤ p → p < npF (h 167) → cW h w t p = cW h w t' p := fun p h0 h1 => by unfold cW; rw [e p h0 h1]
theorem oLt_c (e : ∀ p, 0 ≤ p → p < npF (h 167) → t p = t' p) : oLt h g w t = oLt h g w t' := by
  have e1 : sm (cV h t) (npF (h 167)) = sm (cV h t') (npF (h 167)) := sm_congr (cV_c e)
  have e2 : sm (cO h w t) (npF (h 167)) = sm (cO h w t') (npF (h 167)) := sm_congr (fun p h0 h1 => by unfold cO; rw [cW_c e p h0 h1, cV_c e p h0 h1])
  have e3 : sm (cK h g w t) (npF (h 167)) = sm (cK h g w t') (npF (h 167)) := sm_congr (fun p h0 h1 => by unfold cK; rw [cW_c e p h0 h1, cV_c e p h0 h1, e p h0 h1])
  have e4 : sm (cB h g w t) (npF (h 167)) = sm (cB h g w t') (npF (h 167)) := sm_congr (fun p h0 h1 => by unfold cB; rw [cW_c e p h0 h1, cV_c e p h0 h1, e p h0 h1])
  have e5 : sm (cC h w t) (npF (h 167)) = sm (cC h w t') (npF (h 167)) := sm_congr (fun p h0 h1 => by unfold cC; rw [cW_c e p h0 h1])
  funext i
  unfold oLt
  rw [e1, e2, e3, e4, e5]
theorem cst4_c (e : ∀ p, 0 ≤ p → p < npF (h 167) → t p = t' p) : cst4 h cs g t = cst4 h cs g t' := by
  have e1 : sm (cV h t) (npF (h 167)) = sm (cV h t') (npF (h 167)) := sm_congr (cV_c e)
  have e2 : rtF4 h cs g t 4 = rtF4 h cs g t' 4 := fupI_congr (fun w _ _ r => by unfold rS okW; rw [oLt_c e])
  unfold cst4
  rw [e1, e2]
end SRC2
/-- a number's digits by the radices f, the last the fastest -/
def dgA (f : Int → Int) : Nat → Int → (Int → Int) → (Int → Int)
  | 0, _, T => T
  | m + 1, r, T => dgA f m (r / f m) (fset T m (r % f m))
theorem dgA_out {f : Int → Int} : ∀ {m : Nat} {r j : Int} {T : Int → Int}, (m : Int) ≤ j → dgA f m r T j = T j := by
  intro m
  induction m with
  | zero => intro r j T _; rfl
  | succ m ih =>
    intro r j T hj
    show dgA f m (r / f m) (fset T m (r % f m)) j = T j
    rw [ih (by omega), fset_ne (by omega)]
theorem dgA_c {f : Int → Int} : ∀ {m : Nat} {r j : Int} {T T' : Int → Int}, 0 ≤ j → j < (m : Int) → dgA f m r T j = dgA f m r T' j := by
  intro m
  induction m with
  | zero => intro r j T T' h0 h1; omega
  | succ m ih =>
    intro r j T T' h0 h1
    show dgA f m (r / f m) (fset T m (r % f m)) j = dgA f m (r / f m) (fset T' m (r % f m)) j
    by_cases e : j = m
    · subst e
      rw [dgA_out (Int.le_refl _), dgA_out (Int.le_refl _), fset_same, fset_same]
    · exact ih h0 (by omega)
theorem dgA_s {f : Int → Int} {m : Nat} {r k : Int} {T : Int → Int} (hk : 0 ≤ k) (hk2 : k < f m) : dgA f (m + 1) (r * f m + k) T = dgA f m r (fset T m k) := by
  show dgA f m ((r * f m + k) / f m) (fset T m ((r * f m + k) % f m)) = _
  have e1 : (r * f m + k) / f m = r := by
    rw [Int.add_comm, Int.add_mul_ediv_right _ _ (by omega), Int.ediv_eq_zero_of_lt hk hk2, Int.zero_add]
  have e2 : (r * f m + k) % f m = k := by
    rw [Int.add_comm, Int.add_mul_emod_self_right, Int.emod_eq_of_lt hk hk2]
  rw [e1, e2]
theorem dgA_rng {f : Int → Int} : ∀ {m : Nat} {r j : Int} {T : Int → Int}, (∀ p, 0 ≤ p → p < (m : Int) → 0 < f p) → 0 ≤ j → j < (m : Int) → 0 ≤ dgA f m r T j ∧ dgA f m r T j < f j := by
  intro m
  induction m with
  | zero => intro r j T _ h0 h1; omega
  | succ m ih =>
    intro r j T hf h0 h1
    show 0 ≤ dgA f m (r / f m) (fset T m (r % f m)) j ∧ dgA f m (r / f m) (fset T m (r % f m)) j < f j
    by_cases e : j = m
    · subst e
      rw [dgA_out (Int.le_refl _), fset_same]
      have := hf m (by omega) (by omega)
      exact ⟨Int.emod_nonneg _ (by omega), Int.emod_lt_of_pos _ this⟩
    · exact ih (fun p p0 p1 => hf p p0 (by omega)) h0 (by omega)
/-- the best so far: its cost (-1: none), its pick -/
abbrev SB : Type := Int × (Int → Int)
def bsS (C : (Int → Int) → Int) (t : Int → Int) (s : SB) : SB := if s.1 = -1 ∨ C t < s.1 then (C t, t) else s
/-- the picks from number a on, n of them -/
def rR (C : (Int → Int) → Int) (T : Int → Int → Int) (a : Int) : Nat → SB → SB
  | 0, s => s
  | n + 1, s => bsS C (T (a + n)) (rR C T a n s)
theorem rR_add {C : (Int → Int) → Int} {T : Int → Int → Int} {a : Int} {j : Nat} {s : SB} : ∀ {k : Nat}, rR C T a (j + k) s = rR C T (a + j) k (rR C T a j s) := by
  intro k
  induction k with
  | zero => rfl
  | succ k ih =>
    show bsS C (T (a + ((j + k : Nat) : Int))) (rR C T a (j + k) s) = bsS C (T (a + j + k)) (rR C T (a + j) k (rR C T a j s))
    rw [ih, show a + ((j + k : Nat) : Int) = a + j + k by omega]
/-- the tree of the parts: depth d left, prefix m -/
def sz4 (f : Int → Int) (np : Int) : Nat → Nat
  | 0 => 1
  | d + 1 => (f (np - (d + 1 : Nat))).toNat * sz4 f np d
def tr4 (C : (Int → Int) → Int) (T : Int → Int → Int) (f : Int → Int) (np : Int) : Nat → Int → SB → SB
  | 0, m, s => bsS C (T m) s
  | d + 1, m, s => fup (fun k s => tr4 C T f np d (m * f (np - (d + 1 : Nat)) + k) s) s (f (np - (d + 1 : Nat))).toNat
theorem tr4_rR {C : (Int → Int) → Int} {T : Int → Int → Int} {f : Int → Int} {np : Int} : ∀ {d : Nat} {m : Int} {s : SB}, (∀ p, np - (d : Int) ≤ p → p < np → 0 < f p) → tr4 C T f np d m s = rR C T (m * (sz4 f np d : Int)) (sz4 f np d) s := by
  intro d
  induction d with
  | zero =>
    intro m s _
    show bsS C (T m) s = bsS C (T (m * ((1 : Nat) : Int) + ((0 : Nat) : Int))) s
    rw [show m * ((1 : Nat) : Int) + ((0 : Nat) : Int) = m by omega]
  | succ d ih =>
    intro m s hf
    have hp := hf (np - (d + 1 : Nat)) (by omega) (by omega)
    have key : ∀ n : Nat, fup (fun k s => tr4 C T f np d (m * f (np - (d + 1 : Nat)) + k) s) s n = rR C T (m * f (np - (d + 1 : Nat)) * (sz4 f np d : Int)) (n * sz4 f np d) s := by
      intro n
      induction n with
      | zero => rw [Nat.zero_mul]; rfl
      | succ n ihn =>
        rw [fup, ihn, ih (fun p p0 p1 => hf p (by omega) p1), Nat.succ_mul, rR_add]
        congr 1
        rw [Int.add_mul]
        push_cast
        rfl
    show fup _ s _ = _
    rw [key]
    have e : (sz4 f np (d + 1) : Int) = f (np - (d + 1 : Nat)) * (sz4 f np d : Int) := by
      show (((f (np - (d + 1 : Nat))).toNat * sz4 f np d : Nat) : Int) = _
      rw [Int.natCast_mul, Int.toNat_of_nonneg (by omega)]
    rw [e, Int.mul_assoc]
    rfl
