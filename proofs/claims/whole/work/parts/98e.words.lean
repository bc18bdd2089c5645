/-! ===== words struck: what both sides do, the pure side ===== -/
/-- how many of the first k are such -/
def pkC (c : Int → Prop) [DecidablePred c] (k : Int) : Int := sm (fun i => if c i then 1 else 0) k
/-- the i-th of the first k that are such -/
def pkP (c : Int → Prop) [DecidablePred c] : Nat → Int → Int
  | 0, _ => 0
  | k + 1, i => if c (k : Int) ∧ pkC c (k : Int) = i then (k : Int) else pkP c k i
section PKC
variable {c : Int → Prop}
theorem pkC_1 [DecidablePred c] {k : Int} (hk : 0 ≤ k) (e : c k) : pkC c (k + 1) = pkC c k + 1 := by
  unfold pkC
  rw [sm_s hk, if_pos e]
theorem pkC_0 [DecidablePred c] {k : Int} (hk : 0 ≤ k) (e : ¬ c k) : pkC c (k + 1) = pkC c k := by
  unfold pkC
  rw [sm_s hk, if_neg e, Int.add_zero]
theorem pkC_r [DecidablePred c] {k : Int} (hk : 0 ≤ k) : 0 ≤ pkC c k ∧ pkC c k ≤ k := by
  have := sm_rng (f := fun i => if c i then (1 : Int) else 0) (N := k) (B := 1) (fun i _ _ => by split <;> omega) k hk (Int.le_refl _)
  unfold pkC
  omega
theorem pkC_le [DecidablePred c] {a k : Int} (ha : 0 ≤ a) (hk : a ≤ k) : pkC c a ≤ pkC c k := sm_le (f := fun i => if c i then (1 : Int) else 0) (N := k) (fun i _ _ => by split <;> omega) ha hk (Int.le_refl _)
theorem pkC_lt [DecidablePred c] {a k : Int} (ha : 0 ≤ a) (hk : a < k) (e : c a) : pkC c a + 1 ≤ pkC c k := by
  have h1 := pkC_1 ha e
  have h2 := pkC_le (c := c) (a := a + 1) (k := k) (by omega) (by omega)
  omega
theorem pkC_z [DecidablePred c] {a k : Int} (ha : 0 ≤ a) (hk : a ≤ k) (z : ∀ j, a ≤ j → j < k → ¬ c j) : pkC c k = pkC c a := by
  have key : ∀ m : Nat, a + m ≤ k → pkC c (a + m) = pkC c a := by
    intro m
    induction m with
    | zero => intro _; rw [show a + ((0 : Nat) : Int) = a by omega]
    | succ m ih =>
      intro q
      rw [show a + ((m + 1 : Nat) : Int) = (a + m) + 1 by omega, pkC_0 (by omega) (z _ (by omega) (by omega))]
      exact ih (by omega)
  have := key (k - a).toNat (by omega)
  rw [show a + ((k - a).toNat : Int) = k by omega] at this
  exact this
theorem pkP_ex [DecidablePred c] {k : Nat} : ∀ {i : Int}, 0 ≤ i → i < pkC c (k : Int) → ∃ j, 0 ≤ j ∧ j < (k : Int) ∧ c j ∧ pkC c j = i := by
  induction k with
  | zero => intro i h0 h1; have h2 : pkC c ((0 : Nat) : Int) = 0 := rfl; omega
  | succ k ih =>
    intro i h0 h1
    rw [show ((k + 1 : Nat) : Int) = (k : Int) + 1 by omega] at h1
    by_cases e : c (k : Int)
    · rw [pkC_1 (by omega) e] at h1
      by_cases e2 : pkC c (k : Int) = i
      · exact ⟨k, by omega, by omega, e, e2⟩
      · obtain ⟨j, j0, j1, j2⟩ := ih h0 (by omega)
        exact ⟨j, j0, by omega, j2⟩
    · rw [pkC_0 (by omega) e] at h1
      obtain ⟨j, j0, j1, j2⟩ := ih h0 h1
      exact ⟨j, j0, by omega, j2⟩
theorem pkP_u [DecidablePred c] {k : Nat} : ∀ {j : Int}, 0 ≤ j → j < (k : Int) → c j → pkP c k (pkC c j) = j := by
  induction k with
  | zero => intro j h0 h1; omega
  | succ k ih =>
    intro j h0 h1 e
    show (if c (k : Int) ∧ pkC c (k : Int) = pkC c j then (k : Int) else pkP c k (pkC c j)) = j
    by_cases q : j = (k : Int)
    · rw [if_pos ⟨by rw [← q]; exact e, by rw [q]⟩, q]
    · have := pkC_lt (c := c) (a := j) (k := (k : Int)) h0 (by omega) e
      rw [if_neg (fun z => by omega)]
      exact ih h0 (by omega) e
/-- a row that holds g of what is picked -/
theorem pkP_R [DecidablePred c] {k : Nat} {g R : Int → Int} (hR : ∀ j, 0 ≤ j → j < (k : Int) → c j → R (pkC c j) = g j) {i : Int} (h0 : 0 ≤ i) (h1 : i < pkC c (k : Int)) : R i = g (pkP c k i) := by
  obtain ⟨j, j0, j1, j2, rfl⟩ := pkP_ex h0 h1
  rw [pkP_u j0 j1 j2]
  exact hR j j0 j1 j2
theorem pkP_r [DecidablePred c] {k : Nat} {i : Int} (h0 : 0 ≤ i) (h1 : i < pkC c (k : Int)) : 0 ≤ pkP c k i ∧ pkP c k i < (k : Int) := by
  obtain ⟨j, j0, j1, j2, rfl⟩ := pkP_ex h0 h1
  rw [pkP_u j0 j1 j2]
  exact ⟨j0, j1⟩
end PKC
/-- the least of i, i + 1, .. (f of them) where p holds, or i + f -/
def lsN (p : Nat → Prop) [DecidablePred p] : Nat → Nat → Nat
  | 0, i => i
  | f + 1, i => if p i then i else lsN p f (i + 1)
theorem lsN_s {p : Nat → Prop} [DecidablePred p] : ∀ {f i : Nat}, (i ≤ lsN p f i ∧ lsN p f i ≤ i + f) ∧ (∀ j, i ≤ j → j < lsN p f i → ¬ p j) ∧ (lsN p f i < i + f → p (lsN p f i)) := by
  intro f
  induction f with
  | zero => intro i; refine ⟨⟨Nat.le_refl _, Nat.le_refl _⟩, fun j h0 h1 => ?_, fun z => ?_⟩ <;> (simp only [lsN] at *; omega)
  | succ f ih =>
    intro i
    by_cases e : p i
    · have q : lsN p (f + 1) i = i := if_pos e
      rw [q]
      exact ⟨⟨Nat.le_refl _, by omega⟩, fun j h0 h1 => by omega, fun _ => e⟩
    · have q : lsN p (f + 1) i = lsN p f (i + 1) := if_neg e
      obtain ⟨⟨a, b⟩, c, d⟩ := @ih (i + 1)
      rw [q]
      refine ⟨⟨by omega, by omega⟩, fun j h0 h1 => ?_, fun z => d (by omega)⟩
      by_cases z : j = i
      · rw [z]; exact e
      · exact c j (by omega) h1
theorem lsN_u {p : Nat → Prop} [DecidablePred p] {f k : Nat} (hk : k ≤ f) (h1 : ∀ j, j < k → ¬ p j) (h2 : k = f ∨ p k) : lsN p f 0 = k := by
  obtain ⟨⟨a, b⟩, c, d⟩ := @lsN_s p _ f 0
  by_cases e : lsN p f 0 < k
  · exact absurd (d (by omega)) (h1 _ e)
  · by_cases e2 : k < lsN p f 0
    · rcases h2 with q | q
      · omega
      · exact absurd q (c k (by omega) e2)
    · omega
section WMB
variable {v : Nat → Int} {n : Nat}
theorem wMo_r (hv : ∀ i, i < n → 0 ≤ v i ∧ v i ≤ 10000) : ∀ {r k : Nat}, r ≤ n → -10000000 ≤ wMo v n r k ∧ wMo v n r k ≤ 10000 * (r : Int) := by
  intro r
  induction r with
  | zero =>
    intro k _
    cases k with
    | zero => show -10000000 ≤ (0 : Int) ∧ (0 : Int) ≤ _; omega
    | succ k => show -10000000 ≤ (-10000000 : Int) ∧ (-10000000 : Int) ≤ _; omega
  | succ r ih =>
    intro k hr
    cases k with
    | zero => rw [wMo_0]; omega
    | succ k =>
      rw [wMo_s]
      have h1 := ih (k := k + 1) (by omega)
      have h2 := ih (k := k) (by omega)
      have h3 := hv (n - (r + 1)) (by omega)
      omega
/-- nothing left to take: the greedy way takes nothing -/
theorem wGr_z : ∀ {r : Nat} {e : Int} {i : Nat}, wGr v n r 0 e i = false := by
  intro r
  induction r with
  | zero => intro e i; rfl
  | succ r ih =>
    intro e i
    have nt : ¬ wTk v n r 0 e := fun z => absurd z.1 (by omega)
    show (if i = n - (r + 1) then decide (wTk v n r 0 e) else if wTk v n r 0 e then wGr v n r (0 - 1) (e - v (n - (r + 1))) i else wGr v n r 0 e i) = false
    rw [if_neg nt, ih]
    split
    · exact decide_eq_false nt
    · rfl
/-- sums of the last r and of the first n - r -/
theorem wSu_f {c : Nat → Bool} : ∀ {r : Nat}, r ≤ n → wSu v n c r + sm (fun i => if c i.toNat then v i.toNat else 0) ((n - r : Nat) : Int) = sm (fun i => if c i.toNat then v i.toNat else 0) (n : Int) := by
  intro r
  induction r with
  | zero => intro _; exact Int.zero_add _
  | succ r ih =>
    intro hr
    have h1 := ih (by omega)
    rw [show ((n - r : Nat) : Int) = ((n - (r + 1) : Nat) : Int) + 1 by omega, sm_s (by omega)] at h1
    rw [Int.toNat_natCast] at h1
    show (if c (n - (r + 1)) then v (n - (r + 1)) else 0) + wSu v n c r + _ = _
    omega
theorem wCn_f {c : Nat → Bool} : ∀ {r : Nat}, r ≤ n → (wCn n c r : Int) + pkC (fun i => c i.toNat = true) ((n - r : Nat) : Int) = pkC (fun i => c i.toNat = true) (n : Int) := by
  intro r
  induction r with
  | zero => intro _; exact Int.zero_add _
  | succ r ih =>
    intro hr
    have h1 := ih (by omega)
    have e9 : ((wCn n c (r + 1) : Nat) : Int) = (if c (n - (r + 1)) then 1 else 0) + (wCn n c r : Int) := by
      show (((if c (n - (r + 1)) then 1 else 0) + wCn n c r : Nat) : Int) = _
      split <;> omega
    rw [show ((n - r : Nat) : Int) = ((n - (r + 1) : Nat) : Int) + 1 by omega] at h1
    by_cases z : c (n - (r + 1)) = true
    · rw [pkC_1 (c := fun i => c i.toNat = true) (by omega) (by rw [Int.toNat_natCast]; exact z)] at h1
      rw [e9, if_pos z]
      omega
    · rw [pkC_0 (c := fun i => c i.toNat = true) (by omega) (by rw [Int.toNat_natCast]; exact z)] at h1
      rw [e9, if_neg z]
      omega
/-- all but the chosen -/
theorem wSu_x {c : Nat → Bool} : sm (fun i => if c i.toNat then 0 else v i.toNat) (n : Int) = sm (fun i => v i.toNat) (n : Int) - wSu v n c n := by
  have h1 := @wSu_f v n c n (Nat.le_refl _)
  rw [Nat.sub_self] at h1
  have h0 : sm (fun i => if c i.toNat then v i.toNat else 0) ((0 : Nat) : Int) = 0 := rfl
  rw [h0, Int.add_zero] at h1
  rw [h1]
  have key : ∀ m : Nat, sm (fun i => if c i.toNat then 0 else v i.toNat) (m : Int) = sm (fun i => v i.toNat) (m : Int) - sm (fun i => if c i.toNat then v i.toNat else 0) (m : Int) := by
    intro m
    induction m with
    | zero => rfl
    | succ m ih =>
      rw [show ((m + 1 : Nat) : Int) = (m : Int) + 1 by omega, sm_s (by omega), sm_s (by omega), sm_s (by omega), ih]
      split <;> omega
  exact key n
theorem wCn_all : ∀ {r : Nat}, wCn n (fun _ => true) r = r := by
  intro r
  induction r with
  | zero => rfl
  | succ r ih => show 1 + wCn n (fun _ => true) r = r + 1; omega
/-- all together -/
theorem wMo_all (hv : ∀ i, i < n → 0 ≤ v i ∧ v i ≤ 10000) : sm (fun i => v i.toNat) (n : Int) ≤ wMo v n n n := by
  have h1 := @wSu_f v n (fun _ => true) n (Nat.le_refl _)
  have h2 := wSu_le (c := fun _ => true) hv (Nat.le_refl n)
  rw [wCn_all] at h2
  rw [Nat.sub_self] at h1
  have h0 : sm (fun i => if (fun _ => true) i.toNat = true then v i.toNat else 0) ((0 : Nat) : Int) = 0 := rfl
  rw [h0, Int.add_zero] at h1
  have h3 : (fun i : Int => if (fun _ : Nat => true) i.toNat = true then v i.toNat else 0) = fun i => v i.toNat := funext fun i => if_pos rfl
  rw [h3] at h1
  omega
end WMB
section WDD
variable (h : AH) (b : Int)
/-- how many words are asked of, which, how many each says -/
def wdN : Int := wqN h b (h 116 88)
def wdQ (i : Int) : Int := pkP (fun i => h 174 i = b) (h 116 88).toNat i
abbrev wdW (i : Int) : Int := h 175 (wdQ h b i)
def wdV (i : Nat) : Int := h 175 (wdQ h b (i : Int))
/-- by how much they are too many -/
def wdE : Int := sm (fun i => wdW h b i) (wdN h b) - h 132 b
/-- the table's numbers -/
def wdM (i k : Int) : Int := wMo (wdV h b) (wdN h b).toNat (wdN h b - i).toNat k.toNat
/-- how many are struck, which -/
def wdK : Nat := lsN (fun k => wdE h b ≤ wMo (wdV h b) (wdN h b).toNat (wdN h b).toNat k) (wdN h b).toNat 0
def wdG : Nat → Bool := wGr (wdV h b) (wdN h b).toNat (wdN h b).toNat (wdK h b) (wdE h b)
abbrev wdC (i : Int) : Prop := wdG h b i.toNat = true
/-- the class's way stands at i: t are still to be struck, x is still too many -/
def wdI (i t x : Int) : Prop := ∀ j : Nat, i ≤ (j : Int) → (j : Int) < wdN h b → wdG h b j = wGr (wdV h b) (wdN h b).toNat (wdN h b - i).toNat t.toNat x j
end WDD
section WDE
variable {h : AH} {b : Int} {cs : Int → List (Int × List Int)}
theorem wdN_0 (I : CI h cs) : 0 ≤ wdN h b ∧ wdN h b ≤ h 116 88 := wqN_r I.wo.1.1
theorem wdQ_r (I : CI h cs) {i : Int} (h0 : 0 ≤ i) (h1 : i < wdN h b) : 0 ≤ wdQ h b i ∧ wdQ h b i < h 116 88 := by
  have w := I.wo.1
  have e : ((h 116 88).toNat : Int) = h 116 88 := by omega
  have := pkP_r (c := fun i => h 174 i = b) (k := (h 116 88).toNat) (i := i) h0 (by rw [e]; exact h1)
  unfold wdQ
  omega
theorem wdQ_A (I : CI h cs) {R : Int → Int} (a : AQ h b (h 116 88) R) {i : Int} (h0 : 0 ≤ i) (h1 : i < wdN h b) : R i = wdQ h b i := by
  have w := I.wo.1
  have e : ((h 116 88).toNat : Int) = h 116 88 := by omega
  exact pkP_R (c := fun i => h 174 i = b) (k := (h 116 88).toNat) (g := fun j => j) (R := R) (fun j j0 j1 j2 => a j j0 (by omega) j2) h0 (by rw [e]; exact h1)
theorem wdW_r (I : CI h cs) {i : Int} (h0 : 0 ≤ i) (h1 : i < wdN h b) : 1 ≤ wdW h b i ∧ wdW h b i ≤ 10000 := by
  have q := wdQ_r I h0 h1
  exact I.wo.2 _ q.1 q.2
theorem wdV_W {i : Int} (h0 : 0 ≤ i) : wdV h b i.toNat = wdW h b i := by
  unfold wdV
  rw [show ((i.toNat : Nat) : Int) = i by omega]
theorem wdV_r (I : CI h cs) : ∀ i, i < (wdN h b).toNat → 0 ≤ wdV h b i ∧ wdV h b i ≤ 10000 := fun i hi => by
  have q := wdW_r (i := (i : Int)) I (by omega) (show (i : Int) < wdN h b by omega)
  have e := wdV_W (h := h) (b := b) (i := (i : Int)) (by omega)
  rw [Int.toNat_natCast] at e
  rw [e]
  omega
theorem wdS_e : sm (fun i => wdW h b i) (wdN h b) = sm (fun i => wdV h b i.toNat) (wdN h b) := sm_congr fun i h0 _ => (wdV_W h0).symm
theorem wdE_r (I : CI h cs) (hn : wdN h b ≤ 12) (hb : 0 ≤ b ∧ b < h 116 45) : -10000 ≤ wdE h b ∧ wdE h b ≤ 120000 := by
  have n0 := (wdN_0 (b := b) I).1
  have := sm_rng (f := fun i => wdW h b i) (N := wdN h b) (B := 10000) (fun i i0 i1 => by have := wdW_r I i0 i1; omega) _ n0 (Int.le_refl _)
  have := I.W.ma b hb.1 hb.2
  unfold wdE
  omega
theorem wdM_r (I : CI h cs) {i k : Int} (h0 : 0 ≤ i) (hn : wdN h b ≤ 12) : -10000000 ≤ wdM h b i k ∧ wdM h b i k ≤ 120000 := by
  have := wMo_r (wdV_r I (b := b)) (r := (wdN h b - i).toNat) (k := k.toNat) (by omega)
  unfold wdM
  omega
theorem wdM_0 {i : Int} : wdM h b i 0 = 0 := wMo_0
theorem wdM_n {k : Int} (hk : 1 ≤ k) : wdM h b (wdN h b) k = -10000000 := by
  unfold wdM
  rw [show (wdN h b - wdN h b).toNat = 0 by omega, show k.toNat = (k - 1).toNat + 1 by omega]
  rfl
theorem wdM_s {i k : Int} (h0 : 0 ≤ i) (h1 : i < wdN h b) (hk : 1 ≤ k) : wdM h b i k = max (wdM h b (i + 1) k) (wdW h b i + wdM h b (i + 1) (k - 1)) := by
  unfold wdM
  rw [show (wdN h b - i).toNat = (wdN h b - (i + 1)).toNat + 1 by omega, show k.toNat = (k - 1).toNat + 1 by omega, wMo_s, show (wdN h b).toNat - ((wdN h b - (i + 1)).toNat + 1) = i.toNat by omega, wdV_W h0]
theorem wdK_u {k : Int} (h0 : 0 ≤ k) (h1 : k ≤ wdN h b) (a : ∀ j, 0 ≤ j → j < k → wdM h b 0 j < wdE h b) (c : k = wdN h b ∨ wdE h b ≤ wdM h b 0 k) : (wdK h b : Int) = k := by
  have e : wdK h b = k.toNat := lsN_u (p := fun k => wdE h b ≤ wMo (wdV h b) (wdN h b).toNat (wdN h b).toNat k) (by omega) (fun j hj => by
    have q := a (j : Int) (by omega) (by omega)
    unfold wdM at q
    rw [show (wdN h b - 0).toNat = (wdN h b).toNat by omega, Int.toNat_natCast] at q
    omega) (by
    rcases c with c | c
    · exact Or.inl (by omega)
    · unfold wdM at c
      rw [show (wdN h b - 0).toNat = (wdN h b).toNat by omega] at c
      exact Or.inr c)
  rw [e]
  omega
theorem wdK_l : wdK h b ≤ (wdN h b).toNat := by
  have := (@lsN_s (fun k => wdE h b ≤ wMo (wdV h b) (wdN h b).toNat (wdN h b).toNat k) _ (wdN h b).toNat 0).1
  unfold wdK
  omega
theorem wdK_1 {k : Nat} (hk : k < wdK h b) : wMo (wdV h b) (wdN h b).toNat (wdN h b).toNat k < wdE h b := by
  have := (@lsN_s (fun k => wdE h b ≤ wMo (wdV h b) (wdN h b).toNat (wdN h b).toNat k) _ (wdN h b).toNat 0).2.1 k (by omega) hk
  omega
theorem wdK_2 (I : CI h cs) (hb : 0 ≤ b ∧ b < h 116 45) : wdE h b ≤ wMo (wdV h b) (wdN h b).toNat (wdN h b).toNat (wdK h b) := by
  have l := @wdK_l h b
  by_cases e : wdK h b < (wdN h b).toNat
  · exact (@lsN_s (fun k => wdE h b ≤ wMo (wdV h b) (wdN h b).toNat (wdN h b).toNat k) _ (wdN h b).toNat 0).2.2 (by unfold wdK at e; omega)
  · rw [show wdK h b = (wdN h b).toNat by omega]
    have q := wMo_all (wdV_r I (b := b))
    have n0 := (wdN_0 (b := b) I).1
    rw [show ((wdN h b).toNat : Int) = wdN h b by omega, ← wdS_e] at q
    have := I.W.ma b hb.1 hb.2
    unfold wdE
    omega
/-- so many are struck -/
theorem wdC_n (I : CI h cs) (hn : wdN h b ≤ 12) (hb : 0 ≤ b ∧ b < h 116 45) : pkC (wdC h b) (wdN h b) = (wdK h b : Int) := by
  have n0 := (wdN_0 (b := b) I).1
  have er := wdE_r I hn hb
  have g := (wGr_ok (wdV_r I (b := b)) (r := (wdN h b).toNat) (k := wdK h b) (e := wdE h b) (Nat.le_refl _) wdK_l (wdK_2 I hb) (by omega) (by omega)).1
  have f := wCn_f (n := (wdN h b).toNat) (c := wdG h b) (Nat.le_refl _)
  rw [Nat.sub_self, show ((wdN h b).toNat : Int) = wdN h b by omega] at f
  have h0 : pkC (fun i => wdG h b i.toNat = true) ((0 : Nat) : Int) = 0 := rfl
  rw [h0, Int.add_zero] at f
  have g2 : wCn (wdN h b).toNat (wdG h b) (wdN h b).toNat = wdK h b := g
  rw [g2] at f
  exact f.symm
theorem wdI_0 (I : CI h cs) : wdI h b 0 (wdK h b : Int) (wdE h b) := fun j _ _ => by
  rw [show (wdN h b - 0).toNat = (wdN h b).toNat by omega, Int.toNat_natCast]
  rfl
section WDI
variable {i t x : Int}
theorem wdI_at (a : wdI h b i t x) (h0 : 0 ≤ i) (h1 : i < wdN h b) : wdG h b i.toNat = decide (wTk (wdV h b) (wdN h b).toNat (wdN h b - (i + 1)).toNat t.toNat x) := by
  rw [a i.toNat (by omega) (by omega), show (wdN h b - i).toNat = (wdN h b - (i + 1)).toNat + 1 by omega]
  have e : i.toNat = (wdN h b).toNat - ((wdN h b - (i + 1)).toNat + 1) := by omega
  rw [e]
  exact wGr_at
theorem wdT_i (h0 : 0 ≤ i) (h1 : i < wdN h b) (ht : 0 ≤ t) : wTk (wdV h b) (wdN h b).toNat (wdN h b - (i + 1)).toNat t.toNat x ↔ 0 < t ∧ x ≤ wdW h b i + wdM h b (i + 1) (t - 1) := by
  unfold wTk wdM
  rw [show (wdN h b).toNat - ((wdN h b - (i + 1)).toNat + 1) = i.toNat by omega, wdV_W h0, show (t - 1).toNat = t.toNat - 1 by omega]
  constructor
  · rintro ⟨p, q⟩; exact ⟨by omega, q⟩
  · rintro ⟨p, q⟩; exact ⟨by omega, q⟩
theorem wdI_1 (a : wdI h b i t x) (h0 : 0 ≤ i) (h1 : i < wdN h b) (ht : 0 < t) (hx : x ≤ wdW h b i + wdM h b (i + 1) (t - 1)) : wdC h b i ∧ wdI h b (i + 1) (t - 1) (x - wdW h b i) := by
  have tk := (wdT_i (h := h) (b := b) (x := x) h0 h1 (by omega)).mpr ⟨ht, hx⟩
  refine ⟨(wdI_at a h0 h1).trans (decide_eq_true tk), fun j j0 j1 => ?_⟩
  rw [a j (by omega) j1, show (wdN h b - i).toNat = (wdN h b - (i + 1)).toNat + 1 by omega, wGr_t (by omega) tk, show (t - 1).toNat = t.toNat - 1 by omega]
  rw [show (wdN h b).toNat - ((wdN h b - (i + 1)).toNat + 1) = i.toNat by omega, wdV_W h0]
theorem wdI_2 (a : wdI h b i t x) (h0 : 0 ≤ i) (h1 : i < wdN h b) (ht : 0 ≤ t) (hx : ¬ (0 < t ∧ x ≤ wdW h b i + wdM h b (i + 1) (t - 1))) : ¬ wdC h b i ∧ wdI h b (i + 1) t x := by
  have tk : ¬ wTk (wdV h b) (wdN h b).toNat (wdN h b - (i + 1)).toNat t.toNat x := fun z => hx ((wdT_i h0 h1 ht).mp z)
  refine ⟨fun z => tk (of_decide_eq_true ((wdI_at a h0 h1).symm.trans z)), fun j j0 j1 => ?_⟩
  rw [a j (by omega) j1, show (wdN h b - i).toNat = (wdN h b - (i + 1)).toNat + 1 by omega, wGr_f (by omega) tk]
theorem wdI_z (a : wdI h b i 0 x) (h0 : 0 ≤ i) : ∀ j, i ≤ j → j < wdN h b → ¬ wdC h b j := fun j j0 j1 z => by
  have e := a j.toNat (by omega) (by omega)
  rw [show (0 : Int).toNat = 0 from rfl, wGr_z] at e
  exact absurd (e.symm.trans z) (by decide)
end WDI
/-- what is struck at the i-th place -/
def wdA (h : AH) (b i : Int) : Int := wdQ h b (pkP (wdC h b) (wdN h b).toNat i)
theorem wdA_R (I : CI h cs) {R : Int → Int} (a : ∀ j, 0 ≤ j → j < wdN h b → wdC h b j → R (pkC (wdC h b) j) = wdQ h b j) {i : Int} (h0 : 0 ≤ i) (h1 : i < pkC (wdC h b) (wdN h b)) : R i = wdA h b i := by
  have n0 := (wdN_0 (b := b) I).1
  have e : ((wdN h b).toNat : Int) = wdN h b := by omega
  exact pkP_R (c := wdC h b) (k := (wdN h b).toNat) (g := wdQ h b) (R := R) (fun j j0 j1 j2 => a j j0 (by omega) j2) h0 (by rw [e]; exact h1)
theorem wdA_u (I : CI h cs) {j : Int} (h0 : 0 ≤ j) (h1 : j < wdN h b) (c : wdC h b j) : wdA h b (pkC (wdC h b) j) = wdQ h b j := by
  unfold wdA
  rw [pkP_u (c := wdC h b) (k := (wdN h b).toNat) h0 (by omega) c]
end WDE
