/-! ===== loops and their sums ===== -/
theorem loop_up {N : Int} (W : Int → Prop) (hx : W N) (hs : ∀ k, 0 ≤ k → k < N → W (k + 1) → W k) : ∀ k, 0 ≤ k → k ≤ N → W k := by
  have key : ∀ (m : Nat) (k : Int), 0 ≤ k → k + m = N → W k := by
    intro m
    induction m with
    | zero => intro k h0 h1; have e : k = N := by omega
              rw [e]; exact hx
    | succ m ih => intro k h0 h1; exact hs k h0 (by omega) (ih (k + 1) (by omega) (by omega))
  intro k h0 h1
  exact key (N - k).toNat k h0 (by omega)
/-- a loop from s on: k from a to N -/
theorem loop_from {N : Int} (a : Int) (W : Int → Prop) (hx : W N) (hs : ∀ k, a ≤ k → k < N → W (k + 1) → W k) : ∀ k, a ≤ k → k ≤ N → W k := by
  have key : ∀ (m : Nat) (k : Int), a ≤ k → k + m = N → W k := by
    intro m
    induction m with
    | zero => intro k h0 h1; have e : k = N := by omega
              rw [e]; exact hx
    | succ m ih => intro k h0 h1; exact hs k h0 (by omega) (ih (k + 1) (by omega) (by omega))
  intro k h0 h1
  exact key (N - k).toNat k h0 (by omega)
/-- what a loop over 0 .. n - 1 makes of s -/
def fup {σ : Type} (f : Int → σ → σ) (s : σ) : Nat → σ
  | 0 => s
  | n + 1 => f n (fup f s n)
def fupI {σ : Type} (f : Int → σ → σ) (s : σ) (k : Int) : σ := fup f s k.toNat
theorem fupI_0 {σ : Type} {f : Int → σ → σ} {s : σ} : fupI f s 0 = s := rfl
theorem fupI_s {σ : Type} {f : Int → σ → σ} {s : σ} {k : Int} (h : 0 ≤ k) : fupI f s (k + 1) = f k (fupI f s k) := by
  unfold fupI
  have e : (k + 1).toNat = k.toNat + 1 := by omega
  rw [e, fup, Int.toNat_of_nonneg h]
theorem fup_congr {σ : Type} {f g : Int → σ → σ} {s : σ} : ∀ {n : Nat}, (∀ k : Nat, k < n → ∀ t, f k t = g k t) → fup f s n = fup g s n := by
  intro n
  induction n with
  | zero => intro _; rfl
  | succ n ih => intro h; rw [fup, fup, ih (fun k hk t => h k (by omega) t), h n (by omega)]
theorem fupI_congr {σ : Type} {f g : Int → σ → σ} {s : σ} {n : Int} (h : ∀ k : Int, 0 ≤ k → k < n → ∀ t, f k t = g k t) : fupI f s n = fupI g s n := fup_congr fun k hk t => h k (by omega) (by omega) t
theorem tg_0 : ∀ v ∈ ([] : List AV), v.1 < 8 := fun v h => by cases h
theorem tg_c {t : Nat} {x : Int} {vs : List AV} (ht : t < 8) (h : ∀ v ∈ vs, v.1 < 8) : ∀ v ∈ (t, x) :: vs, v.1 < 8 := fun v hv => by
  rcases List.mem_cons.mp hv with q | q
  · rw [q]; exact ht
  · exact h v q
theorem pl_X0 : plainName RX0 = true := by decide +kernel
theorem pl_X1 : plainName RX1 = true := by decide +kernel
theorem pl_X2 : plainName RX2 = true := by decide +kernel
theorem pl_X3 : plainName RX3 = true := by decide +kernel
theorem pl_X4 : plainName RX4 = true := by decide +kernel
theorem pl_X5 : plainName RX5 = true := by decide +kernel
theorem pl_X6 : plainName RX6 = true := by decide +kernel
theorem pl_X7 : plainName RX7 = true := by decide +kernel
theorem pl_X8 : plainName RX8 = true := by decide +kernel
theorem pl_X9 : plainName RX9 = true := by decide +kernel
theorem pl_X10 : plainName RX10 = true := by decide +kernel
theorem pl_X11 : plainName RX11 = true := by decide +kernel
theorem pl_X12 : plainName RX12 = true := by decide +kernel
theorem c32 {n : Int} (h : decide (-2147483648 ≤ n ∧ n < 2147483648) = true) : ok32 n := by unfold ok32; exact of_decide_eq_true h
theorem c64 {n : Int} (h : decide (-9223372036854775808 ≤ n ∧ n < 9223372036854775808) = true) : ok64 n := by unfold ok64; exact of_decide_eq_true h
theorem loop_m2 {N : Int} {P : Int → Prop} (hs : ∀ k, 0 ≤ k → k ≤ N → (k < N → P (k + 1)) → P k) : ∀ k, 0 ≤ k → k ≤ N → P k := by
  have key : ∀ (m : Nat) (k : Int), 0 ≤ k → k + m = N → P k := by
    intro m
    induction m with
    | zero => intro k h0 h1; exact hs k h0 (by omega) (fun q => by omega)
    | succ m ih => intro k h0 h1; exact hs k h0 (by omega) (fun _ => ih (k + 1) (by omega) (by omega))
  intro k h0 h1
  exact key (N - k).toNat k h0 (by omega)
/-- from any a on -/
theorem loop_m3 {N a : Int} {P : Int → Prop} (hs : ∀ k, a ≤ k → k ≤ N → (k < N → P (k + 1)) → P k) : ∀ k, a ≤ k → k ≤ N → P k := by
  have key : ∀ (m : Nat) (k : Int), a ≤ k → k + m = N → P k := by
    intro m
    induction m with
    | zero => intro k h0 h1; exact hs k h0 (by omega) (fun q => by omega)
    | succ m ih => intro k h0 h1; exact hs k h0 (by omega) (fun _ => ih (k + 1) (by omega) (by omega))
  intro k h0 h1
  exact key (N - k).toNat k h0 (by omega)
/-- the last told that counts: k's web, from, told -/
def inStep (w f t : Int → Int) (web day q k b : Int) : Int := if w k = web ∧ t k ≤ q ∧ f k ≤ day ∧ (b = -1 ∨ f b ≤ f k) then k else b
def ifc (w f t : Int → Int) (web day q n : Int) : Int := fupI (inStep w f t web day q) (-1) n
theorem ifc_s {w f t : Int → Int} {web day q k : Int} (h : 0 ≤ k) : ifc w f t web day q (k + 1) = inStep w f t web day q k (ifc w f t web day q k) := fupI_s h
theorem ifc_rng {w f t : Int → Int} {web day q : Int} : ∀ {n : Int}, 0 ≤ n → -1 ≤ ifc w f t web day q n ∧ ifc w f t web day q n < n ∨ (n = 0 ∧ ifc w f t web day q n = -1) := by
  have key : ∀ m : Nat, -1 ≤ ifc w f t web day q m ∧ (ifc w f t web day q m < m ∨ ifc w f t web day q m = -1) := by
    intro m
    induction m with
    | zero => exact ⟨Int.le_refl _, Or.inr rfl⟩
    | succ m ih =>
      have e : ifc w f t web day q ((m + 1 : Nat) : Int) = inStep w f t web day q m (ifc w f t web day q m) := ifc_s (k := (m : Int)) (by omega)
      rw [e]
      unfold inStep
      split <;> omega
  intro n hn
  have := key n.toNat
  rw [Int.toNat_of_nonneg hn] at this
  omega
theorem ifc_lt {w f t : Int → Int} {web day q n : Int} (hn : 0 ≤ n) : -1 ≤ ifc w f t web day q n ∧ (ifc w f t web day q n = -1 ∨ ifc w f t web day q n < n) := by
  have := ifc_rng (w := w) (f := f) (t := t) (web := web) (day := day) (q := q) hn
  omega
def lySt (hp ps : Int → Int) (heap k a : Int) : Int := iadd a (if hp k = heap then ps k else 0)
def lyF (hp ps : Int → Int) (heap n : Int) : Int := fupI (lySt hp ps heap) 0 n
theorem lyF_s {hp ps : Int → Int} {heap k : Int} (h : 0 ≤ k) : lyF hp ps heap (k + 1) = lySt hp ps heap k (lyF hp ps heap k) := fupI_s h
/-- the last of what is told anew -/
def laSt (ab tl vl : Int → Int) (b q k a : Int) : Int := if ab k = b ∧ tl k ≤ q then vl k else a
def laF (ab tl vl : Int → Int) (b q p n : Int) : Int := fupI (laSt ab tl vl b q) p n
theorem laF_s {ab tl vl : Int → Int} {b q p k : Int} (h : 0 ≤ k) : laF ab tl vl b q p (k + 1) = laSt ab tl vl b q k (laF ab tl vl b q p k) := fupI_s h
section GV
variable {l : Launch} {G : GG} {M : MI} {d mc ms n1 n2 : Nat} {K : List Kd} {pc : Nat} {L st : List AV} {h : AH} {Q : Option AV → List Kd → AH → Prop}
theorem v_getv {ci j idx tg : Nat} {c ji z : Int} (hdg : decode M.2.1 pc = .ok (.getfield idx, 3)) (hw : Cond.fieldLink M.1.cls idx (TF ci j).1 (TF ci j).2.1 (TF ci j).2.2.1 ∈ Tb) (hc : 0 ≤ c) (hk : K[c.toNat]? = some (.inl ci)) (hj : j < NF ci) (hji : (j : Int) = ji) (ht : ptag (tyF ci j) = tg) (h2 : tg < 2) (hz : h c ji = z)
    (k : V l G M d mc ms n1 n2 K (pc + 3) L ((tg, z) :: st) h Q) : V l G M d mc ms n1 n2 K pc L ((2, c) :: st) h Q := v_get hdg hw hc hk hj hji ht h2 (by rw [hz]; exact k)
theorem v_getvN {ci j idx tg : Nat} {host : String} {c ji z : Int} (hdg : decode M.2.1 pc = .ok (.getfield idx, 3)) (hw : Cond.fieldLinkNest M.1.cls idx (TF ci j).1 (TF ci j).2.1 (TF ci j).2.2.1 host ∈ NWs) (hc : 0 ≤ c) (hk : K[c.toNat]? = some (.inl ci)) (hj : j < NF ci) (hji : (j : Int) = ji) (ht : ptag (tyF ci j) = tg) (h2 : tg < 2) (hz : h c ji = z)
    (k : V l G M d mc ms n1 n2 K (pc + 3) L ((tg, z) :: st) h Q) : V l G M d mc ms n1 n2 K pc L ((2, c) :: st) h Q := v_getN hdg hw hc hk hj hji ht h2 (by rw [hz]; exact k)
theorem v_ialoadv {n : Nat} {c i z : Int} (hdg : decode M.2.1 pc = .ok (.iaload, 1)) (hc : 0 ≤ c) (hk : K[c.toNat]? = some (.inr (.int, n))) (h0 : 0 ≤ i) (h1 : i < (n : Int)) (hz : h c i = z) (k : V l G M d mc ms n1 n2 K (pc + 1) L ((0, z) :: st) h Q) : V l G M d mc ms n1 n2 K pc L ((0, i) :: (2, c) :: st) h Q := v_iaload hdg hc hk h0 h1 (by rw [hz]; exact k)
theorem v_laloadv {n : Nat} {c i z : Int} (hdg : decode M.2.1 pc = .ok (.laload, 1)) (hc : 0 ≤ c) (hk : K[c.toNat]? = some (.inr (.long, n))) (h0 : 0 ≤ i) (h1 : i < (n : Int)) (hz : h c i = z) (k : V l G M d mc ms n1 n2 K (pc + 1) L ((1, z) :: st) h Q) : V l G M d mc ms n1 n2 K pc L ((0, i) :: (2, c) :: st) h Q := v_laload hdg hc hk h0 h1 (by rw [hz]; exact k)
theorem v_baloadv {n : Nat} {c i z : Int} (hdg : decode M.2.1 pc = .ok (.baload, 1)) (hc : 0 ≤ c) (hk : K[c.toNat]? = some (.inr (.byte, n))) (h0 : 0 ≤ i) (h1 : i < (n : Int)) (hz : h c i = z) (k : V l G M d mc ms n1 n2 K (pc + 1) L ((0, z) :: st) h Q) : V l G M d mc ms n1 n2 K pc L ((0, i) :: (2, c) :: st) h Q := v_baload hdg hc hk h0 h1 (by rw [hz]; exact k)
theorem v_zaloadv {n : Nat} {c i z : Int} (hdg : decode M.2.1 pc = .ok (.baload, 1)) (hc : 0 ≤ c) (hk : K[c.toNat]? = some (.inr (.boolean, n))) (h0 : 0 ≤ i) (h1 : i < (n : Int)) (hz : h c i = z) (k : V l G M d mc ms n1 n2 K (pc + 1) L ((0, z) :: st) h Q) : V l G M d mc ms n1 n2 K pc L ((0, i) :: (2, c) :: st) h Q := v_zaload hdg hc hk h0 h1 (by rw [hz]; exact k)
end GV
theorem hset_c {h : AH} {a b x c j : Int} (q : c ≠ a) : hset h a b x c j = h c j := hset_ne h (fun z => q z.1)
theorem hset_j {h : AH} {a b x c j : Int} (q : j ≠ b) : hset h a b x c j = h c j := hset_ne h (fun z => q z.2)
theorem hcpy_c {h : AH} {c0 sp c1 dp n c j : Int} (q : c ≠ c1) : hcpy h c0 sp c1 dp n c j = h c j := by
  unfold hcpy
  exact if_neg (fun z => q z.1)
theorem hset_r {h : AH} {a b x c : Int} (q : c ≠ a) : hset h a b x c = h c := funext fun _ => hset_c q
theorem hcpy_r {h : AH} {c0 sp c1 dp n c : Int} (q : c ≠ c1) : hcpy h c0 sp c1 dp n c = h c := funext fun _ => hcpy_c q
/-- a row's first n places set to x -/
def hfil (h : AH) (c n x : Int) : AH := fun a b => if a = c ∧ 0 ≤ b ∧ b < n then x else h a b
theorem hfil_r {h : AH} {c n x a : Int} (q : a ≠ c) : hfil h c n x a = h a := by
  funext b
  unfold hfil
  exact if_neg (fun z => q z.1)
theorem hfil_c {h : AH} {c n x a b : Int} (q : a ≠ c) : hfil h c n x a b = h a b := by rw [hfil_r q]
theorem hfil_0 {h : AH} {c x : Int} : hfil h c 0 x = h := by
  funext a b
  unfold hfil
  exact if_neg (fun z => by omega)
theorem hfil_s {h : AH} {c n x : Int} (hn : 0 ≤ n) : hfil h c (n + 1) x = hset (hfil h c n x) c n x := by
  funext a b
  simp only [hfil, hset]
  repeat' split
  all_goals first | rfl | (exfalso; omega)
theorem hcpy_0 {h : AH} {c0 sp c1 dp : Int} : hcpy h c0 sp c1 dp 0 = h := by
  funext a b
  unfold hcpy
  exact if_neg (fun z => by omega)
theorem hcpy_s {h : AH} {c0 sp c1 dp n : Int} (hn : 0 ≤ n) : hcpy h c0 sp c1 dp (n + 1) = hset (hcpy h c0 sp c1 dp n) c1 (dp + n) (h c0 (sp + n)) := by
  funext a b
  simp only [hcpy, hset]
  repeat' split
  all_goals first | rfl | (exfalso; omega) | (congr 1; omega)
theorem hset_comm {h : AH} {a b x c j y : Int} (q : a ≠ c) : hset (hset h a b x) c j y = hset (hset h c j y) a b x := by
  funext u v
  simp only [hset]
  repeat' split
  all_goals first | rfl | (exfalso; omega)
/-- what lay on the bench goes back: cb which, cm how many, cl what is left -/
def clrH (h : AH) (cb cm cl k : Int) : AH := fupI (fun i g => hset g cl (h cb i) (iadd (g cl (h cb i)) (h cm i))) h k
theorem clrH_s {h : AH} {cb cm cl k : Int} (hk : 0 ≤ k) : clrH h cb cm cl (k + 1) = hset (clrH h cb cm cl k) cl (h cb k) (iadd (clrH h cb cm cl k cl (h cb k)) (h cm k)) := fupI_s hk
theorem clrH_r {h : AH} {cb cm cl k c : Int} (q : c ≠ cl) : clrH h cb cm cl k c = h c := by
  have key : ∀ m : Nat, fup (fun i g => hset g cl (h cb i) (iadd (g cl (h cb i)) (h cm i))) h m c = h c := by
    intro m
    induction m with
    | zero => rfl
    | succ m ih => rw [fup, hset_r q]; exact ih
  exact key k.toNat
theorem clrH_c {h : AH} {cb cm cl k c j : Int} (q : c ≠ cl) : clrH h cb cm cl k c j = h c j := by rw [clrH_r q]
def LO (L' L : List AV) : Prop := ∀ (i : Nat) (v : AV), L'[i]? = some v → v.1 < 8 → L[i]? = some v
theorem lo_nil : LO [] [] := fun _ _ h _ => h
theorem lo_k {a : AV} {L' L : List AV} (h : LO L' L) : LO (a :: L') (a :: L) := fun i v hi hv => by
  cases i with
  | zero => exact hi
  | succ i => exact h i v (by simpa using hi) hv
theorem lo_d {a : AV} {L' L : List AV} (h : LO L' L) : LO ((9, 0) :: L') (a :: L) := fun i v hi hv => by
  cases i with
  | zero => cases (Option.some.inj hi : ((9, 0) : AV) = v); exact absurd hv (by decide)
  | succ i => exact h i v (by simpa using hi) hv
