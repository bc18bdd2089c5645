/-! ===== letters of a made batch ===== -/
/-- a batch's price as known in q -/
def prc (h : AH) (q e : Int) : Int := laF (h 145) (h 147) (h 146) e q (h 131 e) (h 116 48)
theorem s_prc {l : Launch} {G : GG} {d : Nat} {h : AH} {z O Lr : Int → Int} {Q : Option AV → List Kd → AH → Prop} {e q : Int} (hd : 1 ≤ d) (hm : 0 ≤ h 116 48 ∧ h 116 48 ≤ 100) (he : 0 ≤ e ∧ e < 100) (hq : Q (some (0, prc h q e)) K0 (jst h z O Lr)) : Sp l G mX12_priceOf d 0 0 K0 [(2, 116), (0, e), (0, q)] (jst h z O Lr) Q := by
  have e9 : prc h q e = laF (jst h z O Lr 145) (jst h z O Lr 147) (jst h z O Lr 146) e q (jst h z O Lr 131 e) (jst h z O Lr 116 48) := by
    rw [jst_r (by decide), jst_r (by decide), jst_r (by decide), jst_c (by decide), jst_j (by decide)]
    rfl
  rw [e9] at hq
  exact s_X12_priceOf hd (by rw [jst_j (by decide)]; exact hm.1) (by rw [jst_j (by decide)]; exact hm.2) he hq
def sm (f : Int → Int) (n : Int) : Int := fupI (fun i s => s + f i) 0 n
theorem sm_0 {f : Int → Int} : sm f 0 = 0 := rfl
theorem sm_s {f : Int → Int} {k : Int} (h : 0 ≤ k) : sm f (k + 1) = sm f k + f k := fupI_s h
theorem sm_rng {f : Int → Int} {N B : Int} (hf : ∀ i, 0 ≤ i → i < N → 0 ≤ f i ∧ f i ≤ B) : ∀ k, 0 ≤ k → k ≤ N → 0 ≤ sm f k ∧ sm f k ≤ k * B := by
  have key : ∀ m : Nat, (m : Int) ≤ N → 0 ≤ sm f m ∧ sm f m ≤ m * B := by
    intro m
    induction m with
    | zero => intro _; exact ⟨Int.le_refl _, by show (0 : Int) ≤ 0 * B; omega⟩
    | succ m ih =>
      intro hm
      have q := ih (by omega)
      have q2 := hf m (by omega) (by omega)
      have e : sm f ((m + 1 : Nat) : Int) = sm f m + f m := by rw [show ((m + 1 : Nat) : Int) = (m : Int) + 1 by omega]; exact sm_s (by omega)
      have e2 : ((m + 1 : Nat) : Int) * B = m * B + B := by rw [show ((m + 1 : Nat) : Int) = (m : Int) + 1 by omega, Int.add_mul, Int.one_mul]
      rw [e, e2]
      omega
  intro k h0 h1
  obtain ⟨m, rfl⟩ := Int.eq_ofNat_of_zero_le h0
  exact key m h1
theorem sm_congr {f g : Int → Int} {n : Int} (h : ∀ i, 0 ≤ i → i < n → f i = g i) : sm f n = sm g n := fupI_congr fun k h0 h1 t => by rw [h k h0 h1]
/-- in thousandths -/
def shr (p w : Int) : Int := l2i (min 10000000 (ldiv (lmul 1000 p) w))
section FL
variable (h : AH) (O : Int → Int) (b q : Int)
def eB (k : Int) : Int := h 138 (6 * b + k)
def eV (k : Int) : Int := prc h q (eB h b k) * h 139 (6 * b + k)
def fO (k : Int) : Int := if O (eB h b k) ≠ 0 then 0 else eV h b q k
def fK (k : Int) : Int := if O (eB h b k) ≠ 0 then 0 else if h 130 (eB h b k) = h 130 b then eV h b q k else 0
def fB (k : Int) : Int := if O (eB h b k) ≠ 0 then (if h 129 (eB h b k) ≠ h 129 b then eV h b q k else 0) else 0
def fC (k : Int) : Int := if O (eB h b k) ≠ 0 then 0 else 1
/-- the letters of a made batch, by their places in anbochpy -/
def mLt (i : Int) : Int :=
  if i = 0 then shr (sm (eV h b q) (h 137 b)) (prc h q b * h 132 b)
  else if i = 1 then shr (sm (fO h O b q) (h 137 b)) (prc h q b * h 132 b)
  else if i = 2 then shr (sm (fK h O b q) (h 137 b)) (prc h q b * h 132 b)
  else if i = 3 then shr (sm (fB h O b q) (h 137 b)) (prc h q b * h 132 b)
  else if i = 4 then sm (fC h O b) (h 137 b)
  else if i = 5 then h 130 b
  else if i = 6 then h 135 b
  else 0
def fLet (Lr : Int → Int) : Int → Int := fset (fset (fset (fset (fset (fset (fset (fclr Lr) 104 (h 130 b)) 112 (h 135 b)) 97 (shr (sm (eV h b q) (h 137 b)) (prc h q b * h 132 b))) 110 (shr (sm (fO h O b q) (h 137 b)) (prc h q b * h 132 b))) 98 (shr (sm (fK h O b q) (h 137 b)) (prc h q b * h 132 b))) 111 (shr (sm (fB h O b q) (h 137 b)) (prc h q b * h 132 b))) 99 (sm (fC h O b) (h 137 b))
end FL
theorem mLt_0 {h : AH} {O : Int → Int} {b q : Int} {Lr : Int → Int} : ltF (fLet h O b q Lr) 0 = mLt h O b q 0 := by
  show fLet h O b q Lr 97 = _
  unfold fLet mLt
  rw [fset_ne (by decide), fset_ne (by decide), fset_ne (by decide), fset_ne (by decide), fset_same, if_pos rfl]
theorem mLt_1 {h : AH} {O : Int → Int} {b q : Int} {Lr : Int → Int} : ltF (fLet h O b q Lr) 1 = mLt h O b q 1 := by
  show fLet h O b q Lr 110 = _
  unfold fLet mLt
  rw [fset_ne (by decide), fset_ne (by decide), fset_ne (by decide), fset_same, if_neg (by decide), if_pos rfl]
theorem mLt_2 {h : AH} {O : Int → Int} {b q : Int} {Lr : Int → Int} : ltF (fLet h O b q Lr) 2 = mLt h O b q 2 := by
  show fLet h O b q Lr 98 = _
  unfold fLet mLt
  rw [fset_ne (by decide), fset_ne (by decide), fset_same, if_neg (by decide), if_neg (by decide), if_pos rfl]
theorem mLt_3 {h : AH} {O : Int → Int} {b q : Int} {Lr : Int → Int} : ltF (fLet h O b q Lr) 3 = mLt h O b q 3 := by
  show fLet h O b q Lr 111 = _
  unfold fLet mLt
  rw [fset_ne (by decide), fset_same, if_neg (by decide), if_neg (by decide), if_neg (by decide), if_pos rfl]
theorem mLt_4 {h : AH} {O : Int → Int} {b q : Int} {Lr : Int → Int} : ltF (fLet h O b q Lr) 4 = mLt h O b q 4 := by
  show fLet h O b q Lr 99 = _
  unfold fLet mLt
  rw [fset_same, if_neg (by decide), if_neg (by decide), if_neg (by decide), if_neg (by decide), if_pos rfl]
theorem mLt_5 {h : AH} {O : Int → Int} {b q : Int} {Lr : Int → Int} : ltF (fLet h O b q Lr) 5 = mLt h O b q 5 := by
  show fLet h O b q Lr 104 = _
  unfold fLet mLt
  rw [fset_ne (by decide), fset_ne (by decide), fset_ne (by decide), fset_ne (by decide), fset_ne (by decide), fset_ne (by decide), fset_same, if_neg (by decide), if_neg (by decide), if_neg (by decide), if_neg (by decide), if_neg (by decide), if_pos rfl]
theorem mLt_6 {h : AH} {O : Int → Int} {b q : Int} {Lr : Int → Int} : ltF (fLet h O b q Lr) 6 = mLt h O b q 6 := by
  show fLet h O b q Lr 112 = _
  unfold fLet mLt
  rw [fset_ne (by decide), fset_ne (by decide), fset_ne (by decide), fset_ne (by decide), fset_ne (by decide), fset_same, if_neg (by decide), if_neg (by decide), if_neg (by decide), if_neg (by decide), if_neg (by decide), if_neg (by decide), if_pos rfl]
theorem mLt_7 {h : AH} {O : Int → Int} {b q : Int} {Lr : Int → Int} : ltF (fLet h O b q Lr) 7 = mLt h O b q 7 := by
  show fLet h O b q Lr 121 = _
  unfold fLet mLt
  rw [fset_ne (by decide), fset_ne (by decide), fset_ne (by decide), fset_ne (by decide), fset_ne (by decide), fset_ne (by decide), fset_ne (by decide), if_neg (by decide), if_neg (by decide), if_neg (by decide), if_neg (by decide), if_neg (by decide), if_neg (by decide), if_neg (by decide)]
  unfold fclr
  rw [if_pos (by decide)]
theorem mLt_let {h : AH} {O : Int → Int} {b q : Int} {Lr : Int → Int} {i : Int} (h0 : 0 ≤ i) (h1 : i < 8) : ltF (fLet h O b q Lr) i = mLt h O b q i := by
  rcases (show i = 0 ∨ i = 1 ∨ i = 2 ∨ i = 3 ∨ i = 4 ∨ i = 5 ∨ i = 6 ∨ i = 7 by omega) with e | e | e | e | e | e | e | e <;> subst e
  · exact mLt_0
  · exact mLt_1
  · exact mLt_2
  · exact mLt_3
  · exact mLt_4
  · exact mLt_5
  · exact mLt_6
  · exact mLt_7
