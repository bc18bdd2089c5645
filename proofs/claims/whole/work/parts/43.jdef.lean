/-! ===== judging: which batches are own ===== -/
def mOn (h : AH) (w day q : Int) : Int := if ifc (h 117) (h 119) (h 120) w day q (h 116 14) = -1 then 0 else h 118 (ifc (h 117) (h 119) (h 120) w day q (h 116 14))
def isM (h : AH) (l w day q : Int) : Int := iand (ishr (mOn h w day q) l) 1
def pOn (h : AH) (w day q : Int) : Int := ifc (h 121) (h 122) (h 123) w day q (h 116 15)
def wth (cs : Int → List (Int × List Int)) (lt : Int → Int) (p lab : Int) : Int := if p = -1 then 0 else (fndL lt lab (cs p)).getD 0
/-- whether batch b is own of web w, those before it by O -/
def jv (h : AH) (cs : Int → List (Int × List Int)) (w q al : Int) (O : Int → Int) (b : Int) : Int :=
  if isM h (h 129 b) w (h 134 b) q ≠ 1 then 0 else if h 135 b = -1 then (if q < h 136 b then 1 else 0)
  else if wth cs (mLt h O b q) (if al = -1 then pOn h w (h 134 b) q else al) 114 = 0 then 0 else 1
def jO (h : AH) (cs : Int → List (Int × List Int)) (w q al : Int) (O0 : Int → Int) (k : Int) : Int → Int := fupI (fun b O => fset O b (jv h cs w q al (fset O b 0) b)) O0 k
theorem jO_s {h : AH} {cs : Int → List (Int × List Int)} {w q al : Int} {O0 : Int → Int} {k : Int} (hk : 0 ≤ k) : jO h cs w q al O0 (k + 1) = fset (jO h cs w q al O0 k) k (jv h cs w q al (fset (jO h cs w q al O0 k) k 0) k) := fupI_s hk
theorem fset_tw {O : Int → Int} {i x y : Int} : fset (fset O i x) i y = fset O i y := by
  funext j
  unfold fset
  by_cases e : j = i
  · rw [if_pos e, if_pos e]
  · rw [if_neg e, if_neg e, if_neg e]
theorem laF_rng {ab tl vl : Int → Int} {b q p : Int} (hp : 1 ≤ p ∧ p ≤ 10000) {n : Int} (hv : ∀ k, 0 ≤ k → k < n → 1 ≤ vl k ∧ vl k ≤ 10000) : ∀ k, 0 ≤ k → k ≤ n → 1 ≤ laF ab tl vl b q p k ∧ laF ab tl vl b q p k ≤ 10000 := by
  have key : ∀ m : Nat, (m : Int) ≤ n → 1 ≤ laF ab tl vl b q p m ∧ laF ab tl vl b q p m ≤ 10000 := by
    intro m
    induction m with
    | zero => intro _; exact hp
    | succ m ih =>
      intro hm
      have q1 := ih (by omega)
      have q2 := hv m (by omega) (by omega)
      rw [show ((m + 1 : Nat) : Int) = (m : Int) + 1 by omega, laF_s (by omega)]
      unfold laSt
      split
      · exact q2
      · exact q1
  intro k h0 h1
  obtain ⟨m, rfl⟩ := Int.eq_ofNat_of_zero_le h0
  exact key m h1
theorem mul_r8 {x y : Int} (h1 : 1 ≤ x) (h2 : x ≤ 10000) (h3 : 1 ≤ y) (h4 : y ≤ 10000) : 1 ≤ x * y ∧ x * y ≤ 100000000 := by
  have a1 : x * y ≤ 10000 * 10000 := Int.mul_le_mul h2 h4 (by omega) (by omega)
  have a2 : 1 * 1 ≤ x * y := Int.mul_le_mul h1 h3 (by omega) (by omega)
  omega
/-- the reference's batches, webs and mends are in their bounds -/
def RW (h : AH) : Prop :=
  (0 ≤ h 116 45 ∧ h 116 45 ≤ 100) ∧
  (0 ≤ h 116 48 ∧ h 116 48 ≤ 100) ∧
  (0 ≤ h 116 14 ∧ h 116 14 ≤ 40) ∧
  (0 ≤ h 116 15 ∧ h 116 15 ≤ 20) ∧
  (∀ b, 0 ≤ b → b < h 116 45 → 0 ≤ h 129 b ∧ h 129 b < 8) ∧
  (∀ b, 0 ≤ b → b < h 116 45 → 0 ≤ h 130 b ∧ h 130 b < 100) ∧
  (∀ b, 0 ≤ b → b < h 116 45 → 1 ≤ h 131 b ∧ h 131 b ≤ 10000) ∧
  (∀ b, 0 ≤ b → b < h 116 45 → 1 ≤ h 132 b ∧ h 132 b ≤ 10000) ∧
  (∀ b, 0 ≤ b → b < h 116 45 → -1 ≤ h 135 b ∧ h 135 b < 10) ∧
  (∀ b, 0 ≤ b → b < h 116 45 → 0 ≤ h 137 b ∧ h 137 b ≤ 6) ∧
  (∀ b, 0 ≤ b → b < h 116 45 → ∀ k, 0 ≤ k → k < h 137 b → 0 ≤ h 138 (6 * b + k) ∧ h 138 (6 * b + k) < b) ∧
  (∀ b, 0 ≤ b → b < h 116 45 → ∀ k, 0 ≤ k → k < h 137 b → 1 ≤ h 139 (6 * b + k) ∧ h 139 (6 * b + k) ≤ 10000) ∧
  (∀ k, 0 ≤ k → k < h 116 48 → 1 ≤ h 146 k ∧ h 146 k ≤ 10000)
theorem RW.nb {h : AH} (W : RW h) : 0 ≤ h 116 45 ∧ h 116 45 ≤ 100 := W.1
theorem RW.nm {h : AH} (W : RW h) : 0 ≤ h 116 48 ∧ h 116 48 ≤ 100 := W.2.1
theorem RW.nw {h : AH} (W : RW h) : 0 ≤ h 116 14 ∧ h 116 14 ≤ 40 := W.2.2.1
theorem RW.nt {h : AH} (W : RW h) : 0 ≤ h 116 15 ∧ h 116 15 ≤ 20 := W.2.2.2.1
theorem RW.la {h : AH} (W : RW h) : ∀ b, 0 ≤ b → b < h 116 45 → 0 ≤ h 129 b ∧ h 129 b < 8 := W.2.2.2.2.1
theorem RW.he {h : AH} (W : RW h) : ∀ b, 0 ≤ b → b < h 116 45 → 0 ≤ h 130 b ∧ h 130 b < 100 := W.2.2.2.2.2.1
theorem RW.pr {h : AH} (W : RW h) : ∀ b, 0 ≤ b → b < h 116 45 → 1 ≤ h 131 b ∧ h 131 b ≤ 10000 := W.2.2.2.2.2.2.1
theorem RW.ma {h : AH} (W : RW h) : ∀ b, 0 ≤ b → b < h 116 45 → 1 ≤ h 132 b ∧ h 132 b ≤ 10000 := W.2.2.2.2.2.2.2.1
theorem RW.ps {h : AH} (W : RW h) : ∀ b, 0 ≤ b → b < h 116 45 → -1 ≤ h 135 b ∧ h 135 b < 10 := W.2.2.2.2.2.2.2.2.1
theorem RW.en {h : AH} (W : RW h) : ∀ b, 0 ≤ b → b < h 116 45 → 0 ≤ h 137 b ∧ h 137 b ≤ 6 := W.2.2.2.2.2.2.2.2.2.1
theorem RW.eo {h : AH} (W : RW h) : ∀ b, 0 ≤ b → b < h 116 45 → ∀ k, 0 ≤ k → k < h 137 b → 0 ≤ h 138 (6 * b + k) ∧ h 138 (6 * b + k) < b := W.2.2.2.2.2.2.2.2.2.2.1
theorem RW.em {h : AH} (W : RW h) : ∀ b, 0 ≤ b → b < h 116 45 → ∀ k, 0 ≤ k → k < h 137 b → 1 ≤ h 139 (6 * b + k) ∧ h 139 (6 * b + k) ≤ 10000 := W.2.2.2.2.2.2.2.2.2.2.2.1
theorem RW.mp {h : AH} (W : RW h) : ∀ k, 0 ≤ k → k < h 116 48 → 1 ≤ h 146 k ∧ h 146 k ≤ 10000 := W.2.2.2.2.2.2.2.2.2.2.2.2
/-- the texts' clauses -/
def TX (h : AH) (cs : Int → List (Int × List Int)) : Prop := ∀ p, 0 ≤ p → p < h 116 15 → ∃ u, PT h p u ∧ pText u (h 124 p) 201 0 [] = .inr (cs p)
theorem RW.pc {h : AH} (W : RW h) {q b : Int} (h0 : 0 ≤ b) (h1 : b < h 116 45) : 1 ≤ prc h q b ∧ prc h q b ≤ 10000 := laF_rng (W.pr b h0 h1) W.mp _ W.nm.1 (Int.le_refl _)
theorem RW.eb {h : AH} (W : RW h) {b : Int} (h0 : 0 ≤ b) (h1 : b < h 116 45) : ∀ k, 0 ≤ k → k < h 137 b → 0 ≤ eB h b k ∧ eB h b k < 100 := fun k k0 k1 => by
  have := W.eo b h0 h1 k k0 k1
  have := W.nb
  unfold eB
  omega
theorem RW.ev {h : AH} (W : RW h) {q b : Int} (h0 : 0 ≤ b) (h1 : b < h 116 45) : ∀ k, 0 ≤ k → k < h 137 b → 0 ≤ eV h b q k ∧ eV h b q k ≤ 100000000 := fun k k0 k1 => by
  have a := W.eo b h0 h1 k k0 k1
  have a2 := W.em b h0 h1 k k0 k1
  have a3 := W.pc (q := q) (b := eB h b k) a.1 (by unfold eB; omega)
  have a4 := mul_r8 a3.1 a3.2 a2.1 a2.2
  unfold eV
  omega
theorem RW.pb {h : AH} (W : RW h) {q b : Int} (h0 : 0 ≤ b) (h1 : b < h 116 45) : 1 ≤ prc h q b * h 132 b ∧ prc h q b * h 132 b ≤ 100000000 := by
  have a3 := W.pc (q := q) h0 h1
  have a2 := W.ma b h0 h1
  exact mul_r8 a3.1 a3.2 a2.1 a2.2
theorem RW.lb {h : AH} (W : RW h) {O : Int → Int} {q b : Int} (h0 : 0 ≤ b) (h1 : b < h 116 45) : lbok (mLt h O b q) := mLt_rng (W.en b h0 h1) (W.ev h0 h1) (W.pb h0 h1) (W.he b h0 h1) (W.ps b h0 h1)
theorem lbok_let {h : AH} {O : Int → Int} {b q : Int} {Lr : Int → Int} (hl : lbok (mLt h O b q)) : lbok (ltF (fLet h O b q Lr)) := fun i h0 h1 => by rw [mLt_let h0 h1]; exact hl i h0 h1
theorem wth_let {cs : Int → List (Int × List Int)} {h : AH} {O : Int → Int} {b q p lab : Int} {Lr : Int → Int} : wth cs (ltF (fLet h O b q Lr)) p lab = wth cs (mLt h O b q) p lab := by
  unfold wth
  rw [fndL_congr (fun i h0 h1 => mLt_let h0 h1)]
theorem pOn_rng {h : AH} (W : RW h) {w day q : Int} : -1 ≤ pOn h w day q ∧ (pOn h w day q < h 116 15 ∨ pOn h w day q = -1) := by
  have := @ifc_rng (h 121) (h 122) (h 123) w day q (h 116 15) W.nt.1
  unfold pOn
  omega
section SJ
variable {l : Launch} {G : GG} {d : Nat} {h : AH} {z O Lr : Int → Int} {Q : Option AV → List Kd → AH → Prop}
theorem s_pOnJ {w day q : Int} (hd : 1 ≤ d) (W : RW h) (hq : Q (some (0, pOn h w day q)) K0 (jst h z O Lr)) : Sp l G mX12_protocolOn d 0 0 K0 [(2, 116), (0, w), (0, day), (0, q)] (jst h z O Lr) Q := by
  have e9 : pOn h w day q = ifc (jst h z O Lr 121) (jst h z O Lr 122) (jst h z O Lr 123) w day q (jst h z O Lr 116 15) := by
    rw [jst_r (by decide), jst_r (by decide), jst_r (by decide), jst_j (by decide)]
    rfl
  rw [e9] at hq
  exact s_X12_protocolOn hd (by rw [jst_j (by decide)]; exact W.nt.1) (by rw [jst_j (by decide)]; exact W.nt.2) hq
theorem s_memJ {p w day q : Int} (hd : 2 ≤ d) (W : RW h) (q1 : isM h p w day q ≠ 1 → Q (some (0, 0)) K0 (jst h z O Lr)) (q2 : isM h p w day q = 1 → Q (some (0, 1)) K0 (jst h z O Lr)) : Sp l G mX12_isMember d 0 0 K0 [(2, 116), (0, p), (0, w), (0, day), (0, q)] (jst h z O Lr) Q := by
  have e9 : isM h p w day q = iand (ishr (if ifc (jst h z O Lr 117) (jst h z O Lr 119) (jst h z O Lr 120) w day q (jst h z O Lr 116 14) = -1 then 0 else jst h z O Lr 118 (ifc (jst h z O Lr 117) (jst h z O Lr 119) (jst h z O Lr 120) w day q (jst h z O Lr 116 14))) p) 1 := by
    rw [jst_r (c := 117) (by decide), jst_r (c := 119) (by decide), jst_r (c := 120) (by decide), jst_r (c := 118) (by decide), jst_j (by decide)]
    rfl
  rw [e9] at q1 q2
  exact s_X12_isMember hd (by rw [jst_j (by decide)]; exact W.nw.1) (by rw [jst_j (by decide)]; exact W.nw.2) q1 q2
theorem s_worthJ {cs : Int → List (Int × List Int)} {p lb : Int} (hd : 38 ≤ d) (W : RW h) (hX : TX h cs) (hp : -1 ≤ p ∧ (p < h 116 15 ∨ p = -1)) (hL : lbok (ltF Lr)) (hq : ∀ z', Q (some (0, wth cs (ltF Lr) p lb)) K0 (jst h z' O Lr)) : Sp l G mX12_worth d 0 0 K0 [(2, 116), (0, p), (0, lb)] (jst h z O Lr) Q := by
  by_cases e : p = -1
  · subst e
    exact s_worthN (by omega) (hq z)
  · obtain ⟨u, hP, hc⟩ := hX p (by omega) (by omega)
    refine s_worthT hd (by omega) (by have := W.nt; omega) hP hc hL (fun z' => ?_)
    have q := hq z'
    unfold wth at q
    rw [if_neg e] at q
    exact q
end SJ
