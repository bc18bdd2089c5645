/-! ===== the reference's specs over all its scratch ===== -/
section SK
variable {l : Launch} {G : GG} {d : Nat} {h F : AH} {z O Lr : Int → Int} {Q : Option AV → List Kd → AH → Prop} {cs : Int → List (Int × List Int)}
theorem s_prcK {e q : Int} (hd : 1 ≤ d) (W : RW h) (he : 0 ≤ e ∧ e < 100) (hq : Q (some (0, prc h q e)) K0 (jst (kst h F) z O Lr)) : Sp l G mX12_priceOf d 0 0 K0 [(2, 116), (0, e), (0, q)] (jst (kst h F) z O Lr) Q :=
  s_prc hd (RW_kst W).nm he (by rw [prc_kst]; exact hq)
theorem s_pOnK {w day q : Int} (hd : 1 ≤ d) (W : RW h) (hq : Q (some (0, pOn h w day q)) K0 (jst (kst h F) z O Lr)) : Sp l G mX12_protocolOn d 0 0 K0 [(2, 116), (0, w), (0, day), (0, q)] (jst (kst h F) z O Lr) Q :=
  s_pOnJ hd (RW_kst W) (by rw [pOn_kst]; exact hq)
theorem s_memK {p w day q : Int} (hd : 2 ≤ d) (W : RW h) (q1 : isM h p w day q ≠ 1 → Q (some (0, 0)) K0 (jst (kst h F) z O Lr)) (q2 : isM h p w day q = 1 → Q (some (0, 1)) K0 (jst (kst h F) z O Lr)) : Sp l G mX12_isMember d 0 0 K0 [(2, 116), (0, p), (0, w), (0, day), (0, q)] (jst (kst h F) z O Lr) Q :=
  s_memJ hd (RW_kst W) (by rw [isM_kst]; exact q1) (by rw [isM_kst]; exact q2)
theorem s_worthK {p lb : Int} (hd : 38 ≤ d) (W : RW h) (hX : TX h cs) (hp : -1 ≤ p ∧ (p < h 116 15 ∨ p = -1)) (hL : lbok (ltF Lr)) (hq : ∀ z', Q (some (0, wth cs (ltF Lr) p lb)) K0 (jst (kst h F) z' O Lr)) : Sp l G mX12_worth d 0 0 K0 [(2, 116), (0, p), (0, lb)] (jst (kst h F) z O Lr) Q :=
  s_worthJ hd (RW_kst W) (TX_kst hX) (by rw [kst_c (by decide)]; exact hp) hL hq
theorem s_judgeK {to w q al : Int} (hd : 39 ≤ d) (W : RW h) (hX : TX h cs) (hal : -1 ≤ al ∧ (al < h 116 15 ∨ al = -1)) (hto : -1 ≤ to ∧ to < h 116 45) (hq : ∀ z Lr, Q none K0 (jst (kst h F) z (jO h cs w q al O (to + 1)) Lr)) : Sp l G mX12_judge d 0 0 K0 [(2, 116), (0, to), (0, w), (0, q), (0, al)] (jst (kst h F) z O Lr) Q :=
  s_judge hd (RW_kst W) (TX_kst hX) (by rw [kst_c (by decide)]; exact hal) (by rw [kst_c (by decide)]; exact hto) (fun z Lr => by rw [jO_kst]; exact hq z Lr)
theorem s_flK {b q : Int} (hd : 3 ≤ d) (W : RW h) (hb : 0 ≤ b ∧ b < h 116 45) (hq : ∀ Lr', (∀ i, 0 ≤ i → i < 8 → ltF Lr' i = mLt h O b q i) → Q none K0 (jst (kst h F) z O Lr')) : Sp l G mX12_findLetters d 0 0 K0 [(2, 116), (0, b), (0, q)] (jst (kst h F) z O Lr) Q := by
  have W2 : RW (kst h F) := RW_kst W
  have e : kst h F 116 45 = h 116 45 := kst_c (by decide)
  have nb := W.nb
  exact s_findLetters hd ⟨hb.1, by omega⟩ W2.nm (W2.en b hb.1 (by omega)) (W2.eb hb.1 (by omega)) (W2.ev hb.1 (by omega)) (W2.pb hb.1 (by omega)) (W2.he b hb.1 (by omega)) (W2.ps b hb.1 (by omega)) (hq _ (fun i h0 h1 => by rw [mLt_let h0 h1, mLt_kst]))
end SK
/-! ===== shipments ===== -/
/-- the letters of a shipment -/
def sLt (h : AH) (s : Int) (i : Int) : Int := if i = 5 then h 130 (h 150 s) else if i = 7 then idiv (h 155 s) 360 else 0
def fShp (h : AH) (s : Int) (Lr : Int → Int) : Int → Int := fset (fset (fclr Lr) 104 (h 130 (h 150 s))) 121 (idiv (h 155 s) 360)
theorem sLt_let {h : AH} {s : Int} {Lr : Int → Int} {i : Int} (h0 : 0 ≤ i) (h1 : i < 8) : ltF (fShp h s Lr) i = sLt h s i := by
  rcases (show i = 0 ∨ i = 1 ∨ i = 2 ∨ i = 3 ∨ i = 4 ∨ i = 5 ∨ i = 6 ∨ i = 7 by omega) with e | e | e | e | e | e | e | e <;> subst e
  · show fShp h s Lr 97 = 0; unfold fShp; rw [fset_ne (by decide), fset_ne (by decide)]; unfold fclr; rw [if_pos (by decide)]
  · show fShp h s Lr 110 = 0; unfold fShp; rw [fset_ne (by decide), fset_ne (by decide)]; unfold fclr; rw [if_pos (by decide)]
  · show fShp h s Lr 98 = 0; unfold fShp; rw [fset_ne (by decide), fset_ne (by decide)]; unfold fclr; rw [if_pos (by decide)]
  · show fShp h s Lr 111 = 0; unfold fShp; rw [fset_ne (by decide), fset_ne (by decide)]; unfold fclr; rw [if_pos (by decide)]
  · show fShp h s Lr 99 = 0; unfold fShp; rw [fset_ne (by decide), fset_ne (by decide)]; unfold fclr; rw [if_pos (by decide)]
  · show fShp h s Lr 104 = h 130 (h 150 s); unfold fShp; rw [fset_ne (by decide), fset_same]
  · show fShp h s Lr 112 = 0; unfold fShp; rw [fset_ne (by decide), fset_ne (by decide)]; unfold fclr; rw [if_pos (by decide)]
  · show fShp h s Lr 121 = idiv (h 155 s) 360; unfold fShp; rw [fset_same]
/-- the reference's shipments and papers are in their bounds -/
def RS (h : AH) : Prop :=
  (0 ≤ h 116 65 ∧ h 116 65 ≤ 100) ∧ (0 ≤ h 116 66 ∧ h 116 66 ≤ 100) ∧
  (∀ s, 0 ≤ s → s < h 116 65 → (0 ≤ h 150 s ∧ h 150 s < h 116 45) ∧ (1 ≤ h 151 s ∧ h 151 s ≤ 10000) ∧ (0 ≤ h 152 s ∧ h 152 s < 8) ∧ (-1 ≤ h 153 s ∧ h 153 s < 4) ∧ (0 ≤ h 154 s ∧ h 154 s ≤ 400) ∧ (0 ≤ h 155 s ∧ h 155 s ≤ 2000)) ∧
  (∀ k, 0 ≤ k → k < h 116 66 → 0 ≤ h 157 k ∧ h 157 k ≤ 2000)
def wS (h : AH) (cs : Int → List (Int × List Int)) (s q lab : Int) : Int := wth cs (sLt h s) (pOn h (h 153 s) (h 155 s) q) lab
theorem wth_congr {cs : Int → List (Int × List Int)} {l1 l2 : Int → Int} {p lab : Int} (hl : ∀ i, 0 ≤ i → i < 8 → l1 i = l2 i) : wth cs l1 p lab = wth cs l2 p lab := by
  unfold wth
  rw [fndL_congr hl]
theorem idiv_nn {x y : Int} (hx : 0 ≤ x) (hx2 : x < 2147483648) (hy : 0 < y) (hy2 : y < 2147483648) : idiv x y = x / y := by
  unfold idiv
  rw [Int32.toInt_div, t32 (by unfold ok32; omega), t32 (by unfold ok32; omega), Int.tdiv_eq_ediv_of_nonneg hx]
  have h1 : 0 ≤ x / y := Int.ediv_nonneg hx (by omega)
  have h2 : x / y ≤ x := Int.ediv_le_self _ hx
  exact Int.bmod_eq_of_le (by omega) (by omega)
theorem RS.lb {h : AH} (W : RW h) (S : RS h) {s : Int} (h0 : 0 ≤ s) (h1 : s < h 116 65) {Lr : Int → Int} : lbok (ltF (fShp h s Lr)) := by
  intro i i0 i1
  rw [sLt_let i0 i1]
  have a := S.2.2.1 s h0 h1
  have b := W.he (h 150 s) a.1.1 a.1.2
  have c := idiv_nn (x := h 155 s) (y := 360) (by omega) (by omega) (by decide) (by decide)
  unfold sLt
  split
  · omega
  · split
    · omega
    · omega
