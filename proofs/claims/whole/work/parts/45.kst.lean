/-! ===== more scratch of the reference ===== -/
abbrev kS (c j : Int) : Prop := c = 149 ∨ c = 159 ∨ c = 164 ∨ c = 165 ∨ c = 166 ∨ c = 172 ∨ c = 173 ∨ c = 176 ∨ (c = 116 ∧ (j = 0 ∨ (79 ≤ j ∧ j ≤ 84) ∨ j = 89 ∨ j = 90))
def kst (h F : AH) : AH := fun c j => if kS c j then F c j else h c j
section KST
variable {h F : AH} {c j x : Int}
theorem kst_s (q : kS c j) : kst h F c j = F c j := if_pos q
theorem kst_c (q : ¬ kS c j) : kst h F c j = h c j := if_neg q
theorem kst_m (q : c = 149 ∨ c = 159 ∨ c = 164 ∨ c = 165 ∨ c = 166 ∨ c = 172 ∨ c = 173 ∨ c = 176) : kst h F c j = F c j := kst_s (by unfold kS; omega)
theorem kst_n (q : c ≠ 149 ∧ c ≠ 159 ∧ c ≠ 164 ∧ c ≠ 165 ∧ c ≠ 166 ∧ c ≠ 172 ∧ c ≠ 173 ∧ c ≠ 176 ∧ c ≠ 116) : kst h F c j = h c j := kst_c (by unfold kS; omega)
theorem kst_r (q : c ≠ 149 ∧ c ≠ 159 ∧ c ≠ 164 ∧ c ≠ 165 ∧ c ≠ 166 ∧ c ≠ 172 ∧ c ≠ 173 ∧ c ≠ 176 ∧ c ≠ 116) : kst h F c = h c := funext fun _ => kst_n q
theorem kst_rm (q : c = 149 ∨ c = 159 ∨ c = 164 ∨ c = 165 ∨ c = 166 ∨ c = 172 ∨ c = 173 ∨ c = 176) : kst h F c = F c := funext fun _ => kst_m q
theorem kst_w (q : kS c j) : hset (kst h F) c j x = kst h (hset F c j x) := by
  funext a b
  unfold hset kst
  by_cases e : a = c ∧ b = j
  · obtain ⟨rfl, rfl⟩ := e
    simp only [if_pos q, and_self, if_true]
  · simp only [if_neg e]
theorem kst_wm (q : c = 149 ∨ c = 159 ∨ c = 164 ∨ c = 165 ∨ c = 166 ∨ c = 172 ∨ c = 173 ∨ c = 176) : hset (kst h F) c j x = kst h (hset F c j x) := kst_w (by unfold kS; omega)
theorem kst_mk : kst h h = h := by
  funext a b
  unfold kst
  split <;> rfl
theorem kst_kst {F2 : AH} : kst (kst h F) F2 = kst h F2 := by
  funext a b
  unfold kst
  by_cases e : kS a b
  · simp only [if_pos e]
  · simp only [if_neg e]
end KST
section KC
variable {h F : AH} {q b w al day l : Int} {O : Int → Int} {cs : Int → List (Int × List Int)}
theorem prc_kst : prc (kst h F) q b = prc h q b := by
  unfold prc
  rw [kst_r (by decide), kst_r (by decide), kst_r (by decide), kst_r (by decide), kst_c (by decide)]
theorem eB_kst : eB (kst h F) b = eB h b := by
  funext k
  unfold eB
  rw [kst_r (by decide)]
theorem eV_kst : eV (kst h F) b q = eV h b q := by
  funext k
  unfold eV
  rw [eB_kst, prc_kst, kst_r (by decide)]
theorem mLt_kst : mLt (kst h F) O b q = mLt h O b q := by
  have e1 : fO (kst h F) O b q = fO h O b q := by funext k; unfold fO; rw [eB_kst, eV_kst]
  have e2 : fK (kst h F) O b q = fK h O b q := by funext k; unfold fK; rw [eB_kst, eV_kst, kst_r (by decide)]
  have e3 : fB (kst h F) O b q = fB h O b q := by funext k; unfold fB; rw [eB_kst, eV_kst, kst_r (by decide)]
  have e4 : fC (kst h F) O b = fC h O b := by funext k; unfold fC; rw [eB_kst]
  funext i
  unfold mLt
  rw [e1, e2, e3, e4, eV_kst, prc_kst, kst_r (c := 137) (by decide), kst_r (c := 132) (by decide), kst_r (c := 130) (by decide), kst_r (c := 135) (by decide)]
theorem mOn_kst : mOn (kst h F) w day q = mOn h w day q := by
  unfold mOn
  rw [kst_r (c := 117) (by decide), kst_r (c := 119) (by decide), kst_r (c := 120) (by decide), kst_r (c := 118) (by decide), kst_c (c := 116) (by decide)]
theorem isM_kst : isM (kst h F) l w day q = isM h l w day q := by
  unfold isM
  rw [mOn_kst]
theorem pOn_kst : pOn (kst h F) w day q = pOn h w day q := by
  unfold pOn
  rw [kst_r (by decide), kst_r (by decide), kst_r (by decide), kst_c (by decide)]
theorem jv_kst : jv (kst h F) cs w q al O b = jv h cs w q al O b := by
  unfold jv
  rw [isM_kst, mLt_kst, pOn_kst, kst_r (c := 129) (by decide), kst_r (c := 134) (by decide), kst_r (c := 135) (by decide), kst_r (c := 136) (by decide)]
theorem jO_kst {k : Int} : jO (kst h F) cs w q al O k = jO h cs w q al O k := by
  unfold jO
  exact fupI_congr fun k h0 h1 t => by rw [jv_kst]
theorem RW_kst (W : RW h) : RW (kst h F) := by
  have e : ∀ c, c ≠ 149 ∧ c ≠ 159 ∧ c ≠ 164 ∧ c ≠ 165 ∧ c ≠ 166 ∧ c ≠ 172 ∧ c ≠ 173 ∧ c ≠ 176 ∧ c ≠ 116 → kst h F c = h c := fun c q => kst_r q
  have f : ∀ j, (j ≠ 0 ∧ ¬ (79 ≤ j ∧ j ≤ 84) ∧ j ≠ 89 ∧ j ≠ 90) → kst h F 116 j = h 116 j := fun j q => kst_c (by unfold kS; omega)
  refine ⟨?_, ?_, ?_, ?_, ?_, ?_, ?_, ?_, ?_, ?_, ?_, ?_, ?_⟩
  · rw [f _ (by decide)]; exact W.nb
  · rw [f _ (by decide)]; exact W.nm
  · rw [f _ (by decide)]; exact W.nw
  · rw [f _ (by decide)]; exact W.nt
  · rw [f _ (by decide), e _ (by decide)]; exact W.la
  · rw [f _ (by decide), e _ (by decide)]; exact W.he
  · rw [f _ (by decide), e _ (by decide)]; exact W.pr
  · rw [f _ (by decide), e _ (by decide)]; exact W.ma
  · rw [f _ (by decide), e _ (by decide)]; exact W.ps
  · rw [f _ (by decide), e _ (by decide)]; exact W.en
  · rw [f _ (by decide), e 137 (by decide), e 138 (by decide)]; exact W.eo
  · rw [f _ (by decide), e 137 (by decide), e 139 (by decide)]; exact W.em
  · rw [f _ (by decide), e _ (by decide)]; exact W.mp
theorem TX_kst (X : TX h cs) : TX (kst h F) cs := by
  intro p h0 h1
  rw [kst_c (by unfold kS; omega)] at h1
  obtain ⟨u, ⟨p1, p2, p3, p4⟩, hc⟩ := X p h0 h1
  refine ⟨u, ⟨?_, ?_, ?_, ?_⟩, ?_⟩
  · rw [kst_r (by decide)]; exact p1
  · rw [kst_r (by decide)]; exact p2
  · rw [kst_r (by decide)]; exact p3
  · rw [kst_r (c := 124) (by decide), kst_r (c := 128) (by decide)]; exact p4
  · rw [kst_r (by decide)]; exact hc
end KC
