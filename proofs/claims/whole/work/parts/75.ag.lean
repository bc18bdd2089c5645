/-! ===== the pure words see no scratch and no lines ===== -/
section AGF
variable {h h' : AH} {cs : Int → List (Int × List Int)} {O O0 lt : Int → Int} {w day q b e al l k s o lab t : Int}
theorem prc_ag (a : Ag h h') : prc h' q e = prc h q e := by
  unfold prc
  simp only [a.r145, a.r147, a.r146, a.r131, a.f116_48]
theorem eB_ag (a : Ag h h') : eB h' b = eB h b := by
  funext k
  unfold eB
  simp only [a.r138]
theorem eV_ag (a : Ag h h') : eV h' b q = eV h b q := by
  funext k
  unfold eV
  simp only [eB_ag a, prc_ag a, a.r139]
theorem mLt_ag (a : Ag h h') : mLt h' O b q = mLt h O b q := by
  have e1 : fO h' O b q = fO h O b q := by funext k; unfold fO; rw [eB_ag a, eV_ag a]
  have e2 : fK h' O b q = fK h O b q := by funext k; unfold fK; simp only [eB_ag a, eV_ag a, a.r130]
  have e3 : fB h' O b q = fB h O b q := by funext k; unfold fB; simp only [eB_ag a, eV_ag a, a.r129]
  have e4 : fC h' O b = fC h O b := by funext k; unfold fC; rw [eB_ag a]
  funext i
  unfold mLt
  rw [e1, e2, e3, e4, eV_ag a, prc_ag a]
  simp only [a.r137, a.r132, a.r130, a.r135]
theorem mOn_ag (a : Ag h h') : mOn h' w day q = mOn h w day q := by
  unfold mOn
  simp only [a.r117, a.r119, a.r120, a.r118, a.f116_14]
theorem isM_ag (a : Ag h h') : isM h' l w day q = isM h l w day q := by
  unfold isM
  rw [mOn_ag a]
theorem pOn_ag (a : Ag h h') : pOn h' w day q = pOn h w day q := by
  unfold pOn
  simp only [a.r121, a.r122, a.r123, a.f116_15]
theorem jv_ag (a : Ag h h') : jv h' cs w q al O b = jv h cs w q al O b := by
  unfold jv
  simp only [isM_ag a, mLt_ag a, pOn_ag a, a.r129, a.r134, a.r135, a.r136]
theorem jO_ag (a : Ag h h') : jO h' cs w q al O0 k = jO h cs w q al O0 k := by
  unfold jO
  exact fupI_congr fun k h0 h1 t => by rw [jv_ag a]
theorem own_ag (a : Ag h h') : own h' cs w q al b = own h cs w q al b := by
  unfold own
  rw [jO_ag a]
theorem own_agf (a : Ag h h') : own h' cs w q al = own h cs w q al := funext fun _ => own_ag a
theorem sLt_ag (a : Ag h h') : sLt h' s = sLt h s := by
  funext i
  unfold sLt
  simp only [a.r130, a.r150, a.r155]
theorem wS_ag (a : Ag h h') : wS h' cs s q lab = wS h cs s q lab := by
  unfold wS
  simp only [sLt_ag a, pOn_ag a, a.r153, a.r155]
theorem pap_ag (a : Ag h h') {n : Int} : pap h' s q n = pap h s q n := by
  unfold pap
  simp only [a.r156, a.r158, a.r157]
theorem fS_ag (a : Ag h h') : fS h' cs O s q = fS h cs O s q := by
  unfold fS
  simp only [isM_ag a, wS_ag a, pap_ag a, a.r153, a.r129, a.r150, a.r152, a.r155, a.r154, a.f116_66]
theorem fst1_ag (a : Ag h h') : fst1 h' cs s q = fst1 h cs s q := by
  unfold fst1
  simp only [fS_ag a, own_ag a, a.r153, a.r150]
theorem fI_ag (a : Ag h h') : fI h' cs s q = fI h cs s q := by
  unfold fI
  simp only [fst1_ag a, a.r155]
theorem oOK_ag (a : Ag h h') : oOK h' cs q o t = oOK h cs q o t := by
  unfold oOK
  simp only [wS_ag a, a.r151]
theorem lik_ag (a : Ag h h') : lik h' s o ↔ lik h s o := by
  unfold lik
  simp only [a.r152, a.r153, a.r130, a.r150, a.r155]
theorem qF_ag (a : Ag h h') : qF h' cs s q k = qF h cs s q k := by
  unfold qF
  refine fupI_congr (fun x _ _ p => ?_)
  unfold qS
  by_cases c : lik h x s ∧ fI h cs x q = 1
  · have c2 : lik h' x s ∧ fI h' cs x q = 1 := ⟨(lik_ag a).mpr c.1, by rw [fI_ag a]; exact c.2⟩
    rw [if_pos c, if_pos c2, oOK_ag a, a.r151]
  · have c2 : ¬ (lik h' x s ∧ fI h' cs x q = 1) := fun z => c ⟨(lik_ag a).mp z.1, by rw [← fI_ag a]; exact z.2⟩
    rw [if_neg c, if_neg c2]
theorem stF_ag (a : Ag h h') : stF h' cs s q = stF h cs s q := by
  unfold stF
  rw [fI_ag a, qF_ag a]
theorem rtF_ag (a : Ag h h') : rtF h' cs s q = rtF h cs s q := by
  unfold rtF
  simp only [stF_ag a, wS_ag a, a.r125, a.r152, a.r130, a.r150]
theorem duF_ag (a : Ag h h') : duF h' cs s q = duF h cs s q := by
  unfold duF
  simp only [prc_ag a, rtF_ag a, a.r150, a.r151]
theorem wgt_ag (a : Ag h h') : wgt h' cs s q = wgt h cs s q := by
  unfold wgt
  simp only [mLt_ag a, own_ag a, a.r135, a.r150, a.r153]
theorem mvF_ag (a : Ag h h') {p wh : Int} : mvF h' cs w q p wh = mvF h cs w q p wh := by
  funext b
  unfold mvF
  simp only [own_ag a, a.r135]
theorem cP_ag (a : Ag h h') : cP h' cs q = cP h cs q := by
  funext b
  unfold cP
  rw [stF_ag a]
theorem cU_ag (a : Ag h h') : cU h' = cU h := by
  funext b
  unfold cU
  rw [a.r136]
theorem RT_ag (a : Ag h h') (T : RT h) : RT h' := by
  unfold RT
  rw [a.r125]
  exact T
end AGF
theorem CI.T2 {h : AH} {cs : Int → List (Int × List Int)} (I : CI h cs) : RT h := I.ta
