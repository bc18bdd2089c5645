/-! ===== calls of both sides together: what is judged (written by wip/whole/p78.py) ===== -/
section AGS
variable {h h' : AH} {cs : Int → List (Int × List Int)} {g : GD} {w b : Int} {t : Int → Int}
theorem cV_ag (a : Ag h h') : cV h' t = cV h t := by funext p; unfold cV; rw [a.r168]
theorem cW_ag (a : Ag h h') : cW h' w t = cW h w t := by funext p; unfold cW; rw [a.r170]
theorem cO_ag (a : Ag h h') : cO h' w t = cO h w t := by funext p; unfold cO; rw [cW_ag a, cV_ag a]
theorem cK_ag (a : Ag h h') : cK h' g w t = cK h g w t := by funext p; unfold cK; rw [cW_ag a, cV_ag a, a.r169]
theorem cB_ag (a : Ag h h') : cB h' g w t = cB h g w t := by funext p; unfold cB; rw [cW_ag a, cV_ag a, a.r171]
theorem cC_ag (a : Ag h h') : cC h' w t = cC h w t := by funext p; unfold cC; rw [cW_ag a]
theorem oLt_ag (a : Ag h h') : oLt h' g w t = oLt h g w t := by
  funext i
  unfold oLt
  rw [cV_ag a, cO_ag a, cK_ag a, cB_ag a, cC_ag a, a.r167]
theorem tLt_ag (a : Ag h h') : tLt h' g = tLt h g := by funext i; unfold tLt; rw [a.f116_1]
theorem twoW_ag (a : Ag h h') : twoW h' g w ↔ twoW h g w := by
  unfold twoW
  rw [isM_ag a, isM_ag a, a.f116_1]
theorem rtW_ag (a : Ag h h') : rtW h' cs g w = rtW h cs g w := by
  unfold rtW
  rw [tLt_ag a, pOn_ag a, a.f116_1]
theorem okW_ag (a : Ag h h') : okW h' cs g w t ↔ okW h cs g w t := by
  unfold okW
  rw [twoW_ag a, oLt_ag a, pOn_ag a, a.f116_1]
theorem rS_ag (a : Ag h h') {r : Int} : rS h' cs g t w r = rS h cs g t w r := by
  unfold rS
  by_cases c : okW h cs g w t
  · rw [if_pos c, if_pos ((okW_ag a).mpr c), rtW_ag a]
  · rw [if_neg c, if_neg (fun z => c ((okW_ag a).mp z))]
theorem trf_ag (a : Ag h h') : trf h' g = trf h g := by unfold trf; rw [a.r125]
theorem rtF4_ag (a : Ag h h') {k : Int} : rtF4 h' cs g t k = rtF4 h cs g t k := by
  unfold rtF4
  rw [trf_ag a]
  exact fupI_congr fun k _ _ r => rS_ag a
theorem cst4_ag (a : Ag h h') : cst4 h' cs g = cst4 h cs g := by
  funext t
  unfold cst4
  rw [cV_ag a, rtF4_ag a, a.r167]
theorem SNk_ag (a : Ag h h') {n : Int} : SNk h' cs g n = SNk h cs g n := by
  have e : PK h' = PK h := by funext n; unfold PK; rw [a.r167]
  unfold SNk
  rw [cst4_ag a, e]
theorem wF_ag (a : Ag h h') : wF h' cs = wF h cs := by
  funext s
  unfold wF
  rw [stF_ag a, wgt_ag a, a.f116_1]
theorem wdN_ag (a : Ag h h') : wdN h' b = wdN h b := by
  have e : wqF h' b = wqF h b := by funext i; unfold wqF; rw [a.r174]
  unfold wdN wqN
  rw [e, a.f116_88]
theorem wdQ_ag (a : Ag h h') : wdQ h' b = wdQ h b := by
  funext i
  unfold wdQ
  rw [a.r174, a.f116_88]
theorem wdV_ag (a : Ag h h') : wdV h' b = wdV h b := by
  funext i
  unfold wdV
  rw [wdQ_ag a, a.r175]
theorem wdE_ag (a : Ag h h') : wdE h' b = wdE h b := by
  have e : (fun i => wdW h' b i) = fun i => wdW h b i := by
    funext i
    show h' 175 (wdQ h' b i) = h 175 (wdQ h b i)
    rw [wdQ_ag a, a.r175]
  unfold wdE
  rw [e, wdN_ag a, a.r132]
theorem wdK_ag (a : Ag h h') : wdK h' b = wdK h b := by
  unfold wdK
  rw [wdE_ag a, wdV_ag a, wdN_ag a]
theorem wdG_ag (a : Ag h h') : wdG h' b = wdG h b := by
  unfold wdG
  rw [wdE_ag a, wdV_ag a, wdN_ag a, wdK_ag a]
theorem wdA_ag (a : Ag h h') {i : Int} : wdA h' b i = wdA h b i := by
  show wdQ h' b (pkP (fun i => wdG h' b i.toNat = true) (wdN h' b).toNat i) = wdQ h b (pkP (fun i => wdG h b i.toNat = true) (wdN h b).toNat i)
  rw [wdG_ag a, wdN_ag a, wdQ_ag a]
end AGS
section JIN
variable {l : Launch} {G : GG} {M : MI} {d mc ms : Nat} {K : List Kd} {as : List AV} {h : AH} {Q : Option AV → List Kd → AH → Prop}
theorem cst_in (k : Sp l G M d mc ms K as (cst h h) Q) : Sp l G M d mc ms K as h Q := by
  rw [cst_mk] at k
  exact k
theorem jk_in (k : Sp l G M d mc ms K as (jst (kst h h) (h 116) (h 148) (h 126)) Q) : Sp l G M d mc ms K as h Q := by
  rw [kst_mk, jst_mk] at k
  exact k
theorem AL_jk {h F : AH} {z O Lr : Int → Int} : AL h (jst (kst h F) z O Lr) := AL_t AL_kst AL_jst
theorem Qc {t : Nat} {x y : Int} {h2 : AH} (e : x = y) (k : Q (some (t, x)) K0 h2) : Q (some (t, y)) K0 h2 := e ▸ k
end JIN

set_option maxHeartbeats 4000000 in
set_option maxRecDepth 100000 in
theorem r_own {l : Launch} {G : GG} {d : Nat} {h h1 : AH} {Q : Option AV → List Kd → AH → Prop} {cs : Int → List (Int × List Int)} {b w q : Int} (hd : 60 ≤ d) (I : CI h cs) (a : AL h h1) (q0 : ¬ ((0 ≤ b ∧ b < h 116 45) ∧ (0 ≤ w ∧ w ≤ 3) ∧ (h 134 b ≤ q ∧ q ≤ h 116 1)) → ∀ h2, AL h1 h2 → Q (some (0, -1)) K0 h2) (q1 : ((0 ≤ b ∧ b < h 116 45) ∧ (0 ≤ w ∧ w ≤ 3) ∧ (h 134 b ≤ q ∧ q ≤ h 116 1)) → ∀ h2, AL h1 h2 → Q (some (0, own h cs w q (-1) b)) K0 h2) : Sp l G mX12_own d 0 0 K0 [(2, 116), (0, b), (0, w), (0, q)] h1 Q := by
  have I1 := CI_al a I
  have g := a.ag
  have e45 := g.f116_45
  have e1 := g.f116_1
  have e65 := g.f116_65
  have e15 := g.f116_15
  have e134 := congrFun g.r134 b
  have e135 := congrFun g.r135 b
  have mb := fun z : 0 ≤ b ∧ b < h 116 45 => I.m134.2 b z.1 z.2
  refine jk_in ?_
  refine s_own (cs := cs) (by omega) I1.W I1.T ?_ ?_ ?_
  · intro n
    exact q0 (by omega) _ AL_jk
  · intro xl xz c z
    have e9 := jO_own (cs := cs) (w := w) (q := q) (al := -1) (O0 := h1 148) I1.W (k := b + 1) (b := b) (by omega) c.1.1 (by omega)
    rw [own_ag g] at e9
    have r9 := own_rng (h := h) (cs := cs) (w := w) (q := q) (al := -1) c.1.1
    exact Qc (by omega) (q1 (by omega) _ AL_jk)
  · intro xl xz c z
    have e9 := jO_own (cs := cs) (w := w) (q := q) (al := -1) (O0 := h1 148) I1.W (k := b + 1) (b := b) (by omega) c.1.1 (by omega)
    rw [own_ag g] at e9
    have r9 := own_rng (h := h) (cs := cs) (w := w) (q := q) (al := -1) c.1.1
    exact Qc (by omega) (q1 (by omega) _ AL_jk)

set_option maxHeartbeats 4000000 in
set_option maxRecDepth 100000 in
theorem j_own {l : Launch} {G : GG} {d : Nat} {h : AH} {Q : Option AV → List Kd → AH → Prop} {b w q : Int} (hd : 60 ≤ d) (H : LI h) (hq : JQ mX12_own [(2, 116), (0, b), (0, w), (0, q)] 0 l G d Q) : Sp l G mX11_own d 0 0 K0 [(2, 0), (0, b), (0, w), (0, q)] h Q := by
  have H0 := H
  obtain ⟨cs, I, L⟩ := H
  refine cst_in ?_
  refine s_Fown (b := b) (w := w) (q := q) (by omega) I ?_ ?_
  · intro c F'
    refine hq _ _ (fun Q2 hq2 => ?_)
    exact r_own hd I AL_cst (fun n h2 b => hq2 _ (LI_al (AL_t AL_cst b) H0)) (fun y h2 b => absurd y c)
  · intro c F'
    refine hq _ _ (fun Q2 hq2 => ?_)
    exact r_own hd I AL_cst (fun n h2 b => absurd c n) (fun y h2 b => hq2 _ (LI_al (AL_t AL_cst b) H0))

set_option maxHeartbeats 4000000 in
set_option maxRecDepth 100000 in
theorem r_letter {l : Launch} {G : GG} {d : Nat} {h h1 : AH} {Q : Option AV → List Kd → AH → Prop} {cs : Int → List (Int × List Int)} {b w q c : Int} (hd : 60 ≤ d) (I : CI h cs) (a : AL h h1) (q0 : ¬ ((plc c ≠ -1 ∧ plc c ≠ 7) ∧ (((0 ≤ b ∧ b < h 116 45) ∧ (0 ≤ w ∧ w ≤ 3) ∧ (h 134 b ≤ q ∧ q ≤ h 116 1)) ∧ h 135 b ≠ -1)) → ∀ h2, AL h1 h2 → Q (some (0, -1)) K0 h2) (q1 : ((plc c ≠ -1 ∧ plc c ≠ 7) ∧ (((0 ≤ b ∧ b < h 116 45) ∧ (0 ≤ w ∧ w ≤ 3) ∧ (h 134 b ≤ q ∧ q ≤ h 116 1)) ∧ h 135 b ≠ -1)) → ∀ h2, AL h1 h2 → Q (some (0, mLt h (own h cs w q (-1)) b q (plc c))) K0 h2) : Sp l G mX12_letter d 0 0 K0 [(2, 116), (0, b), (0, w), (0, q), (0, c)] h1 Q := by
  have I1 := CI_al a I
  have g := a.ag
  have e45 := g.f116_45
  have e1 := g.f116_1
  have e65 := g.f116_65
  have e15 := g.f116_15
  have e134 := congrFun g.r134 b
  have e135 := congrFun g.r135 b
  have mb := fun z : 0 ≤ b ∧ b < h 116 45 => I.m134.2 b z.1 z.2
  have ix := @ix3_cases c
  have pl := fun z => @plc_out c z
  refine jk_in ?_
  refine s_letter (cs := cs) (by omega) I1.W I1.T ?_ ?_ ?_ ?_ ?_
  · intro n
    exact q0 (by omega) _ AL_jk
  · intro xl xz k z
    exact q0 (by omega) _ AL_jk
  · intro xl xz k z z2
    exact q0 (by omega) _ AL_jk
  · intro xl xz k z z2 z3 z4
    have p9 : lch (plc c) = c ∧ 0 ≤ plc c ∧ plc c < 7 := by omega
    have v9 := z4 (plc c) p9.2.1 (by omega)
    unfold ltF at v9
    rw [p9.1, mLt_O (O' := own h cs w q (-1)) I1.W k.1.1 k.1.2 (fun e e0 e2 => by rw [jO_own I1.W (by omega) e0 (by omega), own_ag g]), mLt_ag g] at v9
    rw [v9]
    exact q1 (by omega) _ AL_jk
  · intro xl xz k z z2 z3
    exact q0 (by omega) _ AL_jk

set_option maxHeartbeats 4000000 in
set_option maxRecDepth 100000 in
theorem j_letter {l : Launch} {G : GG} {d : Nat} {h : AH} {Q : Option AV → List Kd → AH → Prop} {b w q c : Int} (hd : 60 ≤ d) (H : LI h) (hq : JQ mX12_letter [(2, 116), (0, b), (0, w), (0, q), (0, c)] 0 l G d Q) : Sp l G mX11_letter d 0 0 K0 [(2, 0), (0, b), (0, w), (0, q), (0, c)] h Q := by
  have H0 := H
  obtain ⟨cs, I, L⟩ := H
  refine cst_in ?_
  refine s_Fletter (b := b) (w := w) (q := q) (c := c) (by omega) I ?_ ?_
  · intro c F'
    refine hq _ _ (fun Q2 hq2 => ?_)
    exact r_letter hd I AL_cst (fun n h2 b => hq2 _ (LI_al (AL_t AL_cst b) H0)) (fun y h2 b => absurd y c)
  · intro c F'
    refine hq _ _ (fun Q2 hq2 => ?_)
    exact r_letter hd I AL_cst (fun n h2 b => absurd c n) (fun y h2 b => hq2 _ (LI_al (AL_t AL_cst b) H0))

set_option maxHeartbeats 4000000 in
set_option maxRecDepth 100000 in
theorem r_failing {l : Launch} {G : GG} {d : Nat} {h h1 : AH} {Q : Option AV → List Kd → AH → Prop} {cs : Int → List (Int × List Int)} {b w q : Int} (hd : 60 ≤ d) (I : CI h cs) (a : AL h h1) (q0 : ¬ (((0 ≤ b ∧ b < h 116 45) ∧ (0 ≤ w ∧ w ≤ 3) ∧ (h 134 b ≤ q ∧ q ≤ h 116 1)) ∧ h 135 b ≠ -1) → ∀ h2, AL h1 h2 → Q (some (0, -1)) K0 h2) (q1 : (((0 ≤ b ∧ b < h 116 45) ∧ (0 ≤ w ∧ w ≤ 3) ∧ (h 134 b ≤ q ∧ q ≤ h 116 1)) ∧ h 135 b ≠ -1) → ∀ x, FFR h (own h cs w q (-1)) b x → ∀ h2, AL h1 h2 → Q (some (0, x)) K0 h2) : Sp l G mX12_failing d 0 0 K0 [(2, 116), (0, b), (0, w), (0, q)] h1 Q := by
  have I1 := CI_al a I
  have g := a.ag
  have e45 := g.f116_45
  have e1 := g.f116_1
  have e65 := g.f116_65
  have e15 := g.f116_15
  have e134 := congrFun g.r134 b
  have e135 := congrFun g.r135 b
  have mb := fun z : 0 ≤ b ∧ b < h 116 45 => I.m134.2 b z.1 z.2
  have e137 := congrFun g.r137 b
  refine jk_in ?_
  have OE : ((0 ≤ b ∧ b < h1 116 45) ∧ (0 ≤ w ∧ w ≤ 3) ∧ (0 ≤ q ∧ q ≤ h1 116 1) ∧ h1 134 b ≤ q) → ∀ j, 0 ≤ j → j < h1 137 b → (jO h1 cs w q (-1) (h1 148) (b + 1)) (eB h1 b j) = own h cs w q (-1) (eB h b j) := fun c j j0 j1 => by
    have eo := I1.W.eo b c.1.1 c.1.2 j j0 j1
    rw [jO_own I1.W (by omega) (by unfold eB; omega) (by unfold eB; omega), own_ag g, eB_ag g]
  refine s_failing (cs := cs) (by omega) I1.W I1.T ?_ ?_ ?_
  · intro n
    exact q0 (by omega) _ AL_jk
  · intro z Lr c k k0 k1 k2 k3
    by_cases gr : h 135 b = -1
    · have := I.gr b c.1.1 (by omega) gr
      omega
    · exact q1 ⟨by omega, gr⟩ _ (Or.inr ⟨⟨k0, by omega⟩, by rw [← OE c k k0 k1]; exact k2, fun j j0 j1 => by rw [← OE c j j0 (by omega)]; exact k3 j j0 j1⟩) _ AL_jk
  · intro z Lr c k3
    by_cases gr : h 135 b = -1
    · exact q0 (fun y => y.2 gr) _ AL_jk
    · exact q1 ⟨by omega, gr⟩ _ (Or.inl ⟨rfl, fun j j0 j1 => by rw [← OE c j j0 (by omega)]; exact k3 j j0 (by omega)⟩) _ AL_jk

set_option maxHeartbeats 4000000 in
set_option maxRecDepth 100000 in
theorem j_failing {l : Launch} {G : GG} {d : Nat} {h : AH} {Q : Option AV → List Kd → AH → Prop} {b w q : Int} (hd : 60 ≤ d) (H : LI h) (hq : JQ mX12_failing [(2, 116), (0, b), (0, w), (0, q)] 0 l G d Q) : Sp l G mX11_failing d 0 0 K0 [(2, 0), (0, b), (0, w), (0, q)] h Q := by
  have H0 := H
  obtain ⟨cs, I, L⟩ := H
  refine cst_in ?_
  refine s_Ffailing (b := b) (w := w) (q := q) (by omega) I ?_ ?_
  · intro c F'
    refine hq _ _ (fun Q2 hq2 => ?_)
    exact r_failing hd I AL_cst (fun n h2 k => hq2 _ (LI_al (AL_t AL_cst k) H0)) (fun y => absurd y c)
  · intro c F' x hx
    refine hq _ _ (fun Q2 hq2 => ?_)
    exact r_failing hd I AL_cst (fun n => absurd c n) (fun y x2 hx2 h2 k => by
      rw [FFR_u hx2 hx]
      exact hq2 _ (LI_al (AL_t AL_cst k) H0))

set_option maxHeartbeats 4000000 in
set_option maxRecDepth 100000 in
theorem r_state {l : Launch} {G : GG} {d : Nat} {h h1 : AH} {Q : Option AV → List Kd → AH → Prop} {cs : Int → List (Int × List Int)} {s q : Int} (hd : 60 ≤ d) (I : CI h cs) (a : AL h h1) (q0 : ¬ ((0 ≤ s ∧ s < h 116 65) ∧ (h 155 s ≤ q ∧ q ≤ h 116 1)) → ∀ h2, AL h1 h2 → Q (some (0, -1)) K0 h2) (q1 : ((0 ≤ s ∧ s < h 116 65) ∧ (h 155 s ≤ q ∧ q ≤ h 116 1)) → ∀ h2, AL h1 h2 → Q (some (0, stF h cs s q)) K0 h2) : Sp l G mX12_state d 0 0 K0 [(2, 116), (0, s), (0, q)] h1 Q := by
  have I1 := CI_al a I
  have g := a.ag
  have e45 := g.f116_45
  have e1 := g.f116_1
  have e65 := g.f116_65
  have e15 := g.f116_15
  have e155 := congrFun g.r155 s
  have ms := fun z : 0 ≤ s ∧ s < h 116 65 => I.m155.2 s z.1 z.2
  refine jk_in ?_
  refine s_state (cs := cs) (by omega) I1.W I1.S I1.T ?_ ?_
  · intro n
    exact q0 (by omega) _ AL_jk
  · intro F z O Lr _ c
    rw [stF_ag g]
    exact q1 (by omega) _ AL_jk

set_option maxHeartbeats 4000000 in
set_option maxRecDepth 100000 in
theorem j_state {l : Launch} {G : GG} {d : Nat} {h : AH} {Q : Option AV → List Kd → AH → Prop} {s q : Int} (hd : 60 ≤ d) (H : LI h) (hq : JQ mX12_state [(2, 116), (0, s), (0, q)] 0 l G d Q) : Sp l G mX11_state d 0 0 K0 [(2, 0), (0, s), (0, q)] h Q := by
  have H0 := H
  obtain ⟨cs, I, L⟩ := H
  refine cst_in ?_
  refine s_Fstate (s := s) (q := q) (by omega) I ?_ ?_
  · intro c F'
    refine hq _ _ (fun Q2 hq2 => ?_)
    exact r_state hd I AL_cst (fun n h2 b => hq2 _ (LI_al (AL_t AL_cst b) H0)) (fun y h2 b => absurd y c)
  · intro c F'
    refine hq _ _ (fun Q2 hq2 => ?_)
    exact r_state hd I AL_cst (fun n h2 b => absurd c n) (fun y h2 b => hq2 _ (LI_al (AL_t AL_cst b) H0))

set_option maxHeartbeats 4000000 in
set_option maxRecDepth 100000 in
theorem r_duty {l : Launch} {G : GG} {d : Nat} {h h1 : AH} {Q : Option AV → List Kd → AH → Prop} {cs : Int → List (Int × List Int)} {s q : Int} (hd : 60 ≤ d) (I : CI h cs) (a : AL h h1) (q0 : ¬ ((0 ≤ s ∧ s < h 116 65) ∧ (h 155 s ≤ q ∧ q ≤ h 116 1)) → ∀ h2, AL h1 h2 → Q (some (1, -1)) K0 h2) (q1 : ((0 ≤ s ∧ s < h 116 65) ∧ (h 155 s ≤ q ∧ q ≤ h 116 1)) → ∀ h2, AL h1 h2 → Q (some (1, duF h cs s q)) K0 h2) : Sp l G mX12_duty d 0 0 K0 [(2, 116), (0, s), (0, q)] h1 Q := by
  have I1 := CI_al a I
  have g := a.ag
  have e45 := g.f116_45
  have e1 := g.f116_1
  have e65 := g.f116_65
  have e15 := g.f116_15
  have e155 := congrFun g.r155 s
  have ms := fun z : 0 ≤ s ∧ s < h 116 65 => I.m155.2 s z.1 z.2
  refine jk_in ?_
  refine s_duty (cs := cs) (by omega) I1.W I1.S I1.T I1.T2 ?_ ?_
  · intro n
    exact q0 (by omega) _ AL_jk
  · intro F z O Lr _ c
    rw [duF_ag g]
    exact q1 (by omega) _ AL_jk

set_option maxHeartbeats 4000000 in
set_option maxRecDepth 100000 in
theorem j_duty {l : Launch} {G : GG} {d : Nat} {h : AH} {Q : Option AV → List Kd → AH → Prop} {s q : Int} (hd : 60 ≤ d) (H : LI h) (hq : JQ mX12_duty [(2, 116), (0, s), (0, q)] 1 l G d Q) : Sp l G mX11_duty d 0 0 K0 [(2, 0), (0, s), (0, q)] h Q := by
  have H0 := H
  obtain ⟨cs, I, L⟩ := H
  refine cst_in ?_
  refine s_Fduty (s := s) (q := q) (by omega) I ?_ ?_
  · intro c F'
    refine hq _ _ (fun Q2 hq2 => ?_)
    exact r_duty hd I AL_cst (fun n h2 b => hq2 _ (LI_al (AL_t AL_cst b) H0)) (fun y h2 b => absurd y c)
  · intro c F'
    refine hq _ _ (fun Q2 hq2 => ?_)
    exact r_duty hd I AL_cst (fun n h2 b => absurd c n) (fun y h2 b => hq2 _ (LI_al (AL_t AL_cst b) H0))

set_option maxHeartbeats 4000000 in
set_option maxRecDepth 100000 in
theorem r_moved {l : Launch} {G : GG} {d : Nat} {h h1 : AH} {Q : Option AV → List Kd → AH → Prop} {cs : Int → List (Int × List Int)} {p wh : Int} (hd : 60 ≤ d) (I : CI h cs) (a : AL h h1) (q0 : ¬ ((0 ≤ p ∧ p < h 116 15) ∧ (0 ≤ wh ∧ wh ≤ 1)) → ∀ h2, AL h1 h2 → Q (some (0, -1)) K0 h2) (q1 : ((0 ≤ p ∧ p < h 116 15) ∧ (0 ≤ wh ∧ wh ≤ 1)) → ∀ h2, AL h1 h2 → Q (some (0, sm (mvF h cs (h 121 p) (h 116 1) p wh) (h 116 45))) K0 h2) : Sp l G mX12_moved d 0 0 K0 [(2, 116), (0, p), (0, wh)] h1 Q := by
  have I1 := CI_al a I
  have g := a.ag
  have e45 := g.f116_45
  have e1 := g.f116_1
  have e65 := g.f116_65
  have e15 := g.f116_15
  refine jk_in ?_
  refine s_moved (cs := cs) (by omega) I1.W I1.T ?_ ?_
  · intro n
    exact q0 (by omega) _ AL_jk
  · intro F z O Lr c _
    rw [mvF_ag g, e1, e45, g.r121]
    exact q1 (by omega) _ AL_jk

set_option maxHeartbeats 4000000 in
set_option maxRecDepth 100000 in
theorem j_moved {l : Launch} {G : GG} {d : Nat} {h : AH} {Q : Option AV → List Kd → AH → Prop} {p wh : Int} (hd : 60 ≤ d) (H : LI h) (hq : JQ mX12_moved [(2, 116), (0, p), (0, wh)] 0 l G d Q) : Sp l G mX11_moved d 0 0 K0 [(2, 0), (0, p), (0, wh)] h Q := by
  have H0 := H
  obtain ⟨cs, I, L⟩ := H
  refine cst_in ?_
  refine s_Fmoved (p := p) (wh := wh) (by omega) I ?_ ?_
  · intro c F'
    refine hq _ _ (fun Q2 hq2 => ?_)
    exact r_moved hd I AL_cst (fun n h2 b => hq2 _ (LI_al (AL_t AL_cst b) H0)) (fun y h2 b => absurd y c)
  · intro c F'
    refine hq _ _ (fun Q2 hq2 => ?_)
    exact r_moved hd I AL_cst (fun n h2 b => absurd c n) (fun y h2 b => hq2 _ (LI_al (AL_t AL_cst b) H0))

set_option maxHeartbeats 4000000 in
set_option maxRecDepth 100000 in
theorem r_check {l : Launch} {G : GG} {d : Nat} {h h1 : AH} {Q : Option AV → List Kd → AH → Prop} {cs : Int → List (Int × List Int)} {n x0 i : Int} (hd : 60 ≤ d) (I : CI h cs) (a : AL h h1) (q0 : ¬ (1 ≤ n ∧ (0 ≤ i ∧ i ≤ n - 1) ∧ n ≤ (sm (cP h cs (h 116 1)) (h 116 65))) → ∀ h2, AL h1 h2 → Q (some (0, -1)) K0 h2) (q1 : (1 ≤ n ∧ (0 ≤ i ∧ i ≤ n - 1) ∧ n ≤ (sm (cP h cs (h 116 1)) (h 116 65))) → ∀ h2, AL h1 h2 → Q (some (0, (dF (h 116 65) (x0, sm (wF h cs) (h 116 65), wF h cs, -1) (i + 1)).2.2.2)) K0 h2) : Sp l G mX12_check d 0 0 K0 [(2, 116), (0, n), (1, x0), (0, i)] h1 Q := by
  have I1 := CI_al a I
  have g := a.ag
  have e45 := g.f116_45
  have e1 := g.f116_1
  have e65 := g.f116_65
  have e15 := g.f116_15
  refine jk_in ?_
  refine s_rcheck (cs := cs) (by omega) I1 ?_ ?_
  · intro c F z O Lr
    rw [cP_ag g, e1, e65] at c
    exact q0 c _ AL_jk
  · intro c F z O Lr
    rw [cP_ag g, e1, e65] at c
    rw [wF_ag g, e65]
    exact q1 c _ AL_jk

set_option maxHeartbeats 4000000 in
set_option maxRecDepth 100000 in
theorem j_check {l : Launch} {G : GG} {d : Nat} {h : AH} {Q : Option AV → List Kd → AH → Prop} {n x0 i : Int} (hd : 60 ≤ d) (H : LI h) (hq : JQ mX12_check [(2, 116), (0, n), (1, x0), (0, i)] 0 l G d Q) : Sp l G mX11_check d 0 0 K0 [(2, 0), (0, n), (1, x0), (0, i)] h Q := by
  have H0 := H
  obtain ⟨cs, I, L⟩ := H
  refine cst_in ?_
  refine s_Fcheck (n := n) (x0 := x0) (i := i) (by omega) I ?_ ?_
  · intro c F'
    refine hq _ _ (fun Q2 hq2 => ?_)
    exact r_check hd I AL_cst (fun n h2 b => hq2 _ (LI_al (AL_t AL_cst b) H0)) (fun y h2 b => absurd y c)
  · intro c F'
    refine hq _ _ (fun Q2 hq2 => ?_)
    exact r_check hd I AL_cst (fun n h2 b => absurd c n) (fun y h2 b => hq2 _ (LI_al (AL_t AL_cst b) H0))

set_option maxHeartbeats 4000000 in
set_option maxRecDepth 100000 in
theorem r_best {l : Launch} {G : GG} {d : Nat} {h h1 : AH} {Q : Option AV → List Kd → AH → Prop} {cs : Int → List (Int × List Int)} {g : GD} (hd : 60 ≤ d) (I : CI h cs) (a : AL h h1) (q0 : ¬ ((0 ≤ g.1 ∧ g.1 ≤ 7) ∧ (0 ≤ g.2.1 ∧ g.2.1 ≤ 99) ∧ (0 ≤ g.2.2.1 ∧ g.2.2.1 ≤ 9) ∧ (1 ≤ g.2.2.2.1 ∧ g.2.2.2.1 ≤ 1000000) ∧ (0 ≤ g.2.2.2.2 ∧ g.2.2.2.2 ≤ 7) ∧ npF (h 167) ≠ 0) → ∀ h2, AL h1 h2 → Q (some (1, -1)) K0 h2) (q1 : ((0 ≤ g.1 ∧ g.1 ≤ 7) ∧ (0 ≤ g.2.1 ∧ g.2.1 ≤ 99) ∧ (0 ≤ g.2.2.1 ∧ g.2.2.1 ≤ 9) ∧ (1 ≤ g.2.2.2.1 ∧ g.2.2.2.1 ≤ 1000000) ∧ (0 ≤ g.2.2.2.2 ∧ g.2.2.2.2 ≤ 7) ∧ npF (h 167) ≠ 0) → ∀ h2, AL h1 h2 → Q (some (1, (SNk h cs g (nPk (h 167))).1)) K0 h2) : Sp l G mX12_best d 0 0 K0 [(2, 116), (0, g.1), (0, g.2.1), (0, g.2.2.1), (0, g.2.2.2.1), (0, g.2.2.2.2)] h1 Q := by
  have I1 := CI_al a I
  have g := a.ag
  have e45 := g.f116_45
  have e1 := g.f116_1
  have e65 := g.f116_65
  have e15 := g.f116_15
  have ga := a.ag
  refine jk_in ?_
  refine s_rbest (cs := cs) (by omega) I1 ?_ ?_
  · intro c F z Lr
    rw [ga.r167] at c
    exact q0 c _ AL_jk
  · intro c F z Lr
    rw [ga.r167] at c
    rw [SNk_ag ga, ga.r167]
    exact q1 c _ AL_jk

set_option maxHeartbeats 4000000 in
set_option maxRecDepth 100000 in
theorem j_best {l : Launch} {G : GG} {d : Nat} {h : AH} {Q : Option AV → List Kd → AH → Prop} {g : GD} (hd : 60 ≤ d) (H : LI h) (hq : JQ mX12_best [(2, 116), (0, g.1), (0, g.2.1), (0, g.2.2.1), (0, g.2.2.2.1), (0, g.2.2.2.2)] 1 l G d Q) : Sp l G mX11_best d 0 0 K0 [(2, 0), (0, g.1), (0, g.2.1), (0, g.2.2.1), (0, g.2.2.2.1), (0, g.2.2.2.2)] h Q := by
  have H0 := H
  obtain ⟨cs, I, L⟩ := H
  refine cst_in ?_
  refine s_Fbest (g := g) (by omega) I ?_ ?_
  · intro c F'
    refine hq _ _ (fun Q2 hq2 => ?_)
    exact r_best hd I AL_cst (fun n h2 b => hq2 _ (LI_al (AL_t AL_cst b) H0)) (fun y h2 b => absurd y c)
  · intro c F'
    refine hq _ _ (fun Q2 hq2 => ?_)
    exact r_best hd I AL_cst (fun n h2 b => absurd c n) (fun y h2 b => hq2 _ (LI_al (AL_t AL_cst b) H0))

set_option maxHeartbeats 4000000 in
set_option maxRecDepth 100000 in
theorem r_chosen {l : Launch} {G : GG} {d : Nat} {h h1 : AH} {Q : Option AV → List Kd → AH → Prop} {cs : Int → List (Int × List Int)} {g : GD} {p : Int} (hd : 60 ≤ d) (I : CI h cs) (a : AL h h1) (q0 : ¬ (((0 ≤ g.1 ∧ g.1 ≤ 7) ∧ (0 ≤ g.2.1 ∧ g.2.1 ≤ 99) ∧ (0 ≤ g.2.2.1 ∧ g.2.2.1 ≤ 9) ∧ (1 ≤ g.2.2.2.1 ∧ g.2.2.2.1 ≤ 1000000) ∧ (0 ≤ g.2.2.2.2 ∧ g.2.2.2.2 ≤ 7) ∧ npF (h 167) ≠ 0) ∧ (0 ≤ p ∧ p < npF (h 167))) → ∀ h2, AL h1 h2 → Q (some (0, -1)) K0 h2) (q1 : (((0 ≤ g.1 ∧ g.1 ≤ 7) ∧ (0 ≤ g.2.1 ∧ g.2.1 ≤ 99) ∧ (0 ≤ g.2.2.1 ∧ g.2.2.1 ≤ 9) ∧ (1 ≤ g.2.2.2.1 ∧ g.2.2.2.1 ≤ 1000000) ∧ (0 ≤ g.2.2.2.2 ∧ g.2.2.2.2 ≤ 7) ∧ npF (h 167) ≠ 0) ∧ (0 ≤ p ∧ p < npF (h 167))) → ∀ h2, AL h1 h2 → Q (some (0, (SNk h cs g (nPk (h 167))).2 p)) K0 h2) : Sp l G mX12_chosen d 0 0 K0 [(2, 116), (0, g.1), (0, g.2.1), (0, g.2.2.1), (0, g.2.2.2.1), (0, g.2.2.2.2), (0, p)] h1 Q := by
  have I1 := CI_al a I
  have g := a.ag
  have e45 := g.f116_45
  have e1 := g.f116_1
  have e65 := g.f116_65
  have e15 := g.f116_15
  have ga := a.ag
  refine jk_in ?_
  refine s_rchosen (cs := cs) (by omega) I1 ?_ ?_
  · intro c F z Lr
    rw [ga.r167] at c
    exact q0 c _ AL_jk
  · intro c F z Lr
    rw [ga.r167] at c
    rw [SNk_ag ga, ga.r167]
    exact q1 c _ AL_jk

set_option maxHeartbeats 4000000 in
set_option maxRecDepth 100000 in
theorem j_chosen {l : Launch} {G : GG} {d : Nat} {h : AH} {Q : Option AV → List Kd → AH → Prop} {g : GD} {p : Int} (hd : 60 ≤ d) (H : LI h) (hq : JQ mX12_chosen [(2, 116), (0, g.1), (0, g.2.1), (0, g.2.2.1), (0, g.2.2.2.1), (0, g.2.2.2.2), (0, p)] 0 l G d Q) : Sp l G mX11_chosen d 0 0 K0 [(2, 0), (0, g.1), (0, g.2.1), (0, g.2.2.1), (0, g.2.2.2.1), (0, g.2.2.2.2), (0, p)] h Q := by
  have H0 := H
  obtain ⟨cs, I, L⟩ := H
  refine cst_in ?_
  refine s_Fchosen (g := g) (p := p) (by omega) I ?_ ?_
  · intro c F'
    refine hq _ _ (fun Q2 hq2 => ?_)
    exact r_chosen hd I AL_cst (fun n h2 b => hq2 _ (LI_al (AL_t AL_cst b) H0)) (fun y h2 b => absurd y c)
  · intro c F'
    refine hq _ _ (fun Q2 hq2 => ?_)
    exact r_chosen hd I AL_cst (fun n h2 b => absurd c n) (fun y h2 b => hq2 _ (LI_al (AL_t AL_cst b) H0))

set_option maxHeartbeats 4000000 in
set_option maxRecDepth 100000 in
theorem r_struck {l : Launch} {G : GG} {d : Nat} {h h1 : AH} {Q : Option AV → List Kd → AH → Prop} {cs : Int → List (Int × List Int)} {b : Int} (hd : 60 ≤ d) (I : CI h cs) (a : AL h h1) (q0 : ¬ ((0 ≤ b ∧ b < h 116 45) ∧ wdN h b ≤ 12) → ∀ h2, AL h1 h2 → Q (some (0, -1)) K0 h2) (q1 : ((0 ≤ b ∧ b < h 116 45) ∧ wdN h b ≤ 12) → ∀ h2, AL h1 h2 → Q (some (0, (wdK h b : Int))) K0 h2) : Sp l G mX12_struck d 0 0 K0 [(2, 116), (0, b)] h1 Q := by
  have I1 := CI_al a I
  have g := a.ag
  have e45 := g.f116_45
  have e1 := g.f116_1
  have e65 := g.f116_65
  have e15 := g.f116_15
  refine jk_in ?_
  refine s_rstruck (cs := cs) (by omega) I1 ?_ ?_
  · intro c F
    rw [e45, wdN_ag g] at c
    exact q0 c _ AL_jk
  · intro c F
    rw [e45, wdN_ag g] at c
    rw [wdK_ag g]
    exact q1 c _ AL_jk

set_option maxHeartbeats 4000000 in
set_option maxRecDepth 100000 in
theorem j_struck {l : Launch} {G : GG} {d : Nat} {h : AH} {Q : Option AV → List Kd → AH → Prop} {b : Int} (hd : 60 ≤ d) (H : LI h) (hq : JQ mX12_struck [(2, 116), (0, b)] 0 l G d Q) : Sp l G mX11_struck d 0 0 K0 [(2, 0), (0, b)] h Q := by
  have H0 := H
  obtain ⟨cs, I, L⟩ := H
  refine cst_in ?_
  refine s_Fstruck (b := b) (by omega) I ?_ ?_
  · intro c F'
    refine hq _ _ (fun Q2 hq2 => ?_)
    exact r_struck hd I AL_cst (fun n h2 b => hq2 _ (LI_al (AL_t AL_cst b) H0)) (fun y h2 b => absurd y c)
  · intro c F'
    refine hq _ _ (fun Q2 hq2 => ?_)
    exact r_struck hd I AL_cst (fun n h2 b => absurd c n) (fun y h2 b => hq2 _ (LI_al (AL_t AL_cst b) H0))

set_option maxHeartbeats 4000000 in
set_option maxRecDepth 100000 in
theorem r_strike {l : Launch} {G : GG} {d : Nat} {h h1 : AH} {Q : Option AV → List Kd → AH → Prop} {cs : Int → List (Int × List Int)} {b i : Int} (hd : 60 ≤ d) (I : CI h cs) (a : AL h h1) (hi : i ≤ 2147483647) (q0 : ¬ (((0 ≤ b ∧ b < h 116 45) ∧ wdN h b ≤ 12) ∧ (0 ≤ i ∧ i < (wdK h b : Int))) → ∀ h2, AL h1 h2 → Q (some (0, -1)) K0 h2) (q1 : (((0 ≤ b ∧ b < h 116 45) ∧ wdN h b ≤ 12) ∧ (0 ≤ i ∧ i < (wdK h b : Int))) → ∀ h2, AL h1 h2 → Q (some (0, wdA h b i)) K0 h2) : Sp l G mX12_strike d 0 0 K0 [(2, 116), (0, b), (0, i)] h1 Q := by
  have I1 := CI_al a I
  have g := a.ag
  have e45 := g.f116_45
  have e1 := g.f116_1
  have e65 := g.f116_65
  have e15 := g.f116_15
  refine jk_in ?_
  refine s_rstrike (cs := cs) (by omega) I1 hi ?_ ?_
  · intro c F
    rw [e45, wdN_ag g, wdK_ag g] at c
    exact q0 c _ AL_jk
  · intro c F
    rw [e45, wdN_ag g, wdK_ag g] at c
    rw [wdA_ag g]
    exact q1 c _ AL_jk

set_option maxHeartbeats 4000000 in
set_option maxRecDepth 100000 in
theorem j_strike {l : Launch} {G : GG} {d : Nat} {h : AH} {Q : Option AV → List Kd → AH → Prop} {b i : Int} (hi : i ≤ 2147483647) (hd : 60 ≤ d) (H : LI h) (hq : JQ mX12_strike [(2, 116), (0, b), (0, i)] 0 l G d Q) : Sp l G mX11_strike d 0 0 K0 [(2, 0), (0, b), (0, i)] h Q := by
  have H0 := H
  obtain ⟨cs, I, L⟩ := H
  refine cst_in ?_
  refine s_Fstrike (b := b) (i := i) (by omega) I ?_ ?_
  · intro c F'
    refine hq _ _ (fun Q2 hq2 => ?_)
    exact r_strike hd I AL_cst hi (fun n h2 b => hq2 _ (LI_al (AL_t AL_cst b) H0)) (fun y h2 b => absurd y c)
  · intro c F'
    refine hq _ _ (fun Q2 hq2 => ?_)
    exact r_strike hd I AL_cst hi (fun n h2 b => absurd c n) (fun y h2 b => hq2 _ (LI_al (AL_t AL_cst b) H0))

