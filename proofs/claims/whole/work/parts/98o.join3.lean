/-! ===== calls of both sides together: the others (written by wip/whole/p81.py) ===== -/
set_option maxHeartbeats 4000000 in
set_option maxRecDepth 100000 in
theorem j_fault {l : Launch} {G : GG} {d : Nat} {h : AH} {Q : Option AV → List Kd → AH → Prop} (hd : 60 ≤ d) (H : LI h) (hq : JQ mX12_fault [(2, 116)] 0 l G d Q) : Sp l G mX11_fault d 0 0 K0 [(2, 0)] h Q := by
  have H0 := H
  obtain ⟨cs, I, L⟩ := H
  have tp := I.tp
  refine s_Ffault (u := h 2) (n := h 116 16) (by omega) ⟨tp.2.2, I.f1_1, rfl, fun i _ _ => tp.2.1 i⟩ (fun F' => ?_)
  refine hq _ _ (fun Q2 hq2 => ?_)
  have g : AL h (cst h F') := AL_cst
  have e16 : cst h F' 116 16 = h 116 16 := g.ag.f116_16
  have e27 : cst h F' 127 = h 127 := g.ag.r127
  refine s_fault (u := h 2) (by omega) ⟨by omega, by omega, fun i _ _ => tp.2.1 i, fun i _ _ => by rw [e27, tp.1]⟩ (fun z9 => ?_)
  rw [e16]
  exact hq2 _ (LI_al (AL_t g (AL_t (AL_s (by decide)) AL_jst)) H0)

set_option maxHeartbeats 4000000 in
set_option maxRecDepth 100000 in
theorem j_count {l : Launch} {G : GG} {d : Nat} {h : AH} {Q : Option AV → List Kd → AH → Prop} {w : Int} (hd : 60 ≤ d) (H : LI h) (hq : JQ mX12_count [(2, 116), (0, w)] 0 l G d Q) : Sp l G mX11_count d 0 0 K0 [(2, 0), (0, w)] h Q := by
  have H0 := H
  obtain ⟨cs, I, L⟩ := H
  have wo := I.wo.1
  have l15 := L.f4_15
  have l16 := L.f4_16
  have un := I.un
  refine cst_in ?_
  refine s_Fcount (w := w) (by omega) I ?_ ?_ ?_ ?_ ?_ ?_ ?_ ?_ ?_ ?_ ?_ ?_
  · intro c
    have I1 : CI (cst h h) cs := CI_al AL_cst I
    have g := (AL_cst : AL h (cst h h)).ag
    refine hq _ _ (fun Q2 hq2 => ?_)
    refine jk_in ?_
    have e67 : (cst h h) 116 67 = h 116 67 := AL.ls AL_cst 116 67 (by decide)
    have e68 : (cst h h) 116 68 = h 116 68 := AL.ls AL_cst 116 68 (by decide)
    refine s_count (cs := cs) (by omega) I1.W I1.S I1.T ?_ ?_ ?_ ?_ ?_ ?_ ?_ ?_ ?_ ?_ ?_ ?_
    all_goals first
      | (intros; exfalso; omega)
      | (intros; exact Qc (by rw [g.f116_1]) (hq2 _ (LI_al (AL_t AL_cst AL_jk) H0)))
  · intro c
    have I1 : CI (cst h h) cs := CI_al AL_cst I
    have g := (AL_cst : AL h (cst h h)).ag
    refine hq _ _ (fun Q2 hq2 => ?_)
    refine jk_in ?_
    have e67 : (cst h h) 116 67 = h 116 67 := AL.ls AL_cst 116 67 (by decide)
    have e68 : (cst h h) 116 68 = h 116 68 := AL.ls AL_cst 116 68 (by decide)
    refine s_count (cs := cs) (by omega) I1.W I1.S I1.T ?_ ?_ ?_ ?_ ?_ ?_ ?_ ?_ ?_ ?_ ?_ ?_
    all_goals first
      | (intros; exfalso; omega)
      | (intros; exact Qc (by rw [g.f116_15]) (hq2 _ (LI_al (AL_t AL_cst AL_jk) H0)))
  · intro c
    have I1 : CI (cst h h) cs := CI_al AL_cst I
    have g := (AL_cst : AL h (cst h h)).ag
    refine hq _ _ (fun Q2 hq2 => ?_)
    refine jk_in ?_
    have e67 : (cst h h) 116 67 = h 116 67 := AL.ls AL_cst 116 67 (by decide)
    have e68 : (cst h h) 116 68 = h 116 68 := AL.ls AL_cst 116 68 (by decide)
    refine s_count (cs := cs) (by omega) I1.W I1.S I1.T ?_ ?_ ?_ ?_ ?_ ?_ ?_ ?_ ?_ ?_ ?_ ?_
    all_goals first
      | (intros; exfalso; omega)
      | (intros; exact Qc (by rw [g.f116_45]) (hq2 _ (LI_al (AL_t AL_cst AL_jk) H0)))
  · intro c
    have I1 : CI (cst h h) cs := CI_al AL_cst I
    have g := (AL_cst : AL h (cst h h)).ag
    refine hq _ _ (fun Q2 hq2 => ?_)
    refine jk_in ?_
    have e67 : (cst h h) 116 67 = h 116 67 := AL.ls AL_cst 116 67 (by decide)
    have e68 : (cst h h) 116 68 = h 116 68 := AL.ls AL_cst 116 68 (by decide)
    refine s_count (cs := cs) (by omega) I1.W I1.S I1.T ?_ ?_ ?_ ?_ ?_ ?_ ?_ ?_ ?_ ?_ ?_ ?_
    all_goals first
      | (intros; exfalso; omega)
      | (intros; exact Qc (by rw [g.f116_46]) (hq2 _ (LI_al (AL_t AL_cst AL_jk) H0)))
  · intro c
    have I1 : CI (cst h h) cs := CI_al AL_cst I
    have g := (AL_cst : AL h (cst h h)).ag
    refine hq _ _ (fun Q2 hq2 => ?_)
    refine jk_in ?_
    have e67 : (cst h h) 116 67 = h 116 67 := AL.ls AL_cst 116 67 (by decide)
    have e68 : (cst h h) 116 68 = h 116 68 := AL.ls AL_cst 116 68 (by decide)
    refine s_count (cs := cs) (by omega) I1.W I1.S I1.T ?_ ?_ ?_ ?_ ?_ ?_ ?_ ?_ ?_ ?_ ?_ ?_
    all_goals first
      | (intros; exfalso; omega)
      | (intros; exact Qc (by rw [g.f116_65]) (hq2 _ (LI_al (AL_t AL_cst AL_jk) H0)))
  · intro c
    have I1 : CI (cst h h) cs := CI_al AL_cst I
    have g := (AL_cst : AL h (cst h h)).ag
    refine hq _ _ (fun Q2 hq2 => ?_)
    refine jk_in ?_
    have e67 : (cst h h) 116 67 = h 116 67 := AL.ls AL_cst 116 67 (by decide)
    have e68 : (cst h h) 116 68 = h 116 68 := AL.ls AL_cst 116 68 (by decide)
    refine s_count (cs := cs) (by omega) I1.W I1.S I1.T ?_ ?_ ?_ ?_ ?_ ?_ ?_ ?_ ?_ ?_ ?_ ?_
    all_goals first
      | (intros; exfalso; omega)
      | (intros; exact Qc (by rw [e67, l15]) (hq2 _ (LI_al (AL_t AL_cst AL_jk) H0)))
  · intro c
    have I1 : CI (cst h h) cs := CI_al AL_cst I
    have g := (AL_cst : AL h (cst h h)).ag
    refine hq _ _ (fun Q2 hq2 => ?_)
    refine jk_in ?_
    have e67 : (cst h h) 116 67 = h 116 67 := AL.ls AL_cst 116 67 (by decide)
    have e68 : (cst h h) 116 68 = h 116 68 := AL.ls AL_cst 116 68 (by decide)
    refine s_count (cs := cs) (by omega) I1.W I1.S I1.T ?_ ?_ ?_ ?_ ?_ ?_ ?_ ?_ ?_ ?_ ?_ ?_
    all_goals first
      | (intros; exfalso; omega)
      | (intros; exact Qc (by rw [e68, l16]) (hq2 _ (LI_al (AL_t AL_cst AL_jk) H0)))
  · intro c
    have I1 : CI (cst h h) cs := CI_al AL_cst I
    have g := (AL_cst : AL h (cst h h)).ag
    refine hq _ _ (fun Q2 hq2 => ?_)
    refine jk_in ?_
    have e67 : (cst h h) 116 67 = h 116 67 := AL.ls AL_cst 116 67 (by decide)
    have e68 : (cst h h) 116 68 = h 116 68 := AL.ls AL_cst 116 68 (by decide)
    refine s_count (cs := cs) (by omega) I1.W I1.S I1.T ?_ ?_ ?_ ?_ ?_ ?_ ?_ ?_ ?_ ?_ ?_ ?_
    all_goals first
      | (intros; exfalso; omega)
      | (intros; exact Qc (by rw [g.f116_88]) (hq2 _ (LI_al (AL_t AL_cst AL_jk) H0)))
  · intro c
    have I1 : CI (cst h h) cs := CI_al AL_cst I
    have g := (AL_cst : AL h (cst h h)).ag
    refine hq _ _ (fun Q2 hq2 => ?_)
    refine jk_in ?_
    have e67 : (cst h h) 116 67 = h 116 67 := AL.ls AL_cst 116 67 (by decide)
    have e68 : (cst h h) 116 68 = h 116 68 := AL.ls AL_cst 116 68 (by decide)
    refine s_count (cs := cs) (by omega) I1.W I1.S I1.T ?_ ?_ ?_ ?_ ?_ ?_ ?_ ?_ ?_ ?_ ?_ ?_
    all_goals first
      | (intros; exfalso; omega)
      | (intros; exact Qc (by rw [g.f116_16]) (hq2 _ (LI_al (AL_t AL_cst AL_jk) H0)))
  · intro c
    have UU : undF (h 136) = cU h := rfl
    have I1 : CI (cst h h) cs := CI_al AL_cst I
    have g := (AL_cst : AL h (cst h h)).ag
    refine hq _ _ (fun Q2 hq2 => ?_)
    refine jk_in ?_
    have e67 : (cst h h) 116 67 = h 116 67 := AL.ls AL_cst 116 67 (by decide)
    have e68 : (cst h h) 116 68 = h 116 68 := AL.ls AL_cst 116 68 (by decide)
    refine s_count (cs := cs) (by omega) I1.W I1.S I1.T ?_ ?_ ?_ ?_ ?_ ?_ ?_ ?_ ?_ ?_ ?_ ?_
    all_goals first
      | (intros; exfalso; omega)
      | (intros; exact Qc (by rw [un, cU_ag g, g.f116_45, UU]) (hq2 _ (LI_al (AL_t AL_cst AL_jk) H0)))
  · intro c F'
    have I1 : CI (cst h F') cs := CI_al AL_cst I
    have g := (AL_cst : AL h (cst h F')).ag
    refine hq _ _ (fun Q2 hq2 => ?_)
    refine jk_in ?_
    have e67 : (cst h F') 116 67 = h 116 67 := AL.ls AL_cst 116 67 (by decide)
    have e68 : (cst h F') 116 68 = h 116 68 := AL.ls AL_cst 116 68 (by decide)
    refine s_count (cs := cs) (by omega) I1.W I1.S I1.T ?_ ?_ ?_ ?_ ?_ ?_ ?_ ?_ ?_ ?_ ?_ ?_
    all_goals first
      | (intros; exfalso; omega)
      | (intro _ F z O Lr _; exact Qc (by rw [cP_ag g, g.f116_1, g.f116_65]) (hq2 _ (LI_al (AL_t AL_cst AL_jk) H0)))
  · intro c
    have I1 : CI (cst h h) cs := CI_al AL_cst I
    have g := (AL_cst : AL h (cst h h)).ag
    refine hq _ _ (fun Q2 hq2 => ?_)
    refine jk_in ?_
    have e67 : (cst h h) 116 67 = h 116 67 := AL.ls AL_cst 116 67 (by decide)
    have e68 : (cst h h) 116 68 = h 116 68 := AL.ls AL_cst 116 68 (by decide)
    refine s_count (cs := cs) (by omega) I1.W I1.S I1.T ?_ ?_ ?_ ?_ ?_ ?_ ?_ ?_ ?_ ?_ ?_ ?_
    all_goals first
      | (intros; exfalso; omega)
      | (intros; exact Qc rfl (hq2 _ (LI_al (AL_t AL_cst AL_jk) H0)))

set_option maxHeartbeats 4000000 in
set_option maxRecDepth 100000 in
theorem j_feed {l : Launch} {G : GG} {d : Nat} {h : AH} {Q : Option AV → List Kd → AH → Prop} {a b c e f : Int} (hd : 60 ≤ d) (H : LI h) (hq : JQ mX12_feed [(2, 116), (0, a), (0, b), (0, c), (0, e), (0, f)] 0 l G d Q) : Sp l G mX11_feed d 0 0 K0 [(2, 0), (0, a), (0, b), (0, c), (0, e), (0, f)] h Q := by
  have H0 := H
  obtain ⟨cs, I, L⟩ := H
  have tp := I.tp
  have f11 := I.f1_1
  have bi : ∀ x, 0 ≤ bI x := fun x => by
    unfold bI bY
    repeat' split
    all_goals omega
  have b1 := bi a
  have b2 := bi b
  have b3 := bi c
  have b5 := bi e
  have b6 := bi f
  refine s_Ffeed (by omega) (by omega) ?_ ?_
  · intro k
    refine hq _ _ (fun Q2 hq2 => ?_)
    refine s_rfeed (u := h 2) (by omega) tp.2.2 tp.1 ?_ ?_
    · intro _; exact hq2 _ (LI_h0 I L)
    · intro k2; exfalso; omega
  · intro k
    obtain ⟨P, hP⟩ : ∃ P, P = b4 f (b4 e (b4 c (b4 b (b4 a (h 2, h 1 1))))) := ⟨_, rfl⟩
    have n9 : P.2 = h 1 1 + bI a + bI b + bI c + bI e + bI f := by rw [hP, b4_n, b4_n, b4_n, b4_n, b4_n]
    have B9 : BO P := by rw [hP]; exact BO_4 (BO_4 (BO_4 (BO_4 (BO_4 (fun i => tp.2.1 i)))))
    rw [← hP]
    refine hq _ _ (fun Q2 hq2 => ?_)
    have e16 : ptc h P 116 16 = h 116 16 := (ov1_c (by decide)).trans (hset_c (by decide))
    have e27 : ptc h P 127 = h 127 := (ov1_r (by decide)).trans (hset_r (by decide))
    refine s_rfeed (u := h 2) (by omega) (by omega) (e27.trans tp.1) ?_ ?_
    · intro k2; exfalso; omega
    · intro k2
      rw [e16, ← f11, ← hP]
      exact hq2 _ (LI_feed I L B9 (by omega))

set_option maxHeartbeats 4000000 in
set_option maxRecDepth 100000 in
theorem j_offers {l : Launch} {G : GG} {d : Nat} {h : AH} {Q : Option AV → List Kd → AH → Prop} (hd : 60 ≤ d) (H : LI h) (hq : ∀ h1, (∀ Q2 : Option AV → List Kd → AH → Prop, (∀ h2, LI h2 → Q2 none K0 h2) → Sp l G mX12_offers d 0 0 K0 [(2, 116)] h1 Q2) → Q none K0 h1) : Sp l G mX11_offers d 0 0 K0 [(2, 0)] h Q := by
  obtain ⟨cs, I, L⟩ := H
  refine s_Foffers (by omega) ?_
  refine hq _ (fun Q2 hq2 => ?_)
  refine s_X12_offers (by omega) ?_
  have r167 : hset (hfil h 92 4 0) 116 0 0 167 = h 167 := (hset_r (by decide)).trans (hfil_r (by decide))
  have e : hfil (hset (hfil h 92 4 0) 116 0 0) 167 4 0 = (ov1 (hset (ov1 h 92 (fun i => if 0 ≤ i ∧ i < 4 then 0 else h 92 i)) 116 0 0) 167 (fun i => if 0 ≤ i ∧ i < 4 then 0 else h 167 i)) := by
    rw [hfil_ov, r167, hfil_ov]
  rw [e]
  exact hq2 _ (LI_offers I L)

set_option maxHeartbeats 4000000 in
set_option maxRecDepth 100000 in
theorem j_offer {l : Launch} {G : GG} {d : Nat} {h : AH} {Q : Option AV → List Kd → AH → Prop} {a b c e f : Int} (hd : 60 ≤ d) (H : LI h) (hq : JQ mX12_offer [(2, 116), (0, a), (0, b), (0, c), (0, e), (0, f)] 0 l G d Q) : Sp l G mX11_offer d 0 0 K0 [(2, 0), (0, a), (0, b), (0, c), (0, e), (0, f)] h Q := by
  have H0 := H
  obtain ⟨cs, I, L⟩ := H
  have e92 := I.e92
  have e92a := congrFun I.e92 a
  have e92b := congrFun I.e92 (a - 1)
  refine s_Foffer (by omega) (by rw [e92]; exact I.ofn) ?_ ?_
  · intro k
    refine hq _ _ (fun Q2 hq2 => ?_)
    refine s_roffer (by omega) I.ofn ?_ ?_
    · intro _; exact hq2 _ (LI_h0 I L)
    · intro k2; exact absurd k2 (by rw [e92] at k; exact k)
  · intro k
    rw [e92] at k
    have ec : coH h a b c e f = (hset (hset (hset (hset (hset h 88 (4 * a + h 167 a) b) 89 (4 * a + h 167 a) c) 90 (4 * a + h 167 a) e) 91 (4 * a + h 167 a) f) 92 a (h 167 a + 1)) := by
      unfold coH
      rw [e92]
    rw [ec, e92]
    refine hq _ _ (fun Q2 hq2 => ?_)
    have r167 : (hset (hset (hset (hset (hset h 88 (4 * a + h 167 a) b) 89 (4 * a + h 167 a) c) 90 (4 * a + h 167 a) e) 91 (4 * a + h 167 a) f) 92 a (h 167 a + 1)) 167 = h 167 := by rw [hset_r (by decide), hset_r (by decide), hset_r (by decide), hset_r (by decide), hset_r (by decide)]
    refine s_roffer (by omega) (by rw [r167]; exact I.ofn) ?_ ?_
    · intro k2
      rw [r167] at k2
      exact absurd k k2
    · intro k2
      unfold roH
      rw [r167]
      exact hq2 _ (LI_offer I L k.1 k.2.1 k.2.2.1 k.2.2.2.1 k.2.2.2.2.1 k.2.2.2.2.2.1 k.2.2.2.2.2.2)

set_option maxHeartbeats 4000000 in
set_option maxRecDepth 100000 in
theorem j_clear {l : Launch} {G : GG} {d : Nat} {h : AH} {Q : Option AV → List Kd → AH → Prop} (hd : 60 ≤ d) (H : LI h) (hq : JQ mX12_clear [(2, 116)] 0 l G d Q) : Sp l G mX11_clear d 0 0 K0 [(2, 0)] h Q := by
  have H0 := H
  obtain ⟨cs, I, L⟩ := H
  have bn := I.bn
  have f81 := I.f81_2
  have e82 := I.e82
  have nb := I.W.nb
  have CC : ∀ b, 0 ≤ b → b < h 116 45 → (clrR (h 140) (h 141) (h 133) (h 116 46)) b = h 133 b + sm (onF (h 140) (h 141) b) (h 116 46) := fun b b0 b1 => by
    have cb := I.co b b0 b1
    have mb := I.W.ma b b0 b1
    have ps := on_nn (of := h 144) (many := h 142) (b := b) I.po.1.1 (fun i i0 i1 => by have := I.po.2 i i0 i1; omega)
    exact clrR_co bn.1.1 (fun i i0 i1 => by have := bn.2 i i0 i1; omega) cb.1 (by omega)
  refine s_Fclear (by omega) (by omega) (fun j j0 j1 => by rw [e82]; have := bn.2 j j0 (by omega); omega) ?_
  rw [I.e82, I.e83, I.e46, f81]
  refine hq _ _ (fun Q2 hq2 => ?_)
  have e46 : (ov1 (hset h 81 2 0) 46 (clrR (h 140) (h 141) (h 133) (h 116 46))) 116 46 = h 116 46 := (ov1_c (by decide)).trans (hset_c (by decide))
  have r140 : (ov1 (hset h 81 2 0) 46 (clrR (h 140) (h 141) (h 133) (h 116 46))) 140 = h 140 := (ov1_r (by decide)).trans (hset_r (by decide))
  have r141 : (ov1 (hset h 81 2 0) 46 (clrR (h 140) (h 141) (h 133) (h 116 46))) 141 = h 141 := (ov1_r (by decide)).trans (hset_r (by decide))
  have r133 : (ov1 (hset h 81 2 0) 46 (clrR (h 140) (h 141) (h 133) (h 116 46))) 133 = h 133 := (ov1_r (by decide)).trans (hset_r (by decide))
  refine s_X12_clear (by omega) (by omega) (by omega) (fun j j0 j1 => by rw [r140]; have := bn.2 j j0 (by omega); omega) ?_
  rw [clrH_ov (by omega), hset_r (by decide), hset_r (by decide), hset_r (by decide), e46, r140, r141, r133]
  exact hq2 _ (LI_clear I L CC)

set_option maxHeartbeats 4000000 in
set_option maxRecDepth 100000 in
theorem j_draw {l : Launch} {G : GG} {d : Nat} {h : AH} {Q : Option AV → List Kd → AH → Prop} {p n : Int} (hd : 60 ≤ d) (H : LI h) (hq : JQ mX12_draw [(2, 116), (0, p), (0, n)] 0 l G d Q) : Sp l G mX11_draw d 0 0 K0 [(2, 0), (0, p), (0, n)] h Q := by
  have H0 := H
  obtain ⟨cs, I, L⟩ := H
  have bn := I.bn
  have po := I.po
  have bn1 := bn.1
  have po1 := po.1
  have f81 := I.f81_2
  have f86 := I.f81_6
  refine s_Fdraw (p := p) (n := n) (by omega) (by omega) (fun k k0 k1 => by rw [I.e86]; exact (po.2 k k0 (by omega)).2.2) (by omega) ?_ ?_
  · intro c
    rw [I.e84, I.e86, f81, f86] at c
    refine hq _ _ (fun Q2 hq2 => ?_)
    have e47 : hset h 116 0 0 116 47 = h 116 47 := hset_j (by decide)
    have e46 : hset h 116 0 0 116 46 = h 116 46 := hset_j (by decide)
    have r143 : hset h 116 0 0 143 = h 143 := hset_r (by decide)
    have r144 : hset h 116 0 0 144 = h 144 := hset_r (by decide)
    have r142 : hset h 116 0 0 142 = h 142 := hset_r (by decide)
    have r140 : hset h 116 0 0 140 = h 140 := hset_r (by decide)
    have r141 : hset h 116 0 0 141 = h 141 := hset_r (by decide)
    refine s_rdraw (h := hset h 116 0 0) (p := p) (n := n) (by omega) rfl (by omega) (fun k k0 k1 => by rw [r142]; exact (po.2 k k0 (by omega)).2.2) (by omega) ?_ ?_
    · intro _; exact hq2 _ (LI_h0 I L)
    · intro c2
      rw [r143, r142, e46, e47] at c2
      exact absurd c2.2 c
  · intro c
    rw [I.e84, I.e85, I.e86, I.e82, I.e83, f81, f86]
    rw [I.e84, I.e86, f81, f86] at c
    have D9 := DIw_F (H := h 143) (Of := h 144) (B := h 140) (M := h 141) (P := h 142) (b := h 116 46) (np := h 116 47) (nb := h 116 45) (hp := p) (n := n) bn1.1 (fun i i0 i1 => bn.2 i i0 i1) (fun k k0 k1 => (po.2 k k0 k1).2.2) (fun k k0 k1 => (po.2 k k0 k1).2.1) po1.1
    have d5 := (drF_td (H := h 143) (Of := h 144) (hp := p) (n := n) (P := h 142) (B := h 140) (M := h 141) (b := h 116 46) (k := h 116 47) po1.1).2.1
    have hp : 0 ≤ p ∧ p ≤ 5 := by
      by_cases z : 0 ≤ p ∧ p ≤ 5
      · exact z
      · have := lyF_out (H := h 143) (P := h 142) (hp := p) (n := h 116 47) po1.1 (fun k k0 k1 e => by have := (po.2 k k0 k1).1; omega)
        omega
    refine hq _ _ (fun Q2 hq2 => ?_)
    have e47 : hset (dcH h (drF (h 143) (h 144) p (n, h 142, h 140, h 141, h 116 46) (h 116 47))) 116 0 0 116 47 = h 116 47 := (hset_j (by decide)).trans ((ov1_c (by decide)).trans ((ov1_c (by decide)).trans ((ov1_c (by decide)).trans (hset_c (by decide)))))
    have e46 : hset (dcH h (drF (h 143) (h 144) p (n, h 142, h 140, h 141, h 116 46) (h 116 47))) 116 0 0 116 46 = h 116 46 := (hset_j (by decide)).trans ((ov1_c (by decide)).trans ((ov1_c (by decide)).trans ((ov1_c (by decide)).trans (hset_c (by decide)))))
    have r143 : hset (dcH h (drF (h 143) (h 144) p (n, h 142, h 140, h 141, h 116 46) (h 116 47))) 116 0 0 143 = h 143 := (hset_r (by decide)).trans ((ov1_r (by decide)).trans ((ov1_r (by decide)).trans ((ov1_r (by decide)).trans (hset_r (by decide)))))
    have r144 : hset (dcH h (drF (h 143) (h 144) p (n, h 142, h 140, h 141, h 116 46) (h 116 47))) 116 0 0 144 = h 144 := (hset_r (by decide)).trans ((ov1_r (by decide)).trans ((ov1_r (by decide)).trans ((ov1_r (by decide)).trans (hset_r (by decide)))))
    have r142 : hset (dcH h (drF (h 143) (h 144) p (n, h 142, h 140, h 141, h 116 46) (h 116 47))) 116 0 0 142 = h 142 := (hset_r (by decide)).trans ((ov1_r (by decide)).trans ((ov1_r (by decide)).trans ((ov1_r (by decide)).trans (hset_r (by decide)))))
    have r140 : hset (dcH h (drF (h 143) (h 144) p (n, h 142, h 140, h 141, h 116 46) (h 116 47))) 116 0 0 140 = h 140 := (hset_r (by decide)).trans ((ov1_r (by decide)).trans ((ov1_r (by decide)).trans ((ov1_r (by decide)).trans (hset_r (by decide)))))
    have r141 : hset (dcH h (drF (h 143) (h 144) p (n, h 142, h 140, h 141, h 116 46) (h 116 47))) 116 0 0 141 = h 141 := (hset_r (by decide)).trans ((ov1_r (by decide)).trans ((ov1_r (by decide)).trans ((ov1_r (by decide)).trans (hset_r (by decide)))))
    refine s_rdraw (h := hset (dcH h (drF (h 143) (h 144) p (n, h 142, h 140, h 141, h 116 46) (h 116 47))) 116 0 0) (p := p) (n := n) (by omega) rfl (by omega) (fun k k0 k1 => by rw [r142]; exact (po.2 k k0 (by omega)).2.2) (by omega) ?_ ?_
    · intro c2
      rw [r143, r142, e46, e47] at c2
      exact absurd ⟨hp, c⟩ c2
    · intro c2
      rw [r143, r144, r142, r140, r141, e46, e47]
      exact hq2 _ (LI_draw I L (by omega) D9)

set_option maxHeartbeats 4000000 in
set_option maxRecDepth 100000 in
theorem j_made {l : Launch} {G : GG} {d : Nat} {h : AH} {Q : Option AV → List Kd → AH → Prop} {a b pr c e : Int} (hd : 60 ≤ d) (H : LI h) (hq : JQ mX12_made [(2, 116), (0, a), (0, b), (0, pr), (0, c), (0, e)] 0 l G d Q) : Sp l G mX11_made d 0 0 K0 [(2, 0), (0, a), (0, b), (0, pr), (0, c), (0, e)] h Q := by
  have H0 := H
  obtain ⟨cs, I, L⟩ := H
  have bn := I.bn.1
  have nb := I.W.nb
  have f81 := I.f81_2
  have f41 := I.f41_12
  have f0 := I.f0_0
  refine s_Fmade (a := a) (b := b) (pr := pr) (c := c) (e := e) (by omega) (by omega) (by omega) (by omega) ?_ ?_
  · intro k
    refine hq _ _ (fun Q2 hq2 => ?_)
    refine s_rmade (a := a) (g := b) (pr := pr) (c := c) (e := e) (by omega) nb bn ?_ ?_
    · intro _; exact hq2 _ (LI_h0 I L)
    · intro k2; exfalso; omega
  · intro k
    have ec : usH (caH h a b c e (h 0 0)) (h 41 12) pr = (ov1 (ov1 (ov1 (hset (hset (hset (hset (hset (hset (hset (hset (hset (hset (hset (hset h 42 (h 116 45) a) 43 (h 116 45) b) 44 (h 116 45) c) 45 (h 116 45) e) 46 (h 116 45) e) 47 (h 116 45) (h 116 1)) 48 (h 116 45) (-1)) 49 (h 116 45) (-1)) 50 (h 116 45) 0) 41 12 ((h 116 45) + 1)) 48 (h 116 45) pr) 81 2 0) 50 (fset (fset (h 50) (h 116 45) 0) (h 116 45) (h 116 46))) 51 (cpR (h 138) (h 116 45) (h 140) (h 116 46))) 52 (cpR (h 139) (h 116 45) (h 141) (h 116 46))) := by
      unfold usH caH
      rw [f0, f41]
      simp only [(show (hset (hset (hset (hset (hset (hset (hset (hset (hset (hset h 42 (h 116 45) a) 43 (h 116 45) b) 44 (h 116 45) c) 45 (h 116 45) e) 46 (h 116 45) e) 47 (h 116 45) (h 116 1)) 48 (h 116 45) (-1)) 49 (h 116 45) (-1)) 50 (h 116 45) 0) 41 12 ((h 116 45) + 1)) 50 = (fset (h 50) (h 116 45) 0) by rw [hset_r (by decide), hset_f, hset_r (by decide), hset_r (by decide), hset_r (by decide), hset_r (by decide), hset_r (by decide), hset_r (by decide), hset_r (by decide), hset_r (by decide)]), (show (hset (hset (hset (hset (hset (hset (hset (hset (hset (hset h 42 (h 116 45) a) 43 (h 116 45) b) 44 (h 116 45) c) 45 (h 116 45) e) 46 (h 116 45) e) 47 (h 116 45) (h 116 1)) 48 (h 116 45) (-1)) 49 (h 116 45) (-1)) 50 (h 116 45) 0) 41 12 ((h 116 45) + 1)) 81 2 = (h 81 2) from ((hset_c (by decide)).trans ((hset_c (by decide)).trans ((hset_c (by decide)).trans ((hset_c (by decide)).trans ((hset_c (by decide)).trans ((hset_c (by decide)).trans ((hset_c (by decide)).trans ((hset_c (by decide)).trans ((hset_c (by decide)).trans (hset_c (by decide)))))))))))), (show (hset (hset (hset (hset (hset (hset (hset (hset (hset (hset h 42 (h 116 45) a) 43 (h 116 45) b) 44 (h 116 45) c) 45 (h 116 45) e) 46 (h 116 45) e) 47 (h 116 45) (h 116 1)) 48 (h 116 45) (-1)) 49 (h 116 45) (-1)) 50 (h 116 45) 0) 41 12 ((h 116 45) + 1)) 51 = (h 51) by rw [hset_r (by decide), hset_r (by decide), hset_r (by decide), hset_r (by decide), hset_r (by decide), hset_r (by decide), hset_r (by decide), hset_r (by decide), hset_r (by decide), hset_r (by decide)]), (show (hset (hset (hset (hset (hset (hset (hset (hset (hset (hset h 42 (h 116 45) a) 43 (h 116 45) b) 44 (h 116 45) c) 45 (h 116 45) e) 46 (h 116 45) e) 47 (h 116 45) (h 116 1)) 48 (h 116 45) (-1)) 49 (h 116 45) (-1)) 50 (h 116 45) 0) 41 12 ((h 116 45) + 1)) 82 = (h 82) by rw [hset_r (by decide), hset_r (by decide), hset_r (by decide), hset_r (by decide), hset_r (by decide), hset_r (by decide), hset_r (by decide), hset_r (by decide), hset_r (by decide), hset_r (by decide)]), (show (hset (hset (hset (hset (hset (hset (hset (hset (hset (hset h 42 (h 116 45) a) 43 (h 116 45) b) 44 (h 116 45) c) 45 (h 116 45) e) 46 (h 116 45) e) 47 (h 116 45) (h 116 1)) 48 (h 116 45) (-1)) 49 (h 116 45) (-1)) 50 (h 116 45) 0) 41 12 ((h 116 45) + 1)) 52 = (h 52) by rw [hset_r (by decide), hset_r (by decide), hset_r (by decide), hset_r (by decide), hset_r (by decide), hset_r (by decide), hset_r (by decide), hset_r (by decide), hset_r (by decide), hset_r (by decide)]), (show (hset (hset (hset (hset (hset (hset (hset (hset (hset (hset h 42 (h 116 45) a) 43 (h 116 45) b) 44 (h 116 45) c) 45 (h 116 45) e) 46 (h 116 45) e) 47 (h 116 45) (h 116 1)) 48 (h 116 45) (-1)) 49 (h 116 45) (-1)) 50 (h 116 45) 0) 41 12 ((h 116 45) + 1)) 83 = (h 83) by rw [hset_r (by decide), hset_r (by decide), hset_r (by decide), hset_r (by decide), hset_r (by decide), hset_r (by decide), hset_r (by decide), hset_r (by decide), hset_r (by decide), hset_r (by decide)])]
      rw [f81, I.e51, I.e52, I.e82, I.e83]
    rw [ec, f41]
    refine hq _ _ (fun Q2 hq2 => ?_)
    refine s_rmade (a := a) (g := b) (pr := pr) (c := c) (e := e) (by omega) (by simp only [(show (ov1 (ov1 (ov1 (hset (hset (hset (hset (hset (hset (hset (hset (hset (hset (hset (hset h 42 (h 116 45) a) 43 (h 116 45) b) 44 (h 116 45) c) 45 (h 116 45) e) 46 (h 116 45) e) 47 (h 116 45) (h 116 1)) 48 (h 116 45) (-1)) 49 (h 116 45) (-1)) 50 (h 116 45) 0) 41 12 ((h 116 45) + 1)) 48 (h 116 45) pr) 81 2 0) 50 (fset (fset (h 50) (h 116 45) 0) (h 116 45) (h 116 46))) 51 (cpR (h 138) (h 116 45) (h 140) (h 116 46))) 52 (cpR (h 139) (h 116 45) (h 141) (h 116 46))) 116 45 = (h 116 45) from ((ov1_c (by decide)).trans ((ov1_c (by decide)).trans ((ov1_c (by decide)).trans ((hset_c (by decide)).trans ((hset_c (by decide)).trans ((hset_c (by decide)).trans ((hset_c (by decide)).trans ((hset_c (by decide)).trans ((hset_c (by decide)).trans ((hset_c (by decide)).trans ((hset_c (by decide)).trans ((hset_c (by decide)).trans ((hset_c (by decide)).trans ((hset_c (by decide)).trans (hset_c (by decide)))))))))))))))))]; exact nb) (by simp only [(show (ov1 (ov1 (ov1 (hset (hset (hset (hset (hset (hset (hset (hset (hset (hset (hset (hset h 42 (h 116 45) a) 43 (h 116 45) b) 44 (h 116 45) c) 45 (h 116 45) e) 46 (h 116 45) e) 47 (h 116 45) (h 116 1)) 48 (h 116 45) (-1)) 49 (h 116 45) (-1)) 50 (h 116 45) 0) 41 12 ((h 116 45) + 1)) 48 (h 116 45) pr) 81 2 0) 50 (fset (fset (h 50) (h 116 45) 0) (h 116 45) (h 116 46))) 51 (cpR (h 138) (h 116 45) (h 140) (h 116 46))) 52 (cpR (h 139) (h 116 45) (h 141) (h 116 46))) 116 46 = (h 116 46) from ((ov1_c (by decide)).trans ((ov1_c (by decide)).trans ((ov1_c (by decide)).trans ((hset_c (by decide)).trans ((hset_c (by decide)).trans ((hset_c (by decide)).trans ((hset_c (by decide)).trans ((hset_c (by decide)).trans ((hset_c (by decide)).trans ((hset_c (by decide)).trans ((hset_c (by decide)).trans ((hset_c (by decide)).trans ((hset_c (by decide)).trans ((hset_c (by decide)).trans (hset_c (by decide)))))))))))))))))]; exact bn) ?_ ?_
    · intro k2
      simp only [(show (ov1 (ov1 (ov1 (hset (hset (hset (hset (hset (hset (hset (hset (hset (hset (hset (hset h 42 (h 116 45) a) 43 (h 116 45) b) 44 (h 116 45) c) 45 (h 116 45) e) 46 (h 116 45) e) 47 (h 116 45) (h 116 1)) 48 (h 116 45) (-1)) 49 (h 116 45) (-1)) 50 (h 116 45) 0) 41 12 ((h 116 45) + 1)) 48 (h 116 45) pr) 81 2 0) 50 (fset (fset (h 50) (h 116 45) 0) (h 116 45) (h 116 46))) 51 (cpR (h 138) (h 116 45) (h 140) (h 116 46))) 52 (cpR (h 139) (h 116 45) (h 141) (h 116 46))) 116 45 = (h 116 45) from ((ov1_c (by decide)).trans ((ov1_c (by decide)).trans ((ov1_c (by decide)).trans ((hset_c (by decide)).trans ((hset_c (by decide)).trans ((hset_c (by decide)).trans ((hset_c (by decide)).trans ((hset_c (by decide)).trans ((hset_c (by decide)).trans ((hset_c (by decide)).trans ((hset_c (by decide)).trans ((hset_c (by decide)).trans ((hset_c (by decide)).trans ((hset_c (by decide)).trans (hset_c (by decide))))))))))))))))), (show (ov1 (ov1 (ov1 (hset (hset (hset (hset (hset (hset (hset (hset (hset (hset (hset (hset h 42 (h 116 45) a) 43 (h 116 45) b) 44 (h 116 45) c) 45 (h 116 45) e) 46 (h 116 45) e) 47 (h 116 45) (h 116 1)) 48 (h 116 45) (-1)) 49 (h 116 45) (-1)) 50 (h 116 45) 0) 41 12 ((h 116 45) + 1)) 48 (h 116 45) pr) 81 2 0) 50 (fset (fset (h 50) (h 116 45) 0) (h 116 45) (h 116 46))) 51 (cpR (h 138) (h 116 45) (h 140) (h 116 46))) 52 (cpR (h 139) (h 116 45) (h 141) (h 116 46))) 116 46 = (h 116 46) from ((ov1_c (by decide)).trans ((ov1_c (by decide)).trans ((ov1_c (by decide)).trans ((hset_c (by decide)).trans ((hset_c (by decide)).trans ((hset_c (by decide)).trans ((hset_c (by decide)).trans ((hset_c (by decide)).trans ((hset_c (by decide)).trans ((hset_c (by decide)).trans ((hset_c (by decide)).trans ((hset_c (by decide)).trans ((hset_c (by decide)).trans ((hset_c (by decide)).trans (hset_c (by decide)))))))))))))))))] at k2
      exfalso
      omega
    · intro k2
      unfold ruH raH
      simp only [(show (ov1 (ov1 (ov1 (hset (hset (hset (hset (hset (hset (hset (hset (hset (hset (hset (hset h 42 (h 116 45) a) 43 (h 116 45) b) 44 (h 116 45) c) 45 (h 116 45) e) 46 (h 116 45) e) 47 (h 116 45) (h 116 1)) 48 (h 116 45) (-1)) 49 (h 116 45) (-1)) 50 (h 116 45) 0) 41 12 ((h 116 45) + 1)) 48 (h 116 45) pr) 81 2 0) 50 (fset (fset (h 50) (h 116 45) 0) (h 116 45) (h 116 46))) 51 (cpR (h 138) (h 116 45) (h 140) (h 116 46))) 52 (cpR (h 139) (h 116 45) (h 141) (h 116 46))) 116 45 = (h 116 45) from ((ov1_c (by decide)).trans ((ov1_c (by decide)).trans ((ov1_c (by decide)).trans ((hset_c (by decide)).trans ((hset_c (by decide)).trans ((hset_c (by decide)).trans ((hset_c (by decide)).trans ((hset_c (by decide)).trans ((hset_c (by decide)).trans ((hset_c (by decide)).trans ((hset_c (by decide)).trans ((hset_c (by decide)).trans ((hset_c (by decide)).trans ((hset_c (by decide)).trans (hset_c (by decide))))))))))))))))), (show (hset (ov1 (ov1 (ov1 (hset (hset (hset (hset (hset (hset (hset (hset (hset (hset (hset (hset h 42 (h 116 45) a) 43 (h 116 45) b) 44 (h 116 45) c) 45 (h 116 45) e) 46 (h 116 45) e) 47 (h 116 45) (h 116 1)) 48 (h 116 45) (-1)) 49 (h 116 45) (-1)) 50 (h 116 45) 0) 41 12 ((h 116 45) + 1)) 48 (h 116 45) pr) 81 2 0) 50 (fset (fset (h 50) (h 116 45) 0) (h 116 45) (h 116 46))) 51 (cpR (h 138) (h 116 45) (h 140) (h 116 46))) 52 (cpR (h 139) (h 116 45) (h 141) (h 116 46))) 116 0 0) 116 45 = (h 116 45) from ((hset_j (by decide)).trans ((ov1_c (by decide)).trans ((ov1_c (by decide)).trans ((ov1_c (by decide)).trans ((hset_c (by decide)).trans ((hset_c (by decide)).trans ((hset_c (by decide)).trans ((hset_c (by decide)).trans ((hset_c (by decide)).trans ((hset_c (by decide)).trans ((hset_c (by decide)).trans ((hset_c (by decide)).trans ((hset_c (by decide)).trans ((hset_c (by decide)).trans ((hset_c (by decide)).trans (hset_c (by decide)))))))))))))))))), (show (hset (ov1 (ov1 (ov1 (hset (hset (hset (hset (hset (hset (hset (hset (hset (hset (hset (hset h 42 (h 116 45) a) 43 (h 116 45) b) 44 (h 116 45) c) 45 (h 116 45) e) 46 (h 116 45) e) 47 (h 116 45) (h 116 1)) 48 (h 116 45) (-1)) 49 (h 116 45) (-1)) 50 (h 116 45) 0) 41 12 ((h 116 45) + 1)) 48 (h 116 45) pr) 81 2 0) 50 (fset (fset (h 50) (h 116 45) 0) (h 116 45) (h 116 46))) 51 (cpR (h 138) (h 116 45) (h 140) (h 116 46))) 52 (cpR (h 139) (h 116 45) (h 141) (h 116 46))) 116 0 0) 116 1 = (h 116 1) from ((hset_j (by decide)).trans ((ov1_c (by decide)).trans ((ov1_c (by decide)).trans ((ov1_c (by decide)).trans ((hset_c (by decide)).trans ((hset_c (by decide)).trans ((hset_c (by decide)).trans ((hset_c (by decide)).trans ((hset_c (by decide)).trans ((hset_c (by decide)).trans ((hset_c (by decide)).trans ((hset_c (by decide)).trans ((hset_c (by decide)).trans ((hset_c (by decide)).trans ((hset_c (by decide)).trans (hset_c (by decide)))))))))))))))))), (show (ov1 (ov1 (ov1 (hset (hset (hset (hset (hset (hset (hset (hset (hset (hset (hset (hset h 42 (h 116 45) a) 43 (h 116 45) b) 44 (h 116 45) c) 45 (h 116 45) e) 46 (h 116 45) e) 47 (h 116 45) (h 116 1)) 48 (h 116 45) (-1)) 49 (h 116 45) (-1)) 50 (h 116 45) 0) 41 12 ((h 116 45) + 1)) 48 (h 116 45) pr) 81 2 0) 50 (fset (fset (h 50) (h 116 45) 0) (h 116 45) (h 116 46))) 51 (cpR (h 138) (h 116 45) (h 140) (h 116 46))) 52 (cpR (h 139) (h 116 45) (h 141) (h 116 46))) 116 45 = (h 116 45) from ((ov1_c (by decide)).trans ((ov1_c (by decide)).trans ((ov1_c (by decide)).trans ((hset_c (by decide)).trans ((hset_c (by decide)).trans ((hset_c (by decide)).trans ((hset_c (by decide)).trans ((hset_c (by decide)).trans ((hset_c (by decide)).trans ((hset_c (by decide)).trans ((hset_c (by decide)).trans ((hset_c (by decide)).trans ((hset_c (by decide)).trans ((hset_c (by decide)).trans (hset_c (by decide))))))))))))))))), (show (hset (hset (hset (hset (hset (hset (hset (hset (hset (hset (ov1 (ov1 (ov1 (hset (hset (hset (hset (hset (hset (hset (hset (hset (hset (hset (hset h 42 (h 116 45) a) 43 (h 116 45) b) 44 (h 116 45) c) 45 (h 116 45) e) 46 (h 116 45) e) 47 (h 116 45) (h 116 1)) 48 (h 116 45) (-1)) 49 (h 116 45) (-1)) 50 (h 116 45) 0) 41 12 ((h 116 45) + 1)) 48 (h 116 45) pr) 81 2 0) 50 (fset (fset (h 50) (h 116 45) 0) (h 116 45) (h 116 46))) 51 (cpR (h 138) (h 116 45) (h 140) (h 116 46))) 52 (cpR (h 139) (h 116 45) (h 141) (h 116 46))) 116 0 0) 129 (h 116 45) a) 130 (h 116 45) b) 131 (h 116 45) c) 132 (h 116 45) e) 133 (h 116 45) e) 134 (h 116 45) (h 116 1)) 135 (h 116 45) pr) 136 (h 116 45) 9999) 116 45 ((h 116 45) + 1)) 116 46 = (h 116 46) from ((hset_j (by decide)).trans ((hset_c (by decide)).trans ((hset_c (by decide)).trans ((hset_c (by decide)).trans ((hset_c (by decide)).trans ((hset_c (by decide)).trans ((hset_c (by decide)).trans ((hset_c (by decide)).trans ((hset_c (by decide)).trans ((hset_j (by decide)).trans ((ov1_c (by decide)).trans ((ov1_c (by decide)).trans ((ov1_c (by decide)).trans ((hset_c (by decide)).trans ((hset_c (by decide)).trans ((hset_c (by decide)).trans ((hset_c (by decide)).trans ((hset_c (by decide)).trans ((hset_c (by decide)).trans ((hset_c (by decide)).trans ((hset_c (by decide)).trans ((hset_c (by decide)).trans ((hset_c (by decide)).trans ((hset_c (by decide)).trans (hset_c (by decide))))))))))))))))))))))))))), (show (hset (hset (hset (hset (hset (hset (hset (hset (hset (hset (ov1 (ov1 (ov1 (hset (hset (hset (hset (hset (hset (hset (hset (hset (hset (hset (hset h 42 (h 116 45) a) 43 (h 116 45) b) 44 (h 116 45) c) 45 (h 116 45) e) 46 (h 116 45) e) 47 (h 116 45) (h 116 1)) 48 (h 116 45) (-1)) 49 (h 116 45) (-1)) 50 (h 116 45) 0) 41 12 ((h 116 45) + 1)) 48 (h 116 45) pr) 81 2 0) 50 (fset (fset (h 50) (h 116 45) 0) (h 116 45) (h 116 46))) 51 (cpR (h 138) (h 116 45) (h 140) (h 116 46))) 52 (cpR (h 139) (h 116 45) (h 141) (h 116 46))) 116 0 0) 129 (h 116 45) a) 130 (h 116 45) b) 131 (h 116 45) c) 132 (h 116 45) e) 133 (h 116 45) e) 134 (h 116 45) (h 116 1)) 135 (h 116 45) pr) 136 (h 116 45) 9999) 116 45 ((h 116 45) + 1)) 138 = (h 138) by rw [hset_r (by decide), hset_r (by decide), hset_r (by decide), hset_r (by decide), hset_r (by decide), hset_r (by decide), hset_r (by decide), hset_r (by decide), hset_r (by decide), hset_r (by decide), ov1_r (by decide), ov1_r (by decide), ov1_r (by decide), hset_r (by decide), hset_r (by decide), hset_r (by decide), hset_r (by decide), hset_r (by decide), hset_r (by decide), hset_r (by decide), hset_r (by decide), hset_r (by decide), hset_r (by decide), hset_r (by decide), hset_r (by decide)]), (show (hset (hset (hset (hset (hset (hset (hset (hset (hset (hset (ov1 (ov1 (ov1 (hset (hset (hset (hset (hset (hset (hset (hset (hset (hset (hset (hset h 42 (h 116 45) a) 43 (h 116 45) b) 44 (h 116 45) c) 45 (h 116 45) e) 46 (h 116 45) e) 47 (h 116 45) (h 116 1)) 48 (h 116 45) (-1)) 49 (h 116 45) (-1)) 50 (h 116 45) 0) 41 12 ((h 116 45) + 1)) 48 (h 116 45) pr) 81 2 0) 50 (fset (fset (h 50) (h 116 45) 0) (h 116 45) (h 116 46))) 51 (cpR (h 138) (h 116 45) (h 140) (h 116 46))) 52 (cpR (h 139) (h 116 45) (h 141) (h 116 46))) 116 0 0) 129 (h 116 45) a) 130 (h 116 45) b) 131 (h 116 45) c) 132 (h 116 45) e) 133 (h 116 45) e) 134 (h 116 45) (h 116 1)) 135 (h 116 45) pr) 136 (h 116 45) 9999) 116 45 ((h 116 45) + 1)) 140 = (h 140) by rw [hset_r (by decide), hset_r (by decide), hset_r (by decide), hset_r (by decide), hset_r (by decide), hset_r (by decide), hset_r (by decide), hset_r (by decide), hset_r (by decide), hset_r (by decide), ov1_r (by decide), ov1_r (by decide), ov1_r (by decide), hset_r (by decide), hset_r (by decide), hset_r (by decide), hset_r (by decide), hset_r (by decide), hset_r (by decide), hset_r (by decide), hset_r (by decide), hset_r (by decide), hset_r (by decide), hset_r (by decide), hset_r (by decide)]), (show (hset (hset (hset (hset (hset (hset (hset (hset (hset (hset (ov1 (ov1 (ov1 (hset (hset (hset (hset (hset (hset (hset (hset (hset (hset (hset (hset h 42 (h 116 45) a) 43 (h 116 45) b) 44 (h 116 45) c) 45 (h 116 45) e) 46 (h 116 45) e) 47 (h 116 45) (h 116 1)) 48 (h 116 45) (-1)) 49 (h 116 45) (-1)) 50 (h 116 45) 0) 41 12 ((h 116 45) + 1)) 48 (h 116 45) pr) 81 2 0) 50 (fset (fset (h 50) (h 116 45) 0) (h 116 45) (h 116 46))) 51 (cpR (h 138) (h 116 45) (h 140) (h 116 46))) 52 (cpR (h 139) (h 116 45) (h 141) (h 116 46))) 116 0 0) 129 (h 116 45) a) 130 (h 116 45) b) 131 (h 116 45) c) 132 (h 116 45) e) 133 (h 116 45) e) 134 (h 116 45) (h 116 1)) 135 (h 116 45) pr) 136 (h 116 45) 9999) 116 45 ((h 116 45) + 1)) 139 = (h 139) by rw [hset_r (by decide), hset_r (by decide), hset_r (by decide), hset_r (by decide), hset_r (by decide), hset_r (by decide), hset_r (by decide), hset_r (by decide), hset_r (by decide), hset_r (by decide), ov1_r (by decide), ov1_r (by decide), ov1_r (by decide), hset_r (by decide), hset_r (by decide), hset_r (by decide), hset_r (by decide), hset_r (by decide), hset_r (by decide), hset_r (by decide), hset_r (by decide), hset_r (by decide), hset_r (by decide), hset_r (by decide), hset_r (by decide)]), (show (hset (hset (hset (hset (hset (hset (hset (hset (hset (hset (ov1 (ov1 (ov1 (hset (hset (hset (hset (hset (hset (hset (hset (hset (hset (hset (hset h 42 (h 116 45) a) 43 (h 116 45) b) 44 (h 116 45) c) 45 (h 116 45) e) 46 (h 116 45) e) 47 (h 116 45) (h 116 1)) 48 (h 116 45) (-1)) 49 (h 116 45) (-1)) 50 (h 116 45) 0) 41 12 ((h 116 45) + 1)) 48 (h 116 45) pr) 81 2 0) 50 (fset (fset (h 50) (h 116 45) 0) (h 116 45) (h 116 46))) 51 (cpR (h 138) (h 116 45) (h 140) (h 116 46))) 52 (cpR (h 139) (h 116 45) (h 141) (h 116 46))) 116 0 0) 129 (h 116 45) a) 130 (h 116 45) b) 131 (h 116 45) c) 132 (h 116 45) e) 133 (h 116 45) e) 134 (h 116 45) (h 116 1)) 135 (h 116 45) pr) 136 (h 116 45) 9999) 116 45 ((h 116 45) + 1)) 141 = (h 141) by rw [hset_r (by decide), hset_r (by decide), hset_r (by decide), hset_r (by decide), hset_r (by decide), hset_r (by decide), hset_r (by decide), hset_r (by decide), hset_r (by decide), hset_r (by decide), ov1_r (by decide), ov1_r (by decide), ov1_r (by decide), hset_r (by decide), hset_r (by decide), hset_r (by decide), hset_r (by decide), hset_r (by decide), hset_r (by decide), hset_r (by decide), hset_r (by decide), hset_r (by decide), hset_r (by decide), hset_r (by decide), hset_r (by decide)])]
      exact hq2 _ (LI_made I L (by omega) (by omega) (by omega) (by omega) (by omega) (by omega))

