/-! ===== calls of both sides together: lines booked, a protocol told (written by wip/whole/p82.py) ===== -/
theorem bkF_b {du : Int → Int} {now n : Int} {p : BKT} (hp : ∀ s, 0 ≤ s → s < 100 → 0 ≤ p.2.1 s ∧ p.2.1 s ≤ 100000000) (hd : ∀ s, 0 ≤ s → s < n → 0 ≤ du s ∧ du s ≤ 100000000) (hn : 0 ≤ n) : ∀ s, 0 ≤ s → s < 100 → 0 ≤ (bkF du now p n).2.1 s ∧ (bkF du now p n).2.1 s ≤ 100000000 := by
  have key : ∀ m : Nat, (m : Int) ≤ n → ∀ s, 0 ≤ s → s < 100 → 0 ≤ (bkF du now p m).2.1 s ∧ (bkF du now p m).2.1 s ≤ 100000000 := by
    intro m
    induction m with
    | zero => intro _; exact hp
    | succ m ih =>
      intro hm s s0 s1
      rw [show ((m + 1 : Nat) : Int) = (m : Int) + 1 by omega, bkF_s (by omega)]
      by_cases c : du (m : Int) = (bkF du now p m).2.1 (m : Int)
      · rw [bkS_0 c]; exact ih (by omega) s s0 s1
      · rw [bkS_1 c]
        show 0 ≤ fset (bkF du now p m).2.1 (m : Int) (du (m : Int)) s ∧ fset (bkF du now p m).2.1 (m : Int) (du (m : Int)) s ≤ 100000000
        by_cases e : s = (m : Int)
        · rw [e, fset_same]; exact hd _ (by omega) (by omega)
        · rw [fset_ne e]; exact ih (by omega) s s0 s1
  have := key n.toNat (by omega)
  rw [show ((n.toNat : Nat) : Int) = n by omega] at this
  exact this

set_option maxHeartbeats 4000000 in
set_option maxRecDepth 100000 in
theorem j_book {l : Launch} {G : GG} {d : Nat} {h : AH} {Q : Option AV → List Kd → AH → Prop} (hd : 60 ≤ d) (H : LI h) (hq : JQ mX12_book [(2, 116)] 0 l G d Q) : Sp l G mX11_book d 0 0 K0 [(2, 0)] h Q := by
  have H0 := H
  obtain ⟨cs, I, L⟩ := H
  have li := L.li
  have l15 := L.f4_15
  have ns := I.S.1
  refine cst_in ?_
  refine s_Fbook (cs := cs) (by omega) I L ?_ ?_
  · intro c F'
    have I1 := CI_al (AL_cst (F := F')) I
    have g := (AL_cst (h := h) (F := F')).ag
    have ed : (fun s => duF (cst h F') cs s (cst h F' 116 1)) = (fun s => duF h cs s (h 116 1)) := funext fun s => by rw [duF_ag g, g.f116_1]
    have e65 : cst h F' 116 65 = h 116 65 := g.f116_65
    have e160 : cst h F' 160 = h 160 := cst_r (by decide)
    have e161 : cst h F' 161 = h 161 := cst_r (by decide)
    have e162 : cst h F' 162 = h 162 := cst_r (by decide)
    have e163 : cst h F' 163 = h 163 := cst_r (by decide)
    have f67 : cst h F' 116 67 = h 116 67 := cst_n (by decide)
    have f68 : cst h F' 116 68 = h 116 68 := cst_n (by decide)
    refine hq _ _ (fun Q2 hq2 => ?_)
    refine jk_in ?_
    refine s_rbook (cs := cs) (by omega) I1 (by rw [e160]; exact L.bk) (by rw [f67]; exact li) ?_ ?_
    · intro c2 F z O Lr
      exact hq2 _ (LI_al (AL_t AL_cst AL_jk) H0)
    · intro c2
      rw [ed, e160, f67, e65] at c2
      exfalso
      omega
  · intro c F'
    obtain ⟨P, hP⟩ : ∃ P, P = (bkF (fun s => duF h cs s (h 116 1)) (h 116 1) (h 4 15, h 76, h 77, h 78, h 79, h 4 16) (h 116 65)) := ⟨_, rfl⟩
    rw [← hP]
    have g : Ag h (cst (bkc h P) F') := Ag_t Ag_bkc Ag_cst
    have I1 := CI_ag g I
    have ed : (fun s => duF (cst (bkc h P) F') cs s ((cst (bkc h P) F') 116 1)) = (fun s => duF h cs s (h 116 1)) := funext fun s => by rw [duF_ag g, g.f116_1]
    have e65 : (cst (bkc h P) F') 116 65 = h 116 65 := g.f116_65
    have e1 : (cst (bkc h P) F') 116 1 = h 116 1 := g.f116_1
    have e160 : (cst (bkc h P) F') 160 = h 160 := (cst_r (by decide)).trans ((ov1_r (by decide)).trans ((ov1_r (by decide)).trans ((ov1_r (by decide)).trans ((ov1_r (by decide)).trans ((hset_r (by decide)).trans (hset_r (by decide)))))))
    have e161 : (cst (bkc h P) F') 161 = h 161 := (cst_r (by decide)).trans ((ov1_r (by decide)).trans ((ov1_r (by decide)).trans ((ov1_r (by decide)).trans ((ov1_r (by decide)).trans ((hset_r (by decide)).trans (hset_r (by decide)))))))
    have e162 : (cst (bkc h P) F') 162 = h 162 := (cst_r (by decide)).trans ((ov1_r (by decide)).trans ((ov1_r (by decide)).trans ((ov1_r (by decide)).trans ((ov1_r (by decide)).trans ((hset_r (by decide)).trans (hset_r (by decide)))))))
    have e163 : (cst (bkc h P) F') 163 = h 163 := (cst_r (by decide)).trans ((ov1_r (by decide)).trans ((ov1_r (by decide)).trans ((ov1_r (by decide)).trans ((ov1_r (by decide)).trans ((hset_r (by decide)).trans (hset_r (by decide)))))))
    have f67 : (cst (bkc h P) F') 116 67 = h 116 67 := (cst_n (by decide)).trans ((ov1_c (by decide)).trans ((ov1_c (by decide)).trans ((ov1_c (by decide)).trans ((ov1_c (by decide)).trans ((hset_c (by decide)).trans (hset_c (by decide)))))))
    have f68 : (cst (bkc h P) F') 116 68 = h 116 68 := (cst_n (by decide)).trans ((ov1_c (by decide)).trans ((ov1_c (by decide)).trans ((ov1_c (by decide)).trans ((ov1_c (by decide)).trans ((hset_c (by decide)).trans (hset_c (by decide)))))))
    have sn := sm_rng (f := ubF (fun s => duF h cs s (h 116 1)) (h 160)) (N := h 116 65) (B := 1) ubF_r _ ns.1 (Int.le_refl _)
    have n9 : P.1 = h 4 15 + sm (ubF (fun s => duF h cs s (h 116 1)) (h 160)) (h 116 65) := by rw [hP, bkF_n ns.1, ← L.e76]
    have b9 : ∀ s, 0 ≤ s → s < 100 → 0 ≤ P.2.1 s ∧ P.2.1 s ≤ 100000000 := by
      rw [hP]
      exact bkF_b (p := (h 4 15, h 76, h 77, h 78, h 79, h 4 16)) (by rw [L.e76]; exact L.bk) (fun s s0 s1 => duF_rng I ⟨s0, s1⟩) ns.1
    refine hq _ _ (fun Q2 hq2 => ?_)
    refine jk_in ?_
    refine s_rbook (cs := cs) (by omega) I1 (by rw [e160]; exact L.bk) (by rw [f67]; exact li) ?_ ?_
    · intro c2
      rw [ed, e160, f67, e65] at c2
      exfalso
      omega
    · intro c2 F z O Lr
      have tup : (h 116 67, h 160, h 162, h 161, h 163, h 116 68) = (h 4 15, h 76, h 77, h 78, h 79, h 4 16) := by rw [L.f4_15, L.e76, L.e77, L.e78, L.e79, L.f4_16]
      rw [ed, e1, e160, e161, e162, e163, f67, f68, e65, tup, ← hP]
      exact hq2 _ (LI_al (AL_t (AL_ov (AL_ov (AL_ov (AL_ov (AL_hs (AL_hs AL_cst)))))) AL_jk) (LI_book I L ⟨by omega, by omega⟩ b9))

set_option maxHeartbeats 4000000 in
set_option maxRecDepth 100000 in
theorem j_protocol {l : Launch} {G : GG} {d : Nat} {h : AH} {Q : Option AV → List Kd → AH → Prop} {w fr : Int} (hd : 60 ≤ d) (H : LI h) (hq : JQ mX12_protocol [(2, 116), (0, w), (0, fr)] 0 l G d Q) : Sp l G mX11_protocol d 0 0 K0 [(2, 0), (0, w), (0, fr)] h Q := by
  have H0 := H
  obtain ⟨cs, I, L⟩ := H
  have tp := I.tp
  have nt := I.W.nt
  refine s_Fprotocol (u := h 2) (by omega) I ⟨tp.2.2, I.f1_1, rfl, fun i _ _ => tp.2.1 i⟩ ?_ ?_
  · intro F' n
    have g := (AL_cst (h := h) (F := F')).ag
    have e15 : cst h F' 116 15 = h 116 15 := g.f116_15
    have e16 : cst h F' 116 16 = h 116 16 := g.f116_16
    have e27 : cst h F' 127 = h 127 := g.r127
    refine hq _ _ (fun Q2 hq2 => ?_)
    refine s_protocol (u := h 2) (by omega) ⟨by omega, by omega, fun i _ _ => tp.2.1 i, fun i _ _ => by rw [e27, tp.1]⟩ (by omega) ?_ ?_
    · intro z9 n2
      exact hq2 _ (LI_al (AL_t AL_cst (AL_t (AL_s (by decide)) AL_jst)) H0)
    · intro z9 c2
      rw [e16, e15] at c2
      exact absurd c2 n
  · intro F' R s c hR hs0 hs1
    obtain ⟨cs9, h9⟩ := fault_s c.1
    have e15 : (cst (tpH h w fr (h 116 15) s R) F') 116 15 = h 116 15 := (cst_n (by decide)).trans ((hset_c (by decide)).trans ((hset_c (by decide)).trans ((ov1_c (by omega)).trans ((hset_c (by decide)).trans ((hset_c (by decide)).trans ((hset_c (by decide)).trans (hset_c (by decide))))))))
    have e16 : (cst (tpH h w fr (h 116 15) s R) F') 116 16 = h 116 16 := (cst_n (by decide)).trans ((hset_c (by decide)).trans ((hset_c (by decide)).trans ((ov1_c (by omega)).trans ((hset_c (by decide)).trans ((hset_c (by decide)).trans ((hset_c (by decide)).trans (hset_c (by decide))))))))
    have e1 : (cst (tpH h w fr (h 116 15) s R) F') 116 1 = h 116 1 := (cst_n (by decide)).trans ((hset_c (by decide)).trans ((hset_c (by decide)).trans ((ov1_c (by omega)).trans ((hset_c (by decide)).trans ((hset_c (by decide)).trans ((hset_c (by decide)).trans (hset_c (by decide))))))))
    have e27 : (cst (tpH h w fr (h 116 15) s R) F') 127 = h 127 := (cst_r (by decide)).trans ((hset_r (by decide)).trans ((hset_r (by decide)).trans ((ov1_r (by omega)).trans ((hset_r (by decide)).trans ((hset_r (by decide)).trans ((hset_r (by decide)).trans (hset_r (by decide))))))))
    have t27 : hset (tpH h w fr (h 116 15) s R) 116 0 0 127 = h 127 := (hset_r (by decide)).trans ((hset_r (by decide)).trans ((hset_r (by decide)).trans ((ov1_r (by omega)).trans ((hset_r (by decide)).trans ((hset_r (by decide)).trans ((hset_r (by decide)).trans (hset_r (by decide))))))))
    have t28 : hset (tpH h w fr (h 116 15) s R) 116 0 0 128 = h 128 := (hset_r (by decide)).trans ((hset_r (by decide)).trans ((hset_r (by decide)).trans ((ov1_r (by omega)).trans ((hset_r (by decide)).trans ((hset_r (by decide)).trans ((hset_r (by decide)).trans (hset_r (by decide))))))))
    refine hq _ _ (fun Q2 hq2 => ?_)
    refine s_protocol (u := h 2) (by omega) ⟨by omega, by omega, fun i _ _ => tp.2.1 i, fun i _ _ => by rw [e27, tp.1]⟩ (by omega) ?_ ?_
    · intro z9 n2
      rw [e16, e15] at n2
      exact absurd c n2
    · intro z9 c2
      rw [e15, e16, e1]
      have li : LI (hset (hset (hset (hset (hset (hset (ov1 (hset (tpH h w fr (h 116 15) s R) 116 0 0) 128 (fun b => if 200 * h 116 15 ≤ b ∧ b < 200 * h 116 15 + h 116 16 then h 127 (0 + (b - 200 * h 116 15)) else h 128 b)) 124 (h 116 15) (h 116 16)) 121 (h 116 15) w) 122 (h 116 15) fr) 123 (h 116 15) (h 116 1)) 116 15 (h 116 15 + 1)) 116 16 0) := LI_protocol I L h9 (hR cs9 h9) ⟨hs0, hs1⟩ c.2.1 c.2.2.1 c.2.2.2
      have e : hcpy (hset (tpH h w fr (h 116 15) s R) 116 0 0) 127 0 128 (200 * h 116 15) (h 116 16) = ov1 (hset (tpH h w fr (h 116 15) s R) 116 0 0) 128 (fun b => if 200 * h 116 15 ≤ b ∧ b < 200 * h 116 15 + h 116 16 then h 127 (0 + (b - 200 * h 116 15)) else h 128 b) := by
        rw [hcpy_ov, t27, t28]
      rw [← e] at li
      exact hq2 _ (LI_al (AL_hs (AL_hs (AL_hs (AL_hs (AL_hs (AL_hs (AL_cp (AL_t (AL_hs AL_cst) AL_jst) (fun j => by unfold mS cS cR cF kS; omega)))))))) li)

