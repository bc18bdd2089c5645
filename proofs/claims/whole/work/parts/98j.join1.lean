/-! ===== calls of both sides together: the plain ones (written by wip/whole/p76.py) ===== -/
/-- what the reference is asked next, and answers as the class did -/
abbrev JQ (M2 : MI) (as2 : List AV) (t : Nat) (l : Launch) (G : GG) (d : Nat) (Q : Option AV → List Kd → AH → Prop) : Prop :=
  ∀ h1 v, (∀ Q2 : Option AV → List Kd → AH → Prop, (∀ h2, LI h2 → Q2 (some (t, v)) K0 h2) → Sp l G M2 d 0 0 K0 as2 h1 Q2) → Q (some (t, v)) K0 h1

theorem left_r {h : AH} {cs : Int → List (Int × List Int)} (I : CI h cs) {p : Int} (h0 : 0 ≤ p) (h1 : p < h 116 45) : 0 ≤ h 133 p ∧ h 133 p ≤ 10000 := by
  have cp := I.co p h0 h1
  have mp := I.W.ma p h0 h1
  have bs := on_nn (of := h 140) (many := h 141) (b := p) I.bn.1.1 (fun i i0 i1 => by have := I.bn.2 i i0 i1; omega)
  have ps := on_nn (of := h 144) (many := h 142) (b := p) I.po.1.1 (fun i i0 i1 => by have := I.po.2 i i0 i1; omega)
  omega

set_option maxHeartbeats 4000000 in
theorem j_days {l : Launch} {G : GG} {d : Nat} {h : AH} {Q : Option AV → List Kd → AH → Prop} {p : Int} (hd : 60 ≤ d) (H : LI h) (hq : JQ mX12_days [(2, 116), (0, p)] 0 l G d Q) : Sp l G mX11_days d 0 0 K0 [(2, 0), (0, p)] h Q := by
  obtain ⟨cs, I, L⟩ := H
  have e0_0 := I.f0_0
  have b116_1 := I.now
  have eia : iadd (h 0 0) p = iadd (h 116 1) p := by rw [e0_0]
  refine s_X11_days (by omega)  ?_ ?_ ?_ ?_
  · intro c0
    exact hq h _ (fun Q2 hq2 => by
      refine s_X12_days (by omega)  ?_ ?_ ?_ ?_
      all_goals first | (intros; exact hq2 _ (LI_h0 I L)) | (intros; exfalso; omega))
  · intro c0 c1
    exact hq h _ (fun Q2 hq2 => by
      refine s_X12_days (by omega)  ?_ ?_ ?_ ?_
      all_goals first | (intros; exact hq2 _ (LI_h0 I L)) | (intros; exfalso; omega))
  · intro c0 c1 c2
    have ia : iadd (h 116 1) p = h 116 1 + p := iadd_eq (by unfold ok32; omega)
    try simp only [e0_0, ia, Int.add_sub_cancel]
    refine hq _ _ (fun Q2 hq2 => ?_)
    refine s_X12_days (by omega)  ?_ ?_ ?_ ?_
    all_goals try simp only [(show (hset h 0 0 (h 116 1 + p)) 116 1 = (h 116 1) from (hset_c (by decide))), ia, Int.add_sub_cancel]
    all_goals first | (intros; exfalso; omega) | (intros; exact hq2 _ (LI_days I L ⟨by omega, by omega⟩))
  · intro c0 c1 c2
    exact hq h _ (fun Q2 hq2 => by
      refine s_X12_days (by omega)  ?_ ?_ ?_ ?_
      all_goals first | (intros; exact hq2 _ (LI_h0 I L)) | (intros; exfalso; omega))

set_option maxHeartbeats 4000000 in
theorem j_members {l : Launch} {G : GG} {d : Nat} {h : AH} {Q : Option AV → List Kd → AH → Prop} {w a f : Int} (hd : 60 ≤ d) (H : LI h) (hq : JQ mX12_members [(2, 116), (0, w), (0, a), (0, f)] 0 l G d Q) : Sp l G mX11_members d 0 0 K0 [(2, 0), (0, w), (0, a), (0, f)] h Q := by
  obtain ⟨cs, I, L⟩ := H
  have e0_0 := I.f0_0
  have e7_4 := I.f7_4
  have b116_1 := I.now
  have b116_14 := I.W.nw
  have k7 := I.k7
  refine s_X11_members (by omega) (by omega) (by omega) (by omega) ?_ ?_ ?_ ?_ ?_ ?_ ?_ ?_ ?_
  · intro c0
    exact hq h _ (fun Q2 hq2 => by
      refine s_X12_members (by omega) (by omega) (by omega) ?_ ?_ ?_ ?_ ?_ ?_ ?_ ?_
      all_goals first | (intros; exact hq2 _ (LI_h0 I L)) | (intros; exfalso; omega))
  · intro c0 c1
    exact hq h _ (fun Q2 hq2 => by
      refine s_X12_members (by omega) (by omega) (by omega) ?_ ?_ ?_ ?_ ?_ ?_ ?_ ?_
      all_goals first | (intros; exact hq2 _ (LI_h0 I L)) | (intros; exfalso; omega))
  · intro c0 c1 c2
    exact hq h _ (fun Q2 hq2 => by
      refine s_X12_members (by omega) (by omega) (by omega) ?_ ?_ ?_ ?_ ?_ ?_ ?_ ?_
      all_goals first | (intros; exact hq2 _ (LI_h0 I L)) | (intros; exfalso; omega))
  · intro c0 c1 c2 c3
    exact hq h _ (fun Q2 hq2 => by
      refine s_X12_members (by omega) (by omega) (by omega) ?_ ?_ ?_ ?_ ?_ ?_ ?_ ?_
      all_goals first | (intros; exact hq2 _ (LI_h0 I L)) | (intros; exfalso; omega))
  · intro c0 c1 c2 c3 c4
    exact hq h _ (fun Q2 hq2 => by
      refine s_X12_members (by omega) (by omega) (by omega) ?_ ?_ ?_ ?_ ?_ ?_ ?_ ?_
      all_goals first | (intros; exact hq2 _ (LI_h0 I L)) | (intros; exfalso; omega))
  · intro c0 c1 c2 c3 c4 c5
    exact hq h _ (fun Q2 hq2 => by
      refine s_X12_members (by omega) (by omega) (by omega) ?_ ?_ ?_ ?_ ?_ ?_ ?_ ?_
      all_goals first | (intros; exact hq2 _ (LI_h0 I L)) | (intros; exfalso; omega))
  · intro c0 c1 c2 c3 c4 c5 c6
    exact hq h _ (fun Q2 hq2 => by
      refine s_X12_members (by omega) (by omega) (by omega) ?_ ?_ ?_ ?_ ?_ ?_ ?_ ?_
      all_goals first | (intros; exact hq2 _ (LI_h0 I L)) | (intros; exfalso; omega))
  · intro c0 c1 c2 c3 c4 c5 c6 c7
    have ia : iadd (h 116 14) 1 = (h 116 14) + 1 := iadd_eq (by unfold ok32; omega)
    try simp only [e0_0, e7_4, ia, Int.add_sub_cancel]
    refine hq _ _ (fun Q2 hq2 => ?_)
    refine s_X12_members (by omega) (by simp only [(show (hset (hset (hset (hset (hset h 8 (h 116 14) w) 9 (h 116 14) f) 10 (h 116 14) (h 116 1)) 7 4 ((h 116 14) + 1)) 11 (h 116 14) a) 116 14 = (h 116 14) from ((hset_c (by decide)).trans ((hset_c (by decide)).trans ((hset_c (by decide)).trans ((hset_c (by decide)).trans (hset_c (by decide)))))))]; omega) (by simp only [(show (hset (hset (hset (hset (hset h 8 (h 116 14) w) 9 (h 116 14) f) 10 (h 116 14) (h 116 1)) 7 4 ((h 116 14) + 1)) 11 (h 116 14) a) 116 14 = (h 116 14) from ((hset_c (by decide)).trans ((hset_c (by decide)).trans ((hset_c (by decide)).trans ((hset_c (by decide)).trans (hset_c (by decide)))))))]; omega) ?_ ?_ ?_ ?_ ?_ ?_ ?_ ?_
    all_goals try simp only [(show (hset (hset (hset (hset (hset h 8 (h 116 14) w) 9 (h 116 14) f) 10 (h 116 14) (h 116 1)) 7 4 ((h 116 14) + 1)) 11 (h 116 14) a) 116 14 = (h 116 14) from ((hset_c (by decide)).trans ((hset_c (by decide)).trans ((hset_c (by decide)).trans ((hset_c (by decide)).trans (hset_c (by decide))))))), (show (hset (hset (hset (hset (hset h 8 (h 116 14) w) 9 (h 116 14) f) 10 (h 116 14) (h 116 1)) 7 4 ((h 116 14) + 1)) 11 (h 116 14) a) 116 1 = (h 116 1) from ((hset_c (by decide)).trans ((hset_c (by decide)).trans ((hset_c (by decide)).trans ((hset_c (by decide)).trans (hset_c (by decide))))))), ia, Int.add_sub_cancel]
    all_goals first | (intros; exfalso; omega) | (intros; exact hq2 _ (LI_members I L (by omega) ⟨by omega, by omega⟩))
  · intro c0 c1 c2 c3 c4 c5 c6 c7
    exfalso
    omega

set_option maxHeartbeats 4000000 in
theorem j_end {l : Launch} {G : GG} {d : Nat} {h : AH} {Q : Option AV → List Kd → AH → Prop} {p : Int} (hd : 60 ≤ d) (H : LI h) (hq : JQ mX12_end [(2, 116), (0, p)] 0 l G d Q) : Sp l G mX11_end d 0 0 K0 [(2, 0), (0, p)] h Q := by
  obtain ⟨cs, I, L⟩ := H
  have e1_1 := I.f1_1
  have b116_1 := I.now
  have b116_16 := I.tp.2.2
  refine s_X11_end (by omega)  ?_ ?_ ?_
  · intro c0
    exact hq h _ (fun Q2 hq2 => by
      refine s_X12_end (by omega)  ?_ ?_ ?_
      all_goals first | (intros; exact hq2 _ (LI_h0 I L)) | (intros; exfalso; omega))
  · intro c0 c1
    exact hq h _ (fun Q2 hq2 => by
      refine s_X12_end (by omega)  ?_ ?_ ?_
      all_goals first | (intros; exact hq2 _ (LI_h0 I L)) | (intros; exfalso; omega))
  · intro c0 c1
    try simp only [e1_1, Int.add_sub_cancel]
    refine hq _ _ (fun Q2 hq2 => ?_)
    refine s_X12_end (by omega)  ?_ ?_ ?_
    all_goals try simp only [(show (hset h 1 1 p) 116 16 = (h 116 16) from (hset_c (by decide))), Int.add_sub_cancel]
    all_goals first | (intros; exfalso; omega) | (intros; exact hq2 _ (LI_end I L ⟨by omega, by omega⟩))

set_option maxHeartbeats 4000000 in
theorem j_force {l : Launch} {G : GG} {d : Nat} {h : AH} {Q : Option AV → List Kd → AH → Prop} {a b c : Int} (hd : 60 ≤ d) (H : LI h) (hq : JQ mX12_force [(2, 116), (0, a), (0, b), (0, c)] 0 l G d Q) : Sp l G mX11_force d 0 0 K0 [(2, 0), (0, a), (0, b), (0, c)] h Q := by
  obtain ⟨cs, I, L⟩ := H
  have e0_0 := I.f0_0
  have e12_4 := I.f12_4
  have b116_1 := I.now
  have b116_15 := I.W.nt
  have e13 := I.e13
  have e14 := I.e14
  have e15 := I.e15
  refine s_X11_force (by omega) (by omega) (by omega) ?_ ?_ ?_ ?_ ?_ ?_ ?_
  · intro c0
    exact hq h _ (fun Q2 hq2 => by
      refine s_X12_force (by omega) (by omega) (by omega) ?_ ?_ ?_ ?_ ?_ ?_ ?_
      all_goals first | (intros; exact hq2 _ (LI_h0 I L)) | (intros; rw [← e13, ← e14, ← e15, ← e12_4]; exact hq2 _ (LI_h0 I L)) | (intros; exfalso; omega))
  · intro c0 c1
    exact hq h _ (fun Q2 hq2 => by
      refine s_X12_force (by omega) (by omega) (by omega) ?_ ?_ ?_ ?_ ?_ ?_ ?_
      all_goals first | (intros; exact hq2 _ (LI_h0 I L)) | (intros; rw [← e13, ← e14, ← e15, ← e12_4]; exact hq2 _ (LI_h0 I L)) | (intros; exfalso; omega))
  · intro c0 c1 c2
    exact hq h _ (fun Q2 hq2 => by
      refine s_X12_force (by omega) (by omega) (by omega) ?_ ?_ ?_ ?_ ?_ ?_ ?_
      all_goals first | (intros; exact hq2 _ (LI_h0 I L)) | (intros; rw [← e13, ← e14, ← e15, ← e12_4]; exact hq2 _ (LI_h0 I L)) | (intros; exfalso; omega))
  · intro c0 c1 c2 c3
    exact hq h _ (fun Q2 hq2 => by
      refine s_X12_force (by omega) (by omega) (by omega) ?_ ?_ ?_ ?_ ?_ ?_ ?_
      all_goals first | (intros; exact hq2 _ (LI_h0 I L)) | (intros; rw [← e13, ← e14, ← e15, ← e12_4]; exact hq2 _ (LI_h0 I L)) | (intros; exfalso; omega))
  · intro c0 c1 c2 c3 c4
    exact hq h _ (fun Q2 hq2 => by
      refine s_X12_force (by omega) (by omega) (by omega) ?_ ?_ ?_ ?_ ?_ ?_ ?_
      all_goals first | (intros; exact hq2 _ (LI_h0 I L)) | (intros; rw [← e13, ← e14, ← e15, ← e12_4]; exact hq2 _ (LI_h0 I L)) | (intros; exfalso; omega))
  · intro c0 c1 c2 c3 c4 c5
    exact hq h _ (fun Q2 hq2 => by
      refine s_X12_force (by omega) (by omega) (by omega) ?_ ?_ ?_ ?_ ?_ ?_ ?_
      all_goals first | (intros; exact hq2 _ (LI_h0 I L)) | (intros; rw [← e13, ← e14, ← e15, ← e12_4]; exact hq2 _ (LI_h0 I L)) | (intros; exfalso; omega))
  · intro c0 c1 c2 c3 c4 c5
    exact hq h _ (fun Q2 hq2 => by
      refine s_X12_force (by omega) (by omega) (by omega) ?_ ?_ ?_ ?_ ?_ ?_ ?_
      all_goals first | (intros; exact hq2 _ (LI_h0 I L)) | (intros; rw [← e13, ← e14, ← e15, ← e12_4]; exact hq2 _ (LI_h0 I L)) | (intros; exfalso; omega))

set_option maxHeartbeats 4000000 in
theorem j_tariff {l : Launch} {G : GG} {d : Nat} {h : AH} {Q : Option AV → List Kd → AH → Prop} {a b c : Int} (hd : 60 ≤ d) (H : LI h) (hq : JQ mX12_tariff [(2, 116), (0, a), (0, b), (0, c)] 0 l G d Q) : Sp l G mX11_tariff d 0 0 K0 [(2, 0), (0, a), (0, b), (0, c)] h Q := by
  obtain ⟨cs, I, L⟩ := H
  refine s_X11_tariff (by omega)  ?_ ?_ ?_ ?_ ?_ ?_ ?_
  · intro c0
    exact hq h _ (fun Q2 hq2 => by
      refine s_X12_tariff (by omega)  ?_ ?_ ?_ ?_ ?_ ?_ ?_
      all_goals first | (intros; exact hq2 _ (LI_h0 I L)) | (intros; exfalso; omega))
  · intro c0 c1
    exact hq h _ (fun Q2 hq2 => by
      refine s_X12_tariff (by omega)  ?_ ?_ ?_ ?_ ?_ ?_ ?_
      all_goals first | (intros; exact hq2 _ (LI_h0 I L)) | (intros; exfalso; omega))
  · intro c0 c1 c2
    exact hq h _ (fun Q2 hq2 => by
      refine s_X12_tariff (by omega)  ?_ ?_ ?_ ?_ ?_ ?_ ?_
      all_goals first | (intros; exact hq2 _ (LI_h0 I L)) | (intros; exfalso; omega))
  · intro c0 c1 c2 c3
    exact hq h _ (fun Q2 hq2 => by
      refine s_X12_tariff (by omega)  ?_ ?_ ?_ ?_ ?_ ?_ ?_
      all_goals first | (intros; exact hq2 _ (LI_h0 I L)) | (intros; exfalso; omega))
  · intro c0 c1 c2 c3 c4
    exact hq h _ (fun Q2 hq2 => by
      refine s_X12_tariff (by omega)  ?_ ?_ ?_ ?_ ?_ ?_ ?_
      all_goals first | (intros; exact hq2 _ (LI_h0 I L)) | (intros; exfalso; omega))
  · intro c0 c1 c2 c3 c4 c5
    exact hq h _ (fun Q2 hq2 => by
      refine s_X12_tariff (by omega)  ?_ ?_ ?_ ?_ ?_ ?_ ?_
      all_goals first | (intros; exact hq2 _ (LI_h0 I L)) | (intros; exfalso; omega))
  · intro c0 c1 c2 c3 c4 c5
    try simp only [Int.add_sub_cancel]
    refine hq _ _ (fun Q2 hq2 => ?_)
    refine s_X12_tariff (by omega)  ?_ ?_ ?_ ?_ ?_ ?_ ?_
    all_goals try simp only [Int.add_sub_cancel]
    all_goals first | (intros; exfalso; omega) | (intros; exact hq2 _ (LI_tariff I L ⟨by omega, by omega⟩ ⟨by omega, by omega⟩ ⟨by omega, by omega⟩))

set_option maxHeartbeats 4000000 in
theorem j_grown {l : Launch} {G : GG} {d : Nat} {h : AH} {Q : Option AV → List Kd → AH → Prop} {a b c e : Int} (hd : 60 ≤ d) (H : LI h) (hq : JQ mX12_grown [(2, 116), (0, a), (0, b), (0, c), (0, e)] 0 l G d Q) : Sp l G mX11_grown d 0 0 K0 [(2, 0), (0, a), (0, b), (0, c), (0, e)] h Q := by
  obtain ⟨cs, I, L⟩ := H
  have e0_0 := I.f0_0
  have e41_12 := I.f41_12
  have b116_1 := I.now
  have b116_45 := I.W.nb
  refine s_X11_grown (by omega) (by omega) (by omega) ?_ ?_ ?_ ?_ ?_ ?_ ?_ ?_ ?_ ?_
  · intro c0
    exact hq h _ (fun Q2 hq2 => by
      refine s_X12_grown (by omega) (by omega) (by omega) ?_ ?_ ?_ ?_ ?_ ?_ ?_ ?_ ?_ ?_
      all_goals first | (intros; exact hq2 _ (LI_h0 I L)) | (intros; exfalso; omega))
  · intro c0 c1
    exact hq h _ (fun Q2 hq2 => by
      refine s_X12_grown (by omega) (by omega) (by omega) ?_ ?_ ?_ ?_ ?_ ?_ ?_ ?_ ?_ ?_
      all_goals first | (intros; exact hq2 _ (LI_h0 I L)) | (intros; exfalso; omega))
  · intro c0 c1 c2
    exact hq h _ (fun Q2 hq2 => by
      refine s_X12_grown (by omega) (by omega) (by omega) ?_ ?_ ?_ ?_ ?_ ?_ ?_ ?_ ?_ ?_
      all_goals first | (intros; exact hq2 _ (LI_h0 I L)) | (intros; exfalso; omega))
  · intro c0 c1 c2 c3
    exact hq h _ (fun Q2 hq2 => by
      refine s_X12_grown (by omega) (by omega) (by omega) ?_ ?_ ?_ ?_ ?_ ?_ ?_ ?_ ?_ ?_
      all_goals first | (intros; exact hq2 _ (LI_h0 I L)) | (intros; exfalso; omega))
  · intro c0 c1 c2 c3 c4
    exact hq h _ (fun Q2 hq2 => by
      refine s_X12_grown (by omega) (by omega) (by omega) ?_ ?_ ?_ ?_ ?_ ?_ ?_ ?_ ?_ ?_
      all_goals first | (intros; exact hq2 _ (LI_h0 I L)) | (intros; exfalso; omega))
  · intro c0 c1 c2 c3 c4 c5
    exact hq h _ (fun Q2 hq2 => by
      refine s_X12_grown (by omega) (by omega) (by omega) ?_ ?_ ?_ ?_ ?_ ?_ ?_ ?_ ?_ ?_
      all_goals first | (intros; exact hq2 _ (LI_h0 I L)) | (intros; exfalso; omega))
  · intro c0 c1 c2 c3 c4 c5 c6
    exact hq h _ (fun Q2 hq2 => by
      refine s_X12_grown (by omega) (by omega) (by omega) ?_ ?_ ?_ ?_ ?_ ?_ ?_ ?_ ?_ ?_
      all_goals first | (intros; exact hq2 _ (LI_h0 I L)) | (intros; exfalso; omega))
  · intro c0 c1 c2 c3 c4 c5 c6 c7
    exact hq h _ (fun Q2 hq2 => by
      refine s_X12_grown (by omega) (by omega) (by omega) ?_ ?_ ?_ ?_ ?_ ?_ ?_ ?_ ?_ ?_
      all_goals first | (intros; exact hq2 _ (LI_h0 I L)) | (intros; exfalso; omega))
  · intro c0 c1 c2 c3 c4 c5 c6 c7 c8
    try simp only [e0_0, e41_12, Int.add_sub_cancel]
    refine hq _ _ (fun Q2 hq2 => ?_)
    refine s_X12_grown (by omega) (by simp only [(show (hset (hset (hset (hset (hset (hset (hset (hset (hset (hset h 42 (h 116 45) a) 43 (h 116 45) b) 44 (h 116 45) c) 45 (h 116 45) e) 46 (h 116 45) e) 47 (h 116 45) (h 116 1)) 48 (h 116 45) (-1)) 49 (h 116 45) (-1)) 50 (h 116 45) 0) 41 12 ((h 116 45) + 1)) 116 45 = (h 116 45) from ((hset_c (by decide)).trans ((hset_c (by decide)).trans ((hset_c (by decide)).trans ((hset_c (by decide)).trans ((hset_c (by decide)).trans ((hset_c (by decide)).trans ((hset_c (by decide)).trans ((hset_c (by decide)).trans ((hset_c (by decide)).trans (hset_c (by decide))))))))))))]; omega) (by simp only [(show (hset (hset (hset (hset (hset (hset (hset (hset (hset (hset h 42 (h 116 45) a) 43 (h 116 45) b) 44 (h 116 45) c) 45 (h 116 45) e) 46 (h 116 45) e) 47 (h 116 45) (h 116 1)) 48 (h 116 45) (-1)) 49 (h 116 45) (-1)) 50 (h 116 45) 0) 41 12 ((h 116 45) + 1)) 116 45 = (h 116 45) from ((hset_c (by decide)).trans ((hset_c (by decide)).trans ((hset_c (by decide)).trans ((hset_c (by decide)).trans ((hset_c (by decide)).trans ((hset_c (by decide)).trans ((hset_c (by decide)).trans ((hset_c (by decide)).trans ((hset_c (by decide)).trans (hset_c (by decide))))))))))))]; omega) ?_ ?_ ?_ ?_ ?_ ?_ ?_ ?_ ?_ ?_
    all_goals try simp only [(show (hset (hset (hset (hset (hset (hset (hset (hset (hset (hset h 42 (h 116 45) a) 43 (h 116 45) b) 44 (h 116 45) c) 45 (h 116 45) e) 46 (h 116 45) e) 47 (h 116 45) (h 116 1)) 48 (h 116 45) (-1)) 49 (h 116 45) (-1)) 50 (h 116 45) 0) 41 12 ((h 116 45) + 1)) 116 45 = (h 116 45) from ((hset_c (by decide)).trans ((hset_c (by decide)).trans ((hset_c (by decide)).trans ((hset_c (by decide)).trans ((hset_c (by decide)).trans ((hset_c (by decide)).trans ((hset_c (by decide)).trans ((hset_c (by decide)).trans ((hset_c (by decide)).trans (hset_c (by decide)))))))))))), (show (hset (hset (hset (hset (hset (hset (hset (hset (hset (hset (hset h 42 (h 116 45) a) 43 (h 116 45) b) 44 (h 116 45) c) 45 (h 116 45) e) 46 (h 116 45) e) 47 (h 116 45) (h 116 1)) 48 (h 116 45) (-1)) 49 (h 116 45) (-1)) 50 (h 116 45) 0) 41 12 ((h 116 45) + 1)) 116 0 0) 116 45 = (h 116 45) from ((hset_j (by decide)).trans ((hset_c (by decide)).trans ((hset_c (by decide)).trans ((hset_c (by decide)).trans ((hset_c (by decide)).trans ((hset_c (by decide)).trans ((hset_c (by decide)).trans ((hset_c (by decide)).trans ((hset_c (by decide)).trans ((hset_c (by decide)).trans (hset_c (by decide))))))))))))), (show (hset (hset (hset (hset (hset (hset (hset (hset (hset (hset (hset h 42 (h 116 45) a) 43 (h 116 45) b) 44 (h 116 45) c) 45 (h 116 45) e) 46 (h 116 45) e) 47 (h 116 45) (h 116 1)) 48 (h 116 45) (-1)) 49 (h 116 45) (-1)) 50 (h 116 45) 0) 41 12 ((h 116 45) + 1)) 116 0 0) 116 1 = (h 116 1) from ((hset_j (by decide)).trans ((hset_c (by decide)).trans ((hset_c (by decide)).trans ((hset_c (by decide)).trans ((hset_c (by decide)).trans ((hset_c (by decide)).trans ((hset_c (by decide)).trans ((hset_c (by decide)).trans ((hset_c (by decide)).trans ((hset_c (by decide)).trans (hset_c (by decide))))))))))))), Int.add_sub_cancel]
    all_goals first | (intros; exfalso; omega) | (intros; exact hq2 _ (LI_grown I L (by omega) ⟨by omega, by omega⟩ ⟨by omega, by omega⟩ ⟨by omega, by omega⟩ ⟨by omega, by omega⟩))
  · intro c0 c1 c2 c3 c4 c5 c6 c7 c8
    exact hq h _ (fun Q2 hq2 => by
      refine s_X12_grown (by omega) (by omega) (by omega) ?_ ?_ ?_ ?_ ?_ ?_ ?_ ?_ ?_ ?_
      all_goals first | (intros; exact hq2 _ (LI_h0 I L)) | (intros; exfalso; omega))

set_option maxHeartbeats 4000000 in
theorem j_lay {l : Launch} {G : GG} {d : Nat} {h : AH} {Q : Option AV → List Kd → AH → Prop} {p q : Int} (hd : 60 ≤ d) (H : LI h) (hq : JQ mX12_lay [(2, 116), (0, p), (0, q)] 0 l G d Q) : Sp l G mX11_lay d 0 0 K0 [(2, 0), (0, p), (0, q)] h Q := by
  obtain ⟨cs, I, L⟩ := H
  have e41_12 := I.f41_12
  have e81_2 := I.f81_2
  have b116_45 := I.W.nb
  have b116_46 := I.bn.1
  have e46 := congrFun I.e46 p
  refine s_X11_lay (by omega) (by omega) (by omega) (by omega) (by omega) ?_ ?_ ?_ ?_ ?_ ?_ ?_
  · intro c0
    exact hq h _ (fun Q2 hq2 => by
      refine s_X12_lay (by omega) (by omega) (by omega) (by omega) (by omega) ?_ ?_ ?_ ?_ ?_ ?_
      all_goals first | (intros; exact hq2 _ (LI_h0 I L)) | (intros; exfalso; omega))
  · intro c0 c1
    exact hq h _ (fun Q2 hq2 => by
      refine s_X12_lay (by omega) (by omega) (by omega) (by omega) (by omega) ?_ ?_ ?_ ?_ ?_ ?_
      all_goals first | (intros; exact hq2 _ (LI_h0 I L)) | (intros; exfalso; omega))
  · intro c0 c1 c2
    exact hq h _ (fun Q2 hq2 => by
      refine s_X12_lay (by omega) (by omega) (by omega) (by omega) (by omega) ?_ ?_ ?_ ?_ ?_ ?_
      all_goals first | (intros; exact hq2 _ (LI_h0 I L)) | (intros; exfalso; omega))
  · intro c0 c1 c2 c3
    exact hq h _ (fun Q2 hq2 => by
      refine s_X12_lay (by omega) (by omega) (by omega) (by omega) (by omega) ?_ ?_ ?_ ?_ ?_ ?_
      all_goals first | (intros; exact hq2 _ (LI_h0 I L)) | (intros; exfalso; omega))
  · intro c0 c1 c2 c3 c4 c5
    exfalso
    omega
  · intro c0 c1 c2 c3 c4 c5
    have is : isub (h 133 p) q = h 133 p - q := isub_eq (by have := left_r I (p := p) (by omega) (by omega); unfold ok32; omega)
    try simp only [e41_12, e81_2, I.e46, (show (hset h 46 p (h 133 p - q)) 81 2 = (h 81 2) from (hset_c (by decide))), is, Int.add_sub_cancel]
    refine hq _ _ (fun Q2 hq2 => ?_)
    refine s_X12_lay (by omega) (by simp only [(show (hset (hset (hset (hset h 46 p (h 133 p - q)) 82 (h 116 46) p) 83 (h 116 46) q) 81 2 ((h 116 46) + 1)) 116 45 = (h 116 45) from ((hset_c (by decide)).trans ((hset_c (by decide)).trans ((hset_c (by decide)).trans (hset_c (by decide))))))]; omega) (by simp only [(show (hset (hset (hset (hset h 46 p (h 133 p - q)) 82 (h 116 46) p) 83 (h 116 46) q) 81 2 ((h 116 46) + 1)) 116 45 = (h 116 45) from ((hset_c (by decide)).trans ((hset_c (by decide)).trans ((hset_c (by decide)).trans (hset_c (by decide))))))]; omega) (by simp only [(show (hset (hset (hset (hset h 46 p (h 133 p - q)) 82 (h 116 46) p) 83 (h 116 46) q) 81 2 ((h 116 46) + 1)) 116 46 = (h 116 46) from ((hset_c (by decide)).trans ((hset_c (by decide)).trans ((hset_c (by decide)).trans (hset_c (by decide))))))]; omega) (by simp only [(show (hset (hset (hset (hset h 46 p (h 133 p - q)) 82 (h 116 46) p) 83 (h 116 46) q) 81 2 ((h 116 46) + 1)) 116 46 = (h 116 46) from ((hset_c (by decide)).trans ((hset_c (by decide)).trans ((hset_c (by decide)).trans (hset_c (by decide))))))]; omega) ?_ ?_ ?_ ?_ ?_ ?_
    all_goals try simp only [(show (hset (hset (hset (hset h 46 p (h 133 p - q)) 82 (h 116 46) p) 83 (h 116 46) q) 81 2 ((h 116 46) + 1)) 116 46 = (h 116 46) from ((hset_c (by decide)).trans ((hset_c (by decide)).trans ((hset_c (by decide)).trans (hset_c (by decide)))))), (show (hset (hset (hset (hset h 46 p (h 133 p - q)) 82 (h 116 46) p) 83 (h 116 46) q) 81 2 ((h 116 46) + 1)) 116 45 = (h 116 45) from ((hset_c (by decide)).trans ((hset_c (by decide)).trans ((hset_c (by decide)).trans (hset_c (by decide)))))), (show (hset (hset (hset (hset h 46 p (h 133 p - q)) 82 (h 116 46) p) 83 (h 116 46) q) 81 2 ((h 116 46) + 1)) 133 p = (h 133 p) from ((hset_c (by decide)).trans ((hset_c (by decide)).trans ((hset_c (by decide)).trans (hset_c (by decide)))))), (show (hset (hset (hset (hset (hset (hset h 46 p (h 133 p - q)) 82 (h 116 46) p) 83 (h 116 46) q) 81 2 ((h 116 46) + 1)) 116 0 0) 133 p (h 133 p - q)) 116 46 = (h 116 46) from ((hset_c (by decide)).trans ((hset_j (by decide)).trans ((hset_c (by decide)).trans ((hset_c (by decide)).trans ((hset_c (by decide)).trans (hset_c (by decide)))))))), is, Int.add_sub_cancel]
    all_goals first | (intros; exfalso; omega) | (intros; exact hq2 _ (LI_lay I L ⟨by omega, by omega⟩ ⟨by omega, by omega⟩ (by omega)))
  · intro c0 c1 c2 c3 c4
    exact hq h _ (fun Q2 hq2 => by
      refine s_X12_lay (by omega) (by omega) (by omega) (by omega) (by omega) ?_ ?_ ?_ ?_ ?_ ?_
      all_goals first | (intros; exact hq2 _ (LI_h0 I L)) | (intros; exfalso; omega))

set_option maxHeartbeats 4000000 in
theorem j_pour {l : Launch} {G : GG} {d : Nat} {h : AH} {Q : Option AV → List Kd → AH → Prop} {a p q : Int} (hd : 60 ≤ d) (H : LI h) (hq : JQ mX12_pour [(2, 116), (0, a), (0, p), (0, q)] 0 l G d Q) : Sp l G mX11_pour d 0 0 K0 [(2, 0), (0, a), (0, p), (0, q)] h Q := by
  obtain ⟨cs, I, L⟩ := H
  have e41_12 := I.f41_12
  have e81_6 := I.f81_6
  have b116_45 := I.W.nb
  have b116_47 := I.po.1
  have e46 := congrFun I.e46 p
  refine s_X11_pour (by omega) (by omega) (by omega) (by omega) (by omega) ?_ ?_ ?_ ?_ ?_ ?_ ?_ ?_
  · intro c0
    exact hq h _ (fun Q2 hq2 => by
      refine s_X12_pour (by omega) (by omega) (by omega) (by omega) (by omega) ?_ ?_ ?_ ?_ ?_ ?_ ?_ ?_
      all_goals first | (intros; exact hq2 _ (LI_h0 I L)) | (intros; exfalso; omega))
  · intro c0 c1
    exact hq h _ (fun Q2 hq2 => by
      refine s_X12_pour (by omega) (by omega) (by omega) (by omega) (by omega) ?_ ?_ ?_ ?_ ?_ ?_ ?_ ?_
      all_goals first | (intros; exact hq2 _ (LI_h0 I L)) | (intros; exfalso; omega))
  · intro c0 c1 c2
    exact hq h _ (fun Q2 hq2 => by
      refine s_X12_pour (by omega) (by omega) (by omega) (by omega) (by omega) ?_ ?_ ?_ ?_ ?_ ?_ ?_ ?_
      all_goals first | (intros; exact hq2 _ (LI_h0 I L)) | (intros; exfalso; omega))
  · intro c0 c1 c2 c3
    exact hq h _ (fun Q2 hq2 => by
      refine s_X12_pour (by omega) (by omega) (by omega) (by omega) (by omega) ?_ ?_ ?_ ?_ ?_ ?_ ?_ ?_
      all_goals first | (intros; exact hq2 _ (LI_h0 I L)) | (intros; exfalso; omega))
  · intro c0 c1 c2 c3 c4
    exact hq h _ (fun Q2 hq2 => by
      refine s_X12_pour (by omega) (by omega) (by omega) (by omega) (by omega) ?_ ?_ ?_ ?_ ?_ ?_ ?_ ?_
      all_goals first | (intros; exact hq2 _ (LI_h0 I L)) | (intros; exfalso; omega))
  · intro c0 c1 c2 c3 c4 c5
    exact hq h _ (fun Q2 hq2 => by
      refine s_X12_pour (by omega) (by omega) (by omega) (by omega) (by omega) ?_ ?_ ?_ ?_ ?_ ?_ ?_ ?_
      all_goals first | (intros; exact hq2 _ (LI_h0 I L)) | (intros; exfalso; omega))
  · intro c0 c1 c2 c3 c4 c5 c6
    have is : isub (h 133 p) q = h 133 p - q := isub_eq (by have := left_r I (p := p) (by omega) (by omega); unfold ok32; omega)
    try simp only [e41_12, e81_6, I.e46, I.e84, I.e86, (show (hset (hset h 46 p (h 133 p - q)) 84 (h 116 47) a) 84 = (fset (h 84) (h 116 47) a) by rw [hset_f, hset_r (by decide)]), (show (hset (hset (hset (hset h 46 p (h 133 p - q)) 84 (h 116 47) a) 85 (h 116 47) p) 86 (h 116 47) q) 86 = (fset (h 86) (h 116 47) q) by rw [hset_f, hset_r (by decide), hset_r (by decide), hset_r (by decide)]), is, Int.add_sub_cancel]
    refine hq _ _ (fun Q2 hq2 => ?_)
    refine s_X12_pour (by omega) (by simp only [(show (hset (hset (hset (hset (hset h 46 p (h 133 p - q)) 84 (h 116 47) a) 85 (h 116 47) p) 86 (h 116 47) q) 81 6 ((h 116 47) + 1)) 116 45 = (h 116 45) from ((hset_c (by decide)).trans ((hset_c (by decide)).trans ((hset_c (by decide)).trans ((hset_c (by decide)).trans (hset_c (by decide)))))))]; omega) (by simp only [(show (hset (hset (hset (hset (hset h 46 p (h 133 p - q)) 84 (h 116 47) a) 85 (h 116 47) p) 86 (h 116 47) q) 81 6 ((h 116 47) + 1)) 116 45 = (h 116 45) from ((hset_c (by decide)).trans ((hset_c (by decide)).trans ((hset_c (by decide)).trans ((hset_c (by decide)).trans (hset_c (by decide)))))))]; omega) (by simp only [(show (hset (hset (hset (hset (hset h 46 p (h 133 p - q)) 84 (h 116 47) a) 85 (h 116 47) p) 86 (h 116 47) q) 81 6 ((h 116 47) + 1)) 116 47 = (h 116 47) from ((hset_c (by decide)).trans ((hset_c (by decide)).trans ((hset_c (by decide)).trans ((hset_c (by decide)).trans (hset_c (by decide)))))))]; omega) (by simp only [(show (hset (hset (hset (hset (hset h 46 p (h 133 p - q)) 84 (h 116 47) a) 85 (h 116 47) p) 86 (h 116 47) q) 81 6 ((h 116 47) + 1)) 116 47 = (h 116 47) from ((hset_c (by decide)).trans ((hset_c (by decide)).trans ((hset_c (by decide)).trans ((hset_c (by decide)).trans (hset_c (by decide)))))))]; omega) ?_ ?_ ?_ ?_ ?_ ?_ ?_ ?_
    all_goals try simp only [(show (hset (hset (hset (hset (hset h 46 p (h 133 p - q)) 84 (h 116 47) a) 85 (h 116 47) p) 86 (h 116 47) q) 81 6 ((h 116 47) + 1)) 116 47 = (h 116 47) from ((hset_c (by decide)).trans ((hset_c (by decide)).trans ((hset_c (by decide)).trans ((hset_c (by decide)).trans (hset_c (by decide))))))), (show (hset (hset (hset (hset (hset h 46 p (h 133 p - q)) 84 (h 116 47) a) 85 (h 116 47) p) 86 (h 116 47) q) 81 6 ((h 116 47) + 1)) 116 45 = (h 116 45) from ((hset_c (by decide)).trans ((hset_c (by decide)).trans ((hset_c (by decide)).trans ((hset_c (by decide)).trans (hset_c (by decide))))))), (show (hset (hset (hset (hset (hset h 46 p (h 133 p - q)) 84 (h 116 47) a) 85 (h 116 47) p) 86 (h 116 47) q) 81 6 ((h 116 47) + 1)) 133 p = (h 133 p) from ((hset_c (by decide)).trans ((hset_c (by decide)).trans ((hset_c (by decide)).trans ((hset_c (by decide)).trans (hset_c (by decide))))))), (show (hset (hset (hset (hset (hset (hset (hset (hset h 46 p (h 133 p - q)) 84 (h 116 47) a) 85 (h 116 47) p) 86 (h 116 47) q) 81 6 ((h 116 47) + 1)) 116 0 0) 133 p (h 133 p - q)) 143 (h 116 47) a) 143 = (fset (h 143) (h 116 47) a) by rw [hset_f, hset_r (by decide), hset_r (by decide), hset_r (by decide), hset_r (by decide), hset_r (by decide), hset_r (by decide), hset_r (by decide)]), (show (hset (hset (hset (hset (hset (hset (hset (hset (hset (hset h 46 p (h 133 p - q)) 84 (h 116 47) a) 85 (h 116 47) p) 86 (h 116 47) q) 81 6 ((h 116 47) + 1)) 116 0 0) 133 p (h 133 p - q)) 143 (h 116 47) a) 144 (h 116 47) p) 142 (h 116 47) q) 142 = (fset (h 142) (h 116 47) q) by rw [hset_f, hset_r (by decide), hset_r (by decide), hset_r (by decide), hset_r (by decide), hset_r (by decide), hset_r (by decide), hset_r (by decide), hset_r (by decide), hset_r (by decide)]), is, Int.add_sub_cancel]
    all_goals first | (intros; exfalso; omega) | (intros; exact hq2 _ (LI_pour I L ⟨by omega, by omega⟩ ⟨by omega, by omega⟩ ⟨by omega, by omega⟩ (by omega)))
  · intro c0 c1 c2 c3 c4 c5 c6
    exact hq h _ (fun Q2 hq2 => by
      refine s_X12_pour (by omega) (by omega) (by omega) (by omega) (by omega) ?_ ?_ ?_ ?_ ?_ ?_ ?_ ?_
      all_goals first | (intros; exact hq2 _ (LI_h0 I L)) | (intros; exfalso; omega))

set_option maxHeartbeats 4000000 in
theorem j_ship {l : Launch} {G : GG} {d : Nat} {h : AH} {Q : Option AV → List Kd → AH → Prop} {p q a b c : Int} (hd : 60 ≤ d) (H : LI h) (hq : JQ mX12_ship [(2, 116), (0, p), (0, q), (0, a), (0, b), (0, c)] 0 l G d Q) : Sp l G mX11_ship d 0 0 K0 [(2, 0), (0, p), (0, q), (0, a), (0, b), (0, c)] h Q := by
  obtain ⟨cs, I, L⟩ := H
  have e0_0 := I.f0_0
  have e41_12 := I.f41_12
  have e4_7 := I.f4_7
  have b116_1 := I.now
  have b116_45 := I.W.nb
  have b116_65 := I.S.1
  have e46 := congrFun I.e46 p
  refine s_X11_ship (by omega) (by omega) (by omega) (by omega) (by omega) ?_ ?_ ?_ ?_ ?_ ?_ ?_ ?_ ?_ ?_ ?_ ?_
  · intro c0
    exact hq h _ (fun Q2 hq2 => by
      refine s_X12_ship (by omega) (by omega) (by omega) (by omega) (by omega) ?_ ?_ ?_ ?_ ?_ ?_ ?_ ?_ ?_ ?_ ?_ ?_
      all_goals first | (intros; exact hq2 _ (LI_h0 I L)) | (intros; exfalso; omega))
  · intro c0 c1
    exact hq h _ (fun Q2 hq2 => by
      refine s_X12_ship (by omega) (by omega) (by omega) (by omega) (by omega) ?_ ?_ ?_ ?_ ?_ ?_ ?_ ?_ ?_ ?_ ?_ ?_
      all_goals first | (intros; exact hq2 _ (LI_h0 I L)) | (intros; exfalso; omega))
  · intro c0 c1 c2
    exact hq h _ (fun Q2 hq2 => by
      refine s_X12_ship (by omega) (by omega) (by omega) (by omega) (by omega) ?_ ?_ ?_ ?_ ?_ ?_ ?_ ?_ ?_ ?_ ?_ ?_
      all_goals first | (intros; exact hq2 _ (LI_h0 I L)) | (intros; exfalso; omega))
  · intro c0 c1 c2 c3
    exact hq h _ (fun Q2 hq2 => by
      refine s_X12_ship (by omega) (by omega) (by omega) (by omega) (by omega) ?_ ?_ ?_ ?_ ?_ ?_ ?_ ?_ ?_ ?_ ?_ ?_
      all_goals first | (intros; exact hq2 _ (LI_h0 I L)) | (intros; exfalso; omega))
  · intro c0 c1 c2 c3 c4
    exact hq h _ (fun Q2 hq2 => by
      refine s_X12_ship (by omega) (by omega) (by omega) (by omega) (by omega) ?_ ?_ ?_ ?_ ?_ ?_ ?_ ?_ ?_ ?_ ?_ ?_
      all_goals first | (intros; exact hq2 _ (LI_h0 I L)) | (intros; exfalso; omega))
  · intro c0 c1 c2 c3 c4 c5
    exact hq h _ (fun Q2 hq2 => by
      refine s_X12_ship (by omega) (by omega) (by omega) (by omega) (by omega) ?_ ?_ ?_ ?_ ?_ ?_ ?_ ?_ ?_ ?_ ?_ ?_
      all_goals first | (intros; exact hq2 _ (LI_h0 I L)) | (intros; exfalso; omega))
  · intro c0 c1 c2 c3 c4 c5 c6
    exact hq h _ (fun Q2 hq2 => by
      refine s_X12_ship (by omega) (by omega) (by omega) (by omega) (by omega) ?_ ?_ ?_ ?_ ?_ ?_ ?_ ?_ ?_ ?_ ?_ ?_
      all_goals first | (intros; exact hq2 _ (LI_h0 I L)) | (intros; exfalso; omega))
  · intro c0 c1 c2 c3 c4 c5 c6 c7
    exact hq h _ (fun Q2 hq2 => by
      refine s_X12_ship (by omega) (by omega) (by omega) (by omega) (by omega) ?_ ?_ ?_ ?_ ?_ ?_ ?_ ?_ ?_ ?_ ?_ ?_
      all_goals first | (intros; exact hq2 _ (LI_h0 I L)) | (intros; exfalso; omega))
  · intro c0 c1 c2 c3 c4 c5 c6 c7 c8
    exact hq h _ (fun Q2 hq2 => by
      refine s_X12_ship (by omega) (by omega) (by omega) (by omega) (by omega) ?_ ?_ ?_ ?_ ?_ ?_ ?_ ?_ ?_ ?_ ?_ ?_
      all_goals first | (intros; exact hq2 _ (LI_h0 I L)) | (intros; exfalso; omega))
  · intro c0 c1 c2 c3 c4 c5 c6 c7 c8 c9
    exact hq h _ (fun Q2 hq2 => by
      refine s_X12_ship (by omega) (by omega) (by omega) (by omega) (by omega) ?_ ?_ ?_ ?_ ?_ ?_ ?_ ?_ ?_ ?_ ?_ ?_
      all_goals first | (intros; exact hq2 _ (LI_h0 I L)) | (intros; exfalso; omega))
  · intro c0 c1 c2 c3 c4 c5 c6 c7 c8 c9 c10
    have is : isub (h 133 p) q = h 133 p - q := isub_eq (by have := left_r I (p := p) (by omega) (by omega); unfold ok32; omega)
    try simp only [e0_0, e41_12, e4_7, I.e46, is, Int.add_sub_cancel]
    refine hq _ _ (fun Q2 hq2 => ?_)
    refine s_X12_ship (by omega) (by simp only [(show (hset (hset (hset (hset (hset (hset (hset (hset h 46 p (h 133 p - q)) 64 (h 116 65) p) 65 (h 116 65) q) 66 (h 116 65) a) 67 (h 116 65) b) 68 (h 116 65) c) 69 (h 116 65) (h 116 1)) 4 7 ((h 116 65) + 1)) 116 45 = (h 116 45) from ((hset_c (by decide)).trans ((hset_c (by decide)).trans ((hset_c (by decide)).trans ((hset_c (by decide)).trans ((hset_c (by decide)).trans ((hset_c (by decide)).trans ((hset_c (by decide)).trans (hset_c (by decide))))))))))]; omega) (by simp only [(show (hset (hset (hset (hset (hset (hset (hset (hset h 46 p (h 133 p - q)) 64 (h 116 65) p) 65 (h 116 65) q) 66 (h 116 65) a) 67 (h 116 65) b) 68 (h 116 65) c) 69 (h 116 65) (h 116 1)) 4 7 ((h 116 65) + 1)) 116 45 = (h 116 45) from ((hset_c (by decide)).trans ((hset_c (by decide)).trans ((hset_c (by decide)).trans ((hset_c (by decide)).trans ((hset_c (by decide)).trans ((hset_c (by decide)).trans ((hset_c (by decide)).trans (hset_c (by decide))))))))))]; omega) (by simp only [(show (hset (hset (hset (hset (hset (hset (hset (hset h 46 p (h 133 p - q)) 64 (h 116 65) p) 65 (h 116 65) q) 66 (h 116 65) a) 67 (h 116 65) b) 68 (h 116 65) c) 69 (h 116 65) (h 116 1)) 4 7 ((h 116 65) + 1)) 116 65 = (h 116 65) from ((hset_c (by decide)).trans ((hset_c (by decide)).trans ((hset_c (by decide)).trans ((hset_c (by decide)).trans ((hset_c (by decide)).trans ((hset_c (by decide)).trans ((hset_c (by decide)).trans (hset_c (by decide))))))))))]; omega) (by simp only [(show (hset (hset (hset (hset (hset (hset (hset (hset h 46 p (h 133 p - q)) 64 (h 116 65) p) 65 (h 116 65) q) 66 (h 116 65) a) 67 (h 116 65) b) 68 (h 116 65) c) 69 (h 116 65) (h 116 1)) 4 7 ((h 116 65) + 1)) 116 65 = (h 116 65) from ((hset_c (by decide)).trans ((hset_c (by decide)).trans ((hset_c (by decide)).trans ((hset_c (by decide)).trans ((hset_c (by decide)).trans ((hset_c (by decide)).trans ((hset_c (by decide)).trans (hset_c (by decide))))))))))]; omega) ?_ ?_ ?_ ?_ ?_ ?_ ?_ ?_ ?_ ?_ ?_ ?_
    all_goals try simp only [(show (hset (hset (hset (hset (hset (hset (hset (hset h 46 p (h 133 p - q)) 64 (h 116 65) p) 65 (h 116 65) q) 66 (h 116 65) a) 67 (h 116 65) b) 68 (h 116 65) c) 69 (h 116 65) (h 116 1)) 4 7 ((h 116 65) + 1)) 116 65 = (h 116 65) from ((hset_c (by decide)).trans ((hset_c (by decide)).trans ((hset_c (by decide)).trans ((hset_c (by decide)).trans ((hset_c (by decide)).trans ((hset_c (by decide)).trans ((hset_c (by decide)).trans (hset_c (by decide)))))))))), (show (hset (hset (hset (hset (hset (hset (hset (hset h 46 p (h 133 p - q)) 64 (h 116 65) p) 65 (h 116 65) q) 66 (h 116 65) a) 67 (h 116 65) b) 68 (h 116 65) c) 69 (h 116 65) (h 116 1)) 4 7 ((h 116 65) + 1)) 116 45 = (h 116 45) from ((hset_c (by decide)).trans ((hset_c (by decide)).trans ((hset_c (by decide)).trans ((hset_c (by decide)).trans ((hset_c (by decide)).trans ((hset_c (by decide)).trans ((hset_c (by decide)).trans (hset_c (by decide)))))))))), (show (hset (hset (hset (hset (hset (hset (hset (hset h 46 p (h 133 p - q)) 64 (h 116 65) p) 65 (h 116 65) q) 66 (h 116 65) a) 67 (h 116 65) b) 68 (h 116 65) c) 69 (h 116 65) (h 116 1)) 4 7 ((h 116 65) + 1)) 133 p = (h 133 p) from ((hset_c (by decide)).trans ((hset_c (by decide)).trans ((hset_c (by decide)).trans ((hset_c (by decide)).trans ((hset_c (by decide)).trans ((hset_c (by decide)).trans ((hset_c (by decide)).trans (hset_c (by decide)))))))))), (show (hset (hset (hset (hset (hset (hset (hset (hset h 46 p (h 133 p - q)) 64 (h 116 65) p) 65 (h 116 65) q) 66 (h 116 65) a) 67 (h 116 65) b) 68 (h 116 65) c) 69 (h 116 65) (h 116 1)) 4 7 ((h 116 65) + 1)) 116 1 = (h 116 1) from ((hset_c (by decide)).trans ((hset_c (by decide)).trans ((hset_c (by decide)).trans ((hset_c (by decide)).trans ((hset_c (by decide)).trans ((hset_c (by decide)).trans ((hset_c (by decide)).trans (hset_c (by decide)))))))))), is, Int.add_sub_cancel]
    all_goals first | (intros; exfalso; omega) | (intros; exact hq2 _ (LI_ship I L ⟨by omega, by omega⟩ ⟨by omega, by omega⟩ ⟨by omega, by omega⟩ ⟨by omega, by omega⟩ ⟨by omega, by omega⟩ (by omega)))
  · intro c0 c1 c2 c3 c4 c5 c6 c7 c8 c9 c10
    exact hq h _ (fun Q2 hq2 => by
      refine s_X12_ship (by omega) (by omega) (by omega) (by omega) (by omega) ?_ ?_ ?_ ?_ ?_ ?_ ?_ ?_ ?_ ?_ ?_ ?_
      all_goals first | (intros; exact hq2 _ (LI_h0 I L)) | (intros; exfalso; omega))

set_option maxHeartbeats 4000000 in
theorem j_mend {l : Launch} {G : GG} {d : Nat} {h : AH} {Q : Option AV → List Kd → AH → Prop} {p x : Int} (hd : 60 ≤ d) (H : LI h) (hq : JQ mX12_mend [(2, 116), (0, p), (0, x)] 0 l G d Q) : Sp l G mX11_mend d 0 0 K0 [(2, 0), (0, p), (0, x)] h Q := by
  obtain ⟨cs, I, L⟩ := H
  have e0_0 := I.f0_0
  have e41_12 := I.f41_12
  have e53_3 := I.f53_3
  have b116_1 := I.now
  have b116_45 := I.W.nb
  have b116_48 := I.W.nm
  refine s_X11_mend (by omega) (by omega) (by omega) (by omega) (by omega) ?_ ?_ ?_ ?_ ?_ ?_
  · intro c0
    exact hq h _ (fun Q2 hq2 => by
      refine s_X12_mend (by omega) (by omega) (by omega) (by omega) (by omega) ?_ ?_ ?_ ?_ ?_ ?_
      all_goals first | (intros; exact hq2 _ (LI_h0 I L)) | (intros; exfalso; omega))
  · intro c0 c1
    exact hq h _ (fun Q2 hq2 => by
      refine s_X12_mend (by omega) (by omega) (by omega) (by omega) (by omega) ?_ ?_ ?_ ?_ ?_ ?_
      all_goals first | (intros; exact hq2 _ (LI_h0 I L)) | (intros; exfalso; omega))
  · intro c0 c1 c2
    exact hq h _ (fun Q2 hq2 => by
      refine s_X12_mend (by omega) (by omega) (by omega) (by omega) (by omega) ?_ ?_ ?_ ?_ ?_ ?_
      all_goals first | (intros; exact hq2 _ (LI_h0 I L)) | (intros; exfalso; omega))
  · intro c0 c1 c2 c3
    exact hq h _ (fun Q2 hq2 => by
      refine s_X12_mend (by omega) (by omega) (by omega) (by omega) (by omega) ?_ ?_ ?_ ?_ ?_ ?_
      all_goals first | (intros; exact hq2 _ (LI_h0 I L)) | (intros; exfalso; omega))
  · intro c0 c1 c2 c3 c4
    try simp only [e0_0, e41_12, e53_3, Int.add_sub_cancel]
    refine hq _ _ (fun Q2 hq2 => ?_)
    refine s_X12_mend (by omega) (by simp only [(show (hset (hset (hset (hset h 54 (h 116 48) p) 55 (h 116 48) x) 56 (h 116 48) (h 116 1)) 53 3 ((h 116 48) + 1)) 116 45 = (h 116 45) from ((hset_c (by decide)).trans ((hset_c (by decide)).trans ((hset_c (by decide)).trans (hset_c (by decide))))))]; omega) (by simp only [(show (hset (hset (hset (hset h 54 (h 116 48) p) 55 (h 116 48) x) 56 (h 116 48) (h 116 1)) 53 3 ((h 116 48) + 1)) 116 45 = (h 116 45) from ((hset_c (by decide)).trans ((hset_c (by decide)).trans ((hset_c (by decide)).trans (hset_c (by decide))))))]; omega) (by simp only [(show (hset (hset (hset (hset h 54 (h 116 48) p) 55 (h 116 48) x) 56 (h 116 48) (h 116 1)) 53 3 ((h 116 48) + 1)) 116 48 = (h 116 48) from ((hset_c (by decide)).trans ((hset_c (by decide)).trans ((hset_c (by decide)).trans (hset_c (by decide))))))]; omega) (by simp only [(show (hset (hset (hset (hset h 54 (h 116 48) p) 55 (h 116 48) x) 56 (h 116 48) (h 116 1)) 53 3 ((h 116 48) + 1)) 116 48 = (h 116 48) from ((hset_c (by decide)).trans ((hset_c (by decide)).trans ((hset_c (by decide)).trans (hset_c (by decide))))))]; omega) ?_ ?_ ?_ ?_ ?_ ?_
    all_goals try simp only [(show (hset (hset (hset (hset h 54 (h 116 48) p) 55 (h 116 48) x) 56 (h 116 48) (h 116 1)) 53 3 ((h 116 48) + 1)) 116 48 = (h 116 48) from ((hset_c (by decide)).trans ((hset_c (by decide)).trans ((hset_c (by decide)).trans (hset_c (by decide)))))), (show (hset (hset (hset (hset h 54 (h 116 48) p) 55 (h 116 48) x) 56 (h 116 48) (h 116 1)) 53 3 ((h 116 48) + 1)) 116 45 = (h 116 45) from ((hset_c (by decide)).trans ((hset_c (by decide)).trans ((hset_c (by decide)).trans (hset_c (by decide)))))), (show (hset (hset (hset (hset h 54 (h 116 48) p) 55 (h 116 48) x) 56 (h 116 48) (h 116 1)) 53 3 ((h 116 48) + 1)) 116 1 = (h 116 1) from ((hset_c (by decide)).trans ((hset_c (by decide)).trans ((hset_c (by decide)).trans (hset_c (by decide)))))), Int.add_sub_cancel]
    all_goals first | (intros; exfalso; omega) | (intros; exact hq2 _ (LI_mend I L ⟨by omega, by omega⟩ ⟨by omega, by omega⟩ (by omega)))
  · intro c0 c1 c2 c3 c4
    exact hq h _ (fun Q2 hq2 => by
      refine s_X12_mend (by omega) (by omega) (by omega) (by omega) (by omega) ?_ ?_ ?_ ?_ ?_ ?_
      all_goals first | (intros; exact hq2 _ (LI_h0 I L)) | (intros; exfalso; omega))

set_option maxHeartbeats 4000000 in
theorem j_paper {l : Launch} {G : GG} {d : Nat} {h : AH} {Q : Option AV → List Kd → AH → Prop} {p x : Int} (hd : 60 ≤ d) (H : LI h) (hq : JQ mX12_paper [(2, 116), (0, p), (0, x)] 0 l G d Q) : Sp l G mX11_paper d 0 0 K0 [(2, 0), (0, p), (0, x)] h Q := by
  obtain ⟨cs, I, L⟩ := H
  have e0_0 := I.f0_0
  have e4_7 := I.f4_7
  have e70_3 := I.f70_3
  have b116_1 := I.now
  have b116_65 := I.S.1
  have b116_66 := I.S.2.1
  refine s_X11_paper (by omega) (by omega) (by omega) (by omega) (by omega) ?_ ?_ ?_ ?_ ?_ ?_
  · intro c0
    exact hq h _ (fun Q2 hq2 => by
      refine s_X12_paper (by omega) (by omega) (by omega) (by omega) (by omega) ?_ ?_ ?_ ?_ ?_ ?_
      all_goals first | (intros; exact hq2 _ (LI_h0 I L)) | (intros; exfalso; omega))
  · intro c0 c1
    exact hq h _ (fun Q2 hq2 => by
      refine s_X12_paper (by omega) (by omega) (by omega) (by omega) (by omega) ?_ ?_ ?_ ?_ ?_ ?_
      all_goals first | (intros; exact hq2 _ (LI_h0 I L)) | (intros; exfalso; omega))
  · intro c0 c1 c2
    exact hq h _ (fun Q2 hq2 => by
      refine s_X12_paper (by omega) (by omega) (by omega) (by omega) (by omega) ?_ ?_ ?_ ?_ ?_ ?_
      all_goals first | (intros; exact hq2 _ (LI_h0 I L)) | (intros; exfalso; omega))
  · intro c0 c1 c2 c3
    exact hq h _ (fun Q2 hq2 => by
      refine s_X12_paper (by omega) (by omega) (by omega) (by omega) (by omega) ?_ ?_ ?_ ?_ ?_ ?_
      all_goals first | (intros; exact hq2 _ (LI_h0 I L)) | (intros; exfalso; omega))
  · intro c0 c1 c2 c3 c4
    try simp only [e0_0, e4_7, e70_3, Int.add_sub_cancel]
    refine hq _ _ (fun Q2 hq2 => ?_)
    refine s_X12_paper (by omega) (by simp only [(show (hset (hset (hset (hset h 71 (h 116 66) p) 72 (h 116 66) x) 73 (h 116 66) (h 116 1)) 70 3 ((h 116 66) + 1)) 116 65 = (h 116 65) from ((hset_c (by decide)).trans ((hset_c (by decide)).trans ((hset_c (by decide)).trans (hset_c (by decide))))))]; omega) (by simp only [(show (hset (hset (hset (hset h 71 (h 116 66) p) 72 (h 116 66) x) 73 (h 116 66) (h 116 1)) 70 3 ((h 116 66) + 1)) 116 65 = (h 116 65) from ((hset_c (by decide)).trans ((hset_c (by decide)).trans ((hset_c (by decide)).trans (hset_c (by decide))))))]; omega) (by simp only [(show (hset (hset (hset (hset h 71 (h 116 66) p) 72 (h 116 66) x) 73 (h 116 66) (h 116 1)) 70 3 ((h 116 66) + 1)) 116 66 = (h 116 66) from ((hset_c (by decide)).trans ((hset_c (by decide)).trans ((hset_c (by decide)).trans (hset_c (by decide))))))]; omega) (by simp only [(show (hset (hset (hset (hset h 71 (h 116 66) p) 72 (h 116 66) x) 73 (h 116 66) (h 116 1)) 70 3 ((h 116 66) + 1)) 116 66 = (h 116 66) from ((hset_c (by decide)).trans ((hset_c (by decide)).trans ((hset_c (by decide)).trans (hset_c (by decide))))))]; omega) ?_ ?_ ?_ ?_ ?_ ?_
    all_goals try simp only [(show (hset (hset (hset (hset h 71 (h 116 66) p) 72 (h 116 66) x) 73 (h 116 66) (h 116 1)) 70 3 ((h 116 66) + 1)) 116 66 = (h 116 66) from ((hset_c (by decide)).trans ((hset_c (by decide)).trans ((hset_c (by decide)).trans (hset_c (by decide)))))), (show (hset (hset (hset (hset h 71 (h 116 66) p) 72 (h 116 66) x) 73 (h 116 66) (h 116 1)) 70 3 ((h 116 66) + 1)) 116 65 = (h 116 65) from ((hset_c (by decide)).trans ((hset_c (by decide)).trans ((hset_c (by decide)).trans (hset_c (by decide)))))), (show (hset (hset (hset (hset h 71 (h 116 66) p) 72 (h 116 66) x) 73 (h 116 66) (h 116 1)) 70 3 ((h 116 66) + 1)) 116 1 = (h 116 1) from ((hset_c (by decide)).trans ((hset_c (by decide)).trans ((hset_c (by decide)).trans (hset_c (by decide)))))), Int.add_sub_cancel]
    all_goals first | (intros; exfalso; omega) | (intros; exact hq2 _ (LI_paper I L ⟨by omega, by omega⟩ ⟨by omega, by omega⟩ (by omega)))
  · intro c0 c1 c2 c3 c4
    exact hq h _ (fun Q2 hq2 => by
      refine s_X12_paper (by omega) (by omega) (by omega) (by omega) (by omega) ?_ ?_ ?_ ?_ ?_ ?_
      all_goals first | (intros; exact hq2 _ (LI_h0 I L)) | (intros; exfalso; omega))

set_option maxHeartbeats 4000000 in
theorem j_word {l : Launch} {G : GG} {d : Nat} {h : AH} {Q : Option AV → List Kd → AH → Prop} {p x : Int} (hd : 60 ≤ d) (H : LI h) (hq : JQ mX12_word [(2, 116), (0, p), (0, x)] 0 l G d Q) : Sp l G mX11_word d 0 0 K0 [(2, 0), (0, p), (0, x)] h Q := by
  obtain ⟨cs, I, L⟩ := H
  have e41_12 := I.f41_12
  have e97_2 := I.f97_2
  have b116_45 := I.W.nb
  have b116_88 := I.wo.1
  refine s_X11_word (by omega) (by omega) (by omega) (by omega) (by omega) ?_ ?_ ?_ ?_ ?_ ?_
  · intro c0
    exact hq h _ (fun Q2 hq2 => by
      refine s_X12_word (by omega) (by omega) (by omega) (by omega) (by omega) ?_ ?_ ?_ ?_ ?_ ?_
      all_goals first | (intros; exact hq2 _ (LI_h0 I L)) | (intros; exfalso; omega))
  · intro c0 c1
    exact hq h _ (fun Q2 hq2 => by
      refine s_X12_word (by omega) (by omega) (by omega) (by omega) (by omega) ?_ ?_ ?_ ?_ ?_ ?_
      all_goals first | (intros; exact hq2 _ (LI_h0 I L)) | (intros; exfalso; omega))
  · intro c0 c1 c2
    exact hq h _ (fun Q2 hq2 => by
      refine s_X12_word (by omega) (by omega) (by omega) (by omega) (by omega) ?_ ?_ ?_ ?_ ?_ ?_
      all_goals first | (intros; exact hq2 _ (LI_h0 I L)) | (intros; exfalso; omega))
  · intro c0 c1 c2 c3
    exact hq h _ (fun Q2 hq2 => by
      refine s_X12_word (by omega) (by omega) (by omega) (by omega) (by omega) ?_ ?_ ?_ ?_ ?_ ?_
      all_goals first | (intros; exact hq2 _ (LI_h0 I L)) | (intros; exfalso; omega))
  · intro c0 c1 c2 c3 c4
    try simp only [e41_12, e97_2, Int.add_sub_cancel]
    refine hq _ _ (fun Q2 hq2 => ?_)
    refine s_X12_word (by omega) (by simp only [(show (hset (hset (hset h 98 (h 116 88) p) 99 (h 116 88) x) 97 2 ((h 116 88) + 1)) 116 45 = (h 116 45) from ((hset_c (by decide)).trans ((hset_c (by decide)).trans (hset_c (by decide)))))]; omega) (by simp only [(show (hset (hset (hset h 98 (h 116 88) p) 99 (h 116 88) x) 97 2 ((h 116 88) + 1)) 116 45 = (h 116 45) from ((hset_c (by decide)).trans ((hset_c (by decide)).trans (hset_c (by decide)))))]; omega) (by simp only [(show (hset (hset (hset h 98 (h 116 88) p) 99 (h 116 88) x) 97 2 ((h 116 88) + 1)) 116 88 = (h 116 88) from ((hset_c (by decide)).trans ((hset_c (by decide)).trans (hset_c (by decide)))))]; omega) (by simp only [(show (hset (hset (hset h 98 (h 116 88) p) 99 (h 116 88) x) 97 2 ((h 116 88) + 1)) 116 88 = (h 116 88) from ((hset_c (by decide)).trans ((hset_c (by decide)).trans (hset_c (by decide)))))]; omega) ?_ ?_ ?_ ?_ ?_ ?_
    all_goals try simp only [(show (hset (hset (hset h 98 (h 116 88) p) 99 (h 116 88) x) 97 2 ((h 116 88) + 1)) 116 88 = (h 116 88) from ((hset_c (by decide)).trans ((hset_c (by decide)).trans (hset_c (by decide))))), (show (hset (hset (hset h 98 (h 116 88) p) 99 (h 116 88) x) 97 2 ((h 116 88) + 1)) 116 45 = (h 116 45) from ((hset_c (by decide)).trans ((hset_c (by decide)).trans (hset_c (by decide))))), Int.add_sub_cancel]
    all_goals first | (intros; exfalso; omega) | (intros; exact hq2 _ (LI_word I L ⟨by omega, by omega⟩ (by omega)))
  · intro c0 c1 c2 c3 c4
    exact hq h _ (fun Q2 hq2 => by
      refine s_X12_word (by omega) (by omega) (by omega) (by omega) (by omega) ?_ ?_ ?_ ?_ ?_ ?_
      all_goals first | (intros; exact hq2 _ (LI_h0 I L)) | (intros; exfalso; omega))

set_option maxHeartbeats 4000000 in
theorem j_undo {l : Launch} {G : GG} {d : Nat} {h : AH} {Q : Option AV → List Kd → AH → Prop} {p : Int} (hd : 60 ≤ d) (H : LI h) (hq : JQ mX12_undo [(2, 116), (0, p)] 0 l G d Q) : Sp l G mX11_undo d 0 0 K0 [(2, 0), (0, p)] h Q := by
  obtain ⟨cs, I, L⟩ := H
  have e0_0 := I.f0_0
  have e41_12 := I.f41_12
  have b116_1 := I.now
  have b116_45 := I.W.nb
  have e48 := congrFun I.e48 p
  have iu := fun z : 0 ≤ p ∧ p < h 116 45 => I.iu p z.1 z.2
  have un : 0 ≤ h 41 13 ∧ h 41 13 ≤ 100 := by
      have := sm_rng (f := undF (h 136)) (N := h 116 45) (B := 1) (fun i _ _ => by unfold undF; split <;> omega) (h 116 45) I.W.nb.1 (Int.le_refl _)
      have := I.un
      have := I.W.nb
      omega
  refine s_X11_undo (by omega) (by omega) (by omega) ?_ ?_ ?_ ?_ ?_
  · intro c0
    exact hq h _ (fun Q2 hq2 => by
      refine s_X12_undo (by omega) (by omega) (by omega) ?_ ?_ ?_ ?_ ?_
      all_goals first | (intros; exact hq2 _ (LI_h0 I L)) | (intros; exfalso; omega))
  · intro c0 c1
    exact hq h _ (fun Q2 hq2 => by
      refine s_X12_undo (by omega) (by omega) (by omega) ?_ ?_ ?_ ?_ ?_
      all_goals first | (intros; exact hq2 _ (LI_h0 I L)) | (intros; exfalso; omega))
  · intro c0 c1 c2
    exact hq h _ (fun Q2 hq2 => by
      refine s_X12_undo (by omega) (by omega) (by omega) ?_ ?_ ?_ ?_ ?_
      all_goals first | (intros; exact hq2 _ (LI_h0 I L)) | (intros; exfalso; omega))
  · intro c0 c1 c2 c3
    have ia : iadd (h 41 13) 1 = h 41 13 + 1 := iadd_eq (by unfold ok32; omega)
    try simp only [e0_0, e41_12, I.e48, ia, Int.add_sub_cancel]
    refine hq _ _ (fun Q2 hq2 => ?_)
    refine s_X12_undo (by omega) (by simp only [(show (hset (hset h 49 p (h 116 1)) 41 13 (h 41 13 + 1)) 116 45 = (h 116 45) from ((hset_c (by decide)).trans (hset_c (by decide))))]; omega) (by simp only [(show (hset (hset h 49 p (h 116 1)) 41 13 (h 41 13 + 1)) 116 45 = (h 116 45) from ((hset_c (by decide)).trans (hset_c (by decide))))]; omega) ?_ ?_ ?_ ?_ ?_
    all_goals try simp only [(show (hset (hset h 49 p (h 116 1)) 41 13 (h 41 13 + 1)) 116 45 = (h 116 45) from ((hset_c (by decide)).trans (hset_c (by decide)))), (show (hset (hset h 49 p (h 116 1)) 41 13 (h 41 13 + 1)) 135 p = (h 135 p) from ((hset_c (by decide)).trans (hset_c (by decide)))), (show (hset (hset h 49 p (h 116 1)) 41 13 (h 41 13 + 1)) 136 p = (h 136 p) from ((hset_c (by decide)).trans (hset_c (by decide)))), (show (hset (hset h 49 p (h 116 1)) 41 13 (h 41 13 + 1)) 116 1 = (h 116 1) from ((hset_c (by decide)).trans (hset_c (by decide)))), ia, Int.add_sub_cancel]
    all_goals first | (intros; exfalso; omega) | (intros; exact hq2 _ (LI_undo I L ⟨by omega, by omega⟩ (by omega)))
  · intro c0 c1 c2 c3
    exact hq h _ (fun Q2 hq2 => by
      refine s_X12_undo (by omega) (by omega) (by omega) ?_ ?_ ?_ ?_ ?_
      all_goals first | (intros; exact hq2 _ (LI_h0 I L)) | (intros; exfalso; omega))

set_option maxHeartbeats 4000000 in
theorem j_entry {l : Launch} {G : GG} {d : Nat} {h : AH} {Q : Option AV → List Kd → AH → Prop} {b k w : Int} (hd : 60 ≤ d) (H : LI h) (hq : JQ mX12_entry [(2, 116), (0, b), (0, k), (0, w)] 0 l G d Q) : Sp l G mX11_entry d 0 0 K0 [(2, 0), (0, b), (0, k), (0, w)] h Q := by
  obtain ⟨cs, I, L⟩ := H
  have e41_12 := I.f41_12
  have b116_45 := I.W.nb
  have e50 := congrFun I.e50 b
  have e51 := I.e51
  have e52 := I.e52
  refine s_X11_entry (by omega) (by omega) (by omega) (fun j j0 j1 => by
    have en := I.en j
    have we := I.W.en j j0
    have e5 := congrFun I.e50 j
    omega) ?_ ?_ ?_ ?_ ?_ ?_ ?_
  · intro c0
    exact hq h _ (fun Q2 hq2 => by
      refine s_X12_entry (by omega) (by omega) (by omega) (fun j j0 j1 => by
    have en := I.en j
    have we := I.W.en j j0
    have e5 := congrFun I.e50 j
    omega) ?_ ?_ ?_ ?_ ?_ ?_ ?_ ?_
      all_goals first | (intros; exact hq2 _ (LI_h0 I L)) | (intros; rw [← e51, Int.mul_comm 6 b]; exact hq2 _ (LI_h0 I L)) | (intros; rw [← e52, Int.mul_comm 6 b]; exact hq2 _ (LI_h0 I L)) | (intros; exfalso; omega))
  · intro c0 c1
    exact hq h _ (fun Q2 hq2 => by
      refine s_X12_entry (by omega) (by omega) (by omega) (fun j j0 j1 => by
    have en := I.en j
    have we := I.W.en j j0
    have e5 := congrFun I.e50 j
    omega) ?_ ?_ ?_ ?_ ?_ ?_ ?_ ?_
      all_goals first | (intros; exact hq2 _ (LI_h0 I L)) | (intros; rw [← e51, Int.mul_comm 6 b]; exact hq2 _ (LI_h0 I L)) | (intros; rw [← e52, Int.mul_comm 6 b]; exact hq2 _ (LI_h0 I L)) | (intros; exfalso; omega))
  · intro c0 c1 c2
    exact hq h _ (fun Q2 hq2 => by
      refine s_X12_entry (by omega) (by omega) (by omega) (fun j j0 j1 => by
    have en := I.en j
    have we := I.W.en j j0
    have e5 := congrFun I.e50 j
    omega) ?_ ?_ ?_ ?_ ?_ ?_ ?_ ?_
      all_goals first | (intros; exact hq2 _ (LI_h0 I L)) | (intros; rw [← e51, Int.mul_comm 6 b]; exact hq2 _ (LI_h0 I L)) | (intros; rw [← e52, Int.mul_comm 6 b]; exact hq2 _ (LI_h0 I L)) | (intros; exfalso; omega))
  · intro c0 c1 c2 c3
    exact hq h _ (fun Q2 hq2 => by
      refine s_X12_entry (by omega) (by omega) (by omega) (fun j j0 j1 => by
    have en := I.en j
    have we := I.W.en j j0
    have e5 := congrFun I.e50 j
    omega) ?_ ?_ ?_ ?_ ?_ ?_ ?_ ?_
      all_goals first | (intros; exact hq2 _ (LI_h0 I L)) | (intros; rw [← e51, Int.mul_comm 6 b]; exact hq2 _ (LI_h0 I L)) | (intros; rw [← e52, Int.mul_comm 6 b]; exact hq2 _ (LI_h0 I L)) | (intros; exfalso; omega))
  · intro c0 c1 c2 c3 c4
    exact hq h _ (fun Q2 hq2 => by
      refine s_X12_entry (by omega) (by omega) (by omega) (fun j j0 j1 => by
    have en := I.en j
    have we := I.W.en j j0
    have e5 := congrFun I.e50 j
    omega) ?_ ?_ ?_ ?_ ?_ ?_ ?_ ?_
      all_goals first | (intros; exact hq2 _ (LI_h0 I L)) | (intros; rw [← e51, Int.mul_comm 6 b]; exact hq2 _ (LI_h0 I L)) | (intros; rw [← e52, Int.mul_comm 6 b]; exact hq2 _ (LI_h0 I L)) | (intros; exfalso; omega))
  · intro c0 c1 c2 c3 c4
    exact hq h _ (fun Q2 hq2 => by
      refine s_X12_entry (by omega) (by omega) (by omega) (fun j j0 j1 => by
    have en := I.en j
    have we := I.W.en j j0
    have e5 := congrFun I.e50 j
    omega) ?_ ?_ ?_ ?_ ?_ ?_ ?_ ?_
      all_goals first | (intros; exact hq2 _ (LI_h0 I L)) | (intros; rw [← e51, Int.mul_comm 6 b]; exact hq2 _ (LI_h0 I L)) | (intros; rw [← e52, Int.mul_comm 6 b]; exact hq2 _ (LI_h0 I L)) | (intros; exfalso; omega))
  · intro c0 c1 c2 c3 c4
    exact hq h _ (fun Q2 hq2 => by
      refine s_X12_entry (by omega) (by omega) (by omega) (fun j j0 j1 => by
    have en := I.en j
    have we := I.W.en j j0
    have e5 := congrFun I.e50 j
    omega) ?_ ?_ ?_ ?_ ?_ ?_ ?_ ?_
      all_goals first | (intros; exact hq2 _ (LI_h0 I L)) | (intros; rw [← e51, Int.mul_comm 6 b]; exact hq2 _ (LI_h0 I L)) | (intros; rw [← e52, Int.mul_comm 6 b]; exact hq2 _ (LI_h0 I L)) | (intros; exfalso; omega))

set_option maxHeartbeats 4000000 in
theorem j_line {l : Launch} {G : GG} {d : Nat} {h : AH} {Q : Option AV → List Kd → AH → Prop} {i w : Int} (hd : 60 ≤ d) (H : LI h) (hq : JQ mX12_line [(2, 116), (0, i), (0, w)] 1 l G d Q) : Sp l G mX11_line d 0 0 K0 [(2, 0), (0, i), (0, w)] h Q := by
  obtain ⟨cs, I, L⟩ := H
  have b116_67 := L.li
  have e4_15 := L.f4_15
  have b67 := L.li
  have e77 := congrFun L.e77 i
  have e78 := congrFun L.e78 i
  have e79 := congrFun L.e79 i
  refine s_X11_line (by omega) (by omega) (by omega) ?_ ?_ ?_ ?_ ?_ ?_
  · intro c0
    exact hq h _ (fun Q2 hq2 => by
      refine s_X12_line (by omega) (by omega) (by omega) ?_ ?_ ?_ ?_ ?_ ?_
      all_goals first | (intros; exact hq2 _ (LI_h0 I L)) | (intros; rw [← e77]; exact hq2 _ (LI_h0 I L)) | (intros; rw [← e78]; exact hq2 _ (LI_h0 I L)) | (intros; rw [← e79]; exact hq2 _ (LI_h0 I L)) | (intros; exfalso; omega))
  · intro c0 c1
    exact hq h _ (fun Q2 hq2 => by
      refine s_X12_line (by omega) (by omega) (by omega) ?_ ?_ ?_ ?_ ?_ ?_
      all_goals first | (intros; exact hq2 _ (LI_h0 I L)) | (intros; rw [← e77]; exact hq2 _ (LI_h0 I L)) | (intros; rw [← e78]; exact hq2 _ (LI_h0 I L)) | (intros; rw [← e79]; exact hq2 _ (LI_h0 I L)) | (intros; exfalso; omega))
  · intro c0 c1 c2
    exact hq h _ (fun Q2 hq2 => by
      refine s_X12_line (by omega) (by omega) (by omega) ?_ ?_ ?_ ?_ ?_ ?_
      all_goals first | (intros; exact hq2 _ (LI_h0 I L)) | (intros; rw [← e77]; exact hq2 _ (LI_h0 I L)) | (intros; rw [← e78]; exact hq2 _ (LI_h0 I L)) | (intros; rw [← e79]; exact hq2 _ (LI_h0 I L)) | (intros; exfalso; omega))
  · intro c0 c1 c2
    exact hq h _ (fun Q2 hq2 => by
      refine s_X12_line (by omega) (by omega) (by omega) ?_ ?_ ?_ ?_ ?_ ?_
      all_goals first | (intros; exact hq2 _ (LI_h0 I L)) | (intros; rw [← e77]; exact hq2 _ (LI_h0 I L)) | (intros; rw [← e78]; exact hq2 _ (LI_h0 I L)) | (intros; rw [← e79]; exact hq2 _ (LI_h0 I L)) | (intros; exfalso; omega))
  · intro c0 c1 c2
    exact hq h _ (fun Q2 hq2 => by
      refine s_X12_line (by omega) (by omega) (by omega) ?_ ?_ ?_ ?_ ?_ ?_
      all_goals first | (intros; exact hq2 _ (LI_h0 I L)) | (intros; rw [← e77]; exact hq2 _ (LI_h0 I L)) | (intros; rw [← e78]; exact hq2 _ (LI_h0 I L)) | (intros; rw [← e79]; exact hq2 _ (LI_h0 I L)) | (intros; exfalso; omega))
  · intro c0 c1 c2
    exact hq h _ (fun Q2 hq2 => by
      refine s_X12_line (by omega) (by omega) (by omega) ?_ ?_ ?_ ?_ ?_ ?_
      all_goals first | (intros; exact hq2 _ (LI_h0 I L)) | (intros; rw [← e77]; exact hq2 _ (LI_h0 I L)) | (intros; rw [← e78]; exact hq2 _ (LI_h0 I L)) | (intros; rw [← e79]; exact hq2 _ (LI_h0 I L)) | (intros; exfalso; omega))

set_option maxHeartbeats 4000000 in
theorem j_member {l : Launch} {G : GG} {d : Nat} {h : AH} {Q : Option AV → List Kd → AH → Prop} {w a q : Int} (hd : 60 ≤ d) (H : LI h) (hq : JQ mX12_member [(2, 116), (0, w), (0, a), (0, q)] 0 l G d Q) : Sp l G mX11_member d 0 0 K0 [(2, 0), (0, w), (0, a), (0, q)] h Q := by
  obtain ⟨cs, I, L⟩ := H
  have e0_0 := I.f0_0
  have e7_4 := I.f7_4
  have b116_1 := I.now
  have b116_14 := I.W.nw
  have e8 := I.e8
  have e9 := I.e9
  have e10 := I.e10
  have e11 := I.e11
  refine s_X11_member (by omega) (by omega) (by omega) ?_ ?_ ?_ ?_ ?_ ?_ ?_ ?_
  · intro c0
    exact hq h _ (fun Q2 hq2 => by
      refine s_X12_member (by omega) (by omega) (by omega) ?_ ?_ ?_ ?_ ?_ ?_ ?_
      all_goals first
        | (intros; exact hq2 _ (LI_h0 I L))
        | (intros; rw [← e8, ← e9, ← e10, ← e7_4, if_pos (by assumption)]; exact hq2 _ (LI_h0 I L))
        | (intros; rw [← e8, ← e9, ← e10, ← e7_4, if_neg (by assumption), hset_c (by decide), ← e11]; exact hq2 _ (LI_h0 I L))
        | (intros; exfalso; omega))
  · intro c0 c1
    exact hq h _ (fun Q2 hq2 => by
      refine s_X12_member (by omega) (by omega) (by omega) ?_ ?_ ?_ ?_ ?_ ?_ ?_
      all_goals first
        | (intros; exact hq2 _ (LI_h0 I L))
        | (intros; rw [← e8, ← e9, ← e10, ← e7_4, if_pos (by assumption)]; exact hq2 _ (LI_h0 I L))
        | (intros; rw [← e8, ← e9, ← e10, ← e7_4, if_neg (by assumption), hset_c (by decide), ← e11]; exact hq2 _ (LI_h0 I L))
        | (intros; exfalso; omega))
  · intro c0 c1 c2
    exact hq h _ (fun Q2 hq2 => by
      refine s_X12_member (by omega) (by omega) (by omega) ?_ ?_ ?_ ?_ ?_ ?_ ?_
      all_goals first
        | (intros; exact hq2 _ (LI_h0 I L))
        | (intros; rw [← e8, ← e9, ← e10, ← e7_4, if_pos (by assumption)]; exact hq2 _ (LI_h0 I L))
        | (intros; rw [← e8, ← e9, ← e10, ← e7_4, if_neg (by assumption), hset_c (by decide), ← e11]; exact hq2 _ (LI_h0 I L))
        | (intros; exfalso; omega))
  · intro c0 c1 c2 c3
    exact hq h _ (fun Q2 hq2 => by
      refine s_X12_member (by omega) (by omega) (by omega) ?_ ?_ ?_ ?_ ?_ ?_ ?_
      all_goals first
        | (intros; exact hq2 _ (LI_h0 I L))
        | (intros; rw [← e8, ← e9, ← e10, ← e7_4, if_pos (by assumption)]; exact hq2 _ (LI_h0 I L))
        | (intros; rw [← e8, ← e9, ← e10, ← e7_4, if_neg (by assumption), hset_c (by decide), ← e11]; exact hq2 _ (LI_h0 I L))
        | (intros; exfalso; omega))
  · intro c0 c1 c2 c3 c4
    exact hq h _ (fun Q2 hq2 => by
      refine s_X12_member (by omega) (by omega) (by omega) ?_ ?_ ?_ ?_ ?_ ?_ ?_
      all_goals first
        | (intros; exact hq2 _ (LI_h0 I L))
        | (intros; rw [← e8, ← e9, ← e10, ← e7_4, if_pos (by assumption)]; exact hq2 _ (LI_h0 I L))
        | (intros; rw [← e8, ← e9, ← e10, ← e7_4, if_neg (by assumption), hset_c (by decide), ← e11]; exact hq2 _ (LI_h0 I L))
        | (intros; exfalso; omega))
  · intro c0 c1 c2 c3 c4 c5
    exact hq h _ (fun Q2 hq2 => by
      refine s_X12_member (by omega) (by omega) (by omega) ?_ ?_ ?_ ?_ ?_ ?_ ?_
      all_goals first
        | (intros; exact hq2 _ (LI_h0 I L))
        | (intros; rw [← e8, ← e9, ← e10, ← e7_4, if_pos (by assumption)]; exact hq2 _ (LI_h0 I L))
        | (intros; rw [← e8, ← e9, ← e10, ← e7_4, if_neg (by assumption), hset_c (by decide), ← e11]; exact hq2 _ (LI_h0 I L))
        | (intros; exfalso; omega))
  · intro c0 c1 c2 c3 c4 c5 c6
    exact hq h _ (fun Q2 hq2 => by
      refine s_X12_member (by omega) (by omega) (by omega) ?_ ?_ ?_ ?_ ?_ ?_ ?_
      all_goals first
        | (intros; exact hq2 _ (LI_h0 I L))
        | (intros; rw [← e8, ← e9, ← e10, ← e7_4, if_pos (by assumption)]; exact hq2 _ (LI_h0 I L))
        | (intros; rw [← e8, ← e9, ← e10, ← e7_4, if_neg (by assumption), hset_c (by decide), ← e11]; exact hq2 _ (LI_h0 I L))
        | (intros; exfalso; omega))
  · intro c0 c1 c2 c3 c4 c5 c6
    exact hq h _ (fun Q2 hq2 => by
      refine s_X12_member (by omega) (by omega) (by omega) ?_ ?_ ?_ ?_ ?_ ?_ ?_
      all_goals first
        | (intros; exact hq2 _ (LI_h0 I L))
        | (intros; rw [← e8, ← e9, ← e10, ← e7_4, if_pos (by assumption)]; exact hq2 _ (LI_h0 I L))
        | (intros; rw [← e8, ← e9, ← e10, ← e7_4, if_neg (by assumption), hset_c (by decide), ← e11]; exact hq2 _ (LI_h0 I L))
        | (intros; exfalso; omega))

