/-! ===== states with quotas ===== -/
def fI (h : AH) (cs : Int → List (Int × List Int)) (s q : Int) : Int := if h 155 s ≤ q then fst1 h cs s q else -1
/-- whether o keeps its quota where t were taken before -/
def oOK (h : AH) (cs : Int → List (Int × List Int)) (q o t : Int) : Int := if wS h cs o q 122 ≤ 0 then 1 else if t + h 151 o ≤ wS h cs o q 122 then 1 else 0
def qS (h : AH) (cs : Int → List (Int × List Int)) (s q o : Int) (p : Int × Int) : Int × Int :=
  if lik h o s ∧ fI h cs o q = 1 then (p.1 + (if oOK h cs q o p.1 = 0 then 0 else h 151 o), oOK h cs q o p.1) else p
def qF (h : AH) (cs : Int → List (Int × List Int)) (s q k : Int) : Int × Int := fupI (qS h cs s q) (0, 0) k
theorem qF_s {h : AH} {cs : Int → List (Int × List Int)} {s q k : Int} (hk : 0 ≤ k) : qF h cs s q (k + 1) = qS h cs s q k (qF h cs s q k) := fupI_s hk
/-- a shipment's state -/
def stF (h : AH) (cs : Int → List (Int × List Int)) (s q : Int) : Int := if fI h cs s q ≠ 1 then fI h cs s q else if (qF h cs s q (s + 1)).2 = 0 then 6 else 1
theorem oOK_rng {h : AH} {cs : Int → List (Int × List Int)} {q o t : Int} : 0 ≤ oOK h cs q o t ∧ oOK h cs q o t < 2 := by
  unfold oOK
  split
  · omega
  · split <;> omega
theorem qF_rng {h : AH} {cs : Int → List (Int × List Int)} {s q : Int} (S : RS h) : ∀ k, 0 ≤ k → k ≤ h 116 65 → (0 ≤ (qF h cs s q k).1 ∧ (qF h cs s q k).1 ≤ 10000 * k) ∧ (0 ≤ (qF h cs s q k).2 ∧ (qF h cs s q k).2 < 2) := by
  have key : ∀ m : Nat, (m : Int) ≤ h 116 65 → (0 ≤ (qF h cs s q m).1 ∧ (qF h cs s q m).1 ≤ 10000 * m) ∧ (0 ≤ (qF h cs s q m).2 ∧ (qF h cs s q m).2 < 2) := by
    intro m
    induction m with
    | zero => intro _; exact ⟨⟨Int.le_refl _, Int.le_refl _⟩, ⟨Int.le_refl _, (by decide : (0 : Int) < 2)⟩⟩
    | succ m ih =>
      intro hm
      have p := ih (by omega)
      have a := (S.2.2.1 m (by omega) (by omega)).2.1
      rw [show ((m + 1 : Nat) : Int) = (m : Int) + 1 by omega, qF_s (by omega)]
      unfold qS
      split
      · refine ⟨⟨?_, ?_⟩, oOK_rng⟩
        · show 0 ≤ (qF h cs s q m).1 + _
          split <;> omega
        · show (qF h cs s q m).1 + _ ≤ _
          split <;> omega
      · exact ⟨⟨p.1.1, by omega⟩, p.2⟩
  intro k h0 h1
  obtain ⟨m, rfl⟩ := Int.eq_ofNat_of_zero_le h0
  exact key m h1
theorem qS_no {h : AH} {cs : Int → List (Int × List Int)} {s q o : Int} {p : Int × Int} (e : ¬ (lik h o s ∧ fI h cs o q = 1)) : qS h cs s q o p = p := if_neg e
theorem qS_y {h : AH} {cs : Int → List (Int × List Int)} {s q o : Int} {p : Int × Int} (e : lik h o s) (e2 : fI h cs o q = 1) (x y : Int) (hy : oOK h cs q o p.1 = y) (hx : x = p.1 + (if y = 0 then 0 else h 151 o)) : qS h cs s q o p = (x, y) := by
  unfold qS
  rw [if_pos ⟨e, e2⟩, hy, hx]
