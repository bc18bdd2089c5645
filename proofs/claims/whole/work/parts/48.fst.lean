/-! ===== states: the pure side ===== -/
def bOK (st : List Int) : Prop := ∀ x ∈ st, -10000000 ≤ x ∧ x ≤ 10000000
theorem bOK_t {st : List Int} (h : bOK st) : bOK st.tail := fun x hx => h x (List.mem_of_mem_tail hx)
theorem bOK_p {st : List Int} {x : Int} (h : bOK st) : bOK (psh x st) := by
  unfold psh
  split
  · intro y hy
    rcases List.mem_cons.mp hy with e | e
    · rw [e]; exact bd_rng
    · exact h y e
  · exact h
theorem stp_ok {lt : Int → Int} {x : Int} {st s : List Int} (h : bOK st) (e : stp lt x st = some s) : bOK s := by
  unfold stp at e
  split at e
  · cases e; exact bOK_p h
  · split at e
    · cases e; exact bOK_p h
    · split at e
      · split at e
        · cases e
        · cases e; exact bOK_t h
      · split at e
        · cases e; exact bOK_p (bOK_t h)
        · cases e; exact bOK_p (bOK_t (bOK_t h))
theorem exC_ok {lt : Int → Int} : ∀ {k st s : List Int}, bOK st → exC lt k st = some s → bOK s := by
  intro k
  induction k with
  | nil => intro st s h e; cases e; exact h
  | cons x k ih =>
    intro st s h e
    have e2 : (match stp lt x st with | none => none | some s => exC lt k s) = some s := e
    cases e3 : stp lt x st with
    | none => rw [e3] at e2; cases e2
    | some s2 => rw [e3] at e2; exact ih (stp_ok h e3) e2
theorem fnd1_ok {lt : Int → Int} {lab v : Int} {c : Int × List Int} (e : fnd1 lt lab c = some v) : -10000000 ≤ v ∧ v ≤ 10000000 := by
  unfold fnd1 at e
  split at e
  · cases e2 : exC lt c.2 [] with
    | none => rw [e2] at e; cases e
    | some s =>
      rw [e2] at e
      cases s with
      | nil => cases e
      | cons y ys =>
        have e4 : y = v := Option.some.inj e
        have := exC_ok (st := []) (fun x hx => by cases hx) e2 y (List.mem_cons_self)
        omega
  · cases e
theorem fndL_ok {lt : Int → Int} {lab v : Int} : ∀ {cs : List (Int × List Int)}, fndL lt lab cs = some v → -10000000 ≤ v ∧ v ≤ 10000000 := by
  intro cs
  induction cs with
  | nil => intro e; cases e
  | cons c cs ih =>
    intro e
    have e2 : (match fnd1 lt lab c with | some v => some v | none => fndL lt lab cs) = some v := e
    cases e3 : fnd1 lt lab c with
    | none => rw [e3] at e2; exact ih e2
    | some v2 => rw [e3] at e2; cases e2; exact fnd1_ok e3
theorem wth_ok {cs : Int → List (Int × List Int)} {lt : Int → Int} {p lab : Int} : -10000000 ≤ wth cs lt p lab ∧ wth cs lt p lab ≤ 10000000 := by
  unfold wth
  split
  · omega
  · cases e : fndL lt lab (cs p) with
    | none => exact ⟨by decide, by decide⟩
    | some v => exact fndL_ok e
theorem wS_ok {h : AH} {cs : Int → List (Int × List Int)} {s q lab : Int} : -10000000 ≤ wS h cs s q lab ∧ wS h cs s q lab ≤ 10000000 := wth_ok
/-- the last paper of a shipment -/
def pap (h : AH) (s q : Int) (n : Int) : Int := laF (h 156) (h 158) (h 157) s q (-1) n
/-- a shipment's state but for its quota; OW: what is own, web by web -/
def fS (h : AH) (cs : Int → List (Int × List Int)) (OW : Int → Int) (s q : Int) : Int :=
  if h 153 s = -1 then 0
  else if h 129 (h 150 s) = h 152 s ∨ isM h (h 129 (h 150 s)) (h 153 s) (h 155 s) q ≠ 1 ∨ isM h (h 152 s) (h 153 s) (h 155 s) q ≠ 1 then 2
  else if OW (100 * h 153 s + h 150 s) = 0 then 3
  else if wS h cs s q 115 < h 154 s then 4
  else if pap h s q (h 116 66) = -1 ∨ h 155 s + wS h cs s q 103 < pap h s q (h 116 66) then 5 else 1
abbrev lik (h : AH) (s o : Int) : Prop := h 152 s = h 152 o ∧ h 153 s = h 153 o ∧ h 130 (h 150 s) = h 130 (h 150 o) ∧ idiv (h 155 s) 360 = idiv (h 155 o) 360
