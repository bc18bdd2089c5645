/-! ===== the class's reader: clauses, the whole text (written by wip/whole/p43.py) ===== -/
theorem SL_patch {R : Int → Int} {s s2 lb : Int} {K k : List Int} (hs : s = (K.length : Int)) (h : SL R s2 (K ++ lb :: 0 :: k)) : SL (fset R (s + 1) s2) s2 (K ++ lb :: s2 :: k) := by
  obtain ⟨h1, h2⟩ := h
  subst hs
  refine ⟨?_, fun i hi => ?_⟩
  · rw [h1]; simp only [List.length_append, List.length_cons]
  · simp only [List.length_append, List.length_cons] at hi h2
    by_cases e : i = K.length + 1
    · subst e
      rw [show (((K.length + 1 : Nat) : Int)) = (K.length : Int) + 1 by omega, fset_same, getD_r (by omega), show K.length + 1 - K.length = 1 by omega]
      rfl
    · rw [fset_ne (by omega), h2 i hi]
      by_cases e2 : i < K.length
      · rw [getD_l e2, getD_l e2]
      · rw [getD_r (by omega), getD_r (by omega)]
        obtain ⟨m, hm⟩ : ∃ m, i - K.length = m := ⟨_, rfl⟩
        rw [hm]
        rcases m with _ | _ | m
        · rfl
        · omega
        · rfl
/-- the steps of clauses, from place s on -/
def flCl : List (Int × List Int) → Int → List Int
  | [], _ => []
  | c :: cs, s => c.1 :: (s + 2 + (c.2.length : Int)) :: (c.2 ++ flCl cs (s + 2 + (c.2.length : Int)))
theorem flCl_app {c : Int × List Int} : ∀ {cs : List (Int × List Int)} {s : Int}, flCl (cs ++ [c]) s = flCl cs s ++ (c.1 :: (s + ((flCl cs s).length : Int) + 2 + (c.2.length : Int)) :: c.2) := by
  intro cs
  induction cs with
  | nil =>
    intro s
    show c.1 :: (s + 2 + (c.2.length : Int)) :: (c.2 ++ []) = [] ++ (c.1 :: (s + (([] : List Int).length : Int) + 2 + (c.2.length : Int)) :: c.2)
    rw [List.append_nil, List.nil_append]
    simp only [List.length_nil]
    rw [show s + ((0 : Nat) : Int) + 2 = s + 2 by omega]
  | cons x cs ih =>
    intro s
    show x.1 :: (s + 2 + (x.2.length : Int)) :: (x.2 ++ flCl (cs ++ [c]) (s + 2 + (x.2.length : Int))) = _
    rw [ih]
    have e : s + (((x.1 :: (s + 2 + (x.2.length : Int)) :: (x.2 ++ flCl cs (s + 2 + (x.2.length : Int))) : List Int)).length : Int) + 2 + (c.2.length : Int) = (s + 2 + (x.2.length : Int)) + ((flCl cs (s + 2 + (x.2.length : Int))).length : Int) + 2 + (c.2.length : Int) := by
      simp only [List.length_cons, List.length_append]
      omega
    show _ = (x.1 :: (s + 2 + (x.2.length : Int)) :: (x.2 ++ flCl cs (s + 2 + (x.2.length : Int)))) ++ (c.1 :: (s + (((x.1 :: (s + 2 + (x.2.length : Int)) :: (x.2 ++ flCl cs (s + 2 + (x.2.length : Int))) : List Int)).length : Int) + 2 + (c.2.length : Int)) :: c.2)
    rw [e]
    simp only [List.cons_append, List.append_assoc]
theorem s_cput2 {l : Launch} {G : GG} {d : Nat} {h : AH} {Q : Option AV → List Kd → AH → Prop} {R : Int → Int} {a s : Int} (hd : 1 ≤ d) (h0 : 0 ≤ s) (q1 : s < 200 → Q none K0 (cps h (fset R s 0) a (-1) (s + 1))) (q2 : 200 ≤ s → Q none K0 (cps h R a (-1) s)) : Sp l G mX7_put d 0 0 K0 [(2, 1), (0, 0)] (cps h R a (-1) s) Q := by
  by_cases q : s < 200
  · exact s_cput hd h0 q (q1 q)
  · have q3 := q2 (by omega)
    refine sp_of (L := [(2, 1), (0, 0)]) pl_X7 (Nat.le_of_ble_eq_true rfl) (tg_c (by decide) (tg_c (by decide) tg_0)) rfl ?_
    refine v_aload_n dX7_put_0 rfl ?_
    refine v_getv (ci := 7) (j := 5) (ji := 5) (tg := 0) dX7_put_1 k_139 (by decide) kk_1 (by decide) rfl rfl (by decide) (cps_r5) ?_
    refine v_sipush dX7_put_4 (c32 rfl) (by decide) ?_
    refine v_icmp_ge_t (tgt := 30) dX7_put_7 (by decide) (by omega) ?_
    refine v_vret dX7_put_30 rfl (Nat.le_refl _) (Nat.le_refl _) ?_
    exact q3

theorem isLab_in {c : Int} (h : isLab c = true) : 97 ≤ c ∧ c ≤ 122 := by
  unfold isLab at h
  simp only [Bool.or_eq_true, beq_iff_eq] at h
  omega

theorem SL_flat {R : Int → Int} {s lb : Int} {k : List Int} {cs : List (Int × List Int)} (h : SL R s (flCl cs 0 ++ lb :: s :: k)) : SL R s (flCl (cs ++ [(lb, k)]) 0) := by
  have e : s = 0 + ((flCl cs 0).length : Int) + 2 + (k.length : Int) := by
    have := h.1
    simp only [List.length_append, List.length_cons] at this
    omega
  rw [flCl_app]
  show SL R s (flCl cs 0 ++ (lb :: (0 + ((flCl cs 0).length : Int) + 2 + (k.length : Int)) :: k))
  rw [← e]
  exact h
/-- what a reading leaves: its fault; without one the clauses' steps -/
def RdE (x : Int ⊕ List (Int × List Int)) (f : Int) (R : Int → Int) (s : Int) : Prop := match x with
  | .inl e => f = e ∧ 0 ≤ e
  | .inr cs => f = -1 ∧ SL R s (flCl cs 0)
theorem RdE_f {x : Int ⊕ List (Int × List Int)} {f : Int} {R : Int → Int} {s : Int} (h : RdE x f R s) : f = match x with | .inl e => e | .inr _ => -1 := by
  cases x with
  | inl e => exact h.1
  | inr cs => exact h.1

theorem cps_mk {h : AH} : hset (hset (hset h 1 2 0) 1 3 (-1)) 1 5 0 = cps h (h 3) 0 (-1) 0 := by
  unfold cps
  rw [show h 3 = (hset (hset (hset h 1 2 0) 1 3 (-1)) 1 5 0) 3 from by rw [hset_r (by decide), hset_r (by decide), hset_r (by decide)], ov1_mk]
/-- the tape's reading is scratch -/
theorem cps_cst {h : AH} {R : Int → Int} {a f s : Int} : cps h R a f s = cst h (cps h R a f s) := by
  funext c j
  unfold cst
  split
  · rfl
  · rename_i q
    have q3 : c ≠ 3 := fun z => q (Or.inl (Or.inl z))
    by_cases e : c = 1
    · subst e
      exact cps_j ⟨fun z => q (Or.inr (Or.inl ⟨rfl, Or.inl z⟩)), fun z => q (Or.inr (Or.inl ⟨rfl, Or.inr (Or.inl z)⟩)), fun z => q (Or.inr (Or.inl ⟨rfl, Or.inr (Or.inr z)⟩))⟩
    · exact cps_c ⟨e, q3⟩

