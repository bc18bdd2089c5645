/-! ===== rows of rows made at once: the rule for V ===== -/
theorem mg_X {a b i : Nat} {k : Kd} (h : ((.inr (.array .int, a) :: List.replicate a (.inr (.int, b)) : List Kd))[i]? = some k) : (i = 0 ∧ k = .inr (.array .int, a)) ∨ ∃ j, i = j + 1 ∧ j < a ∧ k = .inr (.int, b) := by
  cases i with
  | zero => exact Or.inl ⟨rfl, (Option.some.inj h).symm⟩
  | succ j =>
    rw [List.getElem?_cons_succ, List.getElem?_replicate] at h
    by_cases c : j < a
    · rw [if_pos c] at h
      exact Or.inr ⟨j, rfl, c, (Option.some.inj h).symm⟩
    · rw [if_neg c] at h
      cases h
theorem VS.locs {G : GG} {M : MI} {K : List Kd} {L st : List AV} {h : AH} {p : Program} {s : State} {m : MethodId} {args : Array Value} {meth : Method} {c : Code} {adr0 adr : Nat → Nat} {n0 : Nat} {H : Heap} {locs Ls : List Loc} {ls : Array Slot}
    (S : VS G M K L st h p s m args meth c adr0 adr n0 H locs ls) (hl : ∀ z ∈ Ls, AA adr0 n0 s.heap.size z.base) : VS G M K L st h p s m args meth c adr0 adr n0 H (locs ++ Ls) ls := by
  obtain ⟨S1, S2, S3, S4, S5, S6⟩ := S
  refine ⟨S1, S2, ⟨S3.1, S3.2.1, ⟨S3.2.2.1.1, S3.2.2.1.2.1, fun z hz => ?_⟩, S3.2.2.2⟩, S4, S5, S6⟩
  rcases List.mem_append.mp hz with q | q
  · exact S3.2.2.1.2.2 z q
  · exact hl z q
section MRULE
variable {l : Launch} {G : GG} {M : MI} {d mc ms n1 n2 : Nat} {K : List Kd} {pc : Nat} {L st : List AV} {h : AH} {Q : Option AV → List Kd → AH → Prop}
theorem v_multi {idx a b : Nat} (hdg : decode M.2.1 pc = .ok (.multianewarray idx 2, 4)) (hw : Cond.classLink M.1.cls idx "[[I" ∈ Tb) (ha : ¬ Int32.ofInt (a : Int) < 0 ∧ (Int32.ofInt (a : Int)).toNatClampNeg = a) (hb : ¬ Int32.ofInt (b : Int) < 0 ∧ (Int32.ofInt (b : Int)).toNatClampNeg = b) (ha2 : a ≤ 1000) (hb2 : b ≤ 1000)
    (hz0 : ∀ j : Nat, j < a → h (K.length : Int) (j : Int) = (K.length : Int) + 1 + j) (hz1 : ∀ i : Nat, i < a → ∀ j : Nat, j < b → h ((K.length + (i + 1) : Nat) : Int) (j : Int) = 0)
    (hr : K ++ (.inr (.array .int, a) :: List.replicate a (.inr (.int, b))) = K0 → RefOK h) (h1 : n1 + (1 + a) ≤ mc) (h2 : n2 + (a + a * b) ≤ ms)
    (k : V l G M d mc ms (n1 + 1 + a) (n2 + a + a * b) (K ++ (.inr (.array .int, a) :: List.replicate a (.inr (.int, b)))) (pc + 4) L ((2, (K.length : Int)) :: st) h Q) : V l G M d mc ms n1 n2 K pc L ((0, (b : Int)) :: (0, (a : Int)) :: st) h Q := by
  intro p e s m args below meth c adr0 adr n0 H locs ls S
  have S0 := S
  obtain ⟨S1, S2, S3, S4, S5, S6⟩ := S
  obtain ⟨hx, hb9, h3, h4, h5, h6, h7, h8, h9⟩ := id S1
  have hts : ∀ w ∈ Tb, w.before args s = true := fun w hw => h8 w (List.mem_cons_of_mem _ hw)
  have hst5 : ∀ v ∈ st, oka K.length v := (al_c.mp (al_c.mp S5).2).2
  have hlen : (K ++ (.inr (.array .int, a) :: List.replicate a (.inr (.int, b)) : List Kd)).length = K.length + (a + 1) := by rw [List.length_append, List.length_cons, List.length_replicate]
  refine mg_W hx hb9 h6 (hts _ hw) (aov_of h9.2.2.2.2.2.2.2.2.2.2) (hts _ karr_int) rfl (n := Int32.ofInt (a : Int)) (k := Int32.ofInt (b : Int)) (rest := st.map (ra adr)) rfl ha hb hdg (by omega) (by show b * 4 ≤ _; omega) (by omega) h1 h2 (fun H' cO cI Ls g1 g2 g3 g4 g5 g6 g7 => ?_)
  have eO : cO = G.2.1 (.array .int) := Option.some.inj (g1.symm.trans (h9.2.1 (.array .int) (by simp)).2)
  have eI : cI = G.2.1 .int := Option.some.inj (g2.symm.trans (h9.2.1 .int (by simp)).2)
  have R : Rel G (adx adr K.length H.size) (K ++ (.inr (.array .int, a) :: List.replicate a (.inr (.int, b)))) h H' := by
    refine S2.apps g6 (fun i k' hi => ?_) (fun i k' j hi hj => ?_) hr
    · rcases mg_X hi with ⟨rfl, rfl⟩ | ⟨i', rfl, hi', rfl⟩
      · show H'[H.size + 0]? = some (arrV (G.2.1 (.array .int)) a (fun j => rv (adx adr K.length H.size) (.array .int) (h ((K.length + 0 : Nat) : Int) j)))
        rw [Nat.add_zero, Nat.add_zero, g3, mgO_v, eO]
        refine congrArg some (arrV_x fun j hj => ?_)
        rw [if_pos hj, hz0 j hj]
        show _ = (if (K.length : Int) + 1 + j < 0 then Value.null else .ref (adx adr K.length H.size ((K.length : Int) + 1 + j).toNat))
        rw [if_neg (by omega), show ((K.length : Int) + 1 + j).toNat = K.length + (1 + j) by omega, adx_n (by omega), show K.length + (1 + j) - K.length = 1 + j by omega, Nat.add_assoc]
      · show H'[H.size + (i' + 1)]? = some (arrV (G.2.1 .int) b (fun j => rv (adx adr K.length H.size) .int (h ((K.length + (i' + 1) : Nat) : Int) j)))
        rw [show H.size + (i' + 1) = H.size + 1 + i' by omega, g4 i' hi', eI]
        show some (mgR (G.2.1 .int) b) = _
        unfold mgR
        rw [arrV_new]
        refine congrArg some (arrV_x fun j hj => ?_)
        rw [hz1 i' hi' j hj]
        rfl
    · rw [hlen]
      rcases mg_X hi with ⟨rfl, rfl⟩ | ⟨i', rfl, hi', rfl⟩
      · show h ((K.length + 0 : Nat) : Int) (j : Int) < ((K.length + (a + 1) : Nat) : Int)
        have hj2 : j < a := hj
        rw [Nat.add_zero, hz0 j hj2]
        omega
      · have hj2 : j < b := hj
        rw [hz1 i' hi' j hj2]
        show ok32 0
        unfold ok32
        omega
  have e1 : ((2, (K.length : Int)) :: st).map (ra (adx adr K.length H.size)) = .ref H.size :: st.map (ra adr) := by
    rw [List.map_cons, ra_map (fun i hi => adx_o hi) hst5]
    show Value.ref (adx adr K.length H.size (K.length : Int).toNat) :: _ = _
    rw [Int.toNat_natCast, adx_n (Nat.lt_irrefl _), Nat.sub_self, Nat.add_zero]
  have kk := k p e s m args below meth c adr0 (adx adr K.length H.size) n0 H' (locs ++ Ls) ls ((S0.apps (by omega) g6 R (al_c.mpr ⟨oka2 (by omega) (by rw [hlen]; omega), fun v hv => (hst5 v hv).mono (by rw [hlen]; omega)⟩)).locs (fun z hz => Or.inr (by rw [g7 z hz]; exact S3.2.2.1.1)))
  rw [e1] at kk
  exact kk
end MRULE
