/-! ===== making cells: the rules for new, newarray, the constructor of Object ===== -/
def adx (adr : Nat → Nat) (n z : Nat) : Nat → Nat := fun i => if i < n then adr i else z + (i - n)
theorem adx_o {adr : Nat → Nat} {n z i : Nat} (h : i < n) : adx adr n z i = adr i := if_pos h
theorem adx_n {adr : Nat → Nat} {n z i : Nat} (h : ¬ i < n) : adx adr n z i = z + (i - n) := if_neg h
theorem rv_adr {adr adr' : Nat → Nat} {n : Nat} {t : FieldType} {x : Int} (o : okt n t x) (ha : ∀ i, i < n → adr' i = adr i) : rv adr' t x = rv adr t x := by
  cases t with
  | object c =>
    show (if x < 0 then Value.null else .ref (adr' x.toNat)) = (if x < 0 then Value.null else .ref (adr x.toNat))
    by_cases q : x < 0
    · rw [if_pos q, if_pos q]
    · have o2 : x < (n : Int) := o
      rw [if_neg q, if_neg q, ha x.toNat (by omega)]
  | array c =>
    show (if x < 0 then Value.null else .ref (adr' x.toNat)) = (if x < 0 then Value.null else .ref (adr x.toNat))
    by_cases q : x < 0
    · rw [if_pos q, if_pos q]
    · have o2 : x < (n : Int) := o
      rw [if_neg q, if_neg q, ha x.toNat (by omega)]
  | _ => rfl
theorem okt_mono {n n' : Nat} {t : FieldType} {x : Int} (h : n ≤ n') (o : okt n t x) : okt n' t x := by
  cases t with
  | object c => have o2 : x < (n : Int) := o; show x < (n' : Int); omega
  | array c => have o2 : x < (n : Int) := o; show x < (n' : Int); omega
  | _ => exact o
theorem arrV_x {c : ClassId} {n : Nat} {f g : Nat → Value} (h : ∀ j, j < n → f j = g j) : arrV c n f = arrV c n g := by
  have e : (fun j : Fin n => f j.val) = fun j => g j.val := funext fun j => h j.val j.isLt
  unfold arrV
  rw [e]
theorem cellOK.adr {G : GG} {adr adr' : Nat → Nat} {k : Kd} {f : Nat → Int} {a n : Nat} {H : Heap} (h : cellOK G adr k f a H) (hf : ∀ j, j < ksz k → okt n (kty k j) (f j)) (ha : ∀ i, i < n → adr' i = adr i) : cellOK G adr' k f a H := by
  cases k with
  | inl ci => exact ⟨h.1, h.2.to (fun j hj => (rv_adr (hf j hj) ha).symm)⟩
  | inr x =>
    show H[a]? = some (arrV (G.2.1 x.1) x.2 (fun j => rv adr' x.1 (f j)))
    have e : arrV (G.2.1 x.1) x.2 (fun j => rv adr' x.1 (f j)) = arrV (G.2.1 x.1) x.2 (fun j => rv adr x.1 (f j)) := arrV_x fun j hj => rv_adr (hf j hj) ha
    rw [e]
    exact h
theorem Rel.gsz {G : GG} {adr : Nat → Nat} {K : List Kd} {h : AH} {H : Heap} (R : Rel G adr K h H) : G.2.2.1.size ≤ H.size := by
  by_cases c : G.2.2.1.size ≤ H.size
  · exact c
  · have q := R.1 H.size (by omega)
    rw [Array.getElem?_eq_none (Nat.le_refl _), Array.getElem?_eq_getElem (by omega)] at q
    cases q
theorem Rel.apps {G : GG} {adr : Nat → Nat} {K X : List Kd} {h : AH} {H H1 : Heap} (R : Rel G adr K h H) (ho : ∀ q : Nat, q < H.size → H1[q]? = H[q]?)
    (hc : ∀ (i : Nat) (k : Kd), X[i]? = some k → cellOK G (adx adr K.length H.size) k (fun j => h ((K.length + i : Nat) : Int) j) (H.size + i) H1)
    (hok : ∀ (i : Nat) (k : Kd) (j : Nat), X[i]? = some k → j < ksz k → okt (K ++ X).length (kty k j) (h ((K.length + i : Nat) : Int) j)) (hr : K ++ X = K0 → RefOK h) : Rel G (adx adr K.length H.size) (K ++ X) h H1 := by
  have hG := R.gsz
  obtain ⟨R1, R2, R3, R4, R5, R6⟩ := R
  have hlt : ∀ i, i < K.length → adr i < H.size := fun i hi => (R2 i K[i] (List.getElem?_eq_getElem hi)).lt
  refine ⟨fun q hq => (ho q (Nat.lt_of_lt_of_le hq hG)).trans (R1 q hq), fun i k hi => ?_, fun i hi => ?_, fun i j hi hj e => ?_, fun i k j hi hj => ?_, hr⟩
  · by_cases c : i < K.length
    · rw [List.getElem?_append_left c] at hi
      rw [adx_o c]
      exact ((R2 i k hi).kept (ho (adr i) (hlt i c))).adr (fun j hj => R5 i k j hi hj) (fun i hi => adx_o hi)
    · rw [List.getElem?_append_right (by omega)] at hi
      have h1 := hc (i - K.length) k hi
      rw [show K.length + (i - K.length) = i by omega] at h1
      rw [adx_n c]
      exact h1
  · by_cases c : i < K.length
    · rw [adx_o c]; exact R3 i c
    · rw [adx_n c]; omega
  · by_cases c : i < K.length
    · rw [adx_o c] at e
      by_cases c2 : j < K.length
      · rw [adx_o c2] at e; exact R4 i j c c2 e
      · rw [adx_n c2] at e; have := hlt i c; omega
    · rw [adx_n c] at e
      by_cases c2 : j < K.length
      · rw [adx_o c2] at e; have := hlt j c2; omega
      · rw [adx_n c2] at e; omega
  · by_cases c : i < K.length
    · rw [List.getElem?_append_left c] at hi
      exact okt_mono (by rw [List.length_append]; omega) (R5 i k j hi hj)
    · rw [List.getElem?_append_right (by omega)] at hi
      have h1 := hok (i - K.length) k j hi hj
      rw [show K.length + (i - K.length) = i by omega] at h1
      exact h1
theorem VS.apps {G : GG} {M : MI} {K X : List Kd} {L st st2 : List AV} {h : AH} {p : Program} {s : State} {m : MethodId} {args : Array Value} {meth : Method} {c : Code} {adr0 adr : Nat → Nat} {n0 : Nat} {H H1 : Heap} {locs : List Loc} {ls : Array Slot}
    (S : VS G M K L st h p s m args meth c adr0 adr n0 H locs ls) (hz : H.size ≤ H1.size) (ho : ∀ q : Nat, q < H.size → H1[q]? = H[q]?) (R : Rel G (adx adr K.length H.size) (K ++ X) h H1) (hst : ∀ v ∈ st2, oka (K ++ X).length v) : VS G M (K ++ X) L st2 h p s m args meth c adr0 (adx adr K.length H.size) n0 H1 locs ls := by
  obtain ⟨S1, S2, S3, S4, S5, S6⟩ := S
  have hl : K.length ≤ (K ++ X).length := by rw [List.length_append]; omega
  refine ⟨S1, R, ⟨fun i hi => (adx_o (Nat.lt_of_lt_of_le hi S3.2.1)).trans (S3.1 i hi), Nat.le_trans S3.2.1 hl, ⟨Nat.le_trans S3.2.2.1.1 hz, fun q h1 h2 => (ho q (Nat.lt_of_lt_of_le h1 S3.2.2.1.1)).trans (S3.2.2.1.2.1 q h1 h2), S3.2.2.1.2.2⟩, fun i hi => ?_⟩, fun v hv => (S4 v hv).mono hl, hst, ?_⟩
  · by_cases c : i < K.length
    · rw [adx_o c]; exact S3.2.2.2 i c
    · rw [adx_n c]; exact Or.inr (by have := S3.2.2.1.1; omega)
  · rw [rl_eq (fun i hi => adx_o hi) 0 S4]
    exact S6
/-- what a new cell holds -/
def dfl : FieldType → Int
  | .object _ => -1
  | .array _ => -1
  | _ => 0
def gdT : FieldType → Bool
  | .int => true
  | .long => true
  | .byte => true
  | .boolean => true
  | .object _ => true
  | .array _ => true
  | _ => false
theorem rv_dfl {adr : Nat → Nat} {t : FieldType} (h : gdT t = true) : rv adr t (dfl t) = defaultValue t := by
  cases t <;> first | rfl | (exact absurd h (by decide))
theorem okt_dfl {n : Nat} {t : FieldType} (h : gdT t = true) : okt n t (dfl t) := by
  cases t <;> first | (exact absurd h (by decide)) | (simp only [okt, dfl, ok32, ok64]; omega)
section ARULES
variable {l : Launch} {G : GG} {M : MI} {d mc ms n1 n2 : Nat} {K : List Kd} {pc : Nat} {L st : List AV} {h : AH} {Q : Option AV → List Kd → AH → Prop}
theorem v_newarr {atype : ArrayType} {t : FieldType} {N : Nat} (hdg : decode M.2.1 pc = .ok (.newarray atype, 2)) (ht : newarray.typeOf atype = t) (hw : Cond.arrayClass t ∈ Tb) (hm : t ∈ ([.int, .long, .byte, .boolean, .array .int] : List FieldType))
    (hra : ∀ (U : State) (c : ClassId), va_RA U c t → U.vm.findClass ("[" ++ t.toString) = some c) (hg : gdT t = true) (hN : N * componentBytes t ≤ 536870912) (hn : ¬ Int32.ofInt (N : Int) < 0 ∧ (Int32.ofInt (N : Int)).toNatClampNeg = N)
    (hz : ∀ j : Nat, j < N → h (K.length : Int) j = dfl t) (hr : K ++ [.inr (t, N)] = K0 → RefOK h) (h1 : n1 + 1 ≤ mc) (h2 : n2 + N ≤ ms)
    (k : V l G M d mc ms (n1 + 1) (n2 + N) (K ++ [.inr (t, N)]) (pc + 2) L ((2, (K.length : Int)) :: st) h Q) : V l G M d mc ms n1 n2 K pc L ((0, (N : Int)) :: st) h Q := by
  intro p e s m args below meth c adr0 adr n0 H locs ls S
  have S0 := S
  obtain ⟨S1, S2, S3, S4, S5, S6⟩ := S
  obtain ⟨hx, hb, h3, h4, h5, h6, h7, h8, h9⟩ := id S1
  subst ht
  refine va_newaK hx hb (h8 _ (List.mem_cons_of_mem _ hw)) rfl hdg (n := Int32.ofInt (N : Int)) (N := N) (rest := st.map (ra adr)) rfl hn.1 hn.2 hN h1 h2 rfl (fun H' cA g1 g2 g3 g4 g5 => ?_)
  have eA : cA = G.2.1 (newarray.typeOf atype) := Option.some.inj (g5.symm.trans (hra s _ (h9.2.1 _ hm).2))
  have hst5 : ∀ v ∈ st, oka K.length v := (al_c.mp S5).2
  have R : Rel G (adx adr K.length H.size) (K ++ [.inr (newarray.typeOf atype, N)]) h H' := by
    refine S2.apps g3 (fun i k' hi => ?_) (fun i k' j hi hj => ?_) hr
    · obtain ⟨rfl, rfl⟩ : i = 0 ∧ k' = .inr (newarray.typeOf atype, N) := by
        cases i with
        | zero => exact ⟨rfl, (Option.some.inj hi).symm⟩
        | succ i => cases hi
      show H'[H.size + 0]? = some _
      rw [Nat.add_zero, g1, eA]
      exact congrArg some (arrV_x fun j hj => by
        rw [Nat.add_zero]
        show _ = rv _ _ (h (K.length : Int) (j : Int))
        rw [hz j hj]
        exact (rv_dfl hg).symm)
    · obtain ⟨rfl, rfl⟩ : i = 0 ∧ k' = .inr (newarray.typeOf atype, N) := by
        cases i with
        | zero => exact ⟨rfl, (Option.some.inj hi).symm⟩
        | succ i => cases hi
      rw [Nat.add_zero, hz j hj]
      exact okt_dfl hg
  have e1 : ((2, (K.length : Int)) :: st).map (ra (adx adr K.length H.size)) = .ref H.size :: st.map (ra adr) := by
    rw [List.map_cons, ra_map (fun i hi => adx_o hi) hst5]
    show Value.ref (adx adr K.length H.size (K.length : Int).toNat) :: _ = _
    rw [Int.toNat_natCast, adx_n (Nat.lt_irrefl _), Nat.sub_self, Nat.add_zero]
  have kk := k p e s m args below meth c adr0 (adx adr K.length H.size) n0 H' locs ls (S0.apps (by omega) g3 R (al_c.mpr ⟨oka2 (by omega) (by rw [List.length_append]; show ((K.length : Nat) : Int) < ((K.length + 1 : Nat) : Int); omega), fun v hv => (hst5 v hv).mono (by rw [List.length_append]; omega)⟩))
  rw [e1] at kk
  exact kk
theorem v_newobj {ci idx : Nat} (hdg : decode M.2.1 pc = .ok (.new idx, 3)) (hci : ci < 13) (hw : Cond.classLink M.1.cls idx (RF ci) ∈ Tb) (hi : Cond.instantiable (RF ci) (NF ci) ∈ Tb) (hini : Cond.initialized (RF ci) ∈ Tb) (hg : ∀ j, j < NF ci → gdT (tyF ci j) = true)
    (hz : ∀ j : Nat, j < NF ci → h (K.length : Int) j = dfl (tyF ci j)) (hr : K ++ [.inl ci] = K0 → RefOK h) (h1 : n1 + 1 ≤ mc) (h2 : n2 + NF ci ≤ ms)
    (k : V l G M d mc ms (n1 + 1) (n2 + NF ci) (K ++ [.inl ci]) (pc + 3) L ((2, (K.length : Int)) :: st) h Q) : V l G M d mc ms n1 n2 K pc L st h Q := by
  intro p e s m args below meth c adr0 adr n0 H locs ls S
  have S0 := S
  obtain ⟨S1, S2, S3, S4, S5, S6⟩ := S
  obtain ⟨hx, hb, h3, h4, h5, h6, h7, h8, h9⟩ := id S1
  have hts : ∀ w ∈ Tb, w.before args s = true := fun w hw => h8 w (List.mem_cons_of_mem _ hw)
  have hKn := h9.1 ci hci
  refine W.newcK hx hb h6 (hts _ hw) (hts _ hi) (hts _ hini) rfl hdg h1 h2 hKn.2.1 rfl (fun H' kC hkC g1 g2 g3 => ?_)
  have R : Rel G (adx adr K.length H.size) (K ++ [.inl ci]) h H' := by
    refine S2.apps g3 (fun i k' hi => ?_) (fun i k' j hi hj => ?_) hr
    · obtain ⟨rfl, rfl⟩ : i = 0 ∧ k' = .inl ci := by
        cases i with
        | zero => exact ⟨rfl, (Option.some.inj hi).symm⟩
        | succ i => cases hi
      refine ⟨hci, ?_⟩
      exact (u_born (tyF ci) hts (inF ci hci) hKn hkC g1 (tyF_ok ci hci)).to (fun j hj => by
        rw [Nat.add_zero]
        show _ = rv _ _ (h (K.length : Int) (j : Int))
        rw [hz j hj]
        exact (rv_dfl (hg j hj)).symm)
    · obtain ⟨rfl, rfl⟩ : i = 0 ∧ k' = .inl ci := by
        cases i with
        | zero => exact ⟨rfl, (Option.some.inj hi).symm⟩
        | succ i => cases hi
      rw [Nat.add_zero, hz j hj]
      exact okt_dfl (hg j hj)
  have e1 : ((2, (K.length : Int)) :: st).map (ra (adx adr K.length H.size)) = .ref H.size :: st.map (ra adr) := by
    rw [List.map_cons, ra_map (fun i hi => adx_o hi) S5]
    show Value.ref (adx adr K.length H.size (K.length : Int).toNat) :: _ = _
    rw [Int.toNat_natCast, adx_n (Nat.lt_irrefl _), Nat.sub_self, Nat.add_zero]
  have kk := k p e s m args below meth c adr0 (adx adr K.length H.size) n0 H' locs ls (S0.apps (by omega) g3 R (al_c.mpr ⟨oka2 (by omega) (by rw [List.length_append]; show ((K.length : Nat) : Int) < ((K.length + 1 : Nat) : Int); omega), fun v hv => (S5 v hv).mono (by rw [List.length_append]; omega)⟩))
  rw [e1] at kk
  exact kk
/-- Object's own constructor -/
theorem kob_i : Cond.instanceMethod Lib.objectInit ∈ Tb := tb_in 123 (by decide +kernel) rfl
theorem kob_c : Cond.code Lib.objectInit ⟨#[0xb1]⟩ 1 none ∈ Tb := tb_in 124 (by decide +kernel) rfl
theorem v_obj {idx : Nat} {c0 : Int} (hdg : decode M.2.1 pc = .ok (.invokespecial idx, 3)) (hw : Cond.methodLink M.1.cls idx Lib.objectInit ∈ Tb) (hd : 1 ≤ d) (hs : csum st ≤ 8) (k : V l G M d mc ms n1 n2 K (pc + 3) L st h Q) : V l G M d mc ms n1 n2 K pc L ((2, c0) :: st) h Q := by
  intro p e s m args below meth c adr0 adr n0 H locs ls S
  obtain ⟨S1, S2, S3, S4, S5, S6⟩ := S
  obtain ⟨hx, hb, h3, h4, h5, h6, h7, h8, h9⟩ := id S1
  have hts : ∀ w ∈ Tb, w.before args s = true := fun w hw => h8 w (List.mem_cons_of_mem _ hw)
  refine W.objInit hx hb h6 (hts _ hw) (hts _ kob_i) (hts _ kob_c) rfl (by rw [h5]; exact S6.1) rfl hdg hd (by show 2 * 0 + ((st.map (ra adr)).map fun v => v.category).sum + 12 ≤ 64 * d; rw [cat_sum]; unfold csum at hs; omega) ?_
  exact k p e s m args below meth c adr0 adr n0 H locs ls ⟨S1, S2, S3, S4, (al_c.mp S5).2, S6⟩
end ARULES
