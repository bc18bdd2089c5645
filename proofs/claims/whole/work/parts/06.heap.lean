/-! ===== rules for V that read and write cells ===== -/
theorem Rel.at {G : GG} {adr : Nat → Nat} {K : List Kd} {h : AH} {H : Heap} (R : Rel G adr K h H) {c : Int} {k : Kd} (hc : 0 ≤ c) (hk : K[c.toNat]? = some k) : cellOK G adr k (fun j => h c j) (adr c.toNat) H := by
  have := R.2.1 c.toNat k hk
  rw [Int.toNat_of_nonneg hc] at this
  exact this
theorem Rel.rng {G : GG} {adr : Nat → Nat} {K : List Kd} {h : AH} {H : Heap} (R : Rel G adr K h H) {c j : Int} {k : Kd} (hc : 0 ≤ c) (hk : K[c.toNat]? = some k) (hj : 0 ≤ j) (hj2 : j < (ksz k : Nat)) : okt K.length (kty k j.toNat) (h c j) := by
  have := R.2.2.2.2.1 c.toNat k j.toNat hk (by omega)
  rw [Int.toNat_of_nonneg hc, Int.toNat_of_nonneg hj] at this
  exact this
theorem klt {K : List Kd} {c : Int} {k : Kd} (hc : 0 ≤ c) (hk : K[c.toNat]? = some k) : c < (K.length : Int) := by
  have := (List.getElem?_eq_some_iff.mp hk).1
  omega
def noRef : FieldType → Bool
  | .object _ => false
  | .array _ => false
  | _ => true
theorem rtl_kinds : (RTL.all fun q => match K0[q.1.toNat]? with | some k => !(noRef (kty k q.2.1.toNat)) && decide (0 ≤ q.1) | none => false) = true := by decide +kernel
theorem rbl_kinds : (RBL.all fun q => match K0[q.1.toNat]? with | some k => !(noRef (kty k 0)) && decide (0 ≤ q.1) && decide (q.1 ≠ 0) && (match k with | .inl _ => false | .inr _ => true) | none => false) = true := by decide +kernel
/-- a number is written: the refs stay -/
theorem refOK_num {c j x : Int} {k : Kd} {h : AH} (hk : K0[c.toNat]? = some k) (hp : noRef (kty k j.toNat) = true) (hl : c = 126 → -10000000 ≤ x ∧ x ≤ 10000000) (r : RefOK h) : RefOK (hset h c j x) := by
  refine ⟨fun q hq => ?_, fun q hq i h0 h1 => ?_, fun i i0 i1 => ?_⟩
  · have h2 := List.all_eq_true.mp rtl_kinds q hq
    rw [hset_ne h (fun e => ?_)]
    · exact r.1 q hq
    · obtain ⟨e1, e2⟩ := e
      rw [e1, hk, e2] at h2
      simp [hp] at h2
  · have h2 := List.all_eq_true.mp rbl_kinds q hq
    rw [hset_ne h (fun e => ?_)]
    · exact r.2.1 q hq i h0 h1
    · obtain ⟨e1, e2⟩ := e
      rw [e1, hk] at h2
      cases k with
      | inl ci => simp at h2
      | inr a =>
        have h3 : noRef (kty (.inr a) 0) = true := hp
        simp [h3] at h2
  · unfold hset
    by_cases e : (126 : Int) = c ∧ i = j
    · rw [if_pos e]; exact hl e.1.symm
    · rw [if_neg e]; exact r.2.2 i i0 i1
/-- one place of one cell is written -/
theorem Rel.put {G : GG} {adr : Nat → Nat} {K : List Kd} {h : AH} {H H1 : Heap} (R : Rel G adr K h H) {c j x : Int} {k : Kd} (hc : 0 ≤ c) (hk : K[c.toNat]? = some k) (hj : 0 ≤ j)
    (hcell : cellOK G adr k (fun i => hset h c j x c i) (adr c.toNat) H1) (oq : ∀ q : Nat, q ≠ adr c.toNat → H1[q]? = H[q]?) (hx : okt K.length (kty k j.toNat) x) (hr : K = K0 → RefOK h → RefOK (hset h c j x)) : Rel G adr K (hset h c j x) H1 := by
  obtain ⟨R1, R2, R3, R4, R5, R6⟩ := R
  have hcl : c.toNat < K.length := (List.getElem?_eq_some_iff.mp hk).1
  refine ⟨fun q hq => ?_, fun i k' hi => ?_, R3, R4, fun i k' j' hi hj' => ?_, fun e => hr e (R6 e)⟩
  · rw [oq q (fun e => by have := R3 _ hcl; omega)]
    exact R1 q hq
  · by_cases e : i = c.toNat
    · subst e
      have e2 : k = k' := Option.some.inj (hk.symm.trans hi)
      subst e2
      rw [Int.toNat_of_nonneg hc]
      exact hcell
    · have hi2 : i < K.length := (List.getElem?_eq_some_iff.mp hi).1
      have h1 := (R2 i k' hi).kept (oq (adr i) (fun q => e (R4 i _ hi2 hcl q)))
      have e3 : (fun j' : Nat => hset h c j x i j') = fun j' : Nat => h i j' := by
        funext j'
        exact hset_ne h (fun q => e (by omega))
      rw [e3]
      exact h1
  · by_cases e : ((i : Int) = c ∧ (j' : Int) = j)
    · obtain ⟨e1, e2⟩ := e
      have e3 : i = c.toNat := by omega
      subst e3
      have e4 : k = k' := Option.some.inj (hk.symm.trans hi)
      subst e4
      have e5 : j' = j.toNat := by omega
      rw [e5, e1, Int.toNat_of_nonneg hj, hset_same]
      exact hx
    · rw [hset_ne h e]
      exact R5 i k' j' hi hj'
theorem int32_narrow {t : FieldType} (h : t = .int) (x : Int32) : narrow t (.int x) = .int x ∧ fits t (.int x) = true := by subst h; exact ⟨rfl, rfl⟩
section HRULES
variable {l : Launch} {G : GG} {M : MI} {d mc ms n1 n2 : Nat} {K : List Kd} {pc : Nat} {L st : List AV} {h : AH} {Q : Option AV → List Kd → AH → Prop}
theorem rv_num {adr : Nat → Nat} {t : FieldType} {x : Int} {tg : Nat} (h : ptag t = tg) (h2 : tg < 2) : rv adr t x = ra adr (tg, x) := by
  subst h
  cases t <;> first | rfl | (simp [ptag] at h2)
theorem okt_num {n : Nat} {t : FieldType} {x : Int} {tg : Nat} (h : ptag t = tg) (h2 : tg < 2) (hx : okt n t x) : oka n (tg, x) := by
  subst h
  cases t <;> first | (exact oka1 hx) | (simp [ptag] at h2; done) | (refine oka0 ?_; simp only [okt] at hx; first | exact hx | (unfold ok32; omega))
theorem rv_ref {adr : Nat → Nat} {t : FieldType} {x : Int} (h : ptag t = 2) (h0 : 0 ≤ x) : rv adr t x = ra adr (2, x) := by
  have h1 : ¬ x < 0 := by omega
  cases t <;> first | (simp [rv, ra, h1]; done) | (simp [ptag] at h)
theorem okt_ref {n : Nat} {t : FieldType} {x : Int} (h : ptag t = 2) (h0 : 0 ≤ x) (hx : okt n t x) : oka n (2, x) := by
  cases t <;> first | (exact oka2 h0 hx) | (simp [ptag] at h)
/-- getfield, at the machine -/
theorem v_getG {ci j : Nat} {c ji : Int} {v : AV} (hc : 0 ≤ c) (hk : K[c.toNat]? = some (.inl ci)) (hj : j < NF ci) (hji : (j : Int) = ji)
    (hv : ∀ adr : Nat → Nat, (okt K.length (tyF ci j) (h c ji) → oka K.length v) ∧ ((K = K0 → RefOK h) → rv adr (tyF ci j) (h c ji) = ra adr v))
    (hvo : (K = K0 → RefOK h) → okt K.length (tyF ci j) (h c ji) → oka K.length v)
    (hstep : ∀ (p : Program) (e : Env) (s : State) (m : MethodId) (args : Array Value) (below : List Frame) (meth : Method) (c0 : Code) (H : Heap) (locs : List Loc) (ls : Array Slot) (Z : State → Prop) (rest : List Value) (a : Nat) (cell : Cell) (cf i : Nat) (kf : Class) (f : Field) (w : Value), MCtx G M p s m args meth c0 → s.fieldFound? (TF ci j).1 (TF ci j).2.1 (TF ci j).2.2.1 = some (cf, kf, i, f) → f.isStatic = false → H[a]? = some cell → cell.vm ≠ .unknown → cell.slots[f.slot]? = some w →
      W p l e (rmO d mc ms) s m args below meth c0 H locs n1 n2 Z (F0 m (pc + 3) ls (w :: rest)) → W p l e (rmO d mc ms) s m args below meth c0 H locs n1 n2 Z (F0 m pc ls (.ref a :: rest)))
    (k : V l G M d mc ms n1 n2 K (pc + 3) L (v :: st) h Q) : V l G M d mc ms n1 n2 K pc L ((2, c) :: st) h Q := by
  intro p e s m args below meth c0 adr0 adr n0 H locs ls S
  obtain ⟨S1, S2, S3, S4, S5, S6⟩ := S
  obtain ⟨hx, hb, h3, h4, h5, h6, h7, h8, h9⟩ := id S1
  obtain ⟨hci, cell, q1, q2, q3, q4⟩ := S2.at hc hk
  obtain ⟨hS, hfc, kC, hkC, hkind⟩ := h9.1 ci hci
  obtain ⟨cf, kf, fi, f, hi, hsl⟩ := hS j hj
  have hr : okt K.length (tyF ci j) (h c ji) := by
    have := S2.rng hc hk (j := ji) (by omega) (by show ji < ((NF ci : Nat) : Int); omega)
    have e1 : ji.toNat = j := by omega
    rw [e1] at this
    exact this
  refine hstep p e s m args below meth c0 H locs ls _ _ (adr c.toNat) cell cf fi kf f (ra adr v) S1 hi (u_facts hfc hkC (u_lays (fun w hw => h8 w (List.mem_cons_of_mem _ hw)) (inF ci hci) hj) hi).1 q1 (by rw [q3]; exact fun z => by cases z) ?_ ?_
  · rw [hsl, q4 j hj]
    congr 1
    show rv adr (tyF ci j) (h c (j : Int)) = ra adr v
    rw [hji]
    exact (hv adr).2 S2.2.2.2.2.2
  · exact k p e s m args below meth c0 adr0 adr n0 H locs ls ⟨S1, S2, S3, S4, al_c.mpr ⟨hvo S2.2.2.2.2.2 hr, (al_c.mp S5).2⟩, S6⟩
/-- getfield of a number -/
theorem v_get {ci j idx tg : Nat} {c ji : Int} (hdg : decode M.2.1 pc = .ok (.getfield idx, 3)) (hw : Cond.fieldLink M.1.cls idx (TF ci j).1 (TF ci j).2.1 (TF ci j).2.2.1 ∈ Tb) (hc : 0 ≤ c) (hk : K[c.toNat]? = some (.inl ci)) (hj : j < NF ci) (hji : (j : Int) = ji) (ht : ptag (tyF ci j) = tg) (h2 : tg < 2)
    (k : V l G M d mc ms n1 n2 K (pc + 3) L ((tg, h c ji) :: st) h Q) : V l G M d mc ms n1 n2 K pc L ((2, c) :: st) h Q :=
  v_getG hc hk hj hji (fun _ => ⟨fun q => okt_num ht h2 q, fun _ => rv_num ht h2⟩) (fun _ q => okt_num ht h2 q) (fun p e s m args below meth c0 H locs ls Z rest a cell cf i kf f w C hi hst hcell hkn hsl kk => by
    obtain ⟨hx, hb, h3, h4, h5, h6, h7, h8, h9⟩ := C
    exact W.getf hx hb h6 (h8 _ (List.mem_cons_of_mem _ hw)) hi hst hcell hkn hsl rfl rfl hdg kk) k
theorem v_getN {ci j idx tg : Nat} {host : String} {c ji : Int} (hdg : decode M.2.1 pc = .ok (.getfield idx, 3)) (hw : Cond.fieldLinkNest M.1.cls idx (TF ci j).1 (TF ci j).2.1 (TF ci j).2.2.1 host ∈ NWs) (hc : 0 ≤ c) (hk : K[c.toNat]? = some (.inl ci)) (hj : j < NF ci) (hji : (j : Int) = ji) (ht : ptag (tyF ci j) = tg) (h2 : tg < 2)
    (k : V l G M d mc ms n1 n2 K (pc + 3) L ((tg, h c ji) :: st) h Q) : V l G M d mc ms n1 n2 K pc L ((2, c) :: st) h Q :=
  v_getG hc hk hj hji (fun _ => ⟨fun q => okt_num ht h2 q, fun _ => rv_num ht h2⟩) (fun _ q => okt_num ht h2 q) (fun p e s m args below meth c0 H locs ls Z rest a cell cf i kf f w C hi hst hcell hkn hsl kk => by
    obtain ⟨hx, hb, h3, h4, h5, h6, h7, h8, h9⟩ := C
    exact va_Wgetf hx hb h6 (va_Nw.use rfl (h9.2.2.1 _ hw)) hi hst hcell hkn hsl rfl rfl hdg kk) k
/-- getfield of a ref that is known -/
theorem v_getr {ci j idx : Nat} {c ji z : Int} (hdg : decode M.2.1 pc = .ok (.getfield idx, 3)) (hw : Cond.fieldLink M.1.cls idx (TF ci j).1 (TF ci j).2.1 (TF ci j).2.2.1 ∈ Tb) (hc : 0 ≤ c) (hk : K[c.toNat]? = some (.inl ci)) (hj : j < NF ci) (hji : (j : Int) = ji) (ht : ptag (tyF ci j) = 2) (hz : (K = K0 → RefOK h) → h c ji = z) (h0 : 0 ≤ z)
    (k : V l G M d mc ms n1 n2 K (pc + 3) L ((2, z) :: st) h Q) : V l G M d mc ms n1 n2 K pc L ((2, c) :: st) h Q := by
  refine v_heap fun _ r => ?_
  have e := hz r
  exact v_getG hc hk hj hji (fun _ => ⟨fun q => by rw [e] at q; exact okt_ref ht h0 q, fun _ => by rw [e]; exact rv_ref ht h0⟩) (fun _ q => by rw [e] at q; exact okt_ref ht h0 q) (fun p e s m args below meth c0 H locs ls Z rest a cell cf i kf f w C hi hst hcell hkn hsl kk => by
    obtain ⟨hx, hb, h3, h4, h5, h6, h7, h8, h9⟩ := C
    exact W.getf hx hb h6 (h8 _ (List.mem_cons_of_mem _ hw)) hi hst hcell hkn hsl rfl rfl hdg kk) k
theorem v_getrN {ci j idx : Nat} {host : String} {c ji z : Int} (hdg : decode M.2.1 pc = .ok (.getfield idx, 3)) (hw : Cond.fieldLinkNest M.1.cls idx (TF ci j).1 (TF ci j).2.1 (TF ci j).2.2.1 host ∈ NWs) (hc : 0 ≤ c) (hk : K[c.toNat]? = some (.inl ci)) (hj : j < NF ci) (hji : (j : Int) = ji) (ht : ptag (tyF ci j) = 2) (hz : (K = K0 → RefOK h) → h c ji = z) (h0 : 0 ≤ z)
    (k : V l G M d mc ms n1 n2 K (pc + 3) L ((2, z) :: st) h Q) : V l G M d mc ms n1 n2 K pc L ((2, c) :: st) h Q := by
  refine v_heap fun _ r => ?_
  have e := hz r
  exact v_getG hc hk hj hji (fun _ => ⟨fun q => by rw [e] at q; exact okt_ref ht h0 q, fun _ => by rw [e]; exact rv_ref ht h0⟩) (fun _ q => by rw [e] at q; exact okt_ref ht h0 q) (fun p e s m args below meth c0 H locs ls Z rest a cell cf i kf f w C hi hst hcell hkn hsl kk => by
    obtain ⟨hx, hb, h3, h4, h5, h6, h7, h8, h9⟩ := C
    exact va_Wgetf hx hb h6 (va_Nw.use rfl (h9.2.2.1 _ hw)) hi hst hcell hkn hsl rfl rfl hdg kk) k
def putOK : FieldType → Bool
  | .int => true
  | .long => true
  | .boolean => true
  | .object _ => true
  | .array _ => true
  | _ => false
theorem rv_put {adr : Nat → Nat} {n : Nat} {t : FieldType} {x : Int} (hp : putOK t = true) (hx : okt n t x) : narrow t (rv adr t x) = rv adr t x ∧ fits t (rv adr t x) = true := by
  cases t with
  | int => exact ⟨rfl, rfl⟩
  | long => exact ⟨rfl, rfl⟩
  | boolean =>
    have h1 : x = 0 ∨ x = 1 := by simp only [okt] at hx; omega
    rcases h1 with rfl | rfl <;> exact ⟨rfl, rfl⟩
  | object c =>
    by_cases h : x < 0
    · simp only [rv, if_pos h]; exact ⟨rfl, rfl⟩
    · simp only [rv, if_neg h]; exact ⟨rfl, rfl⟩
  | array c =>
    by_cases h : x < 0
    · simp only [rv, if_pos h]; exact ⟨rfl, rfl⟩
    · simp only [rv, if_neg h]; exact ⟨rfl, rfl⟩
  | _ => simp [putOK] at hp
theorem v_putG {ci j idx : Nat} {c ji x : Int} {v : AV} (hdg : decode M.2.1 pc = .ok (.putfield idx, 3)) (hw : Cond.fieldLink M.1.cls idx (TF ci j).1 (TF ci j).2.1 (TF ci j).2.2.1 ∈ Tb) (hc : 0 ≤ c) (hk : K[c.toNat]? = some (.inl ci)) (hj : j < NF ci) (hji : (j : Int) = ji) (hp : putOK (tyF ci j) = true)
    (hfin : (TF ci j).2.2.2 = false ∨ ((TF ci j).2.2.2 = true ∧ M.1.name = "<init>" ∧ (TF ci j).1 = M.1.cls))
    (hv : ∀ adr : Nat → Nat, oka K.length v → ra adr v = rv adr (tyF ci j) x ∧ okt K.length (tyF ci j) x) (hr : K = K0 → RefOK h → RefOK (hset h c ji x))
    (k : V l G M d mc ms n1 n2 K (pc + 3) L st (hset h c ji x) Q) : V l G M d mc ms n1 n2 K pc L (v :: (2, c) :: st) h Q := by
  intro p e s m args below meth c0 adr0 adr n0 H locs ls S
  obtain ⟨S1, S2, S3, S4, S5, S6⟩ := S
  obtain ⟨hx, hb, h3, h4, h5, h6, h7, h8, h9⟩ := id S1
  have hts : ∀ w ∈ Tb, w.before args s = true := fun w hw => h8 w (List.mem_cons_of_mem _ hw)
  obtain ⟨hci, hob⟩ := S2.at hc hk
  obtain ⟨cell, q1, q2, q3, q4⟩ := hob
  obtain ⟨hS, hfc, kC, hkC, hkind⟩ := h9.1 ci hci
  obtain ⟨cf, kf, fi, f, hi, hsl⟩ := hS j hj
  obtain ⟨e1, e2⟩ := hv adr (al_c.mp S5).1
  obtain ⟨e3, e4⟩ := rv_put (adr := adr) hp e2
  have hpd := tyF_ok ci hci j hj
  have hst := (u_facts hfc hkC (u_lays hts (inF ci hci) hj) hi).1
  have hap : ∀ a b, a < NF ci → b < NF ci → a ≠ b → G.1.2 ci a ≠ G.1.2 ci b := by
    intro a b ha hb2 hne
    obtain ⟨_, _, _, fa, hia, ea⟩ := hS a ha
    obtain ⟨_, _, _, fb, hib, eb⟩ := hS b hb2
    rw [← ea, ← eb]
    refine u_apart (u_lays hts (inF ci hci) ha) (u_lays hts (inF ci hci) hb2) hia hib ?_
    rw [(State.fieldFound?_type hia (tyF_ok ci hci a ha)).1, (State.fieldFound?_type hib (tyF_ok ci hci b hb2)).1]
    exact nmF ci hci a ha b hb2 hne
  have hcl : c.toNat < K.length := (List.getElem?_eq_some_iff.mp hk).1
  have fin : ∀ H' : Heap, H'[adr c.toNat]? = some (cell.setSlot (G.1.2 ci j) (rv adr (tyF ci j) x)) → H'.size = H.size → (∀ q : Nat, q ≠ adr c.toNat → H'[q]? = H[q]?) →
      VS G M K L st (hset h c ji x) p s m args meth c0 adr0 adr n0 H' (locs ++ [⟨adr c.toNat, G.1.2 ci j⟩]) ls := by
    intro H' g1 g2 g3
    have e2' : okt K.length (kty (.inl ci) ji.toNat) x := by
      show okt K.length (tyF ci ji.toNat) x
      have e9 : ji.toNat = j := by omega
      rw [e9]
      exact e2
    refine ⟨S1, S2.put (j := ji) (x := x) hc hk (by omega) ⟨hci, ?_⟩ g3 e2' hr, ⟨S3.1, S3.2.1, S3.2.2.1.put g2 g3 (S3.2.2.2 _ hcl), S3.2.2.2⟩, S4, (al_c.mp (al_c.mp S5).2).2, S6⟩
    refine t_OB.to (V := updV (fun i => rv adr (tyF ci i) (h c i)) j (rv adr (tyF ci j) x)) ⟨_, g1, q2, q3, t_set q4 hap hj _⟩ (fun i _ => ?_)
    by_cases e9 : i = j
    · subst e9
      simp only [updV, if_true]
      rw [hji, hset_same]
    · simp only [updV, if_neg e9]
      rw [hset_ne h (fun z => e9 (by omega))]
  rw [List.map_cons, List.map_cons, e1]
  rcases hfin with hf | ⟨hf, hin, hdecl⟩
  · have hlay := hts _ (inF ci hci _ (u_in_lay hj))
    unfold u_lay at hlay
    rw [if_neg (by rw [hf]; decide)] at hlay
    have h12 := u_store hfc hkC hkind hlay hi hpd e3 e4
    refine W.putK hx hb (f := f) ⟨h6, h8 _ (List.mem_cons_of_mem _ hw), ⟨_, _, _, hi⟩, hst⟩ (by rw [q2]; exact h12) q1 q3 (by rw [hsl]; exact k2_hasslot (q4 j hj)) rfl rfl hdg fun H' g1 g2 g3 => ?_
    rw [hsl] at g1 ⊢
    exact k p e s m args below meth c0 adr0 adr n0 H' _ ls (fin H' g1 g2 g3)
  · have hlay := hts _ (inF ci hci _ (u_in_lay hj))
    unfold u_lay at hlay
    rw [if_pos hf] at hlay
    have hcf : m.cls = cf := by
      obtain ⟨_, _, c', _, _, _, -, -, hf', -, -, -, hown2, -⟩ := Cond.laysFinal_spec hlay
      have e1 : c' = cf := by have := hi.symm.trans hf'; simp at this; exact this.1.symm
      rw [hdecl] at hown2
      rw [← e1]; exact Option.some.inj (h6.symm.trans hown2)
    have h12 := u_fits hfc hkC hkind (Or.inr hlay) hi hpd e3 e4
    refine W.putFinK hx hb h6 (h8 _ (List.mem_cons_of_mem _ hw)) hi hst hcf (h7.trans hin) (by rw [q2]; exact h12) q1 q3 (by rw [hsl]; exact k2_hasslot (q4 j hj)) rfl rfl hdg fun H' g1 g2 g3 => ?_
    rw [hsl] at g1 ⊢
    exact k p e s m args below meth c0 adr0 adr n0 H' _ ls (fin H' g1 g2 g3)
theorem ref_num {ci j : Nat} {c ji x : Int} (hk : K[c.toNat]? = some (.inl ci)) (hji : (j : Int) = ji) (hp : noRef (tyF ci j) = true) : K = K0 → RefOK h → RefOK (hset h c ji x) := by
  intro e r
  subst e
  refine refOK_num hk ?_ (fun e => by subst e; exact absurd (hk.symm.trans (show K0[(126 : Int).toNat]? = some (.inr (.int, 128)) from by decide +kernel)) (by simp)) r
  show noRef (tyF ci ji.toNat) = true
  have e9 : ji.toNat = j := by omega
  rw [e9]; exact hp
theorem v_puti {ci j idx : Nat} {c ji x : Int} (hdg : decode M.2.1 pc = .ok (.putfield idx, 3)) (hw : Cond.fieldLink M.1.cls idx (TF ci j).1 (TF ci j).2.1 (TF ci j).2.2.1 ∈ Tb) (hc : 0 ≤ c) (hk : K[c.toNat]? = some (.inl ci)) (hj : j < NF ci) (hji : (j : Int) = ji) (ht : tyF ci j = .int) (hfin : (TF ci j).2.2.2 = false)
    (k : V l G M d mc ms n1 n2 K (pc + 3) L st (hset h c ji x) Q) : V l G M d mc ms n1 n2 K pc L ((0, x) :: (2, c) :: st) h Q :=
  v_putG hdg hw hc hk hj hji (by rw [ht]; rfl) (Or.inl hfin) (fun _ o => ⟨by rw [ht]; rfl, by rw [ht]; exact o.1 rfl⟩) (ref_num hk hji (by rw [ht]; rfl)) k
theorem v_putl {ci j idx : Nat} {c ji x : Int} (hdg : decode M.2.1 pc = .ok (.putfield idx, 3)) (hw : Cond.fieldLink M.1.cls idx (TF ci j).1 (TF ci j).2.1 (TF ci j).2.2.1 ∈ Tb) (hc : 0 ≤ c) (hk : K[c.toNat]? = some (.inl ci)) (hj : j < NF ci) (hji : (j : Int) = ji) (ht : tyF ci j = .long) (hfin : (TF ci j).2.2.2 = false)
    (k : V l G M d mc ms n1 n2 K (pc + 3) L st (hset h c ji x) Q) : V l G M d mc ms n1 n2 K pc L ((1, x) :: (2, c) :: st) h Q :=
  v_putG hdg hw hc hk hj hji (by rw [ht]; rfl) (Or.inl hfin) (fun _ o => ⟨by rw [ht]; rfl, by rw [ht]; exact o.2.1 rfl⟩) (ref_num hk hji (by rw [ht]; rfl)) k
theorem v_putz {ci j idx : Nat} {c ji x : Int} (hdg : decode M.2.1 pc = .ok (.putfield idx, 3)) (hw : Cond.fieldLink M.1.cls idx (TF ci j).1 (TF ci j).2.1 (TF ci j).2.2.1 ∈ Tb) (hc : 0 ≤ c) (hk : K[c.toNat]? = some (.inl ci)) (hj : j < NF ci) (hji : (j : Int) = ji) (ht : tyF ci j = .boolean) (hfin : (TF ci j).2.2.2 = false) (hz : 0 ≤ x ∧ x < 2)
    (k : V l G M d mc ms n1 n2 K (pc + 3) L st (hset h c ji x) Q) : V l G M d mc ms n1 n2 K pc L ((0, x) :: (2, c) :: st) h Q :=
  v_putG hdg hw hc hk hj hji (by rw [ht]; rfl) (Or.inl hfin) (fun _ _ => ⟨by rw [ht]; rfl, by rw [ht]; exact hz⟩) (ref_num hk hji (by rw [ht]; rfl)) k
/-- an int that is final, in its class's constructor -/
theorem v_putiF {ci j idx : Nat} {c ji x : Int} (hdg : decode M.2.1 pc = .ok (.putfield idx, 3)) (hw : Cond.fieldLink M.1.cls idx (TF ci j).1 (TF ci j).2.1 (TF ci j).2.2.1 ∈ Tb) (hc : 0 ≤ c) (hk : K[c.toNat]? = some (.inl ci)) (hj : j < NF ci) (hji : (j : Int) = ji) (ht : tyF ci j = .int) (hfin : (TF ci j).2.2.2 = true ∧ M.1.name = "<init>" ∧ (TF ci j).1 = M.1.cls)
    (k : V l G M d mc ms n1 n2 K (pc + 3) L st (hset h c ji x) Q) : V l G M d mc ms n1 n2 K pc L ((0, x) :: (2, c) :: st) h Q :=
  v_putG hdg hw hc hk hj hji (by rw [ht]; rfl) (Or.inr hfin) (fun _ o => ⟨by rw [ht]; rfl, by rw [ht]; exact o.1 rfl⟩) (ref_num hk hji (by rw [ht]; rfl)) k
/-- a ref -/
theorem v_putr {ci j idx : Nat} {c ji x : Int} (hdg : decode M.2.1 pc = .ok (.putfield idx, 3)) (hw : Cond.fieldLink M.1.cls idx (TF ci j).1 (TF ci j).2.1 (TF ci j).2.2.1 ∈ Tb) (hc : 0 ≤ c) (hk : K[c.toNat]? = some (.inl ci)) (hj : j < NF ci) (hji : (j : Int) = ji) (ht : ptag (tyF ci j) = 2) (hfin : (TF ci j).2.2.2 = false ∨ ((TF ci j).2.2.2 = true ∧ M.1.name = "<init>" ∧ (TF ci j).1 = M.1.cls)) (hr : K = K0 → RefOK h → RefOK (hset h c ji x))
    (k : V l G M d mc ms n1 n2 K (pc + 3) L st (hset h c ji x) Q) : V l G M d mc ms n1 n2 K pc L ((2, x) :: (2, c) :: st) h Q := by
  refine v_putG hdg hw hc hk hj hji ?_ hfin (fun adr o => ⟨(rv_ref ht (o.2.2 rfl).1).symm, ?_⟩) hr k
  · cases h9 : tyF ci j <;> first | rfl | (rw [h9] at ht; simp [ptag] at ht)
  · have h8 := (o.2.2 rfl).2
    cases h9 : tyF ci j <;> first | exact h8 | (rw [h9] at ht; simp [ptag] at ht)
/-- arrays -/
theorem arr_at {adr : Nat → Nat} {H : Heap} (R : Rel G adr K h H) {c i : Int} {t : FieldType} {n : Nat} (hc : 0 ≤ c) (hk : K[c.toNat]? = some (.inr (t, n))) (h0 : 0 ≤ i) (h1 : i < (n : Int)) :
    H[adr c.toNat]? = some (arrV (G.2.1 t) n (fun j => rv adr t (h c j))) ∧ (arrV (G.2.1 t) n (fun j => rv adr t (h c j))).slots[i.toNat]? = some (rv adr t (h c i)) ∧ okt K.length t (h c i) := by
  refine ⟨R.at hc hk, ?_, ?_⟩
  · rw [arrV_read _ _ (by omega)]
    rw [Int.toNat_of_nonneg h0]
  · exact R.rng hc hk h0 h1
theorem v_aldG {t : FieldType} {n : Nat} {c i : Int} {v : AV} (hc : 0 ≤ c) (hk : K[c.toNat]? = some (.inr (t, n))) (ht : t ∈ ([.int, .long, .byte, .boolean, .array .int] : List FieldType)) (h0 : 0 ≤ i) (h1 : i < (n : Int))
    (hv : ∀ adr : Nat → Nat, okt K.length t (h c i) → (K = K0 → RefOK h) → rv adr t (h c i) = ra adr v ∧ oka K.length v)
    (hstep : ∀ (p : Program) (e : Env) (s : State) (m : MethodId) (args : Array Value) (below : List Frame) (meth : Method) (c0 : Code) (H : Heap) (locs : List Loc) (ls : Array Slot) (Z : State → Prop) (rest : List Value) (a : Nat) (cell : Cell) (w : Value), p.tables.exec = Jvm.exec → c0.code = M.2.1 → H[a]? = some cell → s.isArrayOf cell t → cell.vm ≠ .unknown → ¬ (Int32.ofInt i < 0 ∨ cell.slots.size ≤ (Int32.ofInt i).toNatClampNeg) → cell.slots[(Int32.ofInt i).toNatClampNeg]? = some w →
      W p l e (rmO d mc ms) s m args below meth c0 H locs n1 n2 Z (F0 m (pc + 1) ls (w :: rest)) → W p l e (rmO d mc ms) s m args below meth c0 H locs n1 n2 Z (F0 m pc ls (.int (Int32.ofInt i) :: .ref a :: rest)))
    (k : V l G M d mc ms n1 n2 K (pc + 1) L (v :: st) h Q) : V l G M d mc ms n1 n2 K pc L ((0, i) :: (2, c) :: st) h Q := by
  intro p e s m args below meth c0 adr0 adr n0 H locs ls S
  obtain ⟨S1, S2, S3, S4, S5, S6⟩ := S
  obtain ⟨hx, hb, h3, h4, h5, h6, h7, h8, h9⟩ := id S1
  obtain ⟨a1, a2, a3⟩ := arr_at S2 hc hk h0 h1
  have hi : ok32 i := (al_c.mp S5).1.1 rfl
  obtain ⟨e1, e2⟩ := hv adr a3 S2.2.2.2.2.2
  refine hstep p e s m args below meth c0 H locs ls _ _ (adr c.toNat) _ (ra adr v) hx hb a1 ((h9.2.1 t ht).1 n _) (fun z => by cases z) ?_ ?_ ?_
  · rw [arrV_size]; exact n32 hi h0 h1
  · rw [cl32 hi h0, a2, e1]
  · exact k p e s m args below meth c0 adr0 adr n0 H locs ls ⟨S1, S2, S3, S4, al_c.mpr ⟨e2, (al_c.mp (al_c.mp S5).2).2⟩, S6⟩
theorem v_iaload {n : Nat} {c i : Int} (hdg : decode M.2.1 pc = .ok (.iaload, 1)) (hc : 0 ≤ c) (hk : K[c.toNat]? = some (.inr (.int, n))) (h0 : 0 ≤ i) (h1 : i < (n : Int)) (k : V l G M d mc ms n1 n2 K (pc + 1) L ((0, h c i) :: st) h Q) : V l G M d mc ms n1 n2 K pc L ((0, i) :: (2, c) :: st) h Q :=
  v_aldG hc hk (by simp) h0 h1 (fun _ o _ => ⟨rfl, oka0 o⟩) (fun _ _ _ _ _ _ _ _ _ _ _ _ _ _ _ _ hx hb a1 a2 a3 a4 a5 kk => W.iald hx hb a1 a2 a3 a4 a5 rfl rfl hdg kk) k
theorem v_laload {n : Nat} {c i : Int} (hdg : decode M.2.1 pc = .ok (.laload, 1)) (hc : 0 ≤ c) (hk : K[c.toNat]? = some (.inr (.long, n))) (h0 : 0 ≤ i) (h1 : i < (n : Int)) (k : V l G M d mc ms n1 n2 K (pc + 1) L ((1, h c i) :: st) h Q) : V l G M d mc ms n1 n2 K pc L ((0, i) :: (2, c) :: st) h Q :=
  v_aldG hc hk (by simp) h0 h1 (fun _ o _ => ⟨rfl, oka1 o⟩) (fun _ _ _ _ _ _ _ _ _ _ _ _ _ _ _ _ hx hb a1 a2 a3 a4 a5 kk => W.lald hx hb a1 a2 a3 a4 a5 rfl rfl hdg kk) k
theorem v_baload {n : Nat} {c i : Int} (hdg : decode M.2.1 pc = .ok (.baload, 1)) (hc : 0 ≤ c) (hk : K[c.toNat]? = some (.inr (.byte, n))) (h0 : 0 ≤ i) (h1 : i < (n : Int)) (k : V l G M d mc ms n1 n2 K (pc + 1) L ((0, h c i) :: st) h Q) : V l G M d mc ms n1 n2 K pc L ((0, i) :: (2, c) :: st) h Q :=
  v_aldG hc hk (by simp) h0 h1 (fun _ o _ => ⟨rfl, okt_num (t := .byte) rfl (by decide) o⟩) (fun _ _ _ _ _ _ _ _ _ _ _ _ _ _ _ _ hx hb a1 a2 a3 a4 a5 kk => W.bald hx hb a1 a2 a3 a4 a5 rfl rfl hdg kk) k
theorem v_zaload {n : Nat} {c i : Int} (hdg : decode M.2.1 pc = .ok (.baload, 1)) (hc : 0 ≤ c) (hk : K[c.toNat]? = some (.inr (.boolean, n))) (h0 : 0 ≤ i) (h1 : i < (n : Int)) (k : V l G M d mc ms n1 n2 K (pc + 1) L ((0, h c i) :: st) h Q) : V l G M d mc ms n1 n2 K pc L ((0, i) :: (2, c) :: st) h Q :=
  v_aldG hc hk (by simp) h0 h1 (fun _ o _ => ⟨rfl, okt_num (t := .boolean) rfl (by decide) o⟩) (fun _ _ _ _ _ _ _ _ _ _ _ _ _ _ _ _ hx hb a1 a2 a3 a4 a5 kk => W.zald hx hb a1 a2 a3 a4 a5 rfl rfl hdg kk) k
theorem v_aaload {n : Nat} {c i z : Int} (hdg : decode M.2.1 pc = .ok (.aaload, 1)) (hc : 0 ≤ c) (hk : K[c.toNat]? = some (.inr (.array .int, n))) (h0 : 0 ≤ i) (h1 : i < (n : Int)) (hz : (K = K0 → RefOK h) → h c i = z) (hz0 : 0 ≤ z) (k : V l G M d mc ms n1 n2 K (pc + 1) L ((2, z) :: st) h Q) : V l G M d mc ms n1 n2 K pc L ((0, i) :: (2, c) :: st) h Q :=
  v_aldG hc hk (by simp) h0 h1 (fun _ o r => by rw [hz r] at o ⊢; exact ⟨rv_ref rfl hz0, oka2 hz0 o⟩) (fun _ _ _ _ _ _ _ _ _ _ _ _ _ _ _ _ hx hb a1 a2 a3 a4 a5 kk => W.aald hx hb a1 a2 rfl a3 a4 a5 rfl rfl hdg kk) k
theorem v_alen {t : FieldType} {n : Nat} {c ni : Int} (hdg : decode M.2.1 pc = .ok (.arraylength, 1)) (hc : 0 ≤ c) (hk : K[c.toNat]? = some (.inr (t, n))) (ht : t ∈ ([.int, .long, .byte, .boolean, .array .int] : List FieldType)) (hn : (n : Int) = ni) (hb32 : ok32 ni) (k : V l G M d mc ms n1 n2 K (pc + 1) L ((0, ni) :: st) h Q) : V l G M d mc ms n1 n2 K pc L ((2, c) :: st) h Q := by
  intro p e s m args below meth c0 adr0 adr n0 H locs ls S
  obtain ⟨S1, S2, S3, S4, S5, S6⟩ := S
  obtain ⟨hx, hb, h3, h4, h5, h6, h7, h8, h9⟩ := id S1
  refine W.alen (n := Int32.ofInt ni) hx hb (S2.at hc hk) ((h9.2.1 t ht).1 n _) ?_ rfl rfl hdg (k p e s m args below meth c0 adr0 adr n0 H locs ls ⟨S1, S2, S3, S4, al_c.mpr ⟨oka0 hb32, (al_c.mp S5).2⟩, S6⟩)
  rw [arrV_size]
  subst hn
  rfl
theorem arr_put {adr : Nat → Nat} {n : Nat} {cA : ClassId} {t : FieldType} {c i x : Int} {w : Value} (h0 : 0 ≤ i) (hw : w = rv adr t x) : (arrV cA n (fun j => rv adr t (h c j))).setSlot i.toNat w = arrV cA n (fun j => rv adr t (hset h c i x c j)) := by
  rw [arrV_store]
  congr 1
  funext q
  by_cases hq : q = i.toNat
  · subst hq
    simp only [updV, if_true]
    rw [Int.toNat_of_nonneg h0, hset_same, hw]
  · simp only [updV, if_neg hq]
    rw [hset_ne h (fun z => hq (by omega))]
theorem v_astG {t : FieldType} {n : Nat} {c i x : Int} {v : AV} (hc : 0 ≤ c) (hk : K[c.toNat]? = some (.inr (t, n))) (ht : t ∈ ([.int, .long, .byte, .boolean, .array .int] : List FieldType)) (hp : noRef t = true) (hl : K = K0 → c = 126 → -10000000 ≤ x ∧ x ≤ 10000000) (h0 : 0 ≤ i) (h1 : i < (n : Int)) (hx2 : oka K.length v → okt K.length t x)
    (hstep : ∀ (p : Program) (e : Env) (s : State) (m : MethodId) (args : Array Value) (below : List Frame) (meth : Method) (c0 : Code) (adr : Nat → Nat) (H : Heap) (locs : List Loc) (ls : Array Slot) (Z : State → Prop) (rest : List Value) (a : Nat) (cell : Cell), p.tables.exec = Jvm.exec → c0.code = M.2.1 → oka K.length v → H[a]? = some cell → s.isArrayOf cell t → cell.vm ≠ .unknown → ¬ (Int32.ofInt i < 0 ∨ cell.slots.size ≤ (Int32.ofInt i).toNatClampNeg) →
      (∀ H' : Heap, H'[a]? = some (cell.setSlot (Int32.ofInt i).toNatClampNeg (rv adr t x)) → H'.size = H.size → (∀ q : Nat, q ≠ a → H'[q]? = H[q]?) → W p l e (rmO d mc ms) s m args below meth c0 H' (locs ++ [⟨a, (Int32.ofInt i).toNatClampNeg⟩]) n1 n2 Z (F0 m (pc + 1) ls rest)) → W p l e (rmO d mc ms) s m args below meth c0 H locs n1 n2 Z (F0 m pc ls (ra adr v :: .int (Int32.ofInt i) :: .ref a :: rest)))
    (k : V l G M d mc ms n1 n2 K (pc + 1) L st (hset h c i x) Q) : V l G M d mc ms n1 n2 K pc L (v :: (0, i) :: (2, c) :: st) h Q := by
  intro p e s m args below meth c0 adr0 adr n0 H locs ls S
  obtain ⟨S1, S2, S3, S4, S5, S6⟩ := S
  obtain ⟨hx, hb, h3, h4, h5, h6, h7, h8, h9⟩ := id S1
  have a1 := S2.at hc hk
  have hi : ok32 i := (al_c.mp (al_c.mp S5).2).1.1 rfl
  have hcl : c.toNat < K.length := (List.getElem?_eq_some_iff.mp hk).1
  refine hstep p e s m args below meth c0 adr H locs ls _ _ (adr c.toNat) _ hx hb (al_c.mp S5).1 a1 ((h9.2.1 t ht).1 n _) (fun z => by cases z) ?_ ?_
  · rw [arrV_size]; exact n32 hi h0 h1
  · intro H' g1 g2 g3
    rw [cl32 hi h0] at g1 ⊢
    rw [arr_put h0 rfl] at g1
    exact k p e s m args below meth c0 adr0 adr n0 H' _ ls ⟨S1, S2.put hc hk h0 g1 g3 (hx2 (al_c.mp S5).1) (fun e r => by subst e; exact refOK_num hk hp (hl rfl) r), ⟨S3.1, S3.2.1, S3.2.2.1.put g2 g3 (S3.2.2.2 _ hcl), S3.2.2.2⟩, S4, (al_c.mp (al_c.mp (al_c.mp S5).2).2).2, S6⟩
theorem v_iastore {n : Nat} {c i x : Int} (hdg : decode M.2.1 pc = .ok (.iastore, 1)) (hc : 0 ≤ c) (hk : K[c.toNat]? = some (.inr (.int, n))) (h0 : 0 ≤ i) (h1 : i < (n : Int)) (k : V l G M d mc ms n1 n2 K (pc + 1) L st (hset h c i x) Q) (hl : c = 126 → -10000000 ≤ x ∧ x ≤ 10000000 := by first | exact fun e => absurd e (by decide) | (intro e; exfalso; omega) | (intro _; decide) | (intro _; omega) | (intro _; assumption)) : V l G M d mc ms n1 n2 K pc L ((0, x) :: (0, i) :: (2, c) :: st) h Q :=
  v_astG (v := (0, x)) hc hk (by simp) rfl (fun _ => hl) h0 h1 (fun o => o.1 rfl) (fun _ _ _ _ _ _ _ _ _ _ _ _ _ _ _ _ hx hb _ a1 a2 a3 a4 kk => W.iast hx hb a1 a2 a3 a4 rfl rfl hdg kk) k
theorem v_lastore {n : Nat} {c i x : Int} (hdg : decode M.2.1 pc = .ok (.lastore, 1)) (hc : 0 ≤ c) (hk : K[c.toNat]? = some (.inr (.long, n))) (h0 : 0 ≤ i) (h1 : i < (n : Int)) (k : V l G M d mc ms n1 n2 K (pc + 1) L st (hset h c i x) Q) : V l G M d mc ms n1 n2 K pc L ((1, x) :: (0, i) :: (2, c) :: st) h Q :=
  v_astG (v := (1, x)) hc hk (by simp) rfl (fun q e => by subst q; subst e; exact absurd (hk.symm.trans (show K0[(126 : Int).toNat]? = some (.inr (.int, 128)) from by decide +kernel)) (by simp)) h0 h1 (fun o => o.2.1 rfl) (fun _ _ _ _ _ _ _ _ _ _ _ _ _ _ _ _ hx hb _ a1 a2 a3 a4 kk => W.last hx hb a1 a2 a3 a4 rfl rfl hdg kk) k
theorem byte_of {x : Int} (h1 : -128 ≤ x ∧ x < 128) : (Int32.ofInt x).toInt8.toInt32 = Int32.ofInt x := by
  apply Int32.toInt_inj.mp
  have o : ok32 x := by unfold ok32; omega
  rw [Int8.toInt_toInt32, Int32.toInt_toInt8, t32 o]
  exact Int.bmod_eq_of_le (by omega) (by omega)
theorem v_bastore {n : Nat} {c i x : Int} (hdg : decode M.2.1 pc = .ok (.bastore, 1)) (hc : 0 ≤ c) (hk : K[c.toNat]? = some (.inr (.byte, n))) (h0 : 0 ≤ i) (h1 : i < (n : Int)) (hx : -128 ≤ x ∧ x < 128) (k : V l G M d mc ms n1 n2 K (pc + 1) L st (hset h c i x) Q) : V l G M d mc ms n1 n2 K pc L ((0, x) :: (0, i) :: (2, c) :: st) h Q :=
  v_astG (v := (0, x)) hc hk (by simp) rfl (fun q e => by subst q; subst e; exact absurd (hk.symm.trans (show K0[(126 : Int).toNat]? = some (.inr (.int, 128)) from by decide +kernel)) (by simp)) h0 h1 (fun _ => hx) (fun _ _ _ _ _ _ _ _ _ _ _ _ _ _ _ _ hx2 hb _ a1 a2 a3 a4 kk => W.bast hx2 hb a1 a2 a3 a4 rfl rfl hdg (fun H' g1 g2 g3 => kk H' (by
    rw [g1]
    have e : narrow .byte (.int (Int32.ofInt x)) = .int (Int32.ofInt x) := by show Value.int _ = _; rw [byte_of hx]
    rw [e]
    rfl) g2 g3)) k
theorem v_zastore {n : Nat} {c i x : Int} (hdg : decode M.2.1 pc = .ok (.bastore, 1)) (hc : 0 ≤ c) (hk : K[c.toNat]? = some (.inr (.boolean, n))) (h0 : 0 ≤ i) (h1 : i < (n : Int)) (hx : 0 ≤ x ∧ x < 2) (k : V l G M d mc ms n1 n2 K (pc + 1) L st (hset h c i x) Q) : V l G M d mc ms n1 n2 K pc L ((0, x) :: (0, i) :: (2, c) :: st) h Q :=
  v_astG (v := (0, x)) hc hk (by simp) rfl (fun q e => by subst q; subst e; exact absurd (hk.symm.trans (show K0[(126 : Int).toNat]? = some (.inr (.int, 128)) from by decide +kernel)) (by simp)) h0 h1 (fun _ => hx) (fun _ _ _ _ _ _ _ _ _ _ _ _ _ _ _ _ hx2 hb _ a1 a2 a3 a4 kk => W.zast hx2 hb a1 a2 a3 a4 rfl rfl hdg (fun H' g1 g2 g3 => kk H' (by
    rw [g1]
    have h3 : x = 0 ∨ x = 1 := by omega
    rcases h3 with rfl | rfl <;> rfl) g2 g3)) k
end HRULES
