/-! ===== the abstract machine's judgements: V (a frame of a method, over numbered cells), Sp (a method's call) ===== -/
abbrev GG : Type := va_G × (FieldType → ClassId) × Heap × (Nat → Nat) × (Nat → Nat)
def ok32 (x : Int) : Prop := -2147483648 ≤ x ∧ x < 2147483648
def ok64 (x : Int) : Prop := -9223372036854775808 ≤ x ∧ x < 9223372036854775808
def rv (adr : Nat → Nat) : FieldType → Int → Value
  | .long, x => .long (Int64.ofInt x)
  | .object _, x => if x < 0 then .null else .ref (adr x.toNat)
  | .array _, x => if x < 0 then .null else .ref (adr x.toNat)
  | _, x => .int (Int32.ofInt x)
def ra (adr : Nat → Nat) : AV → Value
  | (0, x) => .int (Int32.ofInt x)
  | (1, x) => .long (Int64.ofInt x)
  | (2, x) => .ref (adr x.toNat)
  | (3, x) => .ref x.toNat
  | _ => .null
def okt (n : Nat) : FieldType → Int → Prop
  | .long, x => ok64 x
  | .object _, x => x < n
  | .array _, x => x < n
  | .byte, x => -128 ≤ x ∧ x < 128
  | .boolean, x => 0 ≤ x ∧ x < 2
  | _, x => ok32 x
def oka (n : Nat) (v : AV) : Prop := (v.1 = 0 → ok32 v.2) ∧ (v.1 = 1 → ok64 v.2) ∧ (v.1 = 2 → 0 ≤ v.2 ∧ v.2 < n)
def ptag : FieldType → Nat
  | .long => 1
  | .object _ => 2
  | .array _ => 2
  | _ => 0
def kty (k : Kd) (j : Nat) : FieldType := match k with
  | .inl ci => tyF ci j
  | .inr a => a.1
def ksz (k : Kd) : Nat := match k with
  | .inl ci => NF ci
  | .inr a => a.2
def hset (h : AH) (c j x : Int) : AH := fun a b => if a = c ∧ b = j then x else h a b
theorem hset_same (h : AH) (c j x : Int) : hset h c j x c j = x := by simp [hset]
theorem hset_ne (h : AH) {c j x a b : Int} (q : ¬ (a = c ∧ b = j)) : hset h c j x a b = h a b := by simp only [hset, if_neg q]
/-- a cell holds what the abstract heap says of it -/
def cellOK (G : GG) (adr : Nat → Nat) (k : Kd) (f : Nat → Int) (a : Nat) (H : Heap) : Prop := match k with
  | .inl ci => ci < 13 ∧ t_OB a (G.1.1 ci) (NF ci) (G.1.2 ci) H (fun j => rv adr (tyF ci j) (f j))
  | .inr x => H[a]? = some (arrV (G.2.1 x.1) x.2 (fun j => rv adr x.1 (f j)))
theorem cellOK.kept {G : GG} {adr : Nat → Nat} {k : Kd} {f : Nat → Int} {a : Nat} {H H1 : Heap} (h : cellOK G adr k f a H) (q : H1[a]? = H[a]?) : cellOK G adr k f a H1 := by
  cases k with
  | inl ci => exact ⟨h.1, h.2.kept q⟩
  | inr x => exact q.trans h
theorem cellOK.lt {G : GG} {adr : Nat → Nat} {k : Kd} {f : Nat → Int} {a : Nat} {H : Heap} (h : cellOK G adr k f a H) : a < H.size := by
  cases k with
  | inl ci => obtain ⟨-, cell, q, -⟩ := h; exact (Array.getElem?_eq_some_iff.mp q).1
  | inr x => exact (Array.getElem?_eq_some_iff.mp h).1
/-- the heap holds the abstract one: nothing that was there at the law's start has changed; each cell by its kind; the cells apart; each number in its type's range; the refs that never change -/
def Rel (G : GG) (adr : Nat → Nat) (K : List Kd) (h : AH) (H : Heap) : Prop :=
  (∀ q : Nat, q < G.2.2.1.size → H[q]? = G.2.2.1[q]?) ∧ (∀ (i : Nat) (k : Kd), K[i]? = some k → cellOK G adr k (fun j => h i j) (adr i) H) ∧ (∀ i, i < K.length → G.2.2.1.size ≤ adr i) ∧
  (∀ i j, i < K.length → j < K.length → adr i = adr j → i = j) ∧ (∀ (i : Nat) (k : Kd) (j : Nat), K[i]? = some k → j < ksz k → okt K.length (kty k j) (h i j)) ∧ (K = K0 → RefOK h)
/-- what is given of the literals: where they lie in the heap of the law's start, what they hold; the JDK's switch for them -/
def sLen : List Nat := [5, 8, 8, 7]
def sByt : List (List Int32) := [[114, 100, 115, 103, 122], [97, 110, 98, 111, 99, 104, 112, 121], [104, 112, 97, 110, 98, 111, 99, 121], [97, 110, 98, 111, 99, 104, 112]]
def oldA (G : GG) : Nat → Prop := fun q => G.2.2.1.size ≤ q
/-- the law's start: its words, its script; what the vm says now is what it said then -/
def BA (G : GG) (s : State) : Prop := ∃ (s0 : State) (L : Nat) (xs : Nat → Int32), s0.heap = G.2.2.1 ∧ (∀ w ∈ lw_tbl, w.before #[.ref (G.2.2.2.1 9)] s0 = true) ∧ (Jvm.Cond.and given_1 narrow_1).before #[.ref (G.2.2.2.1 9)] s0 = true ∧ va_X (G.2.2.2.1 9) L xs s0 G.2.2.1 ∧ s0.vm.Alike s.vm
theorem BA.moved {G : GG} {s U : State} (hvm : s.vm.Alike U.vm) (h : BA G s) : BA G U := by
  obtain ⟨s0, L, xs, h1, h2, h3, h4, h5⟩ := h
  exact ⟨s0, L, xs, h1, h2, h3, h4, h5.trans hvm⟩
def KS (G : GG) (s : State) : Prop := va_Z "java/lang/String" "COMPACT_STRINGS" "Z" (.int 1) (oldA G) s G.2.2.1 ∧ vk_S 4 sLen sByt G.2.2.2.1 G.2.2.2.2 (oldA G) s G.2.2.1 ∧
  vk_R "MadeWhere$Tape" 57 "rdsgz" (G.2.2.2.1 0) s ∧ vk_R "MadeWhere" 296 "anbochpy" (G.2.2.2.1 1) s ∧ vk_R "MadeWhereModel" 328 "rdsgz" (G.2.2.2.1 0) s ∧ vk_R "MadeWhereModel" 283 "hpanbocy" (G.2.2.2.1 2) s ∧ vk_R "MadeWhereModel" 431 "anbochp" (G.2.2.2.1 3) s ∧ BA G s
theorem KS.warm {G : GG} {s U : State} (hW : s.WarmedH U.vm) (h : KS G s) : KS G U := ⟨h.1.moved hW.alike, h.2.1.moved hW.alike, h.2.2.1.warm hW, h.2.2.2.1.warm hW, h.2.2.2.2.1.warm hW, h.2.2.2.2.2.1.warm hW, h.2.2.2.2.2.2.1.warm hW, h.2.2.2.2.2.2.2.moved hW.alike⟩
theorem KS.same {G : GG} {s U : State} (e : s.vm = U.vm) (h : KS G s) : KS G U := ⟨h.1.moved (e ▸ Vm.Alike.refl s.vm), h.2.1.moved (e ▸ Vm.Alike.refl s.vm), h.2.2.1.same e.symm, h.2.2.2.1.same e.symm, h.2.2.2.2.1.same e.symm, h.2.2.2.2.2.1.same e.symm, h.2.2.2.2.2.2.1.same e.symm, h.2.2.2.2.2.2.2.moved (e ▸ Vm.Alike.refl s.vm)⟩
/-- what the tables say, beside the words that keep by themselves: the classes' numbers, the rows' classes, the words of nest mates -/
def KK (G : GG) (s : State) : Prop :=
  (∀ ci, ci < 13 → u_Kn s (RF ci) (TF ci) (NF ci) (G.1.1 ci) (G.1.2 ci)) ∧ (∀ t : FieldType, t ∈ ([.int, .long, .byte, .boolean, .array .int] : List FieldType) → ArrOfT s (G.2.1 t) t ∧ va_RA s (G.2.1 t) t) ∧ (∀ w ∈ NWs, va_Nw w s) ∧ KS G s
theorem KK.warm {G : GG} {s U : State} (hW : s.WarmedH U.vm) (h : KK G s) : KK G U := by
  refine ⟨fun ci hc => u_Kn_moved hW.alike (h.1 ci hc), fun t ht => ⟨arrOfT_moved hW.alike (h.2.1 t ht).1, (h.2.1 t ht).2.moved hW.alike⟩, fun w hw => ?_, h.2.2.2.warm hW⟩
  have h9 := h.2.2.1 w hw
  have h8 := nws_form w hw
  cases w with
  | fieldLinkNest => exact va_Nw.warmF hW h9
  | methodLinkNest => exact va_Nw.warmM hW h9
  | _ => cases h8
theorem KK.same {G : GG} {s U : State} (e : s.vm = U.vm) (h : KK G s) : KK G U := by
  refine ⟨fun ci hc => u_Kn_moved (e ▸ Vm.Alike.refl s.vm) (h.1 ci hc), fun t ht => ⟨arrOfT_moved (e ▸ Vm.Alike.refl s.vm) (h.2.1 t ht).1, (h.2.1 t ht).2.moved (e ▸ Vm.Alike.refl s.vm)⟩, fun w hw => ?_, h.2.2.2.same e⟩
  have h9 := h.2.2.1 w hw
  have h8 := nws_form w hw
  cases w with
  | fieldLinkNest => exact va_Nw.same rfl e h9
  | methodLinkNest => exact va_Nw.same rfl e h9
  | _ => cases h8
def AA (adr0 : Nat → Nat) (n0 sz : Nat) : Nat → Prop := fun q => (∃ i, i < n0 ∧ adr0 i = q) ∨ sz ≤ q
def PQ (G : GG) (adr0 : Nat → Nat) (n0 : Nat) (Q : Option AV → List Kd → AH → Prop) : Array Value → State → Outcome → State → Prop := fun _ st o t =>
  (∃ (r : Option AV) (K : List Kd) (h : AH) (adr : Nat → Nat), o = .returned (r.map (ra adr)) ∧ Q r K h ∧ (∀ i, i < n0 → adr i = adr0 i) ∧ n0 ≤ K.length ∧ Rel G adr K h t.heap ∧ (∀ i, i < K.length → AA adr0 n0 st.heap.size (adr i)) ∧ ∀ v, r = some v → oka K.length v) ∧ va_F (AA adr0 n0 st.heap.size) st t
def wsM (M : MI) : List Cond := Cond.code M.1 M.2.1 M.2.2.1 M.2.2.2 :: Tb
/-- what a frame has of the tables: the words that keep -/
def wsN : List Cond := Cond.tt :: Tb
theorem wsN_of {args : Array Value} {s : State} (h : ∀ w ∈ Tb, w.before args s = true) : ∀ w ∈ wsN, w.before args s = true := fun w hw => by
  rcases List.mem_cons.mp hw with e | e
  · rw [e]; rfl
  · exact h w e
def rmO (d mc ms : Nat) : Room := { frames := d, cells := mc, slots := ms, locals := 64 * d }
def MCtx (G : GG) (M : MI) (p : Program) (s : State) (m : MethodId) (args : Array Value) (meth : Method) (c : Code) : Prop :=
  p.tables.exec = Jvm.exec ∧ c.code = M.2.1 ∧ meth.sig.returnType = M.2.2.2 ∧ meth.locks = false ∧ c.maxLocals = M.2.2.1 ∧ s.vm.findClass M.1.cls = some m.cls ∧ meth.name = M.1.name ∧ (∀ w ∈ wsN, w.before args s = true) ∧ KK G s
/-- locals: a dense row, tag 8 and 9: nothing is known there -/
def rl (adr : Nat → Nat) : Nat → List AV → List (Nat × Value)
  | _, [] => []
  | i, v :: L => if v.1 < 8 then (i, ra adr v) :: rl adr (i + 1) L else rl adr (i + 1) L
theorem rl_mem {adr : Nat → Nat} {q : Nat × Value} : ∀ (L : List AV) (i : Nat), q ∈ rl adr i L ↔ ∃ (j : Nat) (v : AV), L[j]? = some v ∧ v.1 < 8 ∧ q = (i + j, ra adr v) := by
  intro L
  induction L with
  | nil => intro i; simp [rl]
  | cons w L ih =>
    intro i
    have step : q ∈ rl adr (i + 1) L ↔ ∃ (j : Nat) (v : AV), (w :: L)[j + 1]? = some v ∧ v.1 < 8 ∧ q = (i + (j + 1), ra adr v) := by
      rw [ih (i + 1)]
      constructor
      · rintro ⟨j, v, h1, h2, h3⟩; exact ⟨j, v, by simpa using h1, h2, by rw [h3]; congr 1; omega⟩
      · rintro ⟨j, v, h1, h2, h3⟩; exact ⟨j, v, by simpa using h1, h2, by rw [h3]; congr 1; omega⟩
    constructor
    · intro h
      by_cases hw : w.1 < 8
      · simp only [rl, if_pos hw, List.mem_cons] at h
        rcases h with h | h
        · exact ⟨0, w, by simp, hw, by simpa using h⟩
        · obtain ⟨j, v, h1, h2, h3⟩ := step.mp h; exact ⟨j + 1, v, h1, h2, h3⟩
      · simp only [rl, if_neg hw] at h
        obtain ⟨j, v, h1, h2, h3⟩ := step.mp h; exact ⟨j + 1, v, h1, h2, h3⟩
    · rintro ⟨j, v, h1, h2, h3⟩
      cases j with
      | zero =>
        have e : w = v := by simpa using h1
        subst e
        simp only [rl, if_pos h2, List.mem_cons]
        exact Or.inl (by simpa using h3)
      | succ j =>
        have h4 := step.mpr ⟨j, v, h1, h2, h3⟩
        by_cases hw : w.1 < 8
        · simp only [rl, if_pos hw, List.mem_cons]; exact Or.inr h4
        · simp only [rl, if_neg hw]; exact h4
def VS (G : GG) (M : MI) (K : List Kd) (L st : List AV) (h : AH) (p : Program) (s : State) (m : MethodId) (args : Array Value) (meth : Method) (c : Code) (adr0 adr : Nat → Nat) (n0 : Nat) (H : Heap) (locs : List Loc) (ls : Array Slot) : Prop :=
  MCtx G M p s m args meth c ∧ Rel G adr K h H ∧ ((∀ i, i < n0 → adr i = adr0 i) ∧ n0 ≤ K.length ∧ va_S (AA adr0 n0 s.heap.size) s.heap H locs ∧ ∀ i, i < K.length → AA adr0 n0 s.heap.size (adr i)) ∧
  (∀ v ∈ L, oka K.length v) ∧ (∀ v ∈ st, oka K.length v) ∧ lv_has ls M.2.2.1 (rl adr 0 L)
/-- V: from this point the method comes to its end, with Q of the answer, the cells and the heap -/
def V (l : Launch) (G : GG) (M : MI) (d mc ms n1 n2 : Nat) (K : List Kd) (pc : Nat) (L st : List AV) (h : AH) (Q : Option AV → List Kd → AH → Prop) : Prop :=
  ∀ (p : Program) (e : Env) (s : State) (m : MethodId) (args : Array Value) (below : List Frame) (meth : Method) (c : Code) (adr0 adr : Nat → Nat) (n0 : Nat) (H : Heap) (locs : List Loc) (ls : Array Slot),
    VS G M K L st h p s m args meth c adr0 adr n0 H locs ls →
    W p l e (rmO d mc ms) s m args below meth c H locs n1 n2 (MQ below (PQ G adr0 n0 Q) args s mc ms (AA adr0 n0 s.heap.size)) (F0 m pc ls (st.map (ra adr)))
/-- Sp: the method, called with these arguments over this heap, returns, with Q -/
def Sp (l : Launch) (G : GG) (M : MI) (d mc ms : Nat) (K : List Kd) (args : List AV) (h : AH) (Q : Option AV → List Kd → AH → Prop) : Prop :=
  ∀ (adr : Nat → Nat) (sz : Nat), (∀ v ∈ args, oka K.length v) →
    Met l M.1 (wsM M) (rmO d mc ms) (va_Pc (args.map (ra adr)) (fun U => U.heap.size = sz ∧ Rel G adr K h U.heap ∧ KK G U)) (PQ G adr K.length Q) mc ms (AA adr K.length sz)
def la : List AV → List AV
  | [] => []
  | v :: vs => if v.1 = 1 then v :: (8, 0) :: la vs else v :: la vs
