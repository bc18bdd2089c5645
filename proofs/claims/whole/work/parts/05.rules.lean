/-! ===== rules for V, an instruction each (written by wip/whole/gen_rules.py) ===== -/
theorem o32 (a : Int32) : ok32 a.toInt := by
  have h1 := Int32.le_toInt a
  have h2 := Int32.toInt_lt a
  exact ⟨by omega, by omega⟩
theorem o64 (a : Int64) : ok64 a.toInt := by
  have h1 := Int64.le_toInt a
  have h2 := Int64.toInt_lt a
  exact ⟨by omega, by omega⟩
theorem t32 {x : Int} (h : ok32 x) : (Int32.ofInt x).toInt = x := Int32.toInt_ofInt_of_le (by have := h.1; omega) (by have := h.2; omega)
theorem t64 {x : Int} (h : ok64 x) : (Int64.ofInt x).toInt = x := Int64.toInt_ofInt_of_le (by have := h.1; omega) (by have := h.2; omega)
theorem f32 (a : Int32) : Int32.ofInt a.toInt = a := Int32.ofInt_toInt a
theorem f64 (a : Int64) : Int64.ofInt a.toInt = a := Int64.ofInt_toInt a
theorem e32 {x y : Int} (hx : ok32 x) (hy : ok32 y) : Int32.ofInt x = Int32.ofInt y ↔ x = y := ⟨fun e => by rw [← t32 hx, ← t32 hy, e], fun e => by rw [e]⟩
theorem l32 {x y : Int} (hx : ok32 x) (hy : ok32 y) : Int32.ofInt x < Int32.ofInt y ↔ x < y := by rw [Int32.lt_iff_toInt_lt, t32 hx, t32 hy]
theorem le32 {x y : Int} (hx : ok32 x) (hy : ok32 y) : Int32.ofInt x ≤ Int32.ofInt y ↔ x ≤ y := by rw [Int32.le_iff_toInt_le, t32 hx, t32 hy]
theorem e64 {x y : Int} (hx : ok64 x) (hy : ok64 y) : Int64.ofInt x = Int64.ofInt y ↔ x = y := ⟨fun e => by rw [← t64 hx, ← t64 hy, e], fun e => by rw [e]⟩
theorem l64 {x y : Int} (hx : ok64 x) (hy : ok64 y) : Int64.ofInt x < Int64.ofInt y ↔ x < y := by rw [Int64.lt_iff_toInt_lt, t64 hx, t64 hy]
theorem z32 : ok32 0 := by unfold ok32; omega
theorem ok3264 {x : Int} (h : ok32 x) : ok64 x := by unfold ok32 at h; unfold ok64; omega
theorem cl32 {x : Int} (h : ok32 x) (h0 : 0 ≤ x) : (Int32.ofInt x).toNatClampNeg = x.toNat := by
  show (Int32.ofInt x).toInt.toNat = x.toNat
  rw [t32 h]
theorem n32 {x : Int} (h : ok32 x) {n : Nat} (h0 : 0 ≤ x) (h1 : x < n) : ¬ (Int32.ofInt x < 0 ∨ n ≤ (Int32.ofInt x).toNatClampNeg) := by
  rw [cl32 h h0]
  rintro (q | q)
  · have := (l32 h z32).mp q; omega
  · omega
theorem oka0 {n : Nat} {x : Int} (h : ok32 x) : oka n (0, x) := ⟨fun _ => h, fun q => by simp at q, fun q => by simp at q⟩
theorem oka1 {n : Nat} {x : Int} (h : ok64 x) : oka n (1, x) := ⟨fun q => by simp at q, fun _ => h, fun q => by simp at q⟩
theorem oka2 {n : Nat} {x : Int} (h : 0 ≤ x) (h2 : x < n) : oka n (2, x) := ⟨fun q => by simp at q, fun q => by simp at q, fun _ => ⟨h, h2⟩⟩
theorem oka9 {n : Nat} {t : Nat} {x : Int} (h : 2 < t) : oka n (t, x) := ⟨fun q => by simp at q; omega, fun q => by simp at q; omega, fun q => by simp at q; omega⟩
theorem ra_c2 {adr : Nat → Nat} {v : AV} (h : (ra adr v).category = 2) : v.1 = 1 := by
  obtain ⟨t, x⟩ := v
  unfold ra at h
  split at h <;> simp_all [Value.category]
theorem ra_c1 {adr : Nat → Nat} {v : AV} (h : v.1 ≠ 1) : (ra adr v).category = 1 := by
  rcases lv_cat (ra adr v) with q | q
  · exact q
  · exact absurd (ra_c2 q) h
theorem ra_c2' {adr : Nat → Nat} {v : AV} (h : v.1 = 1) : (ra adr v).category = 2 := by
  obtain ⟨t, x⟩ := v
  cases h
  rfl
theorem al_c {n : Nat} {v : AV} {st : List AV} : (∀ w ∈ v :: st, oka n w) ↔ oka n v ∧ ∀ w ∈ st, oka n w := by
  constructor
  · intro h; exact ⟨h v List.mem_cons_self, fun w hw => h w (List.mem_cons_of_mem _ hw)⟩
  · rintro ⟨a, b⟩ w hw
    rcases List.mem_cons.mp hw with rfl | q
    · exact a
    · exact b w q
theorem rl_get {adr : Nat → Nat} {ls : Array Slot} {nL : Nat} {L : List AV} {i : Nat} {v : AV} (h : lv_has ls nL (rl adr 0 L)) (hv : L[i]? = some v) (ht : v.1 < 8) : ls[i]? = some (.val (ra adr v)) := by
  have := h.2.2 (0 + i, ra adr v) ((rl_mem L 0).mpr ⟨i, v, hv, ht, rfl⟩)
  simpa using this
/-- the local ahead of i is no long -/
def prevOK (L : List AV) (i : Nat) : Bool := match i with
  | 0 => true
  | j + 1 => match L[j]? with
    | some w => !(w.1 == 1)
    | none => true
theorem prevOK_ne {L : List AV} {i j : Nat} {w : AV} (h : prevOK L i = true) (e : j + 1 = i) (hw : L[j]? = some w) : w.1 ≠ 1 := by
  subst e
  simp only [prevOK, hw] at h
  intro q
  rw [q] at h
  exact absurd h (by decide)
theorem rl_set1 {adr : Nat → Nat} {ls : Array Slot} {nL : Nat} {L : List AV} {i : Nat} {v : AV} (h : lv_has ls nL ((i, ra adr v) :: (rl adr 0 L).filter (fun q => !(q.1 == i) && !(q.1 + 1 == i && q.2.category == 2)))) (hp : prevOK L i = true) : lv_has ls nL (rl adr 0 (L.set i v)) := by
  refine ⟨h.1, h.2.1, fun q hq => ?_⟩
  obtain ⟨j, w, h1, h2, rfl⟩ := (rl_mem _ 0).mp hq
  rw [List.getElem?_set] at h1
  by_cases e : i = j
  · subst e
    rw [if_pos rfl] at h1
    split at h1
    · have e2 : v = w := Option.some.inj h1
      subst e2
      simpa using h.2.2 (i, ra adr v) List.mem_cons_self
    · cases h1
  · rw [if_neg e] at h1
    refine h.2.2 _ (List.mem_cons_of_mem _ (List.mem_filter.mpr ⟨(rl_mem L 0).mpr ⟨j, w, h1, h2, rfl⟩, ?_⟩))
    simp only [Nat.zero_add, Bool.and_eq_true, Bool.not_eq_true', beq_eq_false_iff_ne, ne_eq, Bool.and_eq_false_iff]
    refine ⟨fun q => e q.symm, ?_⟩
    by_cases e3 : j + 1 = i
    · right
      intro q
      exact prevOK_ne hp e3 h1 (ra_c2 q)
    · left; exact e3
theorem rl_set2 {adr : Nat → Nat} {ls : Array Slot} {nL : Nat} {L : List AV} {i : Nat} {v : AV} (h : lv_has ls nL ((i, ra adr v) :: (rl adr 0 L).filter (fun q => !(q.1 == i) && (!(q.1 == i + 1) && !(q.1 + 1 == i && q.2.category == 2))))) (hp : prevOK L i = true) : lv_has ls nL (rl adr 0 ((L.set i v).set (i + 1) (8, 0))) := by
  refine ⟨h.1, h.2.1, fun q hq => ?_⟩
  obtain ⟨j, w, h1, h2, rfl⟩ := (rl_mem _ 0).mp hq
  rw [List.getElem?_set] at h1
  by_cases e0 : i + 1 = j
  · rw [if_pos e0] at h1
    split at h1
    · have e2 : ((8, 0) : AV) = w := Option.some.inj h1
      subst e2
      exact absurd h2 (by decide)
    · cases h1
  rw [if_neg e0, List.getElem?_set] at h1
  by_cases e : i = j
  · subst e
    rw [if_pos rfl] at h1
    split at h1
    · have e2 : v = w := Option.some.inj h1
      subst e2
      simpa using h.2.2 (i, ra adr v) List.mem_cons_self
    · cases h1
  · rw [if_neg e] at h1
    refine h.2.2 _ (List.mem_cons_of_mem _ (List.mem_filter.mpr ⟨(rl_mem L 0).mpr ⟨j, w, h1, h2, rfl⟩, ?_⟩))
    simp only [Nat.zero_add, Bool.and_eq_true, Bool.not_eq_true', beq_eq_false_iff_ne, ne_eq, Bool.and_eq_false_iff]
    refine ⟨fun q => e q.symm, fun q => e0 q.symm, ?_⟩
    by_cases e3 : j + 1 = i
    · right
      intro q
      exact prevOK_ne hp e3 h1 (ra_c2 q)
    · left; exact e3
theorem al_set {n : Nat} {L : List AV} {i : Nat} {v : AV} (h : ∀ w ∈ L, oka n w) (hv : oka n v) : ∀ w ∈ L.set i v, oka n w := by
  intro w hw
  rcases List.mem_or_eq_of_mem_set hw with q | q
  · exact h w q
  · rw [q]; exact hv
section RULES
variable {l : Launch} {G : GG} {M : MI} {d mc ms n1 n2 : Nat} {K : List Kd} {pc : Nat} {L st : List AV} {h : AH} {Q : Option AV → List Kd → AH → Prop}
/-- an instruction that leaves the heap and the locals -/
theorem v_op {st' : List AV} {pc' : Nat} (hok : (∀ v ∈ st, oka K.length v) → (∀ v ∈ L, oka K.length v) → ∀ v ∈ st', oka K.length v)
    (hstep : ∀ (p : Program) (e : Env) (s : State) (m : MethodId) (args : Array Value) (below : List Frame) (meth : Method) (c : Code) (adr : Nat → Nat) (H : Heap) (locs : List Loc) (ls : Array Slot) (Z : State → Prop), p.tables.exec = Jvm.exec → c.code = M.2.1 → s.vm.findClass M.1.cls = some m.cls → (∀ w ∈ Tb, w.before args s = true) → (∀ v ∈ st, oka K.length v) → lv_has ls M.2.2.1 (rl adr 0 L) →
      W p l e (rmO d mc ms) s m args below meth c H locs n1 n2 Z (F0 m pc' ls (st'.map (ra adr))) → W p l e (rmO d mc ms) s m args below meth c H locs n1 n2 Z (F0 m pc ls (st.map (ra adr))))
    (k : V l G M d mc ms n1 n2 K pc' L st' h Q) : V l G M d mc ms n1 n2 K pc L st h Q := by
  intro p e s m args below meth c adr0 adr n0 H locs ls S
  obtain ⟨S1, S2, S3, S4, S5, S6⟩ := S
  obtain ⟨hx, hb, h3, h4, h5, h6, h7, h8, h9⟩ := id S1
  exact hstep p e s m args below meth c adr H locs ls _ hx hb h6 (fun w hw => h8 w (List.mem_cons_of_mem _ hw)) S5 S6 (k p e s m args below meth c adr0 adr n0 H locs ls ⟨S1, S2, S3, S4, hok S5 S4, S6⟩)
/-- an instruction that sets a local -/
theorem v_ol {st' L' : List AV} {pc' : Nat} (hok : (∀ v ∈ st, oka K.length v) → (∀ v ∈ L, oka K.length v) → (∀ v ∈ st', oka K.length v) ∧ ∀ v ∈ L', oka K.length v)
    (hstep : ∀ (p : Program) (e : Env) (s : State) (m : MethodId) (args : Array Value) (below : List Frame) (meth : Method) (c : Code) (adr : Nat → Nat) (H : Heap) (locs : List Loc) (ls : Array Slot) (Z : State → Prop), p.tables.exec = Jvm.exec → c.code = M.2.1 → (∀ v ∈ st, oka K.length v) → lv_has ls M.2.2.1 (rl adr 0 L) →
      (∀ ls' : Array Slot, lv_has ls' M.2.2.1 (rl adr 0 L') → W p l e (rmO d mc ms) s m args below meth c H locs n1 n2 Z (F0 m pc' ls' (st'.map (ra adr)))) → W p l e (rmO d mc ms) s m args below meth c H locs n1 n2 Z (F0 m pc ls (st.map (ra adr))))
    (k : V l G M d mc ms n1 n2 K pc' L' st' h Q) : V l G M d mc ms n1 n2 K pc L st h Q := by
  intro p e s m args below meth c adr0 adr n0 H locs ls S
  obtain ⟨S1, S2, S3, S4, S5, S6⟩ := S
  obtain ⟨hx, hb, h3, h4, h5, h6, h7, h8, h9⟩ := id S1
  exact hstep p e s m args below meth c adr H locs ls _ hx hb S5 S6 fun ls' hl' => k p e s m args below meth c adr0 adr n0 H locs ls' ⟨S1, S2, S3, (hok S5 S4).2, (hok S5 S4).1, hl'⟩
/-- fewer locals are spoken of -/
theorem v_loc {L' : List AV} (hl : ∀ (i : Nat) (v : AV), L'[i]? = some v → v.1 < 8 → L[i]? = some v) (k : V l G M d mc ms n1 n2 K pc L' st h Q) : V l G M d mc ms n1 n2 K pc L st h Q := by
  intro p e s m args below meth c adr0 adr n0 H locs ls S
  obtain ⟨S1, S2, S3, S4, S5, S6⟩ := S
  refine k p e s m args below meth c adr0 adr n0 H locs ls ⟨S1, S2, S3, fun v hv => ?_, S5, S6.1, S6.2.1, fun q hq => ?_⟩
  · by_cases h8 : v.1 < 8
    · obtain ⟨i, hi⟩ := List.getElem?_of_mem hv
      exact S4 v (List.mem_of_getElem? (hl i v hi h8))
    · obtain ⟨t, x⟩ := v
      exact oka9 (by simp at h8; omega)
  · obtain ⟨j, w, h1, h2, h3⟩ := (rl_mem _ 0).mp hq
    exact S6.2.2 q ((rl_mem _ 0).mpr ⟨j, w, hl j w h1 h2, h2, h3⟩)
theorem v_mono {Q' : Option AV → List Kd → AH → Prop} (hq : ∀ r K h, Q r K h → Q' r K h) (k : V l G M d mc ms n1 n2 K pc L st h Q) : V l G M d mc ms n1 n2 K pc L st h Q' := by
  intro p e s m args below meth c adr0 adr n0 H locs ls S T hT X
  obtain ⟨t, a, o, b1, b2, b3, b4⟩ := k p e s m args below meth c adr0 adr n0 H locs ls S T hT X
  obtain ⟨⟨r, K', h', adr', c1, c2, c3⟩, c4⟩ := b3
  exact ⟨t, a, o, b1, b2, ⟨⟨r, K', h', adr', c1, hq _ _ _ c2, c3⟩, c4⟩, b4⟩
/-- what is known of the numbers that the heap holds -/
theorem v_heap (k : (∀ (i : Nat) (kd : Kd) (j : Nat), K[i]? = some kd → j < ksz kd → okt K.length (kty kd j) (h i j)) → (K = K0 → RefOK h) → V l G M d mc ms n1 n2 K pc L st h Q) : V l G M d mc ms n1 n2 K pc L st h Q := by
  intro p e s m args below meth c adr0 adr n0 H locs ls S
  exact k S.2.1.2.2.2.2.1 S.2.1.2.2.2.2.2 p e s m args below meth c adr0 adr n0 H locs ls S
/-- what is known of the numbers in locals and on the stack -/
theorem v_known (k : (∀ v ∈ L, oka K.length v) → (∀ v ∈ st, oka K.length v) → V l G M d mc ms n1 n2 K pc L st h Q) : V l G M d mc ms n1 n2 K pc L st h Q := by
  intro p e s m args below meth c adr0 adr n0 H locs ls S
  exact k S.2.2.2.1 S.2.2.2.2.1 p e s m args below meth c adr0 adr n0 H locs ls S
theorem v_iconst {n : Int} (hdg : decode M.2.1 pc = .ok (.iconst n, 1)) (hn : ok32 n) (k : V l G M d mc ms n1 n2 K (pc + 1) L ((0, n) :: st) h Q) : V l G M d mc ms n1 n2 K pc L st h Q :=
  v_op (fun a _ => al_c.mpr ⟨oka0 hn, a⟩) (fun _ _ _ _ _ _ _ _ _ _ _ _ _ hx hb _ _ _ _ w => lv_iconst hx hb hdg rfl w) k
theorem v_bipush {n : Int} (hdg : decode M.2.1 pc = .ok (.bipush n, 2)) (hn : ok32 n) (hv : (Int8.ofInt n).toInt32 = Int32.ofInt n) (k : V l G M d mc ms n1 n2 K (pc + 2) L ((0, n) :: st) h Q) : V l G M d mc ms n1 n2 K pc L st h Q :=
  v_op (fun a _ => al_c.mpr ⟨oka0 hn, a⟩) (fun _ _ _ _ _ _ _ _ _ _ _ _ _ hx hb _ _ _ _ w => lv_bipush hx hb hdg hv w) k
theorem v_sipush {n : Int} (hdg : decode M.2.1 pc = .ok (.sipush n, 3)) (hn : ok32 n) (hv : (Int16.ofInt n).toInt32 = Int32.ofInt n) (k : V l G M d mc ms n1 n2 K (pc + 3) L ((0, n) :: st) h Q) : V l G M d mc ms n1 n2 K pc L st h Q :=
  v_op (fun a _ => al_c.mpr ⟨oka0 hn, a⟩) (fun _ _ _ _ _ _ _ _ _ _ _ _ _ hx hb _ _ _ _ w => lv_sipush hx hb hdg hv w) k
theorem v_lconst {n : Fin 2} {z : Int} (hdg : decode M.2.1 pc = .ok (.lconst n, 1)) (hn : ok64 z) (hv : Int64.ofNat (n : Nat) = Int64.ofInt z) (k : V l G M d mc ms n1 n2 K (pc + 1) L ((1, z) :: st) h Q) : V l G M d mc ms n1 n2 K pc L st h Q :=
  v_op (fun a _ => al_c.mpr ⟨oka1 hn, a⟩) (fun _ _ _ _ _ _ _ _ _ _ _ _ _ hx hb _ _ _ _ w => lv_lconst hx hb hdg hv w) k
theorem v_ldc {n : Int} {v : Int32} {idx : Nat} (hdg : decode M.2.1 pc = .ok (.ldc idx, 2)) (hw : Cond.constant M.1.cls idx v ∈ Tb) (hn : ok32 n) (hv : v = Int32.ofInt n) (k : V l G M d mc ms n1 n2 K (pc + 2) L ((0, n) :: st) h Q) : V l G M d mc ms n1 n2 K pc L st h Q :=
  v_op (fun a _ => al_c.mpr ⟨oka0 hn, a⟩) (fun _ _ _ _ _ _ _ _ _ _ _ _ _ hx hb ho ht _ _ w => lv_ldc hx hb ho (hv ▸ ht _ hw) hdg w) k
theorem v_ldcw {n : Int} {v : Int32} {idx : Nat} (hdg : decode M.2.1 pc = .ok (.ldc_w idx, 3)) (hw : Cond.constant M.1.cls idx v ∈ Tb) (hn : ok32 n) (hv : v = Int32.ofInt n) (k : V l G M d mc ms n1 n2 K (pc + 3) L ((0, n) :: st) h Q) : V l G M d mc ms n1 n2 K pc L st h Q :=
  v_op (fun a _ => al_c.mpr ⟨oka0 hn, a⟩) (fun _ _ _ _ _ _ _ _ _ _ _ _ _ hx hb ho ht _ _ w => lv_ldcw hx hb ho (hv ▸ ht _ hw) hdg w) k
theorem v_ldc2 {n : Int} {v : Int64} {idx : Nat} (hdg : decode M.2.1 pc = .ok (.ldc2_w idx, 3)) (hw : Cond.constantLong M.1.cls idx v ∈ Tb) (hn : ok64 n) (hv : v = Int64.ofInt n) (k : V l G M d mc ms n1 n2 K (pc + 3) L ((1, n) :: st) h Q) : V l G M d mc ms n1 n2 K pc L st h Q :=
  v_op (fun a _ => al_c.mpr ⟨oka1 hn, a⟩) (fun _ _ _ _ _ _ _ _ _ _ _ _ _ hx hb ho ht _ _ w => lv_ldc2 hx hb ho (hv ▸ ht _ hw) hdg w) k
theorem v_iload {i : Nat} {x : Int} (hdg : decode M.2.1 pc = .ok (.iload i, 2)) (hl : L[i]? = some (0, x)) (k : V l G M d mc ms n1 n2 K (pc + 2) L ((0, x) :: st) h Q) : V l G M d mc ms n1 n2 K pc L st h Q :=
  v_op (fun a b => al_c.mpr ⟨b _ (List.mem_of_getElem? hl), a⟩) (fun _ _ _ _ _ _ _ _ _ _ _ _ _ hx hb _ _ _ hv w => lv_iload hx hb hdg (rl_get hv hl (show (0 : Nat) < 8 by decide)) w) k
theorem v_iload_n {i : Fin 4} {x : Int} (hdg : decode M.2.1 pc = .ok (.iload_n i, 1)) (hl : L[(i : Nat)]? = some (0, x)) (k : V l G M d mc ms n1 n2 K (pc + 1) L ((0, x) :: st) h Q) : V l G M d mc ms n1 n2 K pc L st h Q :=
  v_op (fun a b => al_c.mpr ⟨b _ (List.mem_of_getElem? hl), a⟩) (fun _ _ _ _ _ _ _ _ _ _ _ _ _ hx hb _ _ _ hv w => lv_iload_n hx hb hdg rfl (rl_get hv hl (show (0 : Nat) < 8 by decide)) w) k
theorem v_lload {i : Nat} {x : Int} (hdg : decode M.2.1 pc = .ok (.lload i, 2)) (hl : L[i]? = some (1, x)) (k : V l G M d mc ms n1 n2 K (pc + 2) L ((1, x) :: st) h Q) : V l G M d mc ms n1 n2 K pc L st h Q :=
  v_op (fun a b => al_c.mpr ⟨b _ (List.mem_of_getElem? hl), a⟩) (fun _ _ _ _ _ _ _ _ _ _ _ _ _ hx hb _ _ _ hv w => lv_lload hx hb hdg (rl_get hv hl (show (1 : Nat) < 8 by decide)) w) k
theorem v_lload_n {i : Fin 4} {x : Int} (hdg : decode M.2.1 pc = .ok (.lload_n i, 1)) (hl : L[(i : Nat)]? = some (1, x)) (k : V l G M d mc ms n1 n2 K (pc + 1) L ((1, x) :: st) h Q) : V l G M d mc ms n1 n2 K pc L st h Q :=
  v_op (fun a b => al_c.mpr ⟨b _ (List.mem_of_getElem? hl), a⟩) (fun _ _ _ _ _ _ _ _ _ _ _ _ _ hx hb _ _ _ hv w => lv_lload_n hx hb hdg rfl (rl_get hv hl (show (1 : Nat) < 8 by decide)) w) k
theorem v_aload {i : Nat} {x : Int} (hdg : decode M.2.1 pc = .ok (.aload i, 2)) (hl : L[i]? = some (2, x)) (k : V l G M d mc ms n1 n2 K (pc + 2) L ((2, x) :: st) h Q) : V l G M d mc ms n1 n2 K pc L st h Q :=
  v_op (fun a b => al_c.mpr ⟨b _ (List.mem_of_getElem? hl), a⟩) (fun _ _ _ _ _ _ _ _ _ _ _ _ _ hx hb _ _ _ hv w => lv_aload hx hb hdg (rl_get hv hl (show (2 : Nat) < 8 by decide)) w) k
theorem v_aload_n {i : Fin 4} {x : Int} (hdg : decode M.2.1 pc = .ok (.aload_n i, 1)) (hl : L[(i : Nat)]? = some (2, x)) (k : V l G M d mc ms n1 n2 K (pc + 1) L ((2, x) :: st) h Q) : V l G M d mc ms n1 n2 K pc L st h Q :=
  v_op (fun a b => al_c.mpr ⟨b _ (List.mem_of_getElem? hl), a⟩) (fun _ _ _ _ _ _ _ _ _ _ _ _ _ hx hb _ _ _ hv w => lv_aload_n hx hb hdg rfl (rl_get hv hl (show (2 : Nat) < 8 by decide)) w) k
theorem v_istore0 {i : Nat} {x : Int} (hdg : decode M.2.1 pc = .ok (.istore i, 2)) (hn : i < M.2.2.1) (hp : prevOK L i = true) (k : V l G M d mc ms n1 n2 K (pc + 2) (L.set i (0, x)) st h Q) : V l G M d mc ms n1 n2 K pc L ((0, x) :: st) h Q :=
  v_ol (fun a b => ⟨(al_c.mp a).2, al_set b (al_c.mp a).1⟩) (fun _ _ _ _ _ _ _ _ _ _ _ _ _ hx hb _ hv w => lv_istore hx hb hdg hv hn rfl (fun ls' hl' => w ls' (rl_set1 (v := (0, x)) hl' hp))) k
theorem v_istore_0 {a0 : AV} {r : List AV} {x : Int} (hdg : decode M.2.1 pc = .ok (.istore 0, 2)) (hn : 0 < M.2.2.1) (hp : prevOK (a0 :: r) 0 = true) (k : V l G M d mc ms n1 n2 K (pc + 2) ((0, x) :: r) st h Q) : V l G M d mc ms n1 n2 K pc (a0 :: r) ((0, x) :: st) h Q := v_istore0 hdg hn hp k
theorem v_istore_1 {a0 a1 : AV} {r : List AV} {x : Int} (hdg : decode M.2.1 pc = .ok (.istore 1, 2)) (hn : 1 < M.2.2.1) (hp : prevOK (a0 :: a1 :: r) 1 = true) (k : V l G M d mc ms n1 n2 K (pc + 2) (a0 :: (0, x) :: r) st h Q) : V l G M d mc ms n1 n2 K pc (a0 :: a1 :: r) ((0, x) :: st) h Q := v_istore0 hdg hn hp k
theorem v_istore_2 {a0 a1 a2 : AV} {r : List AV} {x : Int} (hdg : decode M.2.1 pc = .ok (.istore 2, 2)) (hn : 2 < M.2.2.1) (hp : prevOK (a0 :: a1 :: a2 :: r) 2 = true) (k : V l G M d mc ms n1 n2 K (pc + 2) (a0 :: a1 :: (0, x) :: r) st h Q) : V l G M d mc ms n1 n2 K pc (a0 :: a1 :: a2 :: r) ((0, x) :: st) h Q := v_istore0 hdg hn hp k
theorem v_istore_3 {a0 a1 a2 a3 : AV} {r : List AV} {x : Int} (hdg : decode M.2.1 pc = .ok (.istore 3, 2)) (hn : 3 < M.2.2.1) (hp : prevOK (a0 :: a1 :: a2 :: a3 :: r) 3 = true) (k : V l G M d mc ms n1 n2 K (pc + 2) (a0 :: a1 :: a2 :: (0, x) :: r) st h Q) : V l G M d mc ms n1 n2 K pc (a0 :: a1 :: a2 :: a3 :: r) ((0, x) :: st) h Q := v_istore0 hdg hn hp k
theorem v_istore_4 {a0 a1 a2 a3 a4 : AV} {r : List AV} {x : Int} (hdg : decode M.2.1 pc = .ok (.istore 4, 2)) (hn : 4 < M.2.2.1) (hp : prevOK (a0 :: a1 :: a2 :: a3 :: a4 :: r) 4 = true) (k : V l G M d mc ms n1 n2 K (pc + 2) (a0 :: a1 :: a2 :: a3 :: (0, x) :: r) st h Q) : V l G M d mc ms n1 n2 K pc (a0 :: a1 :: a2 :: a3 :: a4 :: r) ((0, x) :: st) h Q := v_istore0 hdg hn hp k
theorem v_istore_5 {a0 a1 a2 a3 a4 a5 : AV} {r : List AV} {x : Int} (hdg : decode M.2.1 pc = .ok (.istore 5, 2)) (hn : 5 < M.2.2.1) (hp : prevOK (a0 :: a1 :: a2 :: a3 :: a4 :: a5 :: r) 5 = true) (k : V l G M d mc ms n1 n2 K (pc + 2) (a0 :: a1 :: a2 :: a3 :: a4 :: (0, x) :: r) st h Q) : V l G M d mc ms n1 n2 K pc (a0 :: a1 :: a2 :: a3 :: a4 :: a5 :: r) ((0, x) :: st) h Q := v_istore0 hdg hn hp k
theorem v_istore_6 {a0 a1 a2 a3 a4 a5 a6 : AV} {r : List AV} {x : Int} (hdg : decode M.2.1 pc = .ok (.istore 6, 2)) (hn : 6 < M.2.2.1) (hp : prevOK (a0 :: a1 :: a2 :: a3 :: a4 :: a5 :: a6 :: r) 6 = true) (k : V l G M d mc ms n1 n2 K (pc + 2) (a0 :: a1 :: a2 :: a3 :: a4 :: a5 :: (0, x) :: r) st h Q) : V l G M d mc ms n1 n2 K pc (a0 :: a1 :: a2 :: a3 :: a4 :: a5 :: a6 :: r) ((0, x) :: st) h Q := v_istore0 hdg hn hp k
theorem v_istore_7 {a0 a1 a2 a3 a4 a5 a6 a7 : AV} {r : List AV} {x : Int} (hdg : decode M.2.1 pc = .ok (.istore 7, 2)) (hn : 7 < M.2.2.1) (hp : prevOK (a0 :: a1 :: a2 :: a3 :: a4 :: a5 :: a6 :: a7 :: r) 7 = true) (k : V l G M d mc ms n1 n2 K (pc + 2) (a0 :: a1 :: a2 :: a3 :: a4 :: a5 :: a6 :: (0, x) :: r) st h Q) : V l G M d mc ms n1 n2 K pc (a0 :: a1 :: a2 :: a3 :: a4 :: a5 :: a6 :: a7 :: r) ((0, x) :: st) h Q := v_istore0 hdg hn hp k
theorem v_istore_8 {a0 a1 a2 a3 a4 a5 a6 a7 a8 : AV} {r : List AV} {x : Int} (hdg : decode M.2.1 pc = .ok (.istore 8, 2)) (hn : 8 < M.2.2.1) (hp : prevOK (a0 :: a1 :: a2 :: a3 :: a4 :: a5 :: a6 :: a7 :: a8 :: r) 8 = true) (k : V l G M d mc ms n1 n2 K (pc + 2) (a0 :: a1 :: a2 :: a3 :: a4 :: a5 :: a6 :: a7 :: (0, x) :: r) st h Q) : V l G M d mc ms n1 n2 K pc (a0 :: a1 :: a2 :: a3 :: a4 :: a5 :: a6 :: a7 :: a8 :: r) ((0, x) :: st) h Q := v_istore0 hdg hn hp k
theorem v_istore_9 {a0 a1 a2 a3 a4 a5 a6 a7 a8 a9 : AV} {r : List AV} {x : Int} (hdg : decode M.2.1 pc = .ok (.istore 9, 2)) (hn : 9 < M.2.2.1) (hp : prevOK (a0 :: a1 :: a2 :: a3 :: a4 :: a5 :: a6 :: a7 :: a8 :: a9 :: r) 9 = true) (k : V l G M d mc ms n1 n2 K (pc + 2) (a0 :: a1 :: a2 :: a3 :: a4 :: a5 :: a6 :: a7 :: a8 :: (0, x) :: r) st h Q) : V l G M d mc ms n1 n2 K pc (a0 :: a1 :: a2 :: a3 :: a4 :: a5 :: a6 :: a7 :: a8 :: a9 :: r) ((0, x) :: st) h Q := v_istore0 hdg hn hp k
theorem v_istore_10 {a0 a1 a2 a3 a4 a5 a6 a7 a8 a9 a10 : AV} {r : List AV} {x : Int} (hdg : decode M.2.1 pc = .ok (.istore 10, 2)) (hn : 10 < M.2.2.1) (hp : prevOK (a0 :: a1 :: a2 :: a3 :: a4 :: a5 :: a6 :: a7 :: a8 :: a9 :: a10 :: r) 10 = true) (k : V l G M d mc ms n1 n2 K (pc + 2) (a0 :: a1 :: a2 :: a3 :: a4 :: a5 :: a6 :: a7 :: a8 :: a9 :: (0, x) :: r) st h Q) : V l G M d mc ms n1 n2 K pc (a0 :: a1 :: a2 :: a3 :: a4 :: a5 :: a6 :: a7 :: a8 :: a9 :: a10 :: r) ((0, x) :: st) h Q := v_istore0 hdg hn hp k
theorem v_istore_11 {a0 a1 a2 a3 a4 a5 a6 a7 a8 a9 a10 a11 : AV} {r : List AV} {x : Int} (hdg : decode M.2.1 pc = .ok (.istore 11, 2)) (hn : 11 < M.2.2.1) (hp : prevOK (a0 :: a1 :: a2 :: a3 :: a4 :: a5 :: a6 :: a7 :: a8 :: a9 :: a10 :: a11 :: r) 11 = true) (k : V l G M d mc ms n1 n2 K (pc + 2) (a0 :: a1 :: a2 :: a3 :: a4 :: a5 :: a6 :: a7 :: a8 :: a9 :: a10 :: (0, x) :: r) st h Q) : V l G M d mc ms n1 n2 K pc (a0 :: a1 :: a2 :: a3 :: a4 :: a5 :: a6 :: a7 :: a8 :: a9 :: a10 :: a11 :: r) ((0, x) :: st) h Q := v_istore0 hdg hn hp k
theorem v_istore_12 {a0 a1 a2 a3 a4 a5 a6 a7 a8 a9 a10 a11 a12 : AV} {r : List AV} {x : Int} (hdg : decode M.2.1 pc = .ok (.istore 12, 2)) (hn : 12 < M.2.2.1) (hp : prevOK (a0 :: a1 :: a2 :: a3 :: a4 :: a5 :: a6 :: a7 :: a8 :: a9 :: a10 :: a11 :: a12 :: r) 12 = true) (k : V l G M d mc ms n1 n2 K (pc + 2) (a0 :: a1 :: a2 :: a3 :: a4 :: a5 :: a6 :: a7 :: a8 :: a9 :: a10 :: a11 :: (0, x) :: r) st h Q) : V l G M d mc ms n1 n2 K pc (a0 :: a1 :: a2 :: a3 :: a4 :: a5 :: a6 :: a7 :: a8 :: a9 :: a10 :: a11 :: a12 :: r) ((0, x) :: st) h Q := v_istore0 hdg hn hp k
theorem v_istore_13 {a0 a1 a2 a3 a4 a5 a6 a7 a8 a9 a10 a11 a12 a13 : AV} {r : List AV} {x : Int} (hdg : decode M.2.1 pc = .ok (.istore 13, 2)) (hn : 13 < M.2.2.1) (hp : prevOK (a0 :: a1 :: a2 :: a3 :: a4 :: a5 :: a6 :: a7 :: a8 :: a9 :: a10 :: a11 :: a12 :: a13 :: r) 13 = true) (k : V l G M d mc ms n1 n2 K (pc + 2) (a0 :: a1 :: a2 :: a3 :: a4 :: a5 :: a6 :: a7 :: a8 :: a9 :: a10 :: a11 :: a12 :: (0, x) :: r) st h Q) : V l G M d mc ms n1 n2 K pc (a0 :: a1 :: a2 :: a3 :: a4 :: a5 :: a6 :: a7 :: a8 :: a9 :: a10 :: a11 :: a12 :: a13 :: r) ((0, x) :: st) h Q := v_istore0 hdg hn hp k
theorem v_istore_14 {a0 a1 a2 a3 a4 a5 a6 a7 a8 a9 a10 a11 a12 a13 a14 : AV} {r : List AV} {x : Int} (hdg : decode M.2.1 pc = .ok (.istore 14, 2)) (hn : 14 < M.2.2.1) (hp : prevOK (a0 :: a1 :: a2 :: a3 :: a4 :: a5 :: a6 :: a7 :: a8 :: a9 :: a10 :: a11 :: a12 :: a13 :: a14 :: r) 14 = true) (k : V l G M d mc ms n1 n2 K (pc + 2) (a0 :: a1 :: a2 :: a3 :: a4 :: a5 :: a6 :: a7 :: a8 :: a9 :: a10 :: a11 :: a12 :: a13 :: (0, x) :: r) st h Q) : V l G M d mc ms n1 n2 K pc (a0 :: a1 :: a2 :: a3 :: a4 :: a5 :: a6 :: a7 :: a8 :: a9 :: a10 :: a11 :: a12 :: a13 :: a14 :: r) ((0, x) :: st) h Q := v_istore0 hdg hn hp k
theorem v_istore_15 {a0 a1 a2 a3 a4 a5 a6 a7 a8 a9 a10 a11 a12 a13 a14 a15 : AV} {r : List AV} {x : Int} (hdg : decode M.2.1 pc = .ok (.istore 15, 2)) (hn : 15 < M.2.2.1) (hp : prevOK (a0 :: a1 :: a2 :: a3 :: a4 :: a5 :: a6 :: a7 :: a8 :: a9 :: a10 :: a11 :: a12 :: a13 :: a14 :: a15 :: r) 15 = true) (k : V l G M d mc ms n1 n2 K (pc + 2) (a0 :: a1 :: a2 :: a3 :: a4 :: a5 :: a6 :: a7 :: a8 :: a9 :: a10 :: a11 :: a12 :: a13 :: a14 :: (0, x) :: r) st h Q) : V l G M d mc ms n1 n2 K pc (a0 :: a1 :: a2 :: a3 :: a4 :: a5 :: a6 :: a7 :: a8 :: a9 :: a10 :: a11 :: a12 :: a13 :: a14 :: a15 :: r) ((0, x) :: st) h Q := v_istore0 hdg hn hp k
theorem v_istore_n0 {i : Nat} {k9 : Fin 4} {x : Int} (hdg : decode M.2.1 pc = .ok (.istore_n k9, 1)) (hi : (k9 : Nat) = i) (hn : i < M.2.2.1) (hp : prevOK L i = true) (k : V l G M d mc ms n1 n2 K (pc + 1) (L.set i (0, x)) st h Q) : V l G M d mc ms n1 n2 K pc L ((0, x) :: st) h Q :=
  v_ol (fun a b => ⟨(al_c.mp a).2, al_set b (al_c.mp a).1⟩) (fun _ _ _ _ _ _ _ _ _ _ _ _ _ hx hb _ hv w => lv_istore_n hx hb hdg hi hv hn rfl (fun ls' hl' => w ls' (rl_set1 (v := (0, x)) hl' hp))) k
theorem v_istore_n_0 {a0 : AV} {r : List AV} {x : Int} (hdg : decode M.2.1 pc = .ok (.istore_n 0, 1)) (hn : 0 < M.2.2.1) (hp : prevOK (a0 :: r) 0 = true) (k : V l G M d mc ms n1 n2 K (pc + 1) ((0, x) :: r) st h Q) : V l G M d mc ms n1 n2 K pc (a0 :: r) ((0, x) :: st) h Q := v_istore_n0 hdg rfl hn hp k
theorem v_istore_n_1 {a0 a1 : AV} {r : List AV} {x : Int} (hdg : decode M.2.1 pc = .ok (.istore_n 1, 1)) (hn : 1 < M.2.2.1) (hp : prevOK (a0 :: a1 :: r) 1 = true) (k : V l G M d mc ms n1 n2 K (pc + 1) (a0 :: (0, x) :: r) st h Q) : V l G M d mc ms n1 n2 K pc (a0 :: a1 :: r) ((0, x) :: st) h Q := v_istore_n0 hdg rfl hn hp k
theorem v_istore_n_2 {a0 a1 a2 : AV} {r : List AV} {x : Int} (hdg : decode M.2.1 pc = .ok (.istore_n 2, 1)) (hn : 2 < M.2.2.1) (hp : prevOK (a0 :: a1 :: a2 :: r) 2 = true) (k : V l G M d mc ms n1 n2 K (pc + 1) (a0 :: a1 :: (0, x) :: r) st h Q) : V l G M d mc ms n1 n2 K pc (a0 :: a1 :: a2 :: r) ((0, x) :: st) h Q := v_istore_n0 hdg rfl hn hp k
theorem v_istore_n_3 {a0 a1 a2 a3 : AV} {r : List AV} {x : Int} (hdg : decode M.2.1 pc = .ok (.istore_n 3, 1)) (hn : 3 < M.2.2.1) (hp : prevOK (a0 :: a1 :: a2 :: a3 :: r) 3 = true) (k : V l G M d mc ms n1 n2 K (pc + 1) (a0 :: a1 :: a2 :: (0, x) :: r) st h Q) : V l G M d mc ms n1 n2 K pc (a0 :: a1 :: a2 :: a3 :: r) ((0, x) :: st) h Q := v_istore_n0 hdg rfl hn hp k
theorem v_astore0 {i : Nat} {x : Int} (hdg : decode M.2.1 pc = .ok (.astore i, 2)) (hn : i < M.2.2.1) (hp : prevOK L i = true) (k : V l G M d mc ms n1 n2 K (pc + 2) (L.set i (2, x)) st h Q) : V l G M d mc ms n1 n2 K pc L ((2, x) :: st) h Q :=
  v_ol (fun a b => ⟨(al_c.mp a).2, al_set b (al_c.mp a).1⟩) (fun _ _ _ _ _ _ _ _ _ _ _ _ _ hx hb _ hv w => lv_astore hx hb hdg hv hn rfl (fun ls' hl' => w ls' (rl_set1 (v := (2, x)) hl' hp))) k
theorem v_astore_0 {a0 : AV} {r : List AV} {x : Int} (hdg : decode M.2.1 pc = .ok (.astore 0, 2)) (hn : 0 < M.2.2.1) (hp : prevOK (a0 :: r) 0 = true) (k : V l G M d mc ms n1 n2 K (pc + 2) ((2, x) :: r) st h Q) : V l G M d mc ms n1 n2 K pc (a0 :: r) ((2, x) :: st) h Q := v_astore0 hdg hn hp k
theorem v_astore_1 {a0 a1 : AV} {r : List AV} {x : Int} (hdg : decode M.2.1 pc = .ok (.astore 1, 2)) (hn : 1 < M.2.2.1) (hp : prevOK (a0 :: a1 :: r) 1 = true) (k : V l G M d mc ms n1 n2 K (pc + 2) (a0 :: (2, x) :: r) st h Q) : V l G M d mc ms n1 n2 K pc (a0 :: a1 :: r) ((2, x) :: st) h Q := v_astore0 hdg hn hp k
theorem v_astore_2 {a0 a1 a2 : AV} {r : List AV} {x : Int} (hdg : decode M.2.1 pc = .ok (.astore 2, 2)) (hn : 2 < M.2.2.1) (hp : prevOK (a0 :: a1 :: a2 :: r) 2 = true) (k : V l G M d mc ms n1 n2 K (pc + 2) (a0 :: a1 :: (2, x) :: r) st h Q) : V l G M d mc ms n1 n2 K pc (a0 :: a1 :: a2 :: r) ((2, x) :: st) h Q := v_astore0 hdg hn hp k
theorem v_astore_3 {a0 a1 a2 a3 : AV} {r : List AV} {x : Int} (hdg : decode M.2.1 pc = .ok (.astore 3, 2)) (hn : 3 < M.2.2.1) (hp : prevOK (a0 :: a1 :: a2 :: a3 :: r) 3 = true) (k : V l G M d mc ms n1 n2 K (pc + 2) (a0 :: a1 :: a2 :: (2, x) :: r) st h Q) : V l G M d mc ms n1 n2 K pc (a0 :: a1 :: a2 :: a3 :: r) ((2, x) :: st) h Q := v_astore0 hdg hn hp k
theorem v_astore_4 {a0 a1 a2 a3 a4 : AV} {r : List AV} {x : Int} (hdg : decode M.2.1 pc = .ok (.astore 4, 2)) (hn : 4 < M.2.2.1) (hp : prevOK (a0 :: a1 :: a2 :: a3 :: a4 :: r) 4 = true) (k : V l G M d mc ms n1 n2 K (pc + 2) (a0 :: a1 :: a2 :: a3 :: (2, x) :: r) st h Q) : V l G M d mc ms n1 n2 K pc (a0 :: a1 :: a2 :: a3 :: a4 :: r) ((2, x) :: st) h Q := v_astore0 hdg hn hp k
theorem v_astore_5 {a0 a1 a2 a3 a4 a5 : AV} {r : List AV} {x : Int} (hdg : decode M.2.1 pc = .ok (.astore 5, 2)) (hn : 5 < M.2.2.1) (hp : prevOK (a0 :: a1 :: a2 :: a3 :: a4 :: a5 :: r) 5 = true) (k : V l G M d mc ms n1 n2 K (pc + 2) (a0 :: a1 :: a2 :: a3 :: a4 :: (2, x) :: r) st h Q) : V l G M d mc ms n1 n2 K pc (a0 :: a1 :: a2 :: a3 :: a4 :: a5 :: r) ((2, x) :: st) h Q := v_astore0 hdg hn hp k
theorem v_astore_6 {a0 a1 a2 a3 a4 a5 a6 : AV} {r : List AV} {x : Int} (hdg : decode M.2.1 pc = .ok (.astore 6, 2)) (hn : 6 < M.2.2.1) (hp : prevOK (a0 :: a1 :: a2 :: a3 :: a4 :: a5 :: a6 :: r) 6 = true) (k : V l G M d mc ms n1 n2 K (pc + 2) (a0 :: a1 :: a2 :: a3 :: a4 :: a5 :: (2, x) :: r) st h Q) : V l G M d mc ms n1 n2 K pc (a0 :: a1 :: a2 :: a3 :: a4 :: a5 :: a6 :: r) ((2, x) :: st) h Q := v_astore0 hdg hn hp k
theorem v_astore_7 {a0 a1 a2 a3 a4 a5 a6 a7 : AV} {r : List AV} {x : Int} (hdg : decode M.2.1 pc = .ok (.astore 7, 2)) (hn : 7 < M.2.2.1) (hp : prevOK (a0 :: a1 :: a2 :: a3 :: a4 :: a5 :: a6 :: a7 :: r) 7 = true) (k : V l G M d mc ms n1 n2 K (pc + 2) (a0 :: a1 :: a2 :: a3 :: a4 :: a5 :: a6 :: (2, x) :: r) st h Q) : V l G M d mc ms n1 n2 K pc (a0 :: a1 :: a2 :: a3 :: a4 :: a5 :: a6 :: a7 :: r) ((2, x) :: st) h Q := v_astore0 hdg hn hp k
theorem v_astore_8 {a0 a1 a2 a3 a4 a5 a6 a7 a8 : AV} {r : List AV} {x : Int} (hdg : decode M.2.1 pc = .ok (.astore 8, 2)) (hn : 8 < M.2.2.1) (hp : prevOK (a0 :: a1 :: a2 :: a3 :: a4 :: a5 :: a6 :: a7 :: a8 :: r) 8 = true) (k : V l G M d mc ms n1 n2 K (pc + 2) (a0 :: a1 :: a2 :: a3 :: a4 :: a5 :: a6 :: a7 :: (2, x) :: r) st h Q) : V l G M d mc ms n1 n2 K pc (a0 :: a1 :: a2 :: a3 :: a4 :: a5 :: a6 :: a7 :: a8 :: r) ((2, x) :: st) h Q := v_astore0 hdg hn hp k
theorem v_astore_9 {a0 a1 a2 a3 a4 a5 a6 a7 a8 a9 : AV} {r : List AV} {x : Int} (hdg : decode M.2.1 pc = .ok (.astore 9, 2)) (hn : 9 < M.2.2.1) (hp : prevOK (a0 :: a1 :: a2 :: a3 :: a4 :: a5 :: a6 :: a7 :: a8 :: a9 :: r) 9 = true) (k : V l G M d mc ms n1 n2 K (pc + 2) (a0 :: a1 :: a2 :: a3 :: a4 :: a5 :: a6 :: a7 :: a8 :: (2, x) :: r) st h Q) : V l G M d mc ms n1 n2 K pc (a0 :: a1 :: a2 :: a3 :: a4 :: a5 :: a6 :: a7 :: a8 :: a9 :: r) ((2, x) :: st) h Q := v_astore0 hdg hn hp k
theorem v_astore_10 {a0 a1 a2 a3 a4 a5 a6 a7 a8 a9 a10 : AV} {r : List AV} {x : Int} (hdg : decode M.2.1 pc = .ok (.astore 10, 2)) (hn : 10 < M.2.2.1) (hp : prevOK (a0 :: a1 :: a2 :: a3 :: a4 :: a5 :: a6 :: a7 :: a8 :: a9 :: a10 :: r) 10 = true) (k : V l G M d mc ms n1 n2 K (pc + 2) (a0 :: a1 :: a2 :: a3 :: a4 :: a5 :: a6 :: a7 :: a8 :: a9 :: (2, x) :: r) st h Q) : V l G M d mc ms n1 n2 K pc (a0 :: a1 :: a2 :: a3 :: a4 :: a5 :: a6 :: a7 :: a8 :: a9 :: a10 :: r) ((2, x) :: st) h Q := v_astore0 hdg hn hp k
theorem v_astore_11 {a0 a1 a2 a3 a4 a5 a6 a7 a8 a9 a10 a11 : AV} {r : List AV} {x : Int} (hdg : decode M.2.1 pc = .ok (.astore 11, 2)) (hn : 11 < M.2.2.1) (hp : prevOK (a0 :: a1 :: a2 :: a3 :: a4 :: a5 :: a6 :: a7 :: a8 :: a9 :: a10 :: a11 :: r) 11 = true) (k : V l G M d mc ms n1 n2 K (pc + 2) (a0 :: a1 :: a2 :: a3 :: a4 :: a5 :: a6 :: a7 :: a8 :: a9 :: a10 :: (2, x) :: r) st h Q) : V l G M d mc ms n1 n2 K pc (a0 :: a1 :: a2 :: a3 :: a4 :: a5 :: a6 :: a7 :: a8 :: a9 :: a10 :: a11 :: r) ((2, x) :: st) h Q := v_astore0 hdg hn hp k
theorem v_astore_12 {a0 a1 a2 a3 a4 a5 a6 a7 a8 a9 a10 a11 a12 : AV} {r : List AV} {x : Int} (hdg : decode M.2.1 pc = .ok (.astore 12, 2)) (hn : 12 < M.2.2.1) (hp : prevOK (a0 :: a1 :: a2 :: a3 :: a4 :: a5 :: a6 :: a7 :: a8 :: a9 :: a10 :: a11 :: a12 :: r) 12 = true) (k : V l G M d mc ms n1 n2 K (pc + 2) (a0 :: a1 :: a2 :: a3 :: a4 :: a5 :: a6 :: a7 :: a8 :: a9 :: a10 :: a11 :: (2, x) :: r) st h Q) : V l G M d mc ms n1 n2 K pc (a0 :: a1 :: a2 :: a3 :: a4 :: a5 :: a6 :: a7 :: a8 :: a9 :: a10 :: a11 :: a12 :: r) ((2, x) :: st) h Q := v_astore0 hdg hn hp k
theorem v_astore_13 {a0 a1 a2 a3 a4 a5 a6 a7 a8 a9 a10 a11 a12 a13 : AV} {r : List AV} {x : Int} (hdg : decode M.2.1 pc = .ok (.astore 13, 2)) (hn : 13 < M.2.2.1) (hp : prevOK (a0 :: a1 :: a2 :: a3 :: a4 :: a5 :: a6 :: a7 :: a8 :: a9 :: a10 :: a11 :: a12 :: a13 :: r) 13 = true) (k : V l G M d mc ms n1 n2 K (pc + 2) (a0 :: a1 :: a2 :: a3 :: a4 :: a5 :: a6 :: a7 :: a8 :: a9 :: a10 :: a11 :: a12 :: (2, x) :: r) st h Q) : V l G M d mc ms n1 n2 K pc (a0 :: a1 :: a2 :: a3 :: a4 :: a5 :: a6 :: a7 :: a8 :: a9 :: a10 :: a11 :: a12 :: a13 :: r) ((2, x) :: st) h Q := v_astore0 hdg hn hp k
theorem v_astore_14 {a0 a1 a2 a3 a4 a5 a6 a7 a8 a9 a10 a11 a12 a13 a14 : AV} {r : List AV} {x : Int} (hdg : decode M.2.1 pc = .ok (.astore 14, 2)) (hn : 14 < M.2.2.1) (hp : prevOK (a0 :: a1 :: a2 :: a3 :: a4 :: a5 :: a6 :: a7 :: a8 :: a9 :: a10 :: a11 :: a12 :: a13 :: a14 :: r) 14 = true) (k : V l G M d mc ms n1 n2 K (pc + 2) (a0 :: a1 :: a2 :: a3 :: a4 :: a5 :: a6 :: a7 :: a8 :: a9 :: a10 :: a11 :: a12 :: a13 :: (2, x) :: r) st h Q) : V l G M d mc ms n1 n2 K pc (a0 :: a1 :: a2 :: a3 :: a4 :: a5 :: a6 :: a7 :: a8 :: a9 :: a10 :: a11 :: a12 :: a13 :: a14 :: r) ((2, x) :: st) h Q := v_astore0 hdg hn hp k
theorem v_astore_15 {a0 a1 a2 a3 a4 a5 a6 a7 a8 a9 a10 a11 a12 a13 a14 a15 : AV} {r : List AV} {x : Int} (hdg : decode M.2.1 pc = .ok (.astore 15, 2)) (hn : 15 < M.2.2.1) (hp : prevOK (a0 :: a1 :: a2 :: a3 :: a4 :: a5 :: a6 :: a7 :: a8 :: a9 :: a10 :: a11 :: a12 :: a13 :: a14 :: a15 :: r) 15 = true) (k : V l G M d mc ms n1 n2 K (pc + 2) (a0 :: a1 :: a2 :: a3 :: a4 :: a5 :: a6 :: a7 :: a8 :: a9 :: a10 :: a11 :: a12 :: a13 :: a14 :: (2, x) :: r) st h Q) : V l G M d mc ms n1 n2 K pc (a0 :: a1 :: a2 :: a3 :: a4 :: a5 :: a6 :: a7 :: a8 :: a9 :: a10 :: a11 :: a12 :: a13 :: a14 :: a15 :: r) ((2, x) :: st) h Q := v_astore0 hdg hn hp k
theorem v_astore_n0 {i : Nat} {k9 : Fin 4} {x : Int} (hdg : decode M.2.1 pc = .ok (.astore_n k9, 1)) (hi : (k9 : Nat) = i) (hn : i < M.2.2.1) (hp : prevOK L i = true) (k : V l G M d mc ms n1 n2 K (pc + 1) (L.set i (2, x)) st h Q) : V l G M d mc ms n1 n2 K pc L ((2, x) :: st) h Q :=
  v_ol (fun a b => ⟨(al_c.mp a).2, al_set b (al_c.mp a).1⟩) (fun _ _ _ _ _ _ _ _ _ _ _ _ _ hx hb _ hv w => lv_astore_n hx hb hdg hi hv hn rfl (fun ls' hl' => w ls' (rl_set1 (v := (2, x)) hl' hp))) k
theorem v_astore_n_0 {a0 : AV} {r : List AV} {x : Int} (hdg : decode M.2.1 pc = .ok (.astore_n 0, 1)) (hn : 0 < M.2.2.1) (hp : prevOK (a0 :: r) 0 = true) (k : V l G M d mc ms n1 n2 K (pc + 1) ((2, x) :: r) st h Q) : V l G M d mc ms n1 n2 K pc (a0 :: r) ((2, x) :: st) h Q := v_astore_n0 hdg rfl hn hp k
theorem v_astore_n_1 {a0 a1 : AV} {r : List AV} {x : Int} (hdg : decode M.2.1 pc = .ok (.astore_n 1, 1)) (hn : 1 < M.2.2.1) (hp : prevOK (a0 :: a1 :: r) 1 = true) (k : V l G M d mc ms n1 n2 K (pc + 1) (a0 :: (2, x) :: r) st h Q) : V l G M d mc ms n1 n2 K pc (a0 :: a1 :: r) ((2, x) :: st) h Q := v_astore_n0 hdg rfl hn hp k
theorem v_astore_n_2 {a0 a1 a2 : AV} {r : List AV} {x : Int} (hdg : decode M.2.1 pc = .ok (.astore_n 2, 1)) (hn : 2 < M.2.2.1) (hp : prevOK (a0 :: a1 :: a2 :: r) 2 = true) (k : V l G M d mc ms n1 n2 K (pc + 1) (a0 :: a1 :: (2, x) :: r) st h Q) : V l G M d mc ms n1 n2 K pc (a0 :: a1 :: a2 :: r) ((2, x) :: st) h Q := v_astore_n0 hdg rfl hn hp k
theorem v_astore_n_3 {a0 a1 a2 a3 : AV} {r : List AV} {x : Int} (hdg : decode M.2.1 pc = .ok (.astore_n 3, 1)) (hn : 3 < M.2.2.1) (hp : prevOK (a0 :: a1 :: a2 :: a3 :: r) 3 = true) (k : V l G M d mc ms n1 n2 K (pc + 1) (a0 :: a1 :: a2 :: (2, x) :: r) st h Q) : V l G M d mc ms n1 n2 K pc (a0 :: a1 :: a2 :: a3 :: r) ((2, x) :: st) h Q := v_astore_n0 hdg rfl hn hp k
theorem v_lstore0 {i : Nat} {x : Int} (hdg : decode M.2.1 pc = .ok (.lstore i, 2)) (hn : i + 1 < M.2.2.1) (hp : prevOK L i = true) (k : V l G M d mc ms n1 n2 K (pc + 2) ((L.set i (1, x)).set (i + 1) (8, 0)) st h Q) : V l G M d mc ms n1 n2 K pc L ((1, x) :: st) h Q :=
  v_ol (fun a b => ⟨(al_c.mp a).2, al_set (al_set b (al_c.mp a).1) (oka9 (by decide))⟩) (fun _ _ _ _ _ _ _ _ _ _ _ _ _ hx hb _ hv w => lv_lstore hx hb hdg hv hn rfl (fun ls' hl' => w ls' (rl_set2 (v := (1, x)) hl' hp))) k
theorem v_lstore_0 {a0 a1 : AV} {r : List AV} {x : Int} (hdg : decode M.2.1 pc = .ok (.lstore 0, 2)) (hn : 1 < M.2.2.1) (hp : prevOK (a0 :: a1 :: r) 0 = true) (k : V l G M d mc ms n1 n2 K (pc + 2) ((1, x) :: (8, 0) :: r) st h Q) : V l G M d mc ms n1 n2 K pc (a0 :: a1 :: r) ((1, x) :: st) h Q := v_lstore0 hdg hn hp k
theorem v_lstore_1 {a0 a1 a2 : AV} {r : List AV} {x : Int} (hdg : decode M.2.1 pc = .ok (.lstore 1, 2)) (hn : 2 < M.2.2.1) (hp : prevOK (a0 :: a1 :: a2 :: r) 1 = true) (k : V l G M d mc ms n1 n2 K (pc + 2) (a0 :: (1, x) :: (8, 0) :: r) st h Q) : V l G M d mc ms n1 n2 K pc (a0 :: a1 :: a2 :: r) ((1, x) :: st) h Q := v_lstore0 hdg hn hp k
theorem v_lstore_2 {a0 a1 a2 a3 : AV} {r : List AV} {x : Int} (hdg : decode M.2.1 pc = .ok (.lstore 2, 2)) (hn : 3 < M.2.2.1) (hp : prevOK (a0 :: a1 :: a2 :: a3 :: r) 2 = true) (k : V l G M d mc ms n1 n2 K (pc + 2) (a0 :: a1 :: (1, x) :: (8, 0) :: r) st h Q) : V l G M d mc ms n1 n2 K pc (a0 :: a1 :: a2 :: a3 :: r) ((1, x) :: st) h Q := v_lstore0 hdg hn hp k
theorem v_lstore_3 {a0 a1 a2 a3 a4 : AV} {r : List AV} {x : Int} (hdg : decode M.2.1 pc = .ok (.lstore 3, 2)) (hn : 4 < M.2.2.1) (hp : prevOK (a0 :: a1 :: a2 :: a3 :: a4 :: r) 3 = true) (k : V l G M d mc ms n1 n2 K (pc + 2) (a0 :: a1 :: a2 :: (1, x) :: (8, 0) :: r) st h Q) : V l G M d mc ms n1 n2 K pc (a0 :: a1 :: a2 :: a3 :: a4 :: r) ((1, x) :: st) h Q := v_lstore0 hdg hn hp k
theorem v_lstore_4 {a0 a1 a2 a3 a4 a5 : AV} {r : List AV} {x : Int} (hdg : decode M.2.1 pc = .ok (.lstore 4, 2)) (hn : 5 < M.2.2.1) (hp : prevOK (a0 :: a1 :: a2 :: a3 :: a4 :: a5 :: r) 4 = true) (k : V l G M d mc ms n1 n2 K (pc + 2) (a0 :: a1 :: a2 :: a3 :: (1, x) :: (8, 0) :: r) st h Q) : V l G M d mc ms n1 n2 K pc (a0 :: a1 :: a2 :: a3 :: a4 :: a5 :: r) ((1, x) :: st) h Q := v_lstore0 hdg hn hp k
theorem v_lstore_5 {a0 a1 a2 a3 a4 a5 a6 : AV} {r : List AV} {x : Int} (hdg : decode M.2.1 pc = .ok (.lstore 5, 2)) (hn : 6 < M.2.2.1) (hp : prevOK (a0 :: a1 :: a2 :: a3 :: a4 :: a5 :: a6 :: r) 5 = true) (k : V l G M d mc ms n1 n2 K (pc + 2) (a0 :: a1 :: a2 :: a3 :: a4 :: (1, x) :: (8, 0) :: r) st h Q) : V l G M d mc ms n1 n2 K pc (a0 :: a1 :: a2 :: a3 :: a4 :: a5 :: a6 :: r) ((1, x) :: st) h Q := v_lstore0 hdg hn hp k
theorem v_lstore_6 {a0 a1 a2 a3 a4 a5 a6 a7 : AV} {r : List AV} {x : Int} (hdg : decode M.2.1 pc = .ok (.lstore 6, 2)) (hn : 7 < M.2.2.1) (hp : prevOK (a0 :: a1 :: a2 :: a3 :: a4 :: a5 :: a6 :: a7 :: r) 6 = true) (k : V l G M d mc ms n1 n2 K (pc + 2) (a0 :: a1 :: a2 :: a3 :: a4 :: a5 :: (1, x) :: (8, 0) :: r) st h Q) : V l G M d mc ms n1 n2 K pc (a0 :: a1 :: a2 :: a3 :: a4 :: a5 :: a6 :: a7 :: r) ((1, x) :: st) h Q := v_lstore0 hdg hn hp k
theorem v_lstore_7 {a0 a1 a2 a3 a4 a5 a6 a7 a8 : AV} {r : List AV} {x : Int} (hdg : decode M.2.1 pc = .ok (.lstore 7, 2)) (hn : 8 < M.2.2.1) (hp : prevOK (a0 :: a1 :: a2 :: a3 :: a4 :: a5 :: a6 :: a7 :: a8 :: r) 7 = true) (k : V l G M d mc ms n1 n2 K (pc + 2) (a0 :: a1 :: a2 :: a3 :: a4 :: a5 :: a6 :: (1, x) :: (8, 0) :: r) st h Q) : V l G M d mc ms n1 n2 K pc (a0 :: a1 :: a2 :: a3 :: a4 :: a5 :: a6 :: a7 :: a8 :: r) ((1, x) :: st) h Q := v_lstore0 hdg hn hp k
theorem v_lstore_8 {a0 a1 a2 a3 a4 a5 a6 a7 a8 a9 : AV} {r : List AV} {x : Int} (hdg : decode M.2.1 pc = .ok (.lstore 8, 2)) (hn : 9 < M.2.2.1) (hp : prevOK (a0 :: a1 :: a2 :: a3 :: a4 :: a5 :: a6 :: a7 :: a8 :: a9 :: r) 8 = true) (k : V l G M d mc ms n1 n2 K (pc + 2) (a0 :: a1 :: a2 :: a3 :: a4 :: a5 :: a6 :: a7 :: (1, x) :: (8, 0) :: r) st h Q) : V l G M d mc ms n1 n2 K pc (a0 :: a1 :: a2 :: a3 :: a4 :: a5 :: a6 :: a7 :: a8 :: a9 :: r) ((1, x) :: st) h Q := v_lstore0 hdg hn hp k
theorem v_lstore_9 {a0 a1 a2 a3 a4 a5 a6 a7 a8 a9 a10 : AV} {r : List AV} {x : Int} (hdg : decode M.2.1 pc = .ok (.lstore 9, 2)) (hn : 10 < M.2.2.1) (hp : prevOK (a0 :: a1 :: a2 :: a3 :: a4 :: a5 :: a6 :: a7 :: a8 :: a9 :: a10 :: r) 9 = true) (k : V l G M d mc ms n1 n2 K (pc + 2) (a0 :: a1 :: a2 :: a3 :: a4 :: a5 :: a6 :: a7 :: a8 :: (1, x) :: (8, 0) :: r) st h Q) : V l G M d mc ms n1 n2 K pc (a0 :: a1 :: a2 :: a3 :: a4 :: a5 :: a6 :: a7 :: a8 :: a9 :: a10 :: r) ((1, x) :: st) h Q := v_lstore0 hdg hn hp k
theorem v_lstore_10 {a0 a1 a2 a3 a4 a5 a6 a7 a8 a9 a10 a11 : AV} {r : List AV} {x : Int} (hdg : decode M.2.1 pc = .ok (.lstore 10, 2)) (hn : 11 < M.2.2.1) (hp : prevOK (a0 :: a1 :: a2 :: a3 :: a4 :: a5 :: a6 :: a7 :: a8 :: a9 :: a10 :: a11 :: r) 10 = true) (k : V l G M d mc ms n1 n2 K (pc + 2) (a0 :: a1 :: a2 :: a3 :: a4 :: a5 :: a6 :: a7 :: a8 :: a9 :: (1, x) :: (8, 0) :: r) st h Q) : V l G M d mc ms n1 n2 K pc (a0 :: a1 :: a2 :: a3 :: a4 :: a5 :: a6 :: a7 :: a8 :: a9 :: a10 :: a11 :: r) ((1, x) :: st) h Q := v_lstore0 hdg hn hp k
theorem v_lstore_11 {a0 a1 a2 a3 a4 a5 a6 a7 a8 a9 a10 a11 a12 : AV} {r : List AV} {x : Int} (hdg : decode M.2.1 pc = .ok (.lstore 11, 2)) (hn : 12 < M.2.2.1) (hp : prevOK (a0 :: a1 :: a2 :: a3 :: a4 :: a5 :: a6 :: a7 :: a8 :: a9 :: a10 :: a11 :: a12 :: r) 11 = true) (k : V l G M d mc ms n1 n2 K (pc + 2) (a0 :: a1 :: a2 :: a3 :: a4 :: a5 :: a6 :: a7 :: a8 :: a9 :: a10 :: (1, x) :: (8, 0) :: r) st h Q) : V l G M d mc ms n1 n2 K pc (a0 :: a1 :: a2 :: a3 :: a4 :: a5 :: a6 :: a7 :: a8 :: a9 :: a10 :: a11 :: a12 :: r) ((1, x) :: st) h Q := v_lstore0 hdg hn hp k
theorem v_lstore_12 {a0 a1 a2 a3 a4 a5 a6 a7 a8 a9 a10 a11 a12 a13 : AV} {r : List AV} {x : Int} (hdg : decode M.2.1 pc = .ok (.lstore 12, 2)) (hn : 13 < M.2.2.1) (hp : prevOK (a0 :: a1 :: a2 :: a3 :: a4 :: a5 :: a6 :: a7 :: a8 :: a9 :: a10 :: a11 :: a12 :: a13 :: r) 12 = true) (k : V l G M d mc ms n1 n2 K (pc + 2) (a0 :: a1 :: a2 :: a3 :: a4 :: a5 :: a6 :: a7 :: a8 :: a9 :: a10 :: a11 :: (1, x) :: (8, 0) :: r) st h Q) : V l G M d mc ms n1 n2 K pc (a0 :: a1 :: a2 :: a3 :: a4 :: a5 :: a6 :: a7 :: a8 :: a9 :: a10 :: a11 :: a12 :: a13 :: r) ((1, x) :: st) h Q := v_lstore0 hdg hn hp k
theorem v_lstore_13 {a0 a1 a2 a3 a4 a5 a6 a7 a8 a9 a10 a11 a12 a13 a14 : AV} {r : List AV} {x : Int} (hdg : decode M.2.1 pc = .ok (.lstore 13, 2)) (hn : 14 < M.2.2.1) (hp : prevOK (a0 :: a1 :: a2 :: a3 :: a4 :: a5 :: a6 :: a7 :: a8 :: a9 :: a10 :: a11 :: a12 :: a13 :: a14 :: r) 13 = true) (k : V l G M d mc ms n1 n2 K (pc + 2) (a0 :: a1 :: a2 :: a3 :: a4 :: a5 :: a6 :: a7 :: a8 :: a9 :: a10 :: a11 :: a12 :: (1, x) :: (8, 0) :: r) st h Q) : V l G M d mc ms n1 n2 K pc (a0 :: a1 :: a2 :: a3 :: a4 :: a5 :: a6 :: a7 :: a8 :: a9 :: a10 :: a11 :: a12 :: a13 :: a14 :: r) ((1, x) :: st) h Q := v_lstore0 hdg hn hp k
theorem v_lstore_14 {a0 a1 a2 a3 a4 a5 a6 a7 a8 a9 a10 a11 a12 a13 a14 a15 : AV} {r : List AV} {x : Int} (hdg : decode M.2.1 pc = .ok (.lstore 14, 2)) (hn : 15 < M.2.2.1) (hp : prevOK (a0 :: a1 :: a2 :: a3 :: a4 :: a5 :: a6 :: a7 :: a8 :: a9 :: a10 :: a11 :: a12 :: a13 :: a14 :: a15 :: r) 14 = true) (k : V l G M d mc ms n1 n2 K (pc + 2) (a0 :: a1 :: a2 :: a3 :: a4 :: a5 :: a6 :: a7 :: a8 :: a9 :: a10 :: a11 :: a12 :: a13 :: (1, x) :: (8, 0) :: r) st h Q) : V l G M d mc ms n1 n2 K pc (a0 :: a1 :: a2 :: a3 :: a4 :: a5 :: a6 :: a7 :: a8 :: a9 :: a10 :: a11 :: a12 :: a13 :: a14 :: a15 :: r) ((1, x) :: st) h Q := v_lstore0 hdg hn hp k
theorem v_lstore_n0 {i : Nat} {k9 : Fin 4} {x : Int} (hdg : decode M.2.1 pc = .ok (.lstore_n k9, 1)) (hi : (k9 : Nat) = i) (hn : i + 1 < M.2.2.1) (hp : prevOK L i = true) (k : V l G M d mc ms n1 n2 K (pc + 1) ((L.set i (1, x)).set (i + 1) (8, 0)) st h Q) : V l G M d mc ms n1 n2 K pc L ((1, x) :: st) h Q :=
  v_ol (fun a b => ⟨(al_c.mp a).2, al_set (al_set b (al_c.mp a).1) (oka9 (by decide))⟩) (fun _ _ _ _ _ _ _ _ _ _ _ _ _ hx hb _ hv w => lv_lstore_n hx hb hdg hi hv hn rfl (fun ls' hl' => w ls' (rl_set2 (v := (1, x)) hl' hp))) k
theorem v_lstore_n_0 {a0 a1 : AV} {r : List AV} {x : Int} (hdg : decode M.2.1 pc = .ok (.lstore_n 0, 1)) (hn : 1 < M.2.2.1) (hp : prevOK (a0 :: a1 :: r) 0 = true) (k : V l G M d mc ms n1 n2 K (pc + 1) ((1, x) :: (8, 0) :: r) st h Q) : V l G M d mc ms n1 n2 K pc (a0 :: a1 :: r) ((1, x) :: st) h Q := v_lstore_n0 hdg rfl hn hp k
theorem v_lstore_n_1 {a0 a1 a2 : AV} {r : List AV} {x : Int} (hdg : decode M.2.1 pc = .ok (.lstore_n 1, 1)) (hn : 2 < M.2.2.1) (hp : prevOK (a0 :: a1 :: a2 :: r) 1 = true) (k : V l G M d mc ms n1 n2 K (pc + 1) (a0 :: (1, x) :: (8, 0) :: r) st h Q) : V l G M d mc ms n1 n2 K pc (a0 :: a1 :: a2 :: r) ((1, x) :: st) h Q := v_lstore_n0 hdg rfl hn hp k
theorem v_lstore_n_2 {a0 a1 a2 a3 : AV} {r : List AV} {x : Int} (hdg : decode M.2.1 pc = .ok (.lstore_n 2, 1)) (hn : 3 < M.2.2.1) (hp : prevOK (a0 :: a1 :: a2 :: a3 :: r) 2 = true) (k : V l G M d mc ms n1 n2 K (pc + 1) (a0 :: a1 :: (1, x) :: (8, 0) :: r) st h Q) : V l G M d mc ms n1 n2 K pc (a0 :: a1 :: a2 :: a3 :: r) ((1, x) :: st) h Q := v_lstore_n0 hdg rfl hn hp k
theorem v_lstore_n_3 {a0 a1 a2 a3 a4 : AV} {r : List AV} {x : Int} (hdg : decode M.2.1 pc = .ok (.lstore_n 3, 1)) (hn : 4 < M.2.2.1) (hp : prevOK (a0 :: a1 :: a2 :: a3 :: a4 :: r) 3 = true) (k : V l G M d mc ms n1 n2 K (pc + 1) (a0 :: a1 :: a2 :: (1, x) :: (8, 0) :: r) st h Q) : V l G M d mc ms n1 n2 K pc (a0 :: a1 :: a2 :: a3 :: a4 :: r) ((1, x) :: st) h Q := v_lstore_n0 hdg rfl hn hp k
theorem v_iinc0 {i : Nat} {n x : Int} (hdg : decode M.2.1 pc = .ok (.iinc i n, 3)) (hl : L[i]? = some (0, x)) (hn : i < M.2.2.1) (hp : prevOK L i = true) (k : V l G M d mc ms n1 n2 K (pc + 3) (L.set i (0, (Int32.ofInt x + Int32.ofInt n).toInt)) st h Q) : V l G M d mc ms n1 n2 K pc L st h Q :=
  v_ol (fun a b => ⟨a, al_set b (oka0 (o32 _))⟩) (fun _ _ _ _ _ _ _ _ adr _ _ ls _ hx hb _ hv w => by
    obtain ⟨k9, hk9⟩ := List.getElem?_of_mem ((rl_mem (adr := adr) (q := (i, Value.int (Int32.ofInt x))) L 0).mpr ⟨i, (0, x), hl, (show (0 : Nat) < 8 by decide), by simp [ra]⟩)
    exact lv_iinc hx hb hdg hv hk9 rfl hn rfl (fun ls' hl' => w ls' (rl_set1 (v := (0, (Int32.ofInt x + Int32.ofInt n).toInt)) (by
      have e : ra adr (0, (Int32.ofInt x + Int32.ofInt n).toInt) = .int (Int32.ofInt x + Int32.ofInt n) := by simp only [ra, f32]
      rw [e]; exact hl') hp))) k
/-- ints and longs as the machine computes them -/
def iadd (x y : Int) : Int := (Int32.ofInt x + Int32.ofInt y).toInt
def isub (x y : Int) : Int := (Int32.ofInt x - Int32.ofInt y).toInt
def imul (x y : Int) : Int := (Int32.ofInt x * Int32.ofInt y).toInt
def iand (x y : Int) : Int := (Int32.ofInt x &&& Int32.ofInt y).toInt
def ixor (x y : Int) : Int := (Int32.ofInt x ^^^ Int32.ofInt y).toInt
def ishl (x y : Int) : Int := (Int32.ofInt x <<< (Int32.ofInt y &&& 31)).toInt
def ishr (x y : Int) : Int := (Int32.ofInt x >>> (Int32.ofInt y &&& 31)).toInt
def iushr (x y : Int) : Int := ((Int32.ofInt x).toUInt32 >>> ((Int32.ofInt y).toUInt32 &&& Int32.toUInt32 31)).toInt32.toInt
def idiv (x y : Int) : Int := (Int32.ofInt x / Int32.ofInt y).toInt
def irem (x y : Int) : Int := (Int32.ofInt x - Int32.ofInt x / Int32.ofInt y * Int32.ofInt y).toInt
def ineg (x : Int) : Int := (-Int32.ofInt x).toInt
def i2b (x : Int) : Int := (Int32.ofInt x).toInt8.toInt32.toInt
def i2c (x : Int) : Int := ((Int32.ofInt x).toUInt32 % 65536).toInt32.toInt
def l2i (x : Int) : Int := (Int64.ofInt x).toInt32.toInt
def ladd (x y : Int) : Int := (Int64.ofInt x + Int64.ofInt y).toInt
def lsub (x y : Int) : Int := (Int64.ofInt x - Int64.ofInt y).toInt
def lmul (x y : Int) : Int := (Int64.ofInt x * Int64.ofInt y).toInt
def land (x y : Int) : Int := (Int64.ofInt x &&& Int64.ofInt y).toInt
def lor (x y : Int) : Int := (Int64.ofInt x ||| Int64.ofInt y).toInt
def ldiv (x y : Int) : Int := (Int64.ofInt x / Int64.ofInt y).toInt
def lrem (x y : Int) : Int := (Int64.ofInt x - Int64.ofInt x / Int64.ofInt y * Int64.ofInt y).toInt
def lushr (x y : Int) : Int := ((Int64.ofInt x).toUInt64 >>> ((Int32.ofInt y).toInt64.toUInt64 &&& Int64.toUInt64 63)).toInt64.toInt
def lshl (x y : Int) : Int := (Int64.ofInt x <<< ((Int32.ofInt y).toInt64 &&& 63)).toInt
theorem iadd_eq {x y : Int} (q : ok32 (x + y)) : iadd x y = x + y := by
  unfold iadd
  rw [← Int32.ofInt_add, t32 q]
theorem isub_eq {x y : Int} (q : ok32 (x - y)) : isub x y = x - y := by
  unfold isub
  rw [← Int32.ofInt_sub, t32 q]
theorem imul_eq {x y : Int} (q : ok32 (x * y)) : imul x y = x * y := by
  unfold imul
  rw [← Int32.ofInt_mul, t32 q]
theorem ladd_eq {x y : Int} (q : ok64 (x + y)) : ladd x y = x + y := by
  unfold ladd
  rw [← Int64.ofInt_add, t64 q]
theorem lsub_eq {x y : Int} (q : ok64 (x - y)) : lsub x y = x - y := by
  unfold lsub
  rw [← Int64.ofInt_sub, t64 q]
theorem lmul_eq {x y : Int} (q : ok64 (x * y)) : lmul x y = x * y := by
  unfold lmul
  rw [← Int64.ofInt_mul, t64 q]
theorem v_iinc_0 {r : List AV} {x n : Int} (hdg : decode M.2.1 pc = .ok (.iinc 0 n, 3)) (hn : 0 < M.2.2.1) (hp : prevOK ((0, x) :: r) 0 = true) (k : V l G M d mc ms n1 n2 K (pc + 3) ((0, iadd x n) :: r) st h Q) : V l G M d mc ms n1 n2 K pc ((0, x) :: r) st h Q := v_iinc0 hdg rfl hn hp k
theorem v_iinc_1 {a0 : AV} {r : List AV} {x n : Int} (hdg : decode M.2.1 pc = .ok (.iinc 1 n, 3)) (hn : 1 < M.2.2.1) (hp : prevOK (a0 :: (0, x) :: r) 1 = true) (k : V l G M d mc ms n1 n2 K (pc + 3) (a0 :: (0, iadd x n) :: r) st h Q) : V l G M d mc ms n1 n2 K pc (a0 :: (0, x) :: r) st h Q := v_iinc0 hdg rfl hn hp k
theorem v_iinc_2 {a0 a1 : AV} {r : List AV} {x n : Int} (hdg : decode M.2.1 pc = .ok (.iinc 2 n, 3)) (hn : 2 < M.2.2.1) (hp : prevOK (a0 :: a1 :: (0, x) :: r) 2 = true) (k : V l G M d mc ms n1 n2 K (pc + 3) (a0 :: a1 :: (0, iadd x n) :: r) st h Q) : V l G M d mc ms n1 n2 K pc (a0 :: a1 :: (0, x) :: r) st h Q := v_iinc0 hdg rfl hn hp k
theorem v_iinc_3 {a0 a1 a2 : AV} {r : List AV} {x n : Int} (hdg : decode M.2.1 pc = .ok (.iinc 3 n, 3)) (hn : 3 < M.2.2.1) (hp : prevOK (a0 :: a1 :: a2 :: (0, x) :: r) 3 = true) (k : V l G M d mc ms n1 n2 K (pc + 3) (a0 :: a1 :: a2 :: (0, iadd x n) :: r) st h Q) : V l G M d mc ms n1 n2 K pc (a0 :: a1 :: a2 :: (0, x) :: r) st h Q := v_iinc0 hdg rfl hn hp k
theorem v_iinc_4 {a0 a1 a2 a3 : AV} {r : List AV} {x n : Int} (hdg : decode M.2.1 pc = .ok (.iinc 4 n, 3)) (hn : 4 < M.2.2.1) (hp : prevOK (a0 :: a1 :: a2 :: a3 :: (0, x) :: r) 4 = true) (k : V l G M d mc ms n1 n2 K (pc + 3) (a0 :: a1 :: a2 :: a3 :: (0, iadd x n) :: r) st h Q) : V l G M d mc ms n1 n2 K pc (a0 :: a1 :: a2 :: a3 :: (0, x) :: r) st h Q := v_iinc0 hdg rfl hn hp k
theorem v_iinc_5 {a0 a1 a2 a3 a4 : AV} {r : List AV} {x n : Int} (hdg : decode M.2.1 pc = .ok (.iinc 5 n, 3)) (hn : 5 < M.2.2.1) (hp : prevOK (a0 :: a1 :: a2 :: a3 :: a4 :: (0, x) :: r) 5 = true) (k : V l G M d mc ms n1 n2 K (pc + 3) (a0 :: a1 :: a2 :: a3 :: a4 :: (0, iadd x n) :: r) st h Q) : V l G M d mc ms n1 n2 K pc (a0 :: a1 :: a2 :: a3 :: a4 :: (0, x) :: r) st h Q := v_iinc0 hdg rfl hn hp k
theorem v_iinc_6 {a0 a1 a2 a3 a4 a5 : AV} {r : List AV} {x n : Int} (hdg : decode M.2.1 pc = .ok (.iinc 6 n, 3)) (hn : 6 < M.2.2.1) (hp : prevOK (a0 :: a1 :: a2 :: a3 :: a4 :: a5 :: (0, x) :: r) 6 = true) (k : V l G M d mc ms n1 n2 K (pc + 3) (a0 :: a1 :: a2 :: a3 :: a4 :: a5 :: (0, iadd x n) :: r) st h Q) : V l G M d mc ms n1 n2 K pc (a0 :: a1 :: a2 :: a3 :: a4 :: a5 :: (0, x) :: r) st h Q := v_iinc0 hdg rfl hn hp k
theorem v_iinc_7 {a0 a1 a2 a3 a4 a5 a6 : AV} {r : List AV} {x n : Int} (hdg : decode M.2.1 pc = .ok (.iinc 7 n, 3)) (hn : 7 < M.2.2.1) (hp : prevOK (a0 :: a1 :: a2 :: a3 :: a4 :: a5 :: a6 :: (0, x) :: r) 7 = true) (k : V l G M d mc ms n1 n2 K (pc + 3) (a0 :: a1 :: a2 :: a3 :: a4 :: a5 :: a6 :: (0, iadd x n) :: r) st h Q) : V l G M d mc ms n1 n2 K pc (a0 :: a1 :: a2 :: a3 :: a4 :: a5 :: a6 :: (0, x) :: r) st h Q := v_iinc0 hdg rfl hn hp k
theorem v_iinc_8 {a0 a1 a2 a3 a4 a5 a6 a7 : AV} {r : List AV} {x n : Int} (hdg : decode M.2.1 pc = .ok (.iinc 8 n, 3)) (hn : 8 < M.2.2.1) (hp : prevOK (a0 :: a1 :: a2 :: a3 :: a4 :: a5 :: a6 :: a7 :: (0, x) :: r) 8 = true) (k : V l G M d mc ms n1 n2 K (pc + 3) (a0 :: a1 :: a2 :: a3 :: a4 :: a5 :: a6 :: a7 :: (0, iadd x n) :: r) st h Q) : V l G M d mc ms n1 n2 K pc (a0 :: a1 :: a2 :: a3 :: a4 :: a5 :: a6 :: a7 :: (0, x) :: r) st h Q := v_iinc0 hdg rfl hn hp k
theorem v_iinc_9 {a0 a1 a2 a3 a4 a5 a6 a7 a8 : AV} {r : List AV} {x n : Int} (hdg : decode M.2.1 pc = .ok (.iinc 9 n, 3)) (hn : 9 < M.2.2.1) (hp : prevOK (a0 :: a1 :: a2 :: a3 :: a4 :: a5 :: a6 :: a7 :: a8 :: (0, x) :: r) 9 = true) (k : V l G M d mc ms n1 n2 K (pc + 3) (a0 :: a1 :: a2 :: a3 :: a4 :: a5 :: a6 :: a7 :: a8 :: (0, iadd x n) :: r) st h Q) : V l G M d mc ms n1 n2 K pc (a0 :: a1 :: a2 :: a3 :: a4 :: a5 :: a6 :: a7 :: a8 :: (0, x) :: r) st h Q := v_iinc0 hdg rfl hn hp k
theorem v_iinc_10 {a0 a1 a2 a3 a4 a5 a6 a7 a8 a9 : AV} {r : List AV} {x n : Int} (hdg : decode M.2.1 pc = .ok (.iinc 10 n, 3)) (hn : 10 < M.2.2.1) (hp : prevOK (a0 :: a1 :: a2 :: a3 :: a4 :: a5 :: a6 :: a7 :: a8 :: a9 :: (0, x) :: r) 10 = true) (k : V l G M d mc ms n1 n2 K (pc + 3) (a0 :: a1 :: a2 :: a3 :: a4 :: a5 :: a6 :: a7 :: a8 :: a9 :: (0, iadd x n) :: r) st h Q) : V l G M d mc ms n1 n2 K pc (a0 :: a1 :: a2 :: a3 :: a4 :: a5 :: a6 :: a7 :: a8 :: a9 :: (0, x) :: r) st h Q := v_iinc0 hdg rfl hn hp k
theorem v_iinc_11 {a0 a1 a2 a3 a4 a5 a6 a7 a8 a9 a10 : AV} {r : List AV} {x n : Int} (hdg : decode M.2.1 pc = .ok (.iinc 11 n, 3)) (hn : 11 < M.2.2.1) (hp : prevOK (a0 :: a1 :: a2 :: a3 :: a4 :: a5 :: a6 :: a7 :: a8 :: a9 :: a10 :: (0, x) :: r) 11 = true) (k : V l G M d mc ms n1 n2 K (pc + 3) (a0 :: a1 :: a2 :: a3 :: a4 :: a5 :: a6 :: a7 :: a8 :: a9 :: a10 :: (0, iadd x n) :: r) st h Q) : V l G M d mc ms n1 n2 K pc (a0 :: a1 :: a2 :: a3 :: a4 :: a5 :: a6 :: a7 :: a8 :: a9 :: a10 :: (0, x) :: r) st h Q := v_iinc0 hdg rfl hn hp k
theorem v_iinc_12 {a0 a1 a2 a3 a4 a5 a6 a7 a8 a9 a10 a11 : AV} {r : List AV} {x n : Int} (hdg : decode M.2.1 pc = .ok (.iinc 12 n, 3)) (hn : 12 < M.2.2.1) (hp : prevOK (a0 :: a1 :: a2 :: a3 :: a4 :: a5 :: a6 :: a7 :: a8 :: a9 :: a10 :: a11 :: (0, x) :: r) 12 = true) (k : V l G M d mc ms n1 n2 K (pc + 3) (a0 :: a1 :: a2 :: a3 :: a4 :: a5 :: a6 :: a7 :: a8 :: a9 :: a10 :: a11 :: (0, iadd x n) :: r) st h Q) : V l G M d mc ms n1 n2 K pc (a0 :: a1 :: a2 :: a3 :: a4 :: a5 :: a6 :: a7 :: a8 :: a9 :: a10 :: a11 :: (0, x) :: r) st h Q := v_iinc0 hdg rfl hn hp k
theorem v_iinc_13 {a0 a1 a2 a3 a4 a5 a6 a7 a8 a9 a10 a11 a12 : AV} {r : List AV} {x n : Int} (hdg : decode M.2.1 pc = .ok (.iinc 13 n, 3)) (hn : 13 < M.2.2.1) (hp : prevOK (a0 :: a1 :: a2 :: a3 :: a4 :: a5 :: a6 :: a7 :: a8 :: a9 :: a10 :: a11 :: a12 :: (0, x) :: r) 13 = true) (k : V l G M d mc ms n1 n2 K (pc + 3) (a0 :: a1 :: a2 :: a3 :: a4 :: a5 :: a6 :: a7 :: a8 :: a9 :: a10 :: a11 :: a12 :: (0, iadd x n) :: r) st h Q) : V l G M d mc ms n1 n2 K pc (a0 :: a1 :: a2 :: a3 :: a4 :: a5 :: a6 :: a7 :: a8 :: a9 :: a10 :: a11 :: a12 :: (0, x) :: r) st h Q := v_iinc0 hdg rfl hn hp k
theorem v_iinc_14 {a0 a1 a2 a3 a4 a5 a6 a7 a8 a9 a10 a11 a12 a13 : AV} {r : List AV} {x n : Int} (hdg : decode M.2.1 pc = .ok (.iinc 14 n, 3)) (hn : 14 < M.2.2.1) (hp : prevOK (a0 :: a1 :: a2 :: a3 :: a4 :: a5 :: a6 :: a7 :: a8 :: a9 :: a10 :: a11 :: a12 :: a13 :: (0, x) :: r) 14 = true) (k : V l G M d mc ms n1 n2 K (pc + 3) (a0 :: a1 :: a2 :: a3 :: a4 :: a5 :: a6 :: a7 :: a8 :: a9 :: a10 :: a11 :: a12 :: a13 :: (0, iadd x n) :: r) st h Q) : V l G M d mc ms n1 n2 K pc (a0 :: a1 :: a2 :: a3 :: a4 :: a5 :: a6 :: a7 :: a8 :: a9 :: a10 :: a11 :: a12 :: a13 :: (0, x) :: r) st h Q := v_iinc0 hdg rfl hn hp k
theorem v_iinc_15 {a0 a1 a2 a3 a4 a5 a6 a7 a8 a9 a10 a11 a12 a13 a14 : AV} {r : List AV} {x n : Int} (hdg : decode M.2.1 pc = .ok (.iinc 15 n, 3)) (hn : 15 < M.2.2.1) (hp : prevOK (a0 :: a1 :: a2 :: a3 :: a4 :: a5 :: a6 :: a7 :: a8 :: a9 :: a10 :: a11 :: a12 :: a13 :: a14 :: (0, x) :: r) 15 = true) (k : V l G M d mc ms n1 n2 K (pc + 3) (a0 :: a1 :: a2 :: a3 :: a4 :: a5 :: a6 :: a7 :: a8 :: a9 :: a10 :: a11 :: a12 :: a13 :: a14 :: (0, iadd x n) :: r) st h Q) : V l G M d mc ms n1 n2 K pc (a0 :: a1 :: a2 :: a3 :: a4 :: a5 :: a6 :: a7 :: a8 :: a9 :: a10 :: a11 :: a12 :: a13 :: a14 :: (0, x) :: r) st h Q := v_iinc0 hdg rfl hn hp k
theorem v_iadd {x y : Int} (hdg : decode M.2.1 pc = .ok (.iadd, 1)) (k : V l G M d mc ms n1 n2 K (pc + 1) L ((0, iadd x y) :: st) h Q) : V l G M d mc ms n1 n2 K pc L ((0, y) :: (0, x) :: st) h Q :=
  v_op (fun a _ => al_c.mpr ⟨oka0 (o32 _), (al_c.mp (al_c.mp a).2).2⟩) (fun _ _ _ _ _ _ _ _ adr _ _ _ _ hx hb _ _ ha _ w => by
    simp only [List.map_cons, ra, iadd, f32] at w
    exact lv_iadd hx hb hdg w) k
theorem v_isub {x y : Int} (hdg : decode M.2.1 pc = .ok (.isub, 1)) (k : V l G M d mc ms n1 n2 K (pc + 1) L ((0, isub x y) :: st) h Q) : V l G M d mc ms n1 n2 K pc L ((0, y) :: (0, x) :: st) h Q :=
  v_op (fun a _ => al_c.mpr ⟨oka0 (o32 _), (al_c.mp (al_c.mp a).2).2⟩) (fun _ _ _ _ _ _ _ _ adr _ _ _ _ hx hb _ _ ha _ w => by
    simp only [List.map_cons, ra, isub, f32] at w
    exact lv_isub hx hb hdg w) k
theorem v_imul {x y : Int} (hdg : decode M.2.1 pc = .ok (.imul, 1)) (k : V l G M d mc ms n1 n2 K (pc + 1) L ((0, imul x y) :: st) h Q) : V l G M d mc ms n1 n2 K pc L ((0, y) :: (0, x) :: st) h Q :=
  v_op (fun a _ => al_c.mpr ⟨oka0 (o32 _), (al_c.mp (al_c.mp a).2).2⟩) (fun _ _ _ _ _ _ _ _ adr _ _ _ _ hx hb _ _ ha _ w => by
    simp only [List.map_cons, ra, imul, f32] at w
    exact lv_imul hx hb hdg w) k
theorem v_iand {x y : Int} (hdg : decode M.2.1 pc = .ok (.iand, 1)) (k : V l G M d mc ms n1 n2 K (pc + 1) L ((0, iand x y) :: st) h Q) : V l G M d mc ms n1 n2 K pc L ((0, y) :: (0, x) :: st) h Q :=
  v_op (fun a _ => al_c.mpr ⟨oka0 (o32 _), (al_c.mp (al_c.mp a).2).2⟩) (fun _ _ _ _ _ _ _ _ adr _ _ _ _ hx hb _ _ ha _ w => by
    simp only [List.map_cons, ra, iand, f32] at w
    exact lv_iand hx hb hdg w) k
theorem v_ixor {x y : Int} (hdg : decode M.2.1 pc = .ok (.ixor, 1)) (k : V l G M d mc ms n1 n2 K (pc + 1) L ((0, ixor x y) :: st) h Q) : V l G M d mc ms n1 n2 K pc L ((0, y) :: (0, x) :: st) h Q :=
  v_op (fun a _ => al_c.mpr ⟨oka0 (o32 _), (al_c.mp (al_c.mp a).2).2⟩) (fun _ _ _ _ _ _ _ _ adr _ _ _ _ hx hb _ _ ha _ w => by
    simp only [List.map_cons, ra, ixor, f32] at w
    exact lv_ixor hx hb hdg w) k
theorem v_ishl {x y : Int} (hdg : decode M.2.1 pc = .ok (.ishl, 1)) (k : V l G M d mc ms n1 n2 K (pc + 1) L ((0, ishl x y) :: st) h Q) : V l G M d mc ms n1 n2 K pc L ((0, y) :: (0, x) :: st) h Q :=
  v_op (fun a _ => al_c.mpr ⟨oka0 (o32 _), (al_c.mp (al_c.mp a).2).2⟩) (fun _ _ _ _ _ _ _ _ adr _ _ _ _ hx hb _ _ ha _ w => by
    simp only [List.map_cons, ra, ishl, f32] at w
    exact lv_ishl hx hb hdg w) k
theorem v_ishr {x y : Int} (hdg : decode M.2.1 pc = .ok (.ishr, 1)) (k : V l G M d mc ms n1 n2 K (pc + 1) L ((0, ishr x y) :: st) h Q) : V l G M d mc ms n1 n2 K pc L ((0, y) :: (0, x) :: st) h Q :=
  v_op (fun a _ => al_c.mpr ⟨oka0 (o32 _), (al_c.mp (al_c.mp a).2).2⟩) (fun _ _ _ _ _ _ _ _ adr _ _ _ _ hx hb _ _ ha _ w => by
    simp only [List.map_cons, ra, ishr, f32] at w
    exact lv_ishr hx hb hdg w) k
theorem v_idiv {x y : Int} (hdg : decode M.2.1 pc = .ok (.idiv, 1)) (hne : y ≠ 0) (k : V l G M d mc ms n1 n2 K (pc + 1) L ((0, idiv x y) :: st) h Q) : V l G M d mc ms n1 n2 K pc L ((0, y) :: (0, x) :: st) h Q :=
  v_op (fun a _ => al_c.mpr ⟨oka0 (o32 _), (al_c.mp (al_c.mp a).2).2⟩) (fun _ _ _ _ _ _ _ _ adr _ _ _ _ hx hb _ _ ha _ w => by
    simp only [List.map_cons, ra, idiv, f32] at w
    exact lv_idiv hx hb hdg (fun q => hne ((e32 ((al_c.mp ha).1.1 rfl) z32).mp q)) w) k
theorem v_irem {x y : Int} (hdg : decode M.2.1 pc = .ok (.irem, 1)) (hne : y ≠ 0) (k : V l G M d mc ms n1 n2 K (pc + 1) L ((0, irem x y) :: st) h Q) : V l G M d mc ms n1 n2 K pc L ((0, y) :: (0, x) :: st) h Q :=
  v_op (fun a _ => al_c.mpr ⟨oka0 (o32 _), (al_c.mp (al_c.mp a).2).2⟩) (fun _ _ _ _ _ _ _ _ adr _ _ _ _ hx hb _ _ ha _ w => by
    simp only [List.map_cons, ra, irem, f32] at w
    exact lv_irem hx hb hdg (fun q => hne ((e32 ((al_c.mp ha).1.1 rfl) z32).mp q)) w) k
theorem v_ladd {x y : Int} (hdg : decode M.2.1 pc = .ok (.ladd, 1)) (k : V l G M d mc ms n1 n2 K (pc + 1) L ((1, ladd x y) :: st) h Q) : V l G M d mc ms n1 n2 K pc L ((1, y) :: (1, x) :: st) h Q :=
  v_op (fun a _ => al_c.mpr ⟨oka1 (o64 _), (al_c.mp (al_c.mp a).2).2⟩) (fun _ _ _ _ _ _ _ _ adr _ _ _ _ hx hb _ _ ha _ w => by
    simp only [List.map_cons, ra, ladd, f64] at w
    exact lv_ladd hx hb hdg w) k
theorem v_lsub {x y : Int} (hdg : decode M.2.1 pc = .ok (.lsub, 1)) (k : V l G M d mc ms n1 n2 K (pc + 1) L ((1, lsub x y) :: st) h Q) : V l G M d mc ms n1 n2 K pc L ((1, y) :: (1, x) :: st) h Q :=
  v_op (fun a _ => al_c.mpr ⟨oka1 (o64 _), (al_c.mp (al_c.mp a).2).2⟩) (fun _ _ _ _ _ _ _ _ adr _ _ _ _ hx hb _ _ ha _ w => by
    simp only [List.map_cons, ra, lsub, f64] at w
    exact lv_lsub hx hb hdg w) k
theorem v_lmul {x y : Int} (hdg : decode M.2.1 pc = .ok (.lmul, 1)) (k : V l G M d mc ms n1 n2 K (pc + 1) L ((1, lmul x y) :: st) h Q) : V l G M d mc ms n1 n2 K pc L ((1, y) :: (1, x) :: st) h Q :=
  v_op (fun a _ => al_c.mpr ⟨oka1 (o64 _), (al_c.mp (al_c.mp a).2).2⟩) (fun _ _ _ _ _ _ _ _ adr _ _ _ _ hx hb _ _ ha _ w => by
    simp only [List.map_cons, ra, lmul, f64] at w
    exact lv_lmul hx hb hdg w) k
theorem v_land {x y : Int} (hdg : decode M.2.1 pc = .ok (.land, 1)) (k : V l G M d mc ms n1 n2 K (pc + 1) L ((1, land x y) :: st) h Q) : V l G M d mc ms n1 n2 K pc L ((1, y) :: (1, x) :: st) h Q :=
  v_op (fun a _ => al_c.mpr ⟨oka1 (o64 _), (al_c.mp (al_c.mp a).2).2⟩) (fun _ _ _ _ _ _ _ _ adr _ _ _ _ hx hb _ _ ha _ w => by
    simp only [List.map_cons, ra, land, f64] at w
    exact lv_land hx hb hdg w) k
theorem v_lor {x y : Int} (hdg : decode M.2.1 pc = .ok (.lor, 1)) (k : V l G M d mc ms n1 n2 K (pc + 1) L ((1, lor x y) :: st) h Q) : V l G M d mc ms n1 n2 K pc L ((1, y) :: (1, x) :: st) h Q :=
  v_op (fun a _ => al_c.mpr ⟨oka1 (o64 _), (al_c.mp (al_c.mp a).2).2⟩) (fun _ _ _ _ _ _ _ _ adr _ _ _ _ hx hb _ _ ha _ w => by
    simp only [List.map_cons, ra, lor, f64] at w
    exact lv_lor hx hb hdg w) k
theorem v_ldiv {x y : Int} (hdg : decode M.2.1 pc = .ok (.ldiv, 1)) (hne : y ≠ 0) (k : V l G M d mc ms n1 n2 K (pc + 1) L ((1, ldiv x y) :: st) h Q) : V l G M d mc ms n1 n2 K pc L ((1, y) :: (1, x) :: st) h Q :=
  v_op (fun a _ => al_c.mpr ⟨oka1 (o64 _), (al_c.mp (al_c.mp a).2).2⟩) (fun _ _ _ _ _ _ _ _ adr _ _ _ _ hx hb _ _ ha _ w => by
    simp only [List.map_cons, ra, ldiv, f64] at w
    exact lv_ldiv hx hb hdg (fun q => hne ((e64 ((al_c.mp ha).1.2.1 rfl) (ok3264 z32)).mp q)) w) k
theorem v_lrem {x y : Int} (hdg : decode M.2.1 pc = .ok (.lrem, 1)) (hne : y ≠ 0) (k : V l G M d mc ms n1 n2 K (pc + 1) L ((1, lrem x y) :: st) h Q) : V l G M d mc ms n1 n2 K pc L ((1, y) :: (1, x) :: st) h Q :=
  v_op (fun a _ => al_c.mpr ⟨oka1 (o64 _), (al_c.mp (al_c.mp a).2).2⟩) (fun _ _ _ _ _ _ _ _ adr _ _ _ _ hx hb _ _ ha _ w => by
    simp only [List.map_cons, ra, lrem, f64] at w
    exact lv_lrem hx hb hdg (fun q => hne ((e64 ((al_c.mp ha).1.2.1 rfl) (ok3264 z32)).mp q)) w) k
theorem v_iushr {x y : Int} (hdg : decode M.2.1 pc = .ok (.iushr, 1)) (k : V l G M d mc ms n1 n2 K (pc + 1) L ((0, iushr x y) :: st) h Q) : V l G M d mc ms n1 n2 K pc L ((0, y) :: (0, x) :: st) h Q :=
  v_op (fun a _ => al_c.mpr ⟨oka0 (o32 _), (al_c.mp (al_c.mp a).2).2⟩) (fun _ _ _ _ _ _ _ _ adr _ _ _ _ hx hb _ _ ha _ w => by
    simp only [List.map_cons, ra, iushr, f32] at w
    exact lv_iushr hx hb hdg rfl w) k
theorem v_lushr {x y : Int} (hdg : decode M.2.1 pc = .ok (.lushr, 1)) (k : V l G M d mc ms n1 n2 K (pc + 1) L ((1, lushr x y) :: st) h Q) : V l G M d mc ms n1 n2 K pc L ((0, y) :: (1, x) :: st) h Q :=
  v_op (fun a _ => al_c.mpr ⟨oka1 (o64 _), (al_c.mp (al_c.mp a).2).2⟩) (fun _ _ _ _ _ _ _ _ adr _ _ _ _ hx hb _ _ ha _ w => by
    simp only [List.map_cons, ra, lushr, f64] at w
    exact lv_lushr hx hb hdg rfl w) k
theorem v_lshl {x y : Int} (hdg : decode M.2.1 pc = .ok (.lshl, 1)) (k : V l G M d mc ms n1 n2 K (pc + 1) L ((1, lshl x y) :: st) h Q) : V l G M d mc ms n1 n2 K pc L ((0, y) :: (1, x) :: st) h Q :=
  v_op (fun a _ => al_c.mpr ⟨oka1 (o64 _), (al_c.mp (al_c.mp a).2).2⟩) (fun _ _ _ _ _ _ _ _ adr _ _ _ _ hx hb _ _ ha _ w => by
    simp only [List.map_cons, ra, lshl, f64] at w
    exact lv_lshl hx hb hdg rfl w) k
theorem v_ineg {x : Int} (hdg : decode M.2.1 pc = .ok (.ineg, 1)) (k : V l G M d mc ms n1 n2 K (pc + 1) L ((0, ineg x) :: st) h Q) : V l G M d mc ms n1 n2 K pc L ((0, x) :: st) h Q :=
  v_op (fun a _ => al_c.mpr ⟨oka0 (o32 _), (al_c.mp a).2⟩) (fun _ _ _ _ _ _ _ _ adr _ _ _ _ hx hb _ _ ha _ w => by
    simp only [List.map_cons, ra, ineg, f32] at w
    exact lv_ineg hx hb hdg w) k
theorem v_i2b {x : Int} (hdg : decode M.2.1 pc = .ok (.i2b, 1)) (k : V l G M d mc ms n1 n2 K (pc + 1) L ((0, i2b x) :: st) h Q) : V l G M d mc ms n1 n2 K pc L ((0, x) :: st) h Q :=
  v_op (fun a _ => al_c.mpr ⟨oka0 (o32 _), (al_c.mp a).2⟩) (fun _ _ _ _ _ _ _ _ adr _ _ _ _ hx hb _ _ ha _ w => by
    simp only [List.map_cons, ra, i2b, f32] at w
    exact lv_i2b hx hb hdg rfl w) k
theorem v_i2c {x : Int} (hdg : decode M.2.1 pc = .ok (.i2c, 1)) (k : V l G M d mc ms n1 n2 K (pc + 1) L ((0, i2c x) :: st) h Q) : V l G M d mc ms n1 n2 K pc L ((0, x) :: st) h Q :=
  v_op (fun a _ => al_c.mpr ⟨oka0 (o32 _), (al_c.mp a).2⟩) (fun _ _ _ _ _ _ _ _ adr _ _ _ _ hx hb _ _ ha _ w => by
    simp only [List.map_cons, ra, i2c, f32] at w
    exact lv_i2c hx hb hdg rfl w) k
theorem v_l2i {x : Int} (hdg : decode M.2.1 pc = .ok (.l2i, 1)) (k : V l G M d mc ms n1 n2 K (pc + 1) L ((0, l2i x) :: st) h Q) : V l G M d mc ms n1 n2 K pc L ((1, x) :: st) h Q :=
  v_op (fun a _ => al_c.mpr ⟨oka0 (o32 _), (al_c.mp a).2⟩) (fun _ _ _ _ _ _ _ _ adr _ _ _ _ hx hb _ _ ha _ w => by
    simp only [List.map_cons, ra, l2i, f32] at w
    exact lv_l2i hx hb hdg rfl w) k
theorem i2l_eq {x : Int} (q : ok32 x) : (Int32.ofInt x).toInt64 = Int64.ofInt x := by
  apply Int64.toInt_inj.mp
  rw [Int32.toInt_toInt64, t32 q, t64 (ok3264 q)]
theorem v_i2l {x : Int} (hdg : decode M.2.1 pc = .ok (.i2l, 1)) (k : V l G M d mc ms n1 n2 K (pc + 1) L ((1, x) :: st) h Q) : V l G M d mc ms n1 n2 K pc L ((0, x) :: st) h Q :=
  v_op (fun a _ => al_c.mpr ⟨oka1 (ok3264 ((al_c.mp a).1.1 rfl)), (al_c.mp a).2⟩) (fun _ _ _ _ _ _ _ _ adr _ _ _ _ hx hb _ _ ha _ w => lv_i2l hx hb hdg (i2l_eq ((al_c.mp ha).1.1 rfl)) w) k
theorem v_dup {v : AV} (hdg : decode M.2.1 pc = .ok (.dup, 1)) (hv : (v.1 == 1) = false) (k : V l G M d mc ms n1 n2 K (pc + 1) L (v :: v :: st) h Q) : V l G M d mc ms n1 n2 K pc L (v :: st) h Q :=
  v_op (fun a _ => al_c.mpr ⟨(al_c.mp a).1, a⟩) (fun _ _ _ _ _ _ _ _ adr _ _ _ _ hx hb _ _ ha _ w => lv_dup hx hb hdg (ra_c1 (by simpa using hv)) w) k
theorem v_dup2 {v u : AV} (hdg : decode M.2.1 pc = .ok (.dup2, 1)) (hv : (v.1 == 1) = false) (hu : (u.1 == 1) = false) (k : V l G M d mc ms n1 n2 K (pc + 1) L (v :: u :: v :: u :: st) h Q) : V l G M d mc ms n1 n2 K pc L (v :: u :: st) h Q :=
  v_op (fun a _ => al_c.mpr ⟨(al_c.mp a).1, al_c.mpr ⟨(al_c.mp (al_c.mp a).2).1, a⟩⟩) (fun _ _ _ _ _ _ _ _ adr _ _ _ _ hx hb _ _ ha _ w => lv_dup2_11 hx hb hdg (ra_c1 (by simpa using hv)) (ra_c1 (by simpa using hu)) w) k
theorem v_pop {v : AV} (hdg : decode M.2.1 pc = .ok (.pop, 1)) (hv : (v.1 == 1) = false) (k : V l G M d mc ms n1 n2 K (pc + 1) L st h Q) : V l G M d mc ms n1 n2 K pc L (v :: st) h Q :=
  v_op (fun a _ => (al_c.mp a).2) (fun _ _ _ _ _ _ _ _ adr _ _ _ _ hx hb _ _ ha _ w => lv_pop hx hb hdg (ra_c1 (by simpa using hv)) w) k
theorem v_pop2 {x : Int} (hdg : decode M.2.1 pc = .ok (.pop2, 1)) (k : V l G M d mc ms n1 n2 K (pc + 1) L st h Q) : V l G M d mc ms n1 n2 K pc L ((1, x) :: st) h Q :=
  v_op (fun a _ => (al_c.mp a).2) (fun _ _ _ _ _ _ _ _ adr _ _ _ _ hx hb _ _ ha _ w => lv_pop2_2 hx hb hdg rfl w) k
theorem v_goto {off : Int} {tgt : Nat} (hdg : decode M.2.1 pc = .ok (.goto off, 3)) (ht : (pc : Int) + off = (tgt : Int)) (k : V l G M d mc ms n1 n2 K tgt L st h Q) : V l G M d mc ms n1 n2 K pc L st h Q :=
  v_op (fun a _ => a) (fun _ _ _ _ _ _ _ _ adr _ _ _ _ hx hb _ _ ha _ w => lv_goto hx hb hdg ht w) k
/-- a branch -/
theorem v_br {st' : List AV} {P1 P2 : Prop} {pc1 pc2 : Nat} (hok : (∀ v ∈ st, oka K.length v) → ∀ v ∈ st', oka K.length v)
    (hstep : ∀ (p : Program) (e : Env) (s : State) (m : MethodId) (args : Array Value) (below : List Frame) (meth : Method) (c : Code) (adr : Nat → Nat) (H : Heap) (locs : List Loc) (ls : Array Slot) (Z : State → Prop), p.tables.exec = Jvm.exec → c.code = M.2.1 → (∀ v ∈ st, oka K.length v) →
      (P1 → W p l e (rmO d mc ms) s m args below meth c H locs n1 n2 Z (F0 m pc1 ls (st'.map (ra adr)))) → (P2 → W p l e (rmO d mc ms) s m args below meth c H locs n1 n2 Z (F0 m pc2 ls (st'.map (ra adr)))) → W p l e (rmO d mc ms) s m args below meth c H locs n1 n2 Z (F0 m pc ls (st.map (ra adr))))
    (k1 : P1 → V l G M d mc ms n1 n2 K pc1 L st' h Q) (k2 : P2 → V l G M d mc ms n1 n2 K pc2 L st' h Q) : V l G M d mc ms n1 n2 K pc L st h Q := by
  intro p e s m args below meth c adr0 adr n0 H locs ls S
  obtain ⟨S1, S2, S3, S4, S5, S6⟩ := S
  obtain ⟨hx, hb, h3, h4, h5, h6, h7, h8, h9⟩ := id S1
  exact hstep p e s m args below meth c adr H locs ls _ hx hb S5 (fun q => k1 q p e s m args below meth c adr0 adr n0 H locs ls ⟨S1, S2, S3, S4, hok S5, S6⟩) (fun q => k2 q p e s m args below meth c adr0 adr n0 H locs ls ⟨S1, S2, S3, S4, hok S5, S6⟩)
theorem v_icmp_eq {x y off : Int} {tgt : Nat} (hdg : decode M.2.1 pc = .ok (.if_icmp .eq off, 3)) (ht : (pc : Int) + off = (tgt : Int)) (k1 : x = y → V l G M d mc ms n1 n2 K tgt L st h Q) (k2 : x ≠ y → V l G M d mc ms n1 n2 K (pc + 3) L st h Q) : V l G M d mc ms n1 n2 K pc L ((0, y) :: (0, x) :: st) h Q :=
  v_br (fun a => (al_c.mp (al_c.mp a).2).2) (fun _ _ _ _ _ _ _ _ _ _ _ _ _ hx hb ha w1 w2 => by
    have b : ok32 y := (al_c.mp ha).1.1 rfl
    have a : ok32 x := (al_c.mp (al_c.mp ha).2).1.1 rfl
    exact lv_icmp_eq hx hb hdg ht (fun q => w1 ((e32 a b).mp q)) (fun q => w2 (fun z => q ((e32 a b).mpr z)))) k1 k2
theorem v_if_eq {x off : Int} {tgt : Nat} (hdg : decode M.2.1 pc = .ok (.ifCond .eq off, 3)) (ht : (pc : Int) + off = (tgt : Int)) (k1 : x = 0 → V l G M d mc ms n1 n2 K tgt L st h Q) (k2 : x ≠ 0 → V l G M d mc ms n1 n2 K (pc + 3) L st h Q) : V l G M d mc ms n1 n2 K pc L ((0, x) :: st) h Q :=
  v_br (fun a => (al_c.mp a).2) (fun _ _ _ _ _ _ _ _ _ _ _ _ _ hx hb ha w1 w2 => by
    have b : ok32 0 := z32
    have a : ok32 x := (al_c.mp ha).1.1 rfl
    exact lv_if_eq hx hb hdg ht (fun q => w1 ((e32 a b).mp q)) (fun q => w2 (fun z => q ((e32 a b).mpr z)))) k1 k2
theorem v_icmp_ne {x y off : Int} {tgt : Nat} (hdg : decode M.2.1 pc = .ok (.if_icmp .ne off, 3)) (ht : (pc : Int) + off = (tgt : Int)) (k1 : x ≠ y → V l G M d mc ms n1 n2 K tgt L st h Q) (k2 : x = y → V l G M d mc ms n1 n2 K (pc + 3) L st h Q) : V l G M d mc ms n1 n2 K pc L ((0, y) :: (0, x) :: st) h Q :=
  v_br (fun a => (al_c.mp (al_c.mp a).2).2) (fun _ _ _ _ _ _ _ _ _ _ _ _ _ hx hb ha w1 w2 => by
    have b : ok32 y := (al_c.mp ha).1.1 rfl
    have a : ok32 x := (al_c.mp (al_c.mp ha).2).1.1 rfl
    exact lv_icmp_ne hx hb hdg ht (fun q => w1 (fun z => q ((e32 a b).mpr z))) (fun q => w2 ((e32 a b).mp q))) k1 k2
theorem v_if_ne {x off : Int} {tgt : Nat} (hdg : decode M.2.1 pc = .ok (.ifCond .ne off, 3)) (ht : (pc : Int) + off = (tgt : Int)) (k1 : x ≠ 0 → V l G M d mc ms n1 n2 K tgt L st h Q) (k2 : x = 0 → V l G M d mc ms n1 n2 K (pc + 3) L st h Q) : V l G M d mc ms n1 n2 K pc L ((0, x) :: st) h Q :=
  v_br (fun a => (al_c.mp a).2) (fun _ _ _ _ _ _ _ _ _ _ _ _ _ hx hb ha w1 w2 => by
    have b : ok32 0 := z32
    have a : ok32 x := (al_c.mp ha).1.1 rfl
    exact lv_if_ne hx hb hdg ht (fun q => w1 (fun z => q ((e32 a b).mpr z))) (fun q => w2 ((e32 a b).mp q))) k1 k2
theorem v_icmp_lt {x y off : Int} {tgt : Nat} (hdg : decode M.2.1 pc = .ok (.if_icmp .lt off, 3)) (ht : (pc : Int) + off = (tgt : Int)) (k1 : x < y → V l G M d mc ms n1 n2 K tgt L st h Q) (k2 : y ≤ x → V l G M d mc ms n1 n2 K (pc + 3) L st h Q) : V l G M d mc ms n1 n2 K pc L ((0, y) :: (0, x) :: st) h Q :=
  v_br (fun a => (al_c.mp (al_c.mp a).2).2) (fun _ _ _ _ _ _ _ _ _ _ _ _ _ hx hb ha w1 w2 => by
    have b : ok32 y := (al_c.mp ha).1.1 rfl
    have a : ok32 x := (al_c.mp (al_c.mp ha).2).1.1 rfl
    exact lv_icmp_lt hx hb hdg ht (fun q => w1 ((l32 a b).mp q)) (fun q => w2 (Int.not_lt.mp fun z => q ((l32 a b).mpr z)))) k1 k2
theorem v_if_lt {x off : Int} {tgt : Nat} (hdg : decode M.2.1 pc = .ok (.ifCond .lt off, 3)) (ht : (pc : Int) + off = (tgt : Int)) (k1 : x < 0 → V l G M d mc ms n1 n2 K tgt L st h Q) (k2 : 0 ≤ x → V l G M d mc ms n1 n2 K (pc + 3) L st h Q) : V l G M d mc ms n1 n2 K pc L ((0, x) :: st) h Q :=
  v_br (fun a => (al_c.mp a).2) (fun _ _ _ _ _ _ _ _ _ _ _ _ _ hx hb ha w1 w2 => by
    have b : ok32 0 := z32
    have a : ok32 x := (al_c.mp ha).1.1 rfl
    exact lv_if_lt hx hb hdg ht (fun q => w1 ((l32 a b).mp q)) (fun q => w2 (Int.not_lt.mp fun z => q ((l32 a b).mpr z)))) k1 k2
theorem v_icmp_ge {x y off : Int} {tgt : Nat} (hdg : decode M.2.1 pc = .ok (.if_icmp .ge off, 3)) (ht : (pc : Int) + off = (tgt : Int)) (k1 : y ≤ x → V l G M d mc ms n1 n2 K tgt L st h Q) (k2 : x < y → V l G M d mc ms n1 n2 K (pc + 3) L st h Q) : V l G M d mc ms n1 n2 K pc L ((0, y) :: (0, x) :: st) h Q :=
  v_br (fun a => (al_c.mp (al_c.mp a).2).2) (fun _ _ _ _ _ _ _ _ _ _ _ _ _ hx hb ha w1 w2 => by
    have b : ok32 y := (al_c.mp ha).1.1 rfl
    have a : ok32 x := (al_c.mp (al_c.mp ha).2).1.1 rfl
    exact lv_icmp_ge hx hb hdg ht (fun q => w1 ((le32 b a).mp q)) (fun q => w2 (Int.not_le.mp fun z => q ((le32 b a).mpr z)))) k1 k2
theorem v_if_ge {x off : Int} {tgt : Nat} (hdg : decode M.2.1 pc = .ok (.ifCond .ge off, 3)) (ht : (pc : Int) + off = (tgt : Int)) (k1 : 0 ≤ x → V l G M d mc ms n1 n2 K tgt L st h Q) (k2 : x < 0 → V l G M d mc ms n1 n2 K (pc + 3) L st h Q) : V l G M d mc ms n1 n2 K pc L ((0, x) :: st) h Q :=
  v_br (fun a => (al_c.mp a).2) (fun _ _ _ _ _ _ _ _ _ _ _ _ _ hx hb ha w1 w2 => by
    have b : ok32 0 := z32
    have a : ok32 x := (al_c.mp ha).1.1 rfl
    exact lv_if_ge hx hb hdg ht (fun q => w1 ((le32 b a).mp q)) (fun q => w2 (Int.not_le.mp fun z => q ((le32 b a).mpr z)))) k1 k2
theorem v_icmp_gt {x y off : Int} {tgt : Nat} (hdg : decode M.2.1 pc = .ok (.if_icmp .gt off, 3)) (ht : (pc : Int) + off = (tgt : Int)) (k1 : y < x → V l G M d mc ms n1 n2 K tgt L st h Q) (k2 : x ≤ y → V l G M d mc ms n1 n2 K (pc + 3) L st h Q) : V l G M d mc ms n1 n2 K pc L ((0, y) :: (0, x) :: st) h Q :=
  v_br (fun a => (al_c.mp (al_c.mp a).2).2) (fun _ _ _ _ _ _ _ _ _ _ _ _ _ hx hb ha w1 w2 => by
    have b : ok32 y := (al_c.mp ha).1.1 rfl
    have a : ok32 x := (al_c.mp (al_c.mp ha).2).1.1 rfl
    exact lv_icmp_gt hx hb hdg ht (fun q => w1 ((l32 b a).mp q)) (fun q => w2 (Int.not_lt.mp fun z => q ((l32 b a).mpr z)))) k1 k2
theorem v_if_gt {x off : Int} {tgt : Nat} (hdg : decode M.2.1 pc = .ok (.ifCond .gt off, 3)) (ht : (pc : Int) + off = (tgt : Int)) (k1 : 0 < x → V l G M d mc ms n1 n2 K tgt L st h Q) (k2 : x ≤ 0 → V l G M d mc ms n1 n2 K (pc + 3) L st h Q) : V l G M d mc ms n1 n2 K pc L ((0, x) :: st) h Q :=
  v_br (fun a => (al_c.mp a).2) (fun _ _ _ _ _ _ _ _ _ _ _ _ _ hx hb ha w1 w2 => by
    have b : ok32 0 := z32
    have a : ok32 x := (al_c.mp ha).1.1 rfl
    exact lv_if_gt hx hb hdg ht (fun q => w1 ((l32 b a).mp q)) (fun q => w2 (Int.not_lt.mp fun z => q ((l32 b a).mpr z)))) k1 k2
theorem v_icmp_le {x y off : Int} {tgt : Nat} (hdg : decode M.2.1 pc = .ok (.if_icmp .le off, 3)) (ht : (pc : Int) + off = (tgt : Int)) (k1 : x ≤ y → V l G M d mc ms n1 n2 K tgt L st h Q) (k2 : y < x → V l G M d mc ms n1 n2 K (pc + 3) L st h Q) : V l G M d mc ms n1 n2 K pc L ((0, y) :: (0, x) :: st) h Q :=
  v_br (fun a => (al_c.mp (al_c.mp a).2).2) (fun _ _ _ _ _ _ _ _ _ _ _ _ _ hx hb ha w1 w2 => by
    have b : ok32 y := (al_c.mp ha).1.1 rfl
    have a : ok32 x := (al_c.mp (al_c.mp ha).2).1.1 rfl
    exact lv_icmp_le hx hb hdg ht (fun q => w1 ((le32 a b).mp q)) (fun q => w2 (Int.not_le.mp fun z => q ((le32 a b).mpr z)))) k1 k2
theorem v_if_le {x off : Int} {tgt : Nat} (hdg : decode M.2.1 pc = .ok (.ifCond .le off, 3)) (ht : (pc : Int) + off = (tgt : Int)) (k1 : x ≤ 0 → V l G M d mc ms n1 n2 K tgt L st h Q) (k2 : 0 < x → V l G M d mc ms n1 n2 K (pc + 3) L st h Q) : V l G M d mc ms n1 n2 K pc L ((0, x) :: st) h Q :=
  v_br (fun a => (al_c.mp a).2) (fun _ _ _ _ _ _ _ _ _ _ _ _ _ hx hb ha w1 w2 => by
    have b : ok32 0 := z32
    have a : ok32 x := (al_c.mp ha).1.1 rfl
    exact lv_if_le hx hb hdg ht (fun q => w1 ((le32 a b).mp q)) (fun q => w2 (Int.not_le.mp fun z => q ((le32 a b).mpr z)))) k1 k2
def lcmpF (x y : Int) : Int := if x < y then -1 else if x = y then 0 else 1
theorem lcmpF_eq {x y : Int} (hx : ok64 x) (hy : ok64 y) : lg_cmp (Int64.ofInt x) (Int64.ofInt y) = Int32.ofInt (lcmpF x y) := by
  unfold lg_cmp lcmpF
  by_cases h1 : x < y
  · have h2 : ¬ (Int64.ofInt x > Int64.ofInt y) := fun q => by have := (l64 hy hx).mp q; omega
    have h3 : ¬ (Int64.ofInt x = Int64.ofInt y) := fun q => by have := (e64 hx hy).mp q; omega
    rw [if_neg h2, if_neg h3, if_pos h1]
    rfl
  · by_cases h2 : x = y
    · subst h2
      have h3 : ¬ (Int64.ofInt x > Int64.ofInt x) := fun q => by have := (l64 hy hx).mp q; omega
      rw [if_neg h3, if_pos rfl, if_neg h1, if_pos rfl]
      rfl
    · have h3 : Int64.ofInt x > Int64.ofInt y := (l64 hy hx).mpr (by omega)
      rw [if_pos h3, if_neg h1, if_neg h2]
      rfl
theorem lcmpF_ok (x y : Int) : ok32 (lcmpF x y) := by
  unfold lcmpF ok32
  split
  · omega
  · split <;> omega
theorem v_lcmp {x y : Int} (hdg : decode M.2.1 pc = .ok (.lcmp, 1)) (k : V l G M d mc ms n1 n2 K (pc + 1) L ((0, lcmpF x y) :: st) h Q) : V l G M d mc ms n1 n2 K pc L ((1, y) :: (1, x) :: st) h Q :=
  v_op (fun a _ => al_c.mpr ⟨oka0 (lcmpF_ok x y), (al_c.mp (al_c.mp a).2).2⟩) (fun _ _ _ _ _ _ _ _ adr _ _ _ _ hx hb _ _ ha _ w => by
    have b : ok64 y := (al_c.mp ha).1.2.1 rfl
    have a : ok64 x := (al_c.mp (al_c.mp ha).2).1.2.1 rfl
    refine W.lcmp hx hb hdg ?_
    rw [lcmpF_eq a b]
    exact w) k
theorem v_lcmp_eq {x y off : Int} {tgt : Nat} (hdl : decode M.2.1 pc = .ok (.lcmp, 1)) (hdg : decode M.2.1 (pc + 1) = .ok (.ifCond .eq off, 3)) (ht : ((pc + 1 : Nat) : Int) + off = (tgt : Int)) (k1 : x = y → V l G M d mc ms n1 n2 K tgt L st h Q) (k2 : x ≠ y → V l G M d mc ms n1 n2 K (pc + 4) L st h Q) : V l G M d mc ms n1 n2 K pc L ((1, y) :: (1, x) :: st) h Q :=
  v_lcmp hdl (v_if_eq hdg ht (fun q => k1 (by unfold lcmpF at q; (repeat' split at q) <;> omega)) (fun q => k2 (by unfold lcmpF at q; (repeat' split at q) <;> omega)))
theorem v_lcmp_ne {x y off : Int} {tgt : Nat} (hdl : decode M.2.1 pc = .ok (.lcmp, 1)) (hdg : decode M.2.1 (pc + 1) = .ok (.ifCond .ne off, 3)) (ht : ((pc + 1 : Nat) : Int) + off = (tgt : Int)) (k1 : x ≠ y → V l G M d mc ms n1 n2 K tgt L st h Q) (k2 : x = y → V l G M d mc ms n1 n2 K (pc + 4) L st h Q) : V l G M d mc ms n1 n2 K pc L ((1, y) :: (1, x) :: st) h Q :=
  v_lcmp hdl (v_if_ne hdg ht (fun q => k1 (by unfold lcmpF at q; (repeat' split at q) <;> omega)) (fun q => k2 (by unfold lcmpF at q; (repeat' split at q) <;> omega)))
theorem v_lcmp_lt {x y off : Int} {tgt : Nat} (hdl : decode M.2.1 pc = .ok (.lcmp, 1)) (hdg : decode M.2.1 (pc + 1) = .ok (.ifCond .lt off, 3)) (ht : ((pc + 1 : Nat) : Int) + off = (tgt : Int)) (k1 : x < y → V l G M d mc ms n1 n2 K tgt L st h Q) (k2 : y ≤ x → V l G M d mc ms n1 n2 K (pc + 4) L st h Q) : V l G M d mc ms n1 n2 K pc L ((1, y) :: (1, x) :: st) h Q :=
  v_lcmp hdl (v_if_lt hdg ht (fun q => k1 (by unfold lcmpF at q; (repeat' split at q) <;> omega)) (fun q => k2 (by unfold lcmpF at q; (repeat' split at q) <;> omega)))
theorem v_lcmp_ge {x y off : Int} {tgt : Nat} (hdl : decode M.2.1 pc = .ok (.lcmp, 1)) (hdg : decode M.2.1 (pc + 1) = .ok (.ifCond .ge off, 3)) (ht : ((pc + 1 : Nat) : Int) + off = (tgt : Int)) (k1 : y ≤ x → V l G M d mc ms n1 n2 K tgt L st h Q) (k2 : x < y → V l G M d mc ms n1 n2 K (pc + 4) L st h Q) : V l G M d mc ms n1 n2 K pc L ((1, y) :: (1, x) :: st) h Q :=
  v_lcmp hdl (v_if_ge hdg ht (fun q => k1 (by unfold lcmpF at q; (repeat' split at q) <;> omega)) (fun q => k2 (by unfold lcmpF at q; (repeat' split at q) <;> omega)))
theorem v_lcmp_gt {x y off : Int} {tgt : Nat} (hdl : decode M.2.1 pc = .ok (.lcmp, 1)) (hdg : decode M.2.1 (pc + 1) = .ok (.ifCond .gt off, 3)) (ht : ((pc + 1 : Nat) : Int) + off = (tgt : Int)) (k1 : y < x → V l G M d mc ms n1 n2 K tgt L st h Q) (k2 : x ≤ y → V l G M d mc ms n1 n2 K (pc + 4) L st h Q) : V l G M d mc ms n1 n2 K pc L ((1, y) :: (1, x) :: st) h Q :=
  v_lcmp hdl (v_if_gt hdg ht (fun q => k1 (by unfold lcmpF at q; (repeat' split at q) <;> omega)) (fun q => k2 (by unfold lcmpF at q; (repeat' split at q) <;> omega)))
theorem v_lcmp_le {x y off : Int} {tgt : Nat} (hdl : decode M.2.1 pc = .ok (.lcmp, 1)) (hdg : decode M.2.1 (pc + 1) = .ok (.ifCond .le off, 3)) (ht : ((pc + 1 : Nat) : Int) + off = (tgt : Int)) (k1 : x ≤ y → V l G M d mc ms n1 n2 K tgt L st h Q) (k2 : y < x → V l G M d mc ms n1 n2 K (pc + 4) L st h Q) : V l G M d mc ms n1 n2 K pc L ((1, y) :: (1, x) :: st) h Q :=
  v_lcmp hdl (v_if_le hdg ht (fun q => k1 (by unfold lcmpF at q; (repeat' split at q) <;> omega)) (fun q => k2 (by unfold lcmpF at q; (repeat' split at q) <;> omega)))
theorem v_tsw_in {dflt lo hi x off : Int} {offs : Array Int} {len tgt : Nat} (hdg : decode M.2.1 pc = .ok (.tableswitch dflt lo hi offs, len)) (h1 : lo ≤ x) (h2 : x ≤ hi) (ho : offs[(x - lo).toNat]? = some off) (ht : (pc : Int) + off = (tgt : Int)) (k : V l G M d mc ms n1 n2 K tgt L st h Q) : V l G M d mc ms n1 n2 K pc L ((0, x) :: st) h Q :=
  v_op (fun a _ => (al_c.mp a).2) (fun _ _ _ _ _ _ _ _ adr _ _ _ _ hx hb _ _ ha _ w => by
    have a : ok32 x := (al_c.mp ha).1.1 rfl
    exact lv_tableIn hx hb hdg (by rw [t32 a]; omega) (by rw [t32 a]; omega) (by rw [t32 a]; exact ho) ht w) k
theorem v_tsw_out {dflt lo hi x : Int} {offs : Array Int} {len tgt : Nat} (hdg : decode M.2.1 pc = .ok (.tableswitch dflt lo hi offs, len)) (h1 : x < lo ∨ hi < x) (ht : (pc : Int) + dflt = (tgt : Int)) (k : V l G M d mc ms n1 n2 K tgt L st h Q) : V l G M d mc ms n1 n2 K pc L ((0, x) :: st) h Q :=
  v_op (fun a _ => (al_c.mp a).2) (fun _ _ _ _ _ _ _ _ adr _ _ _ _ hx hb _ _ ha _ w => by
    have a : ok32 x := (al_c.mp ha).1.1 rfl
    exact lv_tableOut hx hb hdg (by rw [t32 a]; exact h1) ht w) k
theorem v_lsw {dflt x off : Int} {ps : Array (Int × Int)} {len tgt : Nat} (hdg : decode M.2.1 pc = .ok (.lookupswitch dflt ps, len)) (hp : (ps.toList.zip (ps.toList.drop 1)).all (fun (a, next) => a.1 < next.1) = true) (ho : Op.lookupswitch.offset ps.toList dflt x = off) (ht : (pc : Int) + off = (tgt : Int)) (k : V l G M d mc ms n1 n2 K tgt L st h Q) : V l G M d mc ms n1 n2 K pc L ((0, x) :: st) h Q :=
  v_op (fun a _ => (al_c.mp a).2) (fun _ _ _ _ _ _ _ _ adr _ _ _ _ hx hb _ _ ha _ w => by
    have a : ok32 x := (al_c.mp ha).1.1 rfl
    exact lv_lookup hx hb hdg hp (by rw [t32 a]; exact ho) ht w) k
end RULES
