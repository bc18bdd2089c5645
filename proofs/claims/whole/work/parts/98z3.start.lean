/-! THE CLAIM OUT OF ONE WALK OF THE LAW'S BODY. Your part is whole_start (and what it stands on); all else here is the same for every law, but numbers. -/
def R_law : String := "MadeWhereLaw"
def lw_P (b : Addr) (xs : List Int32) (args : Array Value) (s : State) : Prop := args = #[.ref b] ∧ s.IntsAt b xs ∧ xs.length ≤ 3584 ∧ (Jvm.Cond.and given_1 narrow_1).before args s = true
def lw_Q (_ : Array Value) (s : State) (o : Outcome) (t : State) : Prop := o = .returned (some (.int 1)) ∧ Framed s o t [] 601024 7293034
def lw_Z (below : List Frame) (a : Array Value) (s : State) : State → Prop := fun t => ∃ o, t.status = .running ∧ Ended t below o ∧ lw_Q a s o t
/-- the law's own end, with 1 on the stack, nothing written that was there before, its room as the claim has it -/
theorem lw_ret {p : Program} {l : Launch} {e : Env} {s : State} {m : MethodId} {below : List Frame} {meth : Method} {c : Code} {b : Nat} (hx : p.tables.exec = Jvm.exec) (hb : c.code = code) (hr : meth.sig.returnType = ret) (hlocks : meth.locks = false) {pc : Nat} {H : Heap} {ls : Array Slot} (hdg : decode code pc = .ok (.ireturn, 1)) : W p l e room_1 s m #[Value.ref b] below meth c H [] 601024 7293034 (lw_Z below #[Value.ref b] s) (F0 m pc ls [.int 1]) := by
  intro T hT X
  obtain ⟨fs, hret, hrun, hended, hW, hframe⟩ := X.leave (v := some (.int 1)) (hlocks := hlocks) (fun h => by rw [hr] at h; cases h)
  have hmeth' : T.vm.method? m = some meth := X.method'
  refine ⟨T.setFrames fs, ?_, .returned (some (.int 1)), hrun, hended, rfl, ⟨_, rfl⟩, hW, hframe⟩
  jvm_step X.here [X.here.top, hx, hb, hdg, hmeth', hr, ret, narrow_b1]
  (try refine ⟨rfl, ?_⟩); (try refine ⟨rfl, ?_⟩)
  first | (intro acts; rw [hret _ acts rfl rfl rfl]) | rw [hret _ _ rfl rfl rfl]
  exact Steps.refl _
/-- what holds at the law's entry: the machine, the code, the tables' words (any of lw_tbl by 'hts w (by decide +kernel)'), the script of L ints xs at the cell b, what the Statement gives of the start (any of its parts by flat_of_before) -/
def lw_At (p : Program) (s : State) (m : MethodId) (meth : Method) (c : Code) (b L : Nat) (xs : Nat → Int32) : Prop :=
  p.tables.exec = Jvm.exec ∧ c.code = code ∧ meth.sig.returnType = ret ∧ c.maxLocals = 7 ∧ s.vm.findClass R_law = some m.cls ∧ (∀ w ∈ lw_tbl, w.before #[Value.ref b] s = true) ∧ va_X b L xs s s.heap ∧ b < s.heap.size ∧ meth.locks = false ∧ (Jvm.Cond.and given_1 narrow_1).before #[Value.ref b] s = true ∧ meth.name = "law"
/-! ===== the law from its entry (written by wip/whole/p88.py) ===== -/
theorem same_new {s s' : State} {L : List Loc} {k n : Nat} (h : s.sameButNew s' L k n) (hL : ∀ q ∈ L, s.heap.size ≤ q.base) : s.sameButNew s' [] k n := by
  obtain ⟨h1, h2, h3, h4, h5, h6⟩ := h
  refine ⟨h1, h2, h3, h4, h5, fun a c hc => ?_⟩
  obtain ⟨c', g1, g2, g3, g4⟩ := h6 a c hc
  refine ⟨c', g1, g2, g3, fun i _ => g4 i (fun hi => ?_)⟩
  have q1 : s.heap.size ≤ a := hL _ hi
  have q2 := (Array.getElem?_eq_some_iff.mp hc).1
  omega
section ROOMS
variable {p : Program} {l : Launch} {e : Env} {R R' : Room} {s : State} {m : MethodId} {args : Array Value} {below : List Frame} {meth : Method} {c : Code} {H : Heap} {locs : List Loc} {cells slots : Nat} {Q Q' : State → Prop} {g : JFrame}
theorem w_room (hf : R'.frames ≤ R.frames) (hl : R'.locals ≤ R.locals) (hc : R'.cells ≤ R.cells) (hs : R'.slots ≤ R.slots) (k : W p l e R' s m args below meth c H locs cells slots Q g) : W p l e R s m args below meth c H locs cells slots Q g := by
  intro T hT X
  refine k T hT ⟨X.admits, X.cas, X.clock, X.frames, ?_, X.hears, X.method, X.code, X.here, X.tail, X.warmed, X.limits, X.bytes, X.same⟩
  have h := X.room
  simp only [State.hasRoom, Bool.and_eq_true, decide_eq_true_eq] at h ⊢
  obtain ⟨⟨⟨⟨h1, h2, h3, h4, h5, h6⟩, h7⟩, h8⟩, h9⟩ := h
  exact ⟨⟨⟨⟨by omega, by omega, by omega, by omega, by omega, h6⟩, by omega⟩, by omega⟩, h9⟩
theorem w_imp (h : ∀ t, Q t → Q' t) (k : W p l e R s m args below meth c H locs cells slots Q g) : W p l e R s m args below meth c H locs cells slots Q' g := fun T hT X => by
  obtain ⟨t, a, b⟩ := k T hT X
  exact ⟨t, a, h t b⟩
end ROOMS
theorem ks_cls {s : State} {args : Array Value} (hts : ∀ w ∈ Tb, w.before args s = true) : ∃ f : Nat → ClassId × (Nat → Nat), ∀ ci, ci < 13 → u_Kn s (RF ci) (TF ci) (NF ci) (f ci).1 (f ci).2 := by
  have h0 : ∀ ci : Nat, ∃ q : ClassId × (Nat → Nat), ci < 13 → u_Kn s (RF ci) (TF ci) (NF ci) q.1 q.2 := by
    intro ci
    by_cases h : ci < 13
    · have key : ∃ (cC : ClassId) (iS : Nat → Nat), u_Kn s (RF ci) (TF ci) (NF ci) cC iS := by
        rcases (show ci = 0 ∨ ci = 1 ∨ ci = 2 ∨ ci = 3 ∨ ci = 4 ∨ ci = 5 ∨ ci = 6 ∨ ci = 7 ∨ ci = 8 ∨ ci = 9 ∨ ci = 10 ∨ ci = 11 ∨ ci = 12 by omega) with rfl | rfl | rfl | rfl | rfl | rfl | rfl | rfl | rfl | rfl | rfl | rfl | rfl
        · exact u_known hts inF0 (hts _ knew_X0)
        · exact u_known hts inF1 (hts _ knew_X1)
        · exact u_known hts inF2 (hts _ knew_X2)
        · exact u_known hts inF3 (hts _ knew_X3)
        · exact u_known hts inF4 (hts _ knew_X4)
        · exact u_known hts inF5 (hts _ knew_X5)
        · exact u_known hts inF6 (hts _ knew_X6)
        · exact u_known hts inF7 (hts _ knew_X7)
        · exact u_known hts inF8 (hts _ knew_X8)
        · exact u_known hts inF9 (hts _ knew_X9)
        · exact u_known hts inF10 (hts _ knew_X10)
        · exact u_known hts inF11 (hts _ knew_X11)
        · exact u_known hts inF12 (hts _ knew_X12)
      obtain ⟨a, b, q⟩ := key
      exact ⟨(a, b), fun _ => q⟩
    · obtain ⟨a, b, q⟩ := u_known hts inF0 (hts _ knew_X0)
      exact ⟨(a, b), fun z => absurd z h⟩
  exact Classical.axiomOfChoice h0
theorem ks_arr {s : State} {args : Array Value} (hts : ∀ w ∈ Tb, w.before args s = true) (ho : AOv s) : ∃ f : FieldType → ClassId, ∀ t : FieldType, t ∈ ([.int, .long, .byte, .boolean, .array .int] : List FieldType) → ArrOfT s (f t) t ∧ va_RA s (f t) t := by
  obtain ⟨comp, cA, kA, q1, q2, q3, q4⟩ := ho
  have h0 : ∀ t : FieldType, ∃ c : ClassId, t ∈ ([.int, .long, .byte, .boolean, .array .int] : List FieldType) → ArrOfT s c t ∧ va_RA s c t := by
    intro t
    by_cases h : t ∈ ([.int, .long, .byte, .boolean, .array .int] : List FieldType)
    · simp only [List.mem_cons, List.not_mem_nil, or_false] at h
      rcases h with rfl | rfl | rfl | rfl | rfl
      · obtain ⟨c, k, cc, a1, a2, a3⟩ := Cond.arrayClass_spec (hts _ karr_int)
        exact ⟨c, fun _ => ⟨fun n z => ⟨(fun k h => by cases h), k, a2, cc, a3⟩, a1⟩⟩
      · obtain ⟨c, k, cc, a1, a2, a3⟩ := Cond.arrayClass_spec (hts _ karr_long)
        exact ⟨c, fun _ => ⟨fun n z => ⟨(fun k h => by cases h), k, a2, cc, a3⟩, a1⟩⟩
      · obtain ⟨c, k, cc, a1, a2, a3⟩ := Cond.arrayClass_spec (hts _ karr_byte)
        exact ⟨c, fun _ => ⟨fun n z => ⟨(fun k h => by cases h), k, a2, cc, a3⟩, a1⟩⟩
      · obtain ⟨c, k, cc, a1, a2, a3⟩ := Cond.arrayClass_spec (hts _ karr_boolean)
        exact ⟨c, fun _ => ⟨fun n z => ⟨(fun k h => by cases h), k, a2, cc, a3⟩, a1⟩⟩
      · exact ⟨cA, fun _ => ⟨fun n z => ⟨(fun k h => by cases h), kA, q2, comp, q3⟩, q4⟩⟩
    · exact ⟨cA, fun z => absurd z h⟩
  exact Classical.axiomOfChoice h0
/-- the literals' terms -/
def sTm : Nat → Term := fun i => match i with
  | 0 => .string "MadeWhere$Tape" 57
  | 1 => .string "MadeWhere" 296
  | 2 => .string "MadeWhereModel" 283
  | _ => .string "MadeWhereModel" 431
theorem ks_str {s : State} {args : Array Value} (hg : (Jvm.Cond.and given_1 narrow_1).before args s = true) : ∃ adK adV : Nat → Nat, vk_S 4 sLen sByt adK adV (fun q => s.heap.size ≤ q) s s.heap ∧ ∀ i : Nat, i < 4 → (sTm i).eval args s none [] s = some (.ref (adK i)) := by
  refine vk_Sof (fun i hi => ?_) (fun i hi => ?_) (fun i hi => ?_) (fun i hi => ?_) (fun i hi => ?_) (fun i hi j hj => ?_) (fun i j hi hj hij => ?_) (fun a ha => Nat.not_le.mpr ha)
  · rcases (show i = 0 ∨ i = 1 ∨ i = 2 ∨ i = 3 by omega) with rfl | rfl | rfl | rfl <;> decide
  · rcases (show i = 0 ∨ i = 1 ∨ i = 2 ∨ i = 3 by omega) with rfl | rfl | rfl | rfl
    · exact flat_of_before _ hg _ (by decide +kernel)
    · exact flat_of_before _ hg _ (by decide +kernel)
    · exact flat_of_before _ hg _ (by decide +kernel)
    · exact flat_of_before _ hg _ (by decide +kernel)
  · rcases (show i = 0 ∨ i = 1 ∨ i = 2 ∨ i = 3 by omega) with rfl | rfl | rfl | rfl
    · exact flat_of_before _ hg _ (by decide +kernel)
    · exact flat_of_before _ hg _ (by decide +kernel)
    · exact flat_of_before _ hg _ (by decide +kernel)
    · exact flat_of_before _ hg _ (by decide +kernel)
  · rcases (show i = 0 ∨ i = 1 ∨ i = 2 ∨ i = 3 by omega) with rfl | rfl | rfl | rfl
    · exact flat_of_before _ hg _ (by decide +kernel)
    · exact flat_of_before _ hg _ (by decide +kernel)
    · exact flat_of_before _ hg _ (by decide +kernel)
    · exact flat_of_before _ hg _ (by decide +kernel)
  · rcases (show i = 0 ∨ i = 1 ∨ i = 2 ∨ i = 3 by omega) with rfl | rfl | rfl | rfl
    · exact flat_of_before _ hg _ (by decide +kernel)
    · exact flat_of_before _ hg _ (by decide +kernel)
    · exact flat_of_before _ hg _ (by decide +kernel)
    · exact flat_of_before _ hg _ (by decide +kernel)
  · rcases (show i = 0 ∨ i = 1 ∨ i = 2 ∨ i = 3 by omega) with rfl | rfl | rfl | rfl
    · have hj2 : j < 5 := hj
      rcases (show j = 0 ∨ j = 1 ∨ j = 2 ∨ j = 3 ∨ j = 4 by omega) with rfl | rfl | rfl | rfl | rfl
      · exact flat_of_before _ hg _ (by decide +kernel)
      · exact flat_of_before _ hg _ (by decide +kernel)
      · exact flat_of_before _ hg _ (by decide +kernel)
      · exact flat_of_before _ hg _ (by decide +kernel)
      · exact flat_of_before _ hg _ (by decide +kernel)
    · have hj2 : j < 8 := hj
      rcases (show j = 0 ∨ j = 1 ∨ j = 2 ∨ j = 3 ∨ j = 4 ∨ j = 5 ∨ j = 6 ∨ j = 7 by omega) with rfl | rfl | rfl | rfl | rfl | rfl | rfl | rfl
      · exact flat_of_before _ hg _ (by decide +kernel)
      · exact flat_of_before _ hg _ (by decide +kernel)
      · exact flat_of_before _ hg _ (by decide +kernel)
      · exact flat_of_before _ hg _ (by decide +kernel)
      · exact flat_of_before _ hg _ (by decide +kernel)
      · exact flat_of_before _ hg _ (by decide +kernel)
      · exact flat_of_before _ hg _ (by decide +kernel)
      · exact flat_of_before _ hg _ (by decide +kernel)
    · have hj2 : j < 8 := hj
      rcases (show j = 0 ∨ j = 1 ∨ j = 2 ∨ j = 3 ∨ j = 4 ∨ j = 5 ∨ j = 6 ∨ j = 7 by omega) with rfl | rfl | rfl | rfl | rfl | rfl | rfl | rfl
      · exact flat_of_before _ hg _ (by decide +kernel)
      · exact flat_of_before _ hg _ (by decide +kernel)
      · exact flat_of_before _ hg _ (by decide +kernel)
      · exact flat_of_before _ hg _ (by decide +kernel)
      · exact flat_of_before _ hg _ (by decide +kernel)
      · exact flat_of_before _ hg _ (by decide +kernel)
      · exact flat_of_before _ hg _ (by decide +kernel)
      · exact flat_of_before _ hg _ (by decide +kernel)
    · have hj2 : j < 7 := hj
      rcases (show j = 0 ∨ j = 1 ∨ j = 2 ∨ j = 3 ∨ j = 4 ∨ j = 5 ∨ j = 6 by omega) with rfl | rfl | rfl | rfl | rfl | rfl | rfl
      · exact flat_of_before _ hg _ (by decide +kernel)
      · exact flat_of_before _ hg _ (by decide +kernel)
      · exact flat_of_before _ hg _ (by decide +kernel)
      · exact flat_of_before _ hg _ (by decide +kernel)
      · exact flat_of_before _ hg _ (by decide +kernel)
      · exact flat_of_before _ hg _ (by decide +kernel)
      · exact flat_of_before _ hg _ (by decide +kernel)
  · rcases (show i = 0 ∨ i = 1 ∨ i = 2 ∨ i = 3 by omega) with rfl | rfl | rfl | rfl <;> rcases (show j = 0 ∨ j = 1 ∨ j = 2 ∨ j = 3 by omega) with rfl | rfl | rfl | rfl
    · exact absurd rfl hij
    · exact Or.inl (flat_of_before _ hg _ (by decide +kernel))
    · exact Or.inl (flat_of_before _ hg _ (by decide +kernel))
    · exact Or.inl (flat_of_before _ hg _ (by decide +kernel))
    · exact Or.inr (flat_of_before _ hg _ (by decide +kernel))
    · exact absurd rfl hij
    · exact Or.inl (flat_of_before _ hg _ (by decide +kernel))
    · exact Or.inl (flat_of_before _ hg _ (by decide +kernel))
    · exact Or.inr (flat_of_before _ hg _ (by decide +kernel))
    · exact Or.inr (flat_of_before _ hg _ (by decide +kernel))
    · exact absurd rfl hij
    · exact Or.inl (flat_of_before _ hg _ (by decide +kernel))
    · exact Or.inr (flat_of_before _ hg _ (by decide +kernel))
    · exact Or.inr (flat_of_before _ hg _ (by decide +kernel))
    · exact Or.inr (flat_of_before _ hg _ (by decide +kernel))
    · exact absurd rfl hij
theorem vk_S.ren {N : Nat} {len : List Nat} {byt : List (List Int32)} {adK adV adK' : Nat → Nat} {A : Nat → Prop} {U : State} {H : Heap} (h : vk_S N len byt adK adV A U H) (e : ∀ i, i < N → adK' i = adK i) : vk_S N len byt adK' adV A U H :=
  ⟨fun i hi => by rw [e i hi]; exact h.1 i hi, fun i j hi hj q => h.2 i j hi hj (by rw [← e i hi, ← e j hj]; exact q)⟩
theorem k0_ne (q : ([] : List Kd) = K0) : False := by
  have h9 : K0.length = 178 := by decide +kernel
  rw [← q] at h9
  cases h9
theorem lw_in {w : Cond} (i : Nat) (h : lw_tbl[i]? = some w) : w ∈ lw_tbl := List.mem_of_getElem? h
theorem kk_start {s : State} {b L : Nat} {xs : Nat → Int32} (hts : ∀ w ∈ lw_tbl, w.before #[.ref b] s = true) (hg : (Jvm.Cond.and given_1 narrow_1).before #[.ref b] s = true) (hX : va_X b L xs s s.heap) : ∃ G : GG, G.2.2.1 = s.heap ∧ G.2.2.2.1 9 = b ∧ KK G s ∧ SCR G L xs := by
  have htb : ∀ w ∈ Tb, w.before #[.ref b] s = true := fun w hw => hts w (List.mem_filter.mp hw).1
  have ho : AOv s := by
    obtain ⟨comp, cA, kA, hcomp, -, hkA, hkindA, hnameA⟩ := arrayOverA_spec (hts (Cond.arrayOver (.array .int)) (lw_in 196 (by decide +kernel)))
    exact ⟨comp, cA, kA, hcomp, hkA, hkindA, hnameA⟩
  obtain ⟨fc, hfc⟩ := ks_cls htb
  obtain ⟨fa, hfa⟩ := ks_arr htb ho
  obtain ⟨adK, adV, hS, ev⟩ := ks_str hg
  have ev0 := ev 0 (by decide)
  have ev1 := ev 1 (by decide)
  have ev2 := ev 2 (by decide)
  have ev3 := ev 3 (by decide)
  have ev4 : (Term.string "MadeWhereModel" 328).eval #[.ref b] s none [] s = some (.ref (adK 0)) := va_eqR (t := sTm 0) (flat_of_before _ hg _ (by decide +kernel)) ev0
  refine ⟨((fun ci => (fc ci).1, fun ci => (fc ci).2), fa, s.heap, (fun i => match i with | 9 => b | i => adK i), adV), rfl, rfl, ⟨hfc, hfa, fun w hw => ?_, va_Zof (hts _ (lw_in (w := Cond.laysStatic "java/lang/String" "COMPACT_STRINGS" "Z") 672 (by decide +kernel))) (hts _ (lw_in (w := Cond.initialized "java/lang/String") 105 (by decide +kernel))) (va_eqi (flat_of_before _ hg _ (by decide +kernel))) (fun a ha => Nat.not_le.mpr ha), hS.ren (fun i hi => ?_), ?_, ?_, ?_, ?_, ?_, ⟨s, L, xs, rfl, hts, hg, hX, Vm.Alike.refl s.vm⟩⟩, ?_⟩
  · have h8 := nws_form w hw
    have h9 := hts w (List.mem_filter.mp hw).1
    cases w with
    | fieldLinkNest => exact va_Nw.of rfl h9
    | methodLinkNest => exact va_Nw.of rfl h9
    | _ => cases h8
  · rcases (show i = 0 ∨ i = 1 ∨ i = 2 ∨ i = 3 by omega) with rfl | rfl | rfl | rfl <;> rfl
  · exact vk_R.of (hts _ (lw_in (w := Cond.stringRef "MadeWhere$Tape" 57 "rdsgz") 658 (by decide +kernel))) ev0
  · exact vk_R.of (hts _ (lw_in (w := Cond.stringRef "MadeWhere" 296 "anbochpy") 776 (by decide +kernel))) ev1
  · exact vk_R.of (hts _ (lw_in (w := Cond.stringRef "MadeWhereModel" 328 "rdsgz") 1759 (by decide +kernel))) ev4
  · exact vk_R.of (hts _ (lw_in (w := Cond.stringRef "MadeWhereModel" 283 "hpanbocy") 1793 (by decide +kernel))) ev2
  · exact vk_R.of (hts _ (lw_in (w := Cond.stringRef "MadeWhereModel" 431 "anbochp") 1948 (by decide +kernel))) ev3
  · obtain ⟨scr, h1, h2, h3, h4, h5⟩ := hX
    exact ⟨scr, h1, h4, h5⟩
-- ===== YOUR PART BEGINS =====
/-- YOUR PART: from the entry, for every script of at most 3584 ints, the law comes to its end with true ('hflags': the launch's flags, for a law that throws: no stack traces) -/
theorem whole_start {p : Program} {e : Env} {s : State} {m : MethodId} {below : List Frame} {meth : Method} {c : Code} (l : Launch) (hflags : l.flags = flags0) {b L : Nat} {xs : Nat → Int32} (hL : L ≤ 3584) (C0 : lw_At p s m meth c b L xs) : W p l e room_1 s m #[Value.ref b] below meth c s.heap [] 0 0 (lw_Z below #[Value.ref b] s) (entryFrame m ([Value.ref b] : List Value).toArray 7) := by
  obtain ⟨hx, hb, hr, hml, hown, hts, hX, hbl, hlocks, hgv, hnm⟩ := C0
  obtain ⟨G, e1, e2, hK, hX2⟩ := kk_start hts hgv hX
  have hst : l.stackTraces = false := by
    unfold Launch.stackTraces
    rw [hflags]
    decide
  have hV : V l G mL_law 100 601024 7293034 0 0 [] 0 [(3, ((G.2.2.2.1 9 : Nat) : Int)), (9, 0), (9, 0), (9, 0), (9, 0), (9, 0), (9, 0)] [] hz (fun r _ _ => r = some (0, 1)) := law_start hst hX2 hL (by decide) ⟨by decide, by decide⟩ (fun _ => rfl)
  have hlv := lv_entry ([.ref b]) (n := 7) (Nat.le_of_ble_eq_true rfl)
  rw [lg_entry_eq]
  generalize (lg_sl ([.ref b]) ++ List.replicate (7 - (lg_sl ([.ref b])).length) Slot.unset).toArray = ls at hlv ⊢
  have hl2 : rl (fun _ => 0) 0 [(3, ((G.2.2.2.1 9 : Nat) : Int)), (9, 0), (9, 0), (9, 0), (9, 0), (9, 0), (9, 0)] = [(0, .ref b)] := by
    show [((0 : Nat), Value.ref (((G.2.2.2.1 9 : Nat) : Int).toNat))] = _
    rw [Int.toNat_natCast, e2]
  have hR : Rel G (fun _ => 0) [] hz s.heap := by
    refine ⟨fun q _ => by rw [e1], fun i k hi => ?_, fun i hi => absurd hi (Nat.not_lt_zero i), fun i j hi _ _ => absurd hi (Nat.not_lt_zero i), fun i k j hi _ => ?_, fun q => (k0_ne q).elim⟩
    · simp at hi
    · simp at hi
  have kk := hV p e s m #[Value.ref b] below meth c (fun _ => 0) (fun _ => 0) 0 s.heap [] ls
    ⟨⟨hx, hb, hr, hlocks, hml, hown, hnm, wsN_of (fun w hw => hts w (List.mem_filter.mp hw).1), hK⟩,
      hR,
      ⟨fun i hi => absurd hi (Nat.not_lt_zero i), Nat.le_refl 0, va_S.rf, fun i hi => absurd hi (Nat.not_lt_zero i)⟩,
      (fun v hv => by
        simp only [List.mem_cons, List.not_mem_nil, or_false] at hv
        rcases hv with rfl | rfl | rfl | rfl | rfl | rfl | rfl
        all_goals exact oka9 (by decide)),
      (fun v hv => by cases hv), by rw [hl2]; exact hlv⟩
  refine w_room (R' := rmO 100 601024 7293034) (by decide) (by decide) (by decide) (by decide) (w_imp (fun t ht => ?_) kk)
  obtain ⟨o, h1, h2, ⟨⟨r, K, h, adr, q1, q2, q3, q4, q5, q6, q7⟩, hF⟩, Ls, hFE, hfree⟩ := ht
  subst q2
  refine ⟨o, h1, h2, q1, hFE.1, hFE.2.1, same_new hFE.2.2 (fun q hq => ?_)⟩
  rcases hfree q hq with ⟨i, hi, -⟩ | hq2
  · exact absurd hi (Nat.not_lt_zero i)
  · exact hq2
-- ===== YOUR PART ENDS =====
set_option maxHeartbeats 4000000 in
theorem lw_walk (l : Launch) (hflags : l.flags = flags0) (b : Addr) (xs : List Int32) : MetFree l x (headSpec (Jvm.Cond.code x code maxLocals ret :: tables_1) room_1) (lw_P b xs) (fun _ _ _ _ _ => True) lw_Q := by
  refine MetFree.of_bodyS (code := code) (maxLocals := maxLocals) (ret := ret) (by decide) ?_ ?_
  · intro args s m h hn
    obtain ⟨meth, c, h1, h2, h3, h4, h5, h6, -, -⟩ := Cond.code_spec hn (atoms_spec (ws := Jvm.Cond.code x code maxLocals ret :: tables_1) h _ List.mem_cons_self)
    exact ⟨meth, c, h1, h2, h3, h4, h5, h6⟩
  · intro p e s m args below meth c s₁ B hml0 hP _
    obtain ⟨rfl, hx, hbd, hgv⟩ := hP
    obtain ⟨scr, harrAt, hlist, hof, hsmall⟩ := hx
    obtain ⟨hcb, hkn, -, -⟩ := State.arrayAt?_spec harrAt
    have hown : s.vm.findClass R_law = some m.cls := findClass_of_methodNamed B.named
    have hts0 : ∀ c ∈ (Jvm.Cond.code x code maxLocals ret :: tables_1), c.before #[Value.ref b] s = true := atoms_spec (ws := Jvm.Cond.code x code maxLocals ret :: tables_1) B.pre
    have hts : ∀ w ∈ lw_tbl, w.before #[Value.ref b] s = true := k2_hts_sels lw_privs (fun w hw => hts0 w (List.mem_cons_of_mem _ hw)) lw_privs_ok
    have hml : c.maxLocals = 7 := B.maxLocals_eq (hts0 _ List.mem_cons_self)
    have X₀ : Stand p l e room_1 s m #[Value.ref b] below meth c s₁ [] 0 0 := Stand.of_body B
    have hh0 : s₁.heap = s.heap := by rw [B.state]; rfl
    have hsz : scr.slots.size = xs.length := by rw [← Array.length_toList, hlist, List.length_map]
    have hval : ∀ j : Nat, j < xs.length → scr.slots[j]? = some (.int (xs.getD j 0)) := fun j hj => by
      rw [← Array.getElem?_toList, hlist]
      simp [hj]
    have hbl : b < s.heap.size := (Array.getElem?_eq_some_iff.mp hcb).1
    have hX : va_X b xs.length (fun j => xs.getD j 0) s s.heap := ⟨scr, hcb, hof, hkn, hsz, hval⟩
    have K : W p l e room_1 s m #[Value.ref b] below meth c s₁.heap [] 0 0 (lw_Z below #[Value.ref b] s) (entryFrame m ([Value.ref b] : List Value).toArray 7) := by
      rw [hh0]
      exact whole_start l hflags hbd ⟨B.exec, B.bytes, B.returns, hml, hown, hts, hX, hbl, B.notSynchronized, hgv, (name_of_methodNamed B.named B.method).1⟩
    obtain ⟨t, a1, o, b1, b2, b3⟩ := K s₁ rfl X₀
    exact ⟨t, o, a1, b1, b2, b3⟩
theorem lw_pre_spec {args : Array Value} {s : State} (h : (Jvm.Cond.and given_1 narrow_1).before args s = true) (hr : rest_1_c.before args s = true) : ∃ (b : Addr) (xs : List Int32), lw_P b xs args s := by
  have hs := flat_of_before _ h
  have hq := flat_of_before _ hr
  have hc : (Cond.count 1).before args s = true := hs _ (by decide +kernel)
  have harr : (Cond.arrayOf (.arg 0) .int).before args s = true := hs _ (by decide +kernel)
  have hle : (Cond.le (.length (.arg 0)) (.int 3584)).before args s = true := hs _ (by decide +kernel)
  have hlen : (Cond.isInt (.length (.arg 0))).before args s = true := hq _ (by decide +kernel)
  have hall : (Cond.all (.arg 0) (.isInt (.elem (.arg 0) (.index 0)))).before args s = true := hq _ (by decide +kernel)
  obtain ⟨b, xs, hb, hx⟩ := State.ints_of_pre rfl harr hlen hall
  have hsm : xs.length < 2 ^ 31 := hx.choose_spec.2.2.2
  have hev : (Term.length (.arg 0)).eval args s none [] s = some (.int xs.length.toInt32) := hx.length_eval hb
  have hv := Cond.le_ints hev (show (Term.int 3584).eval args s none [] s = some (.int 3584) from rfl)
  have hd : xs.length.toInt32 ≤ 3584 := by
    simpa [Cond.before, Cond.holds, hv] using hle
  have hN : xs.length ≤ 3584 := (Int32.ofNat_le_ofNat hsm (by decide)).mp (show Int32.ofNat xs.length ≤ Int32.ofNat 3584 from hd)
  exact ⟨b, xs, Cond.one_arg hc (show args[0]? = some (.ref b) from hb), hx, hN, h⟩
theorem lw_comes (l : Launch) (hflags : l.flags = flags0) : Comes l x (Jvm.Cond.code x code maxLocals ret :: tables_1) room_1 (fun tb e args s => Calls_1 tb e args s ∧ rest_1 tb e args s ∧ Pre_1 tb e args s)
    (fun _ _ args s o t => lw_Q args s o t) := by
  intro p e ha hc hk s m args below hf hfit hheap happ hpre
  obtain ⟨b, xs, hP⟩ := lw_pre_spec hpre.2.2 hpre.2.1
  obtain ⟨k, o, h1, h2, h3, hQ⟩ := lw_walk l hflags b xs p e ha hc hk s m args below hf ((Spec.applies_iff_loose hf).mp happ).1 hP trivial
  exact ⟨k, o, h1, h2, h3, hQ⟩
theorem lw_frame {s t : State} {o : Outcome} {args : Array Value} (h : Framed s o t [] 601024 7293034) :
    Framed s o t (fieldLocs frame_1_writes args s ++ arrayLocs frame_1_arrays args s ++ staticLocs frame_1_statics s) 601024 7293034 := h
theorem lw_limb (L : Cond) (hL : ∀ (args : Array Value) (s t : State), L.after args s (.returned (some (.int 1))) t = true) :
    ArmFor flags0 classFile x code maxLocals ret World_1 tables_1 room_1 Calls_1 rest_1 Pre_1
      (fun tb e a s o t => postC L tb e a s o t ∧ Framed s o t (fieldLocs frame_1_writes a s ++ arrayLocs frame_1_arrays a s ++ staticLocs frame_1_statics s) 601024 7293034) := by
  intro l hflags _ _ p e ha hc hk s m args below hf hfit hheap happ hpre
  obtain ⟨k, o, h1, h2, h3, rfl, hF⟩ := lw_comes l hflags p e ha hc hk s m args below hf hfit hheap happ hpre
  exact ⟨k, _, h1, h2, h3, hL args s _, lw_frame hF⟩
theorem i_vc : Claimed_1_1 ∧ Claimed_1_2 := ⟨lw_limb limb_1_1 (fun args s t => by simp [limb_1_1, Cond.after, Cond.holds, Cond.value]), lw_limb limb_1_2 (fun args s t => Cond.after_iff.mpr (by
  first | (rw [show limb_1_2 = Cond.eq .result (.int 1) from rfl, Cond.eq_ints (x := 1) (y := 1) rfl rfl]; simp; done) | (simp [limb_1_2, Cond.value, Term.eval]; done)))⟩
