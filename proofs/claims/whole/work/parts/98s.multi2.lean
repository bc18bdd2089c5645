/-! ===== rows of rows made at once: the machine's step, the rule for V ===== -/
def AOv (s : State) : Prop := ∃ comp cA kA, s.vm.findClass (FieldType.array .int).toString = some comp ∧ s.vm.classes[cA]? = some kA ∧ kA.kind = .array comp (.array .int) ∧ s.vm.findClass ("[" ++ (FieldType.array .int).toString) = some cA
theorem aov_of {G : GG} {s : State} (B : BA G s) : AOv s := by
  obtain ⟨s0, L, xs, h1, h2, h3, h4, h5⟩ := B
  obtain ⟨comp, cA, kA, hcomp, -, hkA, hkindA, hnameA⟩ := arrayOverA_spec (h2 (Cond.arrayOver (.array .int)) (List.mem_of_getElem? (i := 196) (by decide +kernel)))
  obtain ⟨kA₁, hkA₁, heA⟩ := h5.2.2 _ _ hkA
  exact ⟨comp, cA, kA₁, by rw [h5.findClass]; exact hcomp, hkA₁, by rw [heA]; exact hkindA, by rw [h5.findClass]; exact hnameA⟩
section MGS
variable {p : Program} {l : Launch} {e : Env} {R : Room} {s : State} {m : MethodId} {args : Array Value} {below : List Frame} {meth : Method} {c : Code} {H : Heap} {locs : List Loc} {cells slots : Nat} {Q : State → Prop}
theorem mg_st {T : State} {cO cI : ClassId} {a b : Nat} (X : Stand p l e R s m args below meth c T locs cells slots) : ∀ i, Stand p l e R s m args below meth c (mgS T cO cI a b i) (locs ++ (List.range i).map fun j => ⟨T.heap.size, j⟩) (cells + 1 + i) (slots + a + i * b) := by
  intro i
  induction i with
  | zero =>
    have h := X.pushed (mgO cO a T.heap.size 0)
    rw [(mgO_f 0).2.2] at h
    simpa [mgS] using h
  | succ i ih =>
    obtain ⟨f1, f2, f3, f4⟩ := mgS_f (cO := cO) (cI := cI) (a := a) (b := b) (T := T) i
    have hlt : T.heap.size < (mgS T cO cI a b i).heap.size := by rw [f1]; omega
    have hc : ((mgS T cO cI a b i).pushCell (mgR cI b)).heap[T.heap.size]? = some (mgO cO a T.heap.size i) := by rw [State.heap_pushCell_of_lt (h := hlt)]; exact f2
    have h := (ih.pushed (mgR cI b)).stored hc i (.ref (T.heap.size + 1 + i))
    have e1 : (mgR cI b).slots.size = b := by simp [mgR]
    have e2 : (locs ++ (List.range (i + 1)).map fun j => (⟨T.heap.size, j⟩ : Loc)) = (locs ++ (List.range i).map fun j => (⟨T.heap.size, j⟩ : Loc)) ++ [⟨T.heap.size, i⟩] := by simp [List.range_succ, List.append_assoc]
    rw [e1] at h
    rw [e2, show slots + a + (i + 1) * b = slots + a + i * b + b by rw [Nat.succ_mul]; omega]
    exact h
theorem mg_W {cc : ByteArray} (hexec : p.tables.exec = Jvm.exec) (hb : c.code = cc) {own : String} {idx : Nat} (hown : s.vm.findClass own = some m.cls) (hlink : (Cond.classLink own idx ("[" ++ (FieldType.array .int).toString)).before args s = true) (hover : AOv s) (harr : (Cond.arrayClass .int).before args s = true)
    {g : JFrame} (hg : g.method = m) {rest : List Value} {n k : Int32} (hstack : g.stack = .int k :: .int n :: rest) {a b : Nat} (hn : ¬ n < 0 ∧ n.toNatClampNeg = a) (hk : ¬ k < 0 ∧ k.toNatClampNeg = b) (hdg : decode cc g.pc = .ok (.multianewarray idx 2, 4)) (hb1 : a * 4 ≤ 536870912) (hb2 : b * componentBytes .int ≤ 536870912) (hb3 : b ≤ 536870912)
    (hcells : cells + (1 + a) ≤ R.cells) (hslots : slots + (a + a * b) ≤ R.slots)
    (kk : ∀ (H' : Heap) (cO cI : ClassId) (Ls : List Loc), s.vm.findClass ("[" ++ (FieldType.array .int).toString) = some cO → s.vm.findClass (FieldType.array .int).toString = some cI → H'[H.size]? = some (mgO cO a H.size a) → (∀ j, j < a → H'[H.size + 1 + j]? = some (mgR cI b)) → H'.size = H.size + 1 + a → (∀ q : Nat, q < H.size → H'[q]? = H[q]?) → (∀ z ∈ Ls, z.base = H.size) →
      W p l e R s m args below meth c H' (locs ++ Ls) (cells + 1 + a) (slots + a + a * b) Q { g with pc := g.pc + 4, stack := .ref H.size :: rest }) : W p l e R s m args below meth c H locs cells slots Q g := by
  intro T hT X
  subst hT; subst hb; subst hg
  obtain ⟨hn0, hna⟩ := hn
  obtain ⟨hk0, hkb⟩ := hk
  subst hna; subst hkb
  have hpl : e.platform.magicAccessors = ({} : Platform).magicAccessors := by rw [X.admits.platform]
  obtain ⟨comp, cA, kA, hcomp, hkA, hkindA, hnameA⟩ := hover
  obtain ⟨comp', kC, cc, hcomp', hkC, hkindC⟩ := Cond.arrayClass_spec harr
  have ecomp : comp' = comp := Option.some.inj (hcomp'.symm.trans hcomp)
  subst ecomp
  obtain ⟨c0, hfc0, hcl⟩ := Cond.classLink_spec hown hlink e.platform hpl
  cases hnameA.symm.trans hfc0
  obtain ⟨hg₁, hwarm₁, hready₁⟩ := State.classEntry (e := e) X.warmed hcl
  generalize T.vm.noted g.method.cls idx (.cls cA) = vm₁ at hg₁ hwarm₁ hready₁
  have hal : s.vm.Alike vm₁ := hwarm₁.alike
  obtain ⟨kA₁, hkA₁, heA⟩ := hal.2.2 _ _ hkA
  obtain ⟨kC₁, hkC₁, heC⟩ := hal.2.2 _ _ hkC
  have hkindA₁ : kA₁.kind = .array comp' (.array .int) := by rw [heA]; exact hkindA
  have hkindC₁ : kC₁.kind = .array cc .int := by rw [heC]; exact hkindC
  have X₁ := X.noted hwarm₁
  have XF := mg_st (cO := cA) (cI := comp') (a := n.toNatClampNeg) (b := k.toNatClampNeg) X₁ n.toNatClampNeg
  obtain ⟨hr1, hr2⟩ := X.roomAbove hcells hslots
  obtain ⟨f1, f2, f3, f4⟩ := mgS_f (cO := cA) (cI := comp') (a := n.toNatClampNeg) (b := k.toNatClampNeg) (T := T.setVm vm₁) n.toNatClampNeg
  obtain ⟨t', a1, b1⟩ := kk (mgS (T.setVm vm₁) cA comp' n.toNatClampNeg k.toNatClampNeg n.toNatClampNeg).heap cA comp' _ hnameA hcomp f2 (fun j hj => mgS_in _ j hj) f1 (fun q hq => mgS_old (T := T.setVm vm₁) hq _) (fun z hz => by
    obtain ⟨j, -, rfl⟩ := List.mem_map.mp hz
    rfl) (mgS (T.setVm vm₁) cA comp' n.toNatClampNeg k.toNatClampNeg n.toNatClampNeg) rfl XF
  have hl1 : ¬ n.toNatClampNeg > e.platform.arrayLengthLimit := by rw [Launch.admits_arrayLengthLimit X.admits]; omega
  have hh1 : ¬ n.toNatClampNeg * componentBytes (.array .int) > e.platform.maxHeapBytes := by
    rw [Launch.admits_maxHeapBytes X.admits]; show ¬ n.toNatClampNeg * 4 > 536870912; omega
  have hl2 : ¬ k.toNatClampNeg > e.platform.arrayLengthLimit := by rw [Launch.admits_arrayLengthLimit X.admits]; omega
  have hh2 : ¬ k.toNatClampNeg * componentBytes .int > e.platform.maxHeapBytes := by rw [Launch.admits_maxHeapBytes X.admits]; omega
  refine ⟨t', ?_, b1⟩
  jvm_step X.here [hexec, hdg]
  simp only [multianewarray.sem, wp_bind', W.resolveClassAt_links (State.method?_setTop g X.here.top) hg₁]
  rw [W.popN, if_neg (by decide)]
  refine ⟨g, State.topJava?_setTop' (s := T.setVm vm₁) g X.here.top, [.int n, .int k], rest, rfl, hstack, ?_⟩
  simp only [List.mapM_cons, List.mapM_nil, wp_bind', wp_pure']
  refine mg_make2 (kO := kA₁) (kI := kC₁) (cI := comp') (ce := cc) hkA₁ hkindA₁ hkC₁ hkindC₁ hn0 hk0 hl1 hh1 hl2 hh2 (by show T.heap.size + 1 + _ ≤ _; omega) (by show T.slotsUsed + _ + _ ≤ _; omega) (fun d' acts' => ?_)
  have eS : ∀ g1 g2 : JFrame, ((T.setTop g1).setVm vm₁).setTop g2 = (T.setVm vm₁).setTop g2 := fun g1 g2 => by
    show ((T.setVm vm₁).setTop g1).setTop _ = _
    rw [State.setTop_setTop]
  rw [eS, mgS_top]
  simp only [wp_bind', W.mark, W.pushRef, State.topJava?_setTop' _ XF.here.top, Option.some.injEq, exists_eq_left', State.setTop_setTop, State.heap_setTop]
  intro acts
  simp [jvm, XF.here.top]
  exact a1
end MGS
