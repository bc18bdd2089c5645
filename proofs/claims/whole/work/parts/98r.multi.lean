/-! ===== rows of rows made at once (the machine's multianewarray, two lengths, of ints); the road is that of the library's law of the same, which the rounds don't hold ===== -/
def mgR (cI : ClassId) (b : Nat) : Cell := { cls := cI, slots := Array.replicate b (.int 0), vm := .none }
def mgO (cO : ClassId) (a z : Nat) : Nat → Cell
  | 0 => { cls := cO, slots := Array.replicate a .null, vm := .none }
  | i + 1 => (mgO cO a z i).setSlot i (.ref (z + 1 + i))
def mgS (T : State) (cO cI : ClassId) (a b : Nat) : Nat → State
  | 0 => T.pushCell (mgO cO a T.heap.size 0)
  | i + 1 => ((mgS T cO cI a b i).pushCell (mgR cI b)).setCell T.heap.size (mgO cO a T.heap.size (i + 1))
section MG
variable {cO cI : ClassId} {a b z : Nat} {T : State}
theorem mgO_v : ∀ i, mgO cO a z i = arrV cO a (fun j => if j < i then .ref (z + 1 + j) else .null) := by
  intro i
  induction i with
  | zero =>
    show ({ cls := cO, slots := Array.replicate a .null, vm := .none } : Cell) = _
    rw [arrV_new]
    exact arrV_x fun j _ => (if_neg (Nat.not_lt_zero j)).symm
  | succ i ih =>
    show (mgO cO a z i).setSlot i (.ref (z + 1 + i)) = _
    rw [ih, arrV_store]
    refine arrV_x fun j _ => ?_
    unfold updV
    by_cases e : j = i
    · rw [if_pos e, if_pos (by omega), e]
    · rw [if_neg e]
      show (if j < i then Value.ref (z + 1 + j) else Value.null) = _
      by_cases c : j < i
      · rw [if_pos c, if_pos (by omega)]
      · rw [if_neg c, if_neg (by omega)]
theorem mgO_f (i : Nat) : (mgO cO a z i).cls = cO ∧ (mgO cO a z i).vm = .none ∧ (mgO cO a z i).slots.size = a := by
  rw [mgO_v]
  exact ⟨rfl, rfl, arrV_size _ _ _⟩
theorem mgS_f : ∀ i, (mgS T cO cI a b i).heap.size = T.heap.size + 1 + i ∧ (mgS T cO cI a b i).heap[T.heap.size]? = some (mgO cO a T.heap.size i) ∧ (mgS T cO cI a b i).vm = T.vm ∧ (mgS T cO cI a b i).slotsUsed = T.slotsUsed + a + i * b := by
  intro i
  induction i with
  | zero => exact ⟨by simp [mgS], by simp [mgS], rfl, by simp [mgS, mgO]⟩
  | succ i ih =>
    obtain ⟨f1, f2, f3, f4⟩ := ih
    have hlt : T.heap.size < (mgS T cO cI a b i).heap.size := by rw [f1]; omega
    have hb' : ((mgS T cO cI a b i).pushCell (mgR cI b)).heap[T.heap.size]? = some (mgO cO a T.heap.size i) := by rw [State.heap_pushCell_of_lt (h := hlt)]; exact f2
    refine ⟨by simp [mgS, State.setCell, f1]; omega, State.heap_setCell_self hb', by simp [mgS, f3], by simp [mgS, f4, mgR, Nat.succ_mul]; omega⟩
theorem mgS_top {f : JFrame} : ∀ i, mgS (T.setTop f) cO cI a b i = (mgS T cO cI a b i).setTop f := by
  intro i
  induction i with
  | zero => rfl
  | succ i ih => simp only [mgS, ih, State.heap_setTop, State.pushCell_setTop, State.setCell_setTop]
theorem mgS_old {q : Nat} (hq : q < T.heap.size) : ∀ i, (mgS T cO cI a b i).heap[q]? = T.heap[q]? := by
  intro i
  induction i with
  | zero => exact State.heap_pushCell_of_lt _ _ hq
  | succ i ih =>
    have f1 := (mgS_f (cO := cO) (cI := cI) (a := a) (b := b) (T := T) i).1
    have hlt : q < (mgS T cO cI a b i).heap.size := by rw [f1]; omega
    show (((mgS T cO cI a b i).pushCell (mgR cI b)).setCell T.heap.size _).heap[q]? = _
    rw [State.heap_setCell_other (Nat.ne_of_gt hq), State.heap_pushCell_of_lt (h := hlt)]
    exact ih
theorem mgS_in : ∀ i j, j < i → (mgS T cO cI a b i).heap[T.heap.size + 1 + j]? = some (mgR cI b) := by
  intro i
  induction i with
  | zero => intro j h; omega
  | succ i ih =>
    intro j h
    have f1 := (mgS_f (cO := cO) (cI := cI) (a := a) (b := b) (T := T) i).1
    show (((mgS T cO cI a b i).pushCell (mgR cI b)).setCell T.heap.size _).heap[T.heap.size + 1 + j]? = _
    rw [State.heap_setCell_other (show T.heap.size ≠ T.heap.size + 1 + j by omega)]
    by_cases e : j < i
    · have hlt : T.heap.size + 1 + j < (mgS T cO cI a b i).heap.size := by rw [f1]; omega
      rw [State.heap_pushCell_of_lt (h := hlt)]
      exact ih j e
    · have e2 : j = i := by omega
      rw [e2, ← f1]
      exact State.heap_pushCell_size _ _
end MG
section MGW
variable {E : CtlPost} {e : Env} {d : Bool} {acts : List Action} {s : State}
theorem mg_new {cc comp : ClassId} {k : Class} {t : FieldType} {len : Nat} {v0 : Value} (hk : s.vm.classes[cc]? = some k) (hkind : k.kind = .array comp t) (hl : ¬ len > e.platform.arrayLengthLimit) (hh : ¬ len * componentBytes t > e.platform.maxHeapBytes) (hf : fits t v0 = true) (hd : v0.isDefault = true) {Q : Addr → Pre}
    (h1 : s.heap.size < e.platform.maxCells) (h2 : s.slotsUsed + len ≤ e.platform.maxSlots) (hq : Q s.heap.size d acts (s.pushCell { cls := cc, slots := Array.replicate len v0, vm := .none })) : wp (Jvm.newArray cc len v0) Q E e d acts s := by
  have hfits : ∀ i v, (Array.replicate len v0)[i]? = some v → s.fitsSlot cc .none i v = true := by
    intro i v hv
    simp only [Array.getElem?_replicate] at hv
    split at hv
    · cases hv
      simp [State.fitsSlot, State.slotType?, hk, hkind, hf]
    · cases hv
  have hda : allocActs (Array.replicate len v0) s.heap.size acts = acts := by
    have hall : ((Array.replicate len v0).all (·.isDefault)) = true := by
      rw [Array.all_replicate]
      split <;> simp [hd]
    unfold allocActs
    rw [if_pos hall]
  simp only [Jvm.newArray, Jvm.arrayFits, wp_bind', W.ask, W.ite, hl, if_false, wp_pure', W.theClass, hk, hkind, hh, W.alloc, W.stop, Option.some.injEq, exists_eq_left', Array.size_replicate, hda]
  rw [if_neg (by omega)]
  exact ⟨h1, h2, hfits, hq⟩
theorem mg_make1 {cI ce : ClassId} {kI : Class} {m : Int32} (hk : s.vm.classes[cI]? = some kI) (hkind : kI.kind = .array ce .int) (hm : ¬ m < 0) (hl : ¬ m.toNatClampNeg > e.platform.arrayLengthLimit) (hh : ¬ m.toNatClampNeg * componentBytes .int > e.platform.maxHeapBytes)
    (h1 : s.heap.size < e.platform.maxCells) (h2 : s.slotsUsed + m.toNatClampNeg ≤ e.platform.maxSlots) {Q : Addr → Pre} (hq : Q s.heap.size d acts (s.pushCell (mgR cI m.toNatClampNeg))) : wp (multianewarray.make cI [m]) Q E e d acts s := by
  rw [multianewarray.make]
  simp only [wp_bind', W.ite, hm, if_false, wp_pure', W.theClass, hk, hkind, Option.some.injEq, exists_eq_left']
  exact mg_new hk hkind hl hh rfl rfl h1 h2 hq
theorem mg_make2 {cO cI ce : ClassId} {kO kI : Class} {n m : Int32} (hk : s.vm.classes[cO]? = some kO) (hkind : kO.kind = .array cI (.array .int)) (hkI : s.vm.classes[cI]? = some kI) (hkindI : kI.kind = .array ce .int) (hn : ¬ n < 0) (hm : ¬ m < 0)
    (hl1 : ¬ n.toNatClampNeg > e.platform.arrayLengthLimit) (hh1 : ¬ n.toNatClampNeg * componentBytes (.array .int) > e.platform.maxHeapBytes) (hl2 : ¬ m.toNatClampNeg > e.platform.arrayLengthLimit) (hh2 : ¬ m.toNatClampNeg * componentBytes .int > e.platform.maxHeapBytes)
    (hc : s.heap.size + 1 + n.toNatClampNeg ≤ e.platform.maxCells) (hs : s.slotsUsed + n.toNatClampNeg + n.toNatClampNeg * m.toNatClampNeg ≤ e.platform.maxSlots)
    {Q : Addr → Pre} (hq : ∀ d' acts', Q s.heap.size d' acts' (mgS s cO cI n.toNatClampNeg m.toNatClampNeg n.toNatClampNeg)) : wp (multianewarray.make cO [n, m]) Q E e d acts s := by
  have hfind : ([m].find? (· < 0)) = none := by simp [hm]
  rw [multianewarray.make]
  simp only [wp_bind', W.ite, hn, if_false, wp_pure', W.theClass, hk, hkind, Option.some.injEq, exists_eq_left']
  refine mg_new hk hkind hl1 hh1 rfl rfl (by omega) (by have := Nat.zero_le (n.toNatClampNeg * m.toNatClampNeg); omega) ?_
  simp only [hfind]
  rw [ite_self, wp_bind', Std.Legacy.Range.forIn_eq_forIn_range']
  have hsz : ([:n.toNatClampNeg] : Std.Legacy.Range).size = n.toNatClampNeg := by simp [Std.Legacy.Range.size]
  rw [hsz]
  show wp (forIn (List.range' 0 n.toNatClampNeg 1) PUnit.unit _) _ E e d acts _
  refine wp_forIn_inv (fun rest s' => ∃ i, i ≤ n.toNatClampNeg ∧ rest = List.range' i (n.toNatClampNeg - i) ∧ s' = mgS s cO cI n.toNatClampNeg m.toNatClampNeg i) _ _ ⟨0, Nat.zero_le _, rfl, rfl⟩ ?_ ?_
  · rintro x rest s' d' acts' Q' ⟨i, hi, hl, rfl⟩ hnext
    have hlt : i < n.toNatClampNeg := by
      by_cases h : i < n.toNatClampNeg
      · exact h
      · rw [show n.toNatClampNeg - i = 0 by omega] at hl
        simp at hl
    obtain ⟨rfl, hrest⟩ : x = i ∧ rest = List.range' (i + 1) (n.toNatClampNeg - (i + 1)) := by
      rw [show n.toNatClampNeg - i = (n.toNatClampNeg - (i + 1)) + 1 by omega, List.range'_succ] at hl
      exact ⟨(List.cons.inj hl).1, (List.cons.inj hl).2⟩
    obtain ⟨f1, f2, f3, f4⟩ := mgS_f (cO := cO) (cI := cI) (a := n.toNatClampNeg) (b := m.toNatClampNeg) (T := s) x
    obtain ⟨o1, o2, o3⟩ := mgO_f (cO := cO) (a := n.toNatClampNeg) (z := s.heap.size) x
    have hmul : x * m.toNatClampNeg + m.toNatClampNeg ≤ n.toNatClampNeg * m.toNatClampNeg := by
      have := Nat.mul_le_mul_right m.toNatClampNeg (show x + 1 ≤ n.toNatClampNeg from hlt)
      rw [Nat.succ_mul] at this
      exact this
    simp only [wp_bind']
    refine mg_make1 (by rw [f3]; exact hkI) hkindI hm hl2 hh2 (by rw [f1]; omega) (by rw [f4]; omega) ?_
    simp only [wp_bind', W.writeLoc, wp_pure']
    have hlt0 : s.heap.size < (mgS s cO cI n.toNatClampNeg m.toNatClampNeg x).heap.size := by rw [f1]; omega
    refine ⟨mgO cO n.toNatClampNeg s.heap.size x, by rw [State.heap_pushCell_of_lt (h := hlt0)]; exact f2, by rw [o2]; simp, by rw [o3]; exact hlt, ?_, hnext _ _ _ ⟨x + 1, hlt, hrest, ?_⟩⟩
    · rw [o1, o2]
      simp [State.fitsSlot, State.slotType?, f3, hk, hkind, fits]
    · rw [f1]
      rfl
  · rintro s' d' acts' ⟨i, hi, hl, rfl⟩
    have hiN : i = n.toNatClampNeg := by
      by_cases h : i < n.toNatClampNeg
      · rw [show n.toNatClampNeg - i = (n.toNatClampNeg - (i + 1)) + 1 by omega, List.range'_succ] at hl
        cases hl
      · omega
    subst hiN
    simp only [wp_pure']
    exact hq _ _
end MGW
