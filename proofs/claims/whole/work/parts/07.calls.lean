/-! ===== rules for V: returns, calls; from V to Sp ===== -/
theorem ra_eq {adr adr' : Nat → Nat} {n : Nat} (h : ∀ i, i < n → adr' i = adr i) {v : AV} (hv : oka n v) : ra adr' v = ra adr v := by
  obtain ⟨t, x⟩ := v
  by_cases h2 : t = 2
  · subst h2
    obtain ⟨h0, h1⟩ := hv.2.2 rfl
    show Value.ref (adr' x.toNat) = Value.ref (adr x.toNat)
    simp only at h0 h1
    rw [h x.toNat (by omega)]
  · unfold ra
    split <;> simp_all
theorem ra_map {adr adr' : Nat → Nat} {n : Nat} (h : ∀ i, i < n → adr' i = adr i) {st : List AV} (hv : ∀ v ∈ st, oka n v) : st.map (ra adr') = st.map (ra adr) := List.map_congr_left fun v q => ra_eq h (hv v q)
theorem rl_eq {adr adr' : Nat → Nat} {n : Nat} (h : ∀ i, i < n → adr' i = adr i) : ∀ {L : List AV} (i : Nat), (∀ v ∈ L, oka n v) → rl adr' i L = rl adr i L := by
  intro L
  induction L with
  | nil => intro i _; rfl
  | cons v L ih =>
    intro i hv
    simp only [rl]
    rw [ih (i + 1) (al_c.mp hv).2, ra_eq h (al_c.mp hv).1]
theorem oka.mono {n n' : Nat} (h : n ≤ n') {v : AV} (hv : oka n v) : oka n' v := ⟨hv.1, hv.2.1, fun q => ⟨(hv.2.2 q).1, by have := (hv.2.2 q).2; omega⟩⟩
theorem la_len (adr : Nat → Nat) : ∀ args : List AV, (lg_sl (args.map (ra adr))).length = (la args).length := by
  intro args
  induction args with
  | nil => rfl
  | cons v vs ih =>
    simp only [List.map_cons, la, lg_sl, List.flatMap_cons, List.length_append]
    have ih' : (List.flatMap (fun v => if v.category = 2 then [Slot.val v, Slot.second] else [Slot.val v]) (vs.map (ra adr))).length = (la vs).length := ih
    by_cases h : v.1 = 1
    · rw [if_pos (ra_c2' h), if_pos h]; simp only [List.length_cons, List.length_nil]; omega
    · rw [if_neg (fun q => h (ra_c2 q)), if_neg h]; simp only [List.length_cons, List.length_nil]; omega
theorem rl_tail (adr : Nat → Nat) : ∀ (k i : Nat), rl adr i (List.replicate k ((9, 0) : AV)) = [] := by
  intro k
  induction k with
  | zero => intro i; rfl
  | succ k ih => intro i; simp only [List.replicate_succ, rl]; rw [if_neg (by decide)]; exact ih (i + 1)
theorem rl_args (adr : Nat → Nat) (k : Nat) : ∀ (args : List AV) (i : Nat), (∀ v ∈ args, v.1 < 8) → rl adr i (la args ++ List.replicate k (9, 0)) = lv_args i (args.map (ra adr)) := by
  intro args
  induction args with
  | nil => intro i _; exact rl_tail adr k i
  | cons v vs ih =>
    intro i ht
    have hv := ht v List.mem_cons_self
    have hr := fun w hw => ht w (List.mem_cons_of_mem _ hw)
    by_cases h : v.1 = 1
    · simp only [la, if_pos h, List.cons_append, rl, if_pos hv, List.map_cons, lv_args, if_pos (ra_c2' h)]
      rw [if_neg (by decide), ih _ hr]
    · simp only [la, if_neg h, List.cons_append, rl, if_pos hv, List.map_cons, lv_args, if_neg (fun q => h (ra_c2 q))]
      rw [ih _ hr]
theorem la_ok {n : Nat} {args : List AV} (h : ∀ v ∈ args, oka n v) (k : Nat) : ∀ v ∈ la args ++ List.replicate k (9, 0), oka n v := by
  intro v hv
  rcases List.mem_append.mp hv with q | q
  · clear hv
    induction args with
    | nil => cases q
    | cons w ws ih =>
      have h2 := fun u hu => h u (List.mem_cons_of_mem _ hu)
      by_cases e : w.1 = 1
      · simp only [la, if_pos e] at q
        rcases List.mem_cons.mp q with r | r
        · rw [r]; exact h w List.mem_cons_self
        · rcases List.mem_cons.mp r with r2 | r2
          · rw [r2]; exact oka9 (by decide)
          · exact ih h2 r2
      · simp only [la, if_neg e] at q
        rcases List.mem_cons.mp q with r | r
        · rw [r]; exact h w List.mem_cons_self
        · exact ih h2 r
  · rw [List.eq_of_mem_replicate q]; exact oka9 (by decide)
theorem cal_ws {M' : MI} {n : Nat} (h : Cal M' n) : ∀ w ∈ wsM M', w ∈ Tb := fun w hw => by
  rcases List.mem_cons.mp hw with q | q
  · rw [q]; exact h.1
  · exact q
section CRULES
variable {l : Launch} {G : GG} {M : MI} {d mc ms n1 n2 : Nat} {K : List Kd} {pc : Nat} {L st : List AV} {h : AH} {Q : Option AV → List Kd → AH → Prop}
/-- from the body to the method -/
theorem sp_of {args : List AV} (hpl : plainName M.1.cls = true) (hlen : (la args).length ≤ M.2.2.1) (htag : ∀ v ∈ args, v.1 < 8) (hL : la args ++ List.replicate (M.2.2.1 - (la args).length) (9, 0) = L) (k : V l G M d mc ms 0 0 K 0 L [] h Q) : Sp l G M d mc ms K args h Q := by
  intro adr sz hargs
  refine Met.ofW (cc := M.2.1) (maxL := M.2.2.1) (ret := M.2.2.2) hpl rfl ?_
  intro p e s m args' below meth c s₁ B hml hv
  obtain ⟨rfl, hsz, hR, hKK⟩ := hv
  subst hsz
  rw [lg_entry_eq]
  subst hL
  have hlv := lv_entry (args.map (ra adr)) (n := M.2.2.1) (by rw [la_len]; exact hlen)
  rw [la_len] at hlv ⊢
  refine k p e s m _ below meth c adr adr K.length s.heap [] _ ⟨⟨B.exec, B.bytes, B.returns, B.notSynchronized, hml, findClass_of_methodNamed B.named, (name_of_methodNamed B.named B.method).1, wsN_of (fun w hw => atoms_spec B.pre w (List.mem_cons_of_mem _ hw)), hKK⟩, hR, ⟨fun _ _ => rfl, Nat.le_refl _, va_S.rf, fun i hi => Or.inl ⟨i, hi, rfl⟩⟩, la_ok hargs _, (fun v hv => by cases hv), ?_⟩
  rw [rl_args adr _ args 0 htag]
  exact hlv
theorem v_ireti {x : Int} (hdg : decode M.2.1 pc = .ok (.ireturn, 1)) (hret : M.2.2.2 = some .int) (h1 : n1 ≤ mc) (h2 : n2 ≤ ms) (hq : Q (some (0, x)) K h) : V l G M d mc ms n1 n2 K pc L [(0, x)] h Q := by
  intro p e s m args below meth c adr0 adr n0 H locs ls S
  obtain ⟨S1, S2, S3, S4, S5, S6⟩ := S
  obtain ⟨hx, hb, h3, h4, h5, h6, h7, h8, h9⟩ := id S1
  refine W.widen h1 h2 ?_
  exact W.iret (v := Int32.ofInt x) hx hb (h3.trans hret) (fun t ht hW => ⟨⟨some (0, x), K, h, adr, rfl, hq, S3.1, S3.2.1, by rw [ht]; exact S2, S3.2.2.2, fun v hv => by cases hv; exact (al_c.mp S5).1⟩, S3.2.2.1.F ht⟩) S3.2.2.1.2.2 hdg h4
theorem v_iretz {x : Int} (hdg : decode M.2.1 pc = .ok (.ireturn, 1)) (hret : M.2.2.2 = some .boolean) (hz : 0 ≤ x ∧ x < 2) (h1 : n1 ≤ mc) (h2 : n2 ≤ ms) (hq : Q (some (0, x)) K h) : V l G M d mc ms n1 n2 K pc L [(0, x)] h Q := by
  intro p e s m args below meth c adr0 adr n0 H locs ls S
  obtain ⟨S1, S2, S3, S4, S5, S6⟩ := S
  obtain ⟨hx, hb, h3, h4, h5, h6, h7, h8, h9⟩ := id S1
  refine W.widen h1 h2 ?_
  have hn : narrow .boolean (.int (Int32.ofInt x)) = .int (Int32.ofInt x) := by
    have h3 : x = 0 ∨ x = 1 := by omega
    rcases h3 with rfl | rfl <;> rfl
  exact W.zret (v := Int32.ofInt x) hx hb (h3.trans hret) hn (fun t ht hW => ⟨⟨some (0, x), K, h, adr, rfl, hq, S3.1, S3.2.1, by rw [ht]; exact S2, S3.2.2.2, fun v hv => by cases hv; exact (al_c.mp S5).1⟩, S3.2.2.1.F ht⟩) S3.2.2.1.2.2 hdg h4
theorem v_lret {x : Int} (hdg : decode M.2.1 pc = .ok (.lreturn, 1)) (hret : M.2.2.2 = some .long) (h1 : n1 ≤ mc) (h2 : n2 ≤ ms) (hq : Q (some (1, x)) K h) : V l G M d mc ms n1 n2 K pc L [(1, x)] h Q := by
  intro p e s m args below meth c adr0 adr n0 H locs ls S
  obtain ⟨S1, S2, S3, S4, S5, S6⟩ := S
  obtain ⟨hx, hb, h3, h4, h5, h6, h7, h8, h9⟩ := id S1
  refine W.widen h1 h2 ?_
  exact W.lret (v := Int64.ofInt x) hx hb (h3.trans hret) (fun t ht hW => ⟨⟨some (1, x), K, h, adr, rfl, hq, S3.1, S3.2.1, by rw [ht]; exact S2, S3.2.2.2, fun v hv => by cases hv; exact (al_c.mp S5).1⟩, S3.2.2.1.F ht⟩) S3.2.2.1.2.2 hdg h4
theorem v_vret (hdg : decode M.2.1 pc = .ok (.return_, 1)) (hret : M.2.2.2 = none) (h1 : n1 ≤ mc) (h2 : n2 ≤ ms) (hq : Q none K h) : V l G M d mc ms n1 n2 K pc L [] h Q := by
  intro p e s m args below meth c adr0 adr n0 H locs ls S
  obtain ⟨S1, S2, S3, S4, S5, S6⟩ := S
  obtain ⟨hx, hb, h3, h4, h5, h6, h7, h8, h9⟩ := id S1
  refine W.widen h1 h2 ?_
  exact W.vret hx hb (h3.trans hret) (fun t ht hW => ⟨⟨none, K, h, adr, rfl, hq, S3.1, S3.2.1, by rw [ht]; exact S2, S3.2.2.2, fun v hv => by cases hv⟩, S3.2.2.1.F ht⟩) S3.2.2.1.2.2 hdg h4
/-- behind a call -/
theorem v_after {st0 : List AV} {mc' ms' : Nat} {a : Array Value} {p : Program} {e : Env} {s : State} {m : MethodId} {args : Array Value} {below : List Frame} {meth : Method} {c : Code} {adr0 adr : Nat → Nat} {n0 : Nat} {H : Heap} {locs : List Loc} {ls : Array Slot} (S : VS G M K L st h p s m args meth c adr0 adr n0 H locs ls)
    (hr : va_Run p l e (rmO d mc ms) s m args below meth c H locs n1 n2 mc' ms' (F0 m pc ls (st0.map (ra adr))) (st.map (ra adr)) (PQ G adr K.length (fun r K' h' => V l G M d mc ms (n1 + mc') (n2 + ms') K' (pc + 3) L (r.toList ++ st) h' Q) a) (AA adr K.length H.size)) :
    W p l e (rmO d mc ms) s m args below meth c H locs n1 n2 (MQ below (PQ G adr0 n0 Q) args s mc ms (AA adr0 n0 s.heap.size)) (F0 m pc ls (st0.map (ra adr))) := by
  obtain ⟨S1, S2, S3, S4, S5, S6⟩ := S
  intro T hT X
  obtain ⟨v, st₀, t, T', Ls, g0, X', hL, e1, e2, ⟨⟨r, K', h', adr', hv, hQ, hadr, hn, hR, hA, hok⟩, hF⟩, stp⟩ := hr T hT X
  have hv2 : v = r.map (ra adr') := by cases hv; rfl
  subst hv2
  obtain ⟨F1, F2⟩ := hF
  rw [g0] at F1 F2 hA
  have hz : s.heap.size ≤ H.size := S3.2.2.1.1
  have sub : ∀ q, AA adr K.length H.size q → AA adr0 n0 s.heap.size q := by
    rintro q (⟨i, hi, rfl⟩ | hq)
    · exact S3.2.2.2 i hi
    · exact Or.inr (Nat.le_trans hz hq)
  have hst : (r.map (ra adr')).toList ++ st.map (ra adr) = (r.toList ++ st).map (ra adr') := by
    rw [List.map_append, ra_map hadr S5]
    cases r <;> rfl
  have ok' : ∀ {w : AV}, oka K.length w → oka K'.length w := fun q => q.mono hn
  obtain ⟨t2, a1, b1⟩ := hQ p e s m args below meth c adr0 adr' n0 T'.heap (locs ++ Ls) ls ⟨S1, by rw [e1]; exact hR, ⟨fun i hi => (hadr i (Nat.lt_of_lt_of_le hi S3.2.1)).trans (S3.1 i hi), Nat.le_trans S3.2.1 hn, ⟨Nat.le_trans hz (by rw [e1]; exact F1), fun q h1 h2 => by
      rw [e1, F2 q (Nat.lt_of_lt_of_le h1 hz) (fun z => h2 (sub q z))]
      exact S3.2.2.1.2.1 q h1 h2, fun z hz2 => by
      rcases List.mem_append.mp hz2 with q | q
      · exact S3.2.2.1.2.2 z q
      · exact sub _ (hL z q)⟩, fun i hi => sub _ (hA i hi)⟩, fun w hw => ok' (S4 w hw), fun w hw => by
      rcases List.mem_append.mp hw with q | q
      · cases r with
        | none => cases q
        | some z => rw [List.mem_singleton.mp q]; exact hok z rfl
      · exact ok' (S5 w q), by rw [rl_eq hadr 0 S4]; exact S6⟩ T' rfl X'
  refine ⟨t2, stp t2 ?_, b1⟩
  rw [← hst] at a1
  exact a1
theorem pre_blind {adr : Nat → Nat} {As : List AV} {sz : Nat} : FrameBlind (va_Pc (As.map (ra adr)) (fun U => U.heap.size = sz ∧ Rel G adr K h U.heap ∧ KK G U)) := fun a U g mk q => by
  obtain ⟨q0, q1, q2, q3⟩ := q
  exact ⟨q0, q1, q2, KK.same (s := U) rfl q3⟩
theorem cat_sum {adr : Nat → Nat} : ∀ {st : List AV}, ((st.map (ra adr)).map fun v => v.category).sum = (st.map fun v => if v.1 = 1 then 2 else 1).sum := by
  intro st
  induction st with
  | nil => rfl
  | cons v st ih =>
    simp only [List.map_cons, List.sum_cons, ih]
    by_cases q : v.1 = 1
    · rw [if_pos q, ra_c2' q]
    · rw [if_neg q, ra_c1 q]
def csum (st : List AV) : Nat := (st.map fun v => if v.1 = 1 then 2 else 1).sum
/-- invokevirtual -/
theorem v_callv {M' : MI} {idx d' mc' ms' ci : Nat} {c : Int} {As st0 : List AV} (hdg : decode M.2.1 pc = .ok (.invokevirtual idx, 3)) (hw : Cond.methodLink M.1.cls idx M'.1 ∈ Tb) (hm : CalV M' As.length) (hcl : M'.1.cls = RF ci) (hd : d' < d) (hc : 0 ≤ c) (hk : K[c.toNat]? = some (.inl ci)) (hs : csum st ≤ 8) (hst : st0 = As.reverse ++ (2, c) :: st) (hf : n1 + mc' ≤ mc ∧ n2 + ms' ≤ ms)
    (k : Sp l G M' d' mc' ms' K ((2, c) :: As) h (fun r K' h' => V l G M d mc ms (n1 + mc') (n2 + ms') K' (pc + 3) L (r.toList ++ st) h' Q)) : V l G M d mc ms n1 n2 K pc L st0 h Q := by
  subst hst
  intro p e s m args below meth c0 adr0 adr n0 H locs ls S
  obtain ⟨S1, S2, S3, S4, S5, S6⟩ := S
  obtain ⟨hx, hb, h3, h4, h5, h6, h7, h8, h9⟩ := id S1
  have hoA : ∀ v ∈ (2, c) :: As, oka K.length v := fun v hv => by
    rcases List.mem_cons.mp hv with q | q
    · rw [q]; exact S5 _ (List.mem_append_right _ List.mem_cons_self)
    · exact S5 v (List.mem_append_left _ (List.mem_reverse.mpr q))
  have hoS : ∀ v ∈ st, oka K.length v := fun v hv => S5 v (List.mem_append_right _ (List.mem_cons_of_mem _ hv))
  have hmet := k adr H.size hoA
  obtain ⟨hci, cell, q1, q2, q3, q4⟩ := S2.at hc hk
  refine v_after ⟨S1, S2, S3, S4, hoS, S6⟩ (va_runV (b := adr c.toNat) (As := As.map (ra adr)) (rest := st.map (ra adr)) ⟨hx, hb, h5, h6, h8⟩ hmet
    (cwV (C := M'.1.cls) As.length h8 (tb_good (fun w hw2 => by
      rcases List.mem_append.mp hw2 with q | q
      · simp only [List.mem_cons, List.not_mem_nil, or_false] at q
        rcases q with rfl | rfl | rfl | rfl
        · exact hw
        · exact hm.2.1
        · exact hm.2.2
        · exact hm.1.2.1
      · exact cal_ws hm.1 w q)) rfl rfl rfl ⟨rfl, hm.1.2.2.1⟩ ⟨hd, by show 8 + (M'.2.2.1 + 11) + 64 * d' ≤ 64 * d; have := hm.1.2.2.2; omega⟩)
    ⟨pre_blind, ⟨cell, q1, by rw [q3]; rfl, by rw [q2, hcl]; exact (h9.1 ci hci).2.1⟩, fun U hU hW => ⟨rfl, by rw [hU], by rw [hU]; exact S2, h9.warm hW⟩⟩ rfl (by rw [List.length_map]) (by rw [← h5]; exact S6.1.trans h5.symm) (by rw [List.map_append, List.map_reverse]; rfl) (by show 2 * 0 + _ ≤ 8; rw [cat_sum]; unfold csum at hs; omega) hdg hf)
/-- invokestatic -/
theorem v_calls {M' : MI} {idx d' mc' ms' : Nat} {As st0 : List AV} (hdg : decode M.2.1 pc = .ok (.invokestatic idx, 3)) (hw : Cond.methodLink M.1.cls idx M'.1 ∈ Tb) (hm : CalS M' As.length) (hd : d' < d) (hs : csum st ≤ 8) (hst : st0 = As.reverse ++ st) (hf : n1 + mc' ≤ mc ∧ n2 + ms' ≤ ms)
    (k : Sp l G M' d' mc' ms' K As h (fun r K' h' => V l G M d mc ms (n1 + mc') (n2 + ms') K' (pc + 3) L (r.toList ++ st) h' Q)) : V l G M d mc ms n1 n2 K pc L st0 h Q := by
  subst hst
  intro p e s m args below meth c0 adr0 adr n0 H locs ls S
  obtain ⟨S1, S2, S3, S4, S5, S6⟩ := S
  obtain ⟨hx, hb, h3, h4, h5, h6, h7, h8, h9⟩ := id S1
  have hoA : ∀ v ∈ As, oka K.length v := fun v hv => S5 v (List.mem_append_left _ (List.mem_reverse.mpr hv))
  have hoS : ∀ v ∈ st, oka K.length v := fun v hv => S5 v (List.mem_append_right _ hv)
  have hmet := k adr H.size hoA
  refine v_after ⟨S1, S2, S3, S4, hoS, S6⟩ (va_runS (As := As.map (ra adr)) (rest := st.map (ra adr)) ⟨hx, hb, h5, h6, h8⟩ hmet
    (va_cwS As.length h8 (tb_good (fun w hw2 => by
      rcases List.mem_append.mp hw2 with q | q
      · simp only [List.mem_cons, List.not_mem_nil, or_false] at q
        rcases q with rfl | rfl | rfl
        · exact hw
        · exact hm.2
        · exact hm.1.2.1
      · exact cal_ws hm.1 w q)) rfl rfl rfl hm.1.2.2.1 ⟨hd, by show 8 + (M'.2.2.1 + 11) + 64 * d' ≤ 64 * d; have := hm.1.2.2.2; omega⟩)
    ⟨pre_blind, fun U hU hW => ⟨rfl, by rw [hU], by rw [hU]; exact S2, h9.warm hW⟩⟩ rfl (by rw [List.length_map]) (by rw [← h5]; exact S6.1.trans h5.symm) (by rw [List.map_append, List.map_reverse]) (by show 2 * 0 + _ ≤ 8; rw [cat_sum]; unfold csum at hs; omega) hdg hf)
/-- .. of a nest mate's private one -/
theorem v_callsN {M' : MI} {host : String} {idx d' mc' ms' : Nat} {As st0 : List AV} (hdg : decode M.2.1 pc = .ok (.invokestatic idx, 3)) (hw : Cond.methodLinkNest M.1.cls idx M'.1 host ∈ NWs) (hm : CalS M' As.length) (hd : d' < d) (hs : csum st ≤ 8) (hst : st0 = As.reverse ++ st) (hf : n1 + mc' ≤ mc ∧ n2 + ms' ≤ ms)
    (k : Sp l G M' d' mc' ms' K As h (fun r K' h' => V l G M d mc ms (n1 + mc') (n2 + ms') K' (pc + 3) L (r.toList ++ st) h' Q)) : V l G M d mc ms n1 n2 K pc L st0 h Q := by
  subst hst
  intro p e s m args below meth c0 adr0 adr n0 H locs ls S
  obtain ⟨S1, S2, S3, S4, S5, S6⟩ := S
  obtain ⟨hx, hb, h3, h4, h5, h6, h7, h8, h9⟩ := id S1
  have hoA : ∀ v ∈ As, oka K.length v := fun v hv => S5 v (List.mem_append_left _ (List.mem_reverse.mpr hv))
  have hoS : ∀ v ∈ st, oka K.length v := fun v hv => S5 v (List.mem_append_right _ hv)
  have hmet := k adr H.size hoA
  refine v_after ⟨S1, S2, S3, S4, hoS, S6⟩ (va_runSN (As := As.map (ra adr)) (rest := st.map (ra adr)) ⟨hx, hb, h5, h6, h8⟩ hmet
    ⟨va_cnB As.length h8 (tb_good (cal_ws hm.1)) rfl rfl rfl (h9.2.2.1 _ hw) (h8 _ (List.mem_cons_of_mem _ hm.1.2.1)) hm.1.2.2.1 ⟨hd, by show 8 + (M'.2.2.1 + 11) + 64 * d' ≤ 64 * d; have := hm.1.2.2.2; omega⟩, h8 _ (List.mem_cons_of_mem _ hm.2), trivial⟩
    ⟨pre_blind, fun U hU hW => ⟨rfl, by rw [hU], by rw [hU]; exact S2, h9.warm hW⟩⟩ rfl (by rw [List.length_map]) (by rw [← h5]; exact S6.1.trans h5.symm) (by rw [List.map_append, List.map_reverse]) (by show 2 * 0 + _ ≤ 8; rw [cat_sum]; unfold csum at hs; omega) hdg hf)
/-- invokespecial of a constructor -/
theorem v_calli {M' : MI} {idx d' mc' ms' : Nat} {c : Int} {As st0 : List AV} (hdg : decode M.2.1 pc = .ok (.invokespecial idx, 3)) (hw : Cond.methodLink M.1.cls idx M'.1 ∈ Tb) (hm : CalI M' As.length) (hd : d' < d) (hs : csum st ≤ 8) (hst : st0 = As.reverse ++ (2, c) :: st) (hf : n1 + mc' ≤ mc ∧ n2 + ms' ≤ ms)
    (k : Sp l G M' d' mc' ms' K ((2, c) :: As) h (fun r K' h' => V l G M d mc ms (n1 + mc') (n2 + ms') K' (pc + 3) L (r.toList ++ st) h' Q)) : V l G M d mc ms n1 n2 K pc L st0 h Q := by
  subst hst
  intro p e s m args below meth c0 adr0 adr n0 H locs ls S
  obtain ⟨S1, S2, S3, S4, S5, S6⟩ := S
  obtain ⟨hx, hb, h3, h4, h5, h6, h7, h8, h9⟩ := id S1
  have hoA : ∀ v ∈ (2, c) :: As, oka K.length v := fun v hv => by
    rcases List.mem_cons.mp hv with q | q
    · rw [q]; exact S5 _ (List.mem_append_right _ List.mem_cons_self)
    · exact S5 v (List.mem_append_left _ (List.mem_reverse.mpr q))
  have hoS : ∀ v ∈ st, oka K.length v := fun v hv => S5 v (List.mem_append_right _ (List.mem_cons_of_mem _ hv))
  have hmet := k adr H.size hoA
  have hcode : wsM M' = Cond.code M'.1 M'.2.1 M'.2.2.1 none :: Tb := by unfold wsM; rw [hm.2.2.2]
  refine v_after ⟨S1, S2, S3, S4, hoS, S6⟩ (va_runI (b := adr c.toNat) (As := As.map (ra adr)) (rest := st.map (ra adr)) ⟨hx, hb, h5, h6, h8⟩ hmet
    (cwI As.length h8 (tb_good (cal_ws hm.1)) hcode rfl rfl (h8 _ (List.mem_cons_of_mem _ hm.1.2.1)) (h8 _ (List.mem_cons_of_mem _ hw)) (h8 _ (List.mem_cons_of_mem _ hm.2.1)) hm.2.2.1 hm.1.2.2.1 ⟨hd, by show 8 + (M'.2.2.1 + 11) + 64 * d' ≤ 64 * d; have := hm.1.2.2.2; omega⟩)
    ⟨pre_blind, fun U hU hW => ⟨rfl, by rw [hU], by rw [hU]; exact S2, h9.warm hW⟩⟩ rfl (by rw [List.length_map]) (by rw [← h5]; exact S6.1.trans h5.symm) (by rw [List.map_append, List.map_reverse]; rfl) (by show 2 * 0 + _ ≤ 8; rw [cat_sum]; unfold csum at hs; omega) hdg hf)
theorem v_calliN {M' : MI} {host : String} {idx d' mc' ms' : Nat} {c : Int} {As st0 : List AV} (hdg : decode M.2.1 pc = .ok (.invokespecial idx, 3)) (hw : Cond.methodLinkNest M.1.cls idx M'.1 host ∈ NWs) (hm : CalI M' As.length) (hd : d' < d) (hs : csum st ≤ 8) (hst : st0 = As.reverse ++ (2, c) :: st) (hf : n1 + mc' ≤ mc ∧ n2 + ms' ≤ ms)
    (k : Sp l G M' d' mc' ms' K ((2, c) :: As) h (fun r K' h' => V l G M d mc ms (n1 + mc') (n2 + ms') K' (pc + 3) L (r.toList ++ st) h' Q)) : V l G M d mc ms n1 n2 K pc L st0 h Q := by
  subst hst
  intro p e s m args below meth c0 adr0 adr n0 H locs ls S
  obtain ⟨S1, S2, S3, S4, S5, S6⟩ := S
  obtain ⟨hx, hb, h3, h4, h5, h6, h7, h8, h9⟩ := id S1
  have hoA : ∀ v ∈ (2, c) :: As, oka K.length v := fun v hv => by
    rcases List.mem_cons.mp hv with q | q
    · rw [q]; exact S5 _ (List.mem_append_right _ List.mem_cons_self)
    · exact S5 v (List.mem_append_left _ (List.mem_reverse.mpr q))
  have hoS : ∀ v ∈ st, oka K.length v := fun v hv => S5 v (List.mem_append_right _ (List.mem_cons_of_mem _ hv))
  have hmet := k adr H.size hoA
  have hcode : wsM M' = Cond.code M'.1 M'.2.1 M'.2.2.1 none :: Tb := by unfold wsM; rw [hm.2.2.2]
  refine v_after ⟨S1, S2, S3, S4, hoS, S6⟩ (va_runIN (b := adr c.toNat) (As := As.map (ra adr)) (rest := st.map (ra adr)) ⟨hx, hb, h5, h6, h8⟩ hmet
    ⟨va_cnB As.length h8 (tb_good (cal_ws hm.1)) hcode rfl rfl (h9.2.2.1 _ hw) (h8 _ (List.mem_cons_of_mem _ hm.1.2.1)) hm.1.2.2.1 ⟨hd, by show 8 + (M'.2.2.1 + 11) + 64 * d' ≤ 64 * d; have := hm.1.2.2.2; omega⟩, hm.2.2.1, h8 _ (List.mem_cons_of_mem _ hm.2.1)⟩
    ⟨pre_blind, fun U hU hW => ⟨rfl, by rw [hU], by rw [hU]; exact S2, h9.warm hW⟩⟩ rfl (by rw [List.length_map]) (by rw [← h5]; exact S6.1.trans h5.symm) (by rw [List.map_append, List.map_reverse]; rfl) (by show 2 * 0 + _ ≤ 8; rw [cat_sum]; unfold csum at hs; omega) hdg hf)
theorem sp_mono {args : List AV} {Q' : Option AV → List Kd → AH → Prop} (hq : ∀ r K h, Q r K h → Q' r K h) (k : Sp l G M d mc ms K args h Q) : Sp l G M d mc ms K args h Q' := by
  intro adr sz ha p e h1 h2 h3 s m a below hf happ hP hK
  obtain ⟨n, o, b1, b2, b3, ⟨⟨r, K', h', adr', c1, c2, c3⟩, c4⟩, b5⟩ := k adr sz ha p e h1 h2 h3 s m a below hf happ hP hK
  exact ⟨n, o, b1, b2, b3, ⟨⟨r, K', h', adr', c1, hq _ _ _ c2, c3⟩, c4⟩, b5⟩
end CRULES
