/-! ===== told, where it throws: walks to any end (Z), the throw, the catch ===== -/
/-- as V, for one frame, to any end Z -/
def VZ (l : Launch) (G : GG) (M : MI) (d mc ms n1 n2 : Nat) (K : List Kd) (pc : Nat) (L st : List AV) (h : AH) (p : Program) (e : Env) (s : State) (m : MethodId) (args : Array Value) (below : List Frame) (meth : Method) (c : Code) (adr0 : Nat → Nat) (n0 : Nat) (Z : State → Prop) : Prop :=
  ∀ (adr : Nat → Nat) (H : Heap) (locs : List Loc) (ls : Array Slot), VS G M K L st h p s m args meth c adr0 adr n0 H locs ls → W p l e (rmO d mc ms) s m args below meth c H locs n1 n2 Z (F0 m pc ls (st.map (ra adr)))
section ZRULES
variable {l : Launch} {G : GG} {M : MI} {d mc ms n1 n2 : Nat} {K : List Kd} {pc : Nat} {L st : List AV} {h : AH} {p : Program} {e : Env} {s : State} {m : MethodId} {args : Array Value} {below : List Frame} {meth : Method} {c : Code} {adr0 : Nat → Nat} {n0 : Nat} {Z : State → Prop}
theorem z_aload_n {i : Fin 4} {x : Int} (hdg : decode M.2.1 pc = .ok (.aload_n i, 1)) (hl : L[(i : Nat)]? = some (2, x)) (k : VZ l G M d mc ms n1 n2 K (pc + 1) L ((2, x) :: st) h p e s m args below meth c adr0 n0 Z) : VZ l G M d mc ms n1 n2 K pc L st h p e s m args below meth c adr0 n0 Z := by
  intro adr H locs ls S
  obtain ⟨S1, S2, S3, S4, S5, S6⟩ := S
  exact lv_aload_n S1.1 S1.2.1 hdg rfl (rl_get S6 hl (show (2 : Nat) < 8 by decide)) (k adr H locs ls ⟨S1, S2, S3, S4, al_c.mpr ⟨S4 _ (List.mem_of_getElem? hl), S5⟩, S6⟩)
theorem z_iload_n {i : Fin 4} {x : Int} (hdg : decode M.2.1 pc = .ok (.iload_n i, 1)) (hl : L[(i : Nat)]? = some (0, x)) (k : VZ l G M d mc ms n1 n2 K (pc + 1) L ((0, x) :: st) h p e s m args below meth c adr0 n0 Z) : VZ l G M d mc ms n1 n2 K pc L st h p e s m args below meth c adr0 n0 Z := by
  intro adr H locs ls S
  obtain ⟨S1, S2, S3, S4, S5, S6⟩ := S
  exact lv_iload_n S1.1 S1.2.1 hdg rfl (rl_get S6 hl (show (0 : Nat) < 8 by decide)) (k adr H locs ls ⟨S1, S2, S3, S4, al_c.mpr ⟨S4 _ (List.mem_of_getElem? hl), S5⟩, S6⟩)
theorem z_iconst {n : Int} (hdg : decode M.2.1 pc = .ok (.iconst n, 1)) (hn : ok32 n) (k : VZ l G M d mc ms n1 n2 K (pc + 1) L ((0, n) :: st) h p e s m args below meth c adr0 n0 Z) : VZ l G M d mc ms n1 n2 K pc L st h p e s m args below meth c adr0 n0 Z := by
  intro adr H locs ls S
  obtain ⟨S1, S2, S3, S4, S5, S6⟩ := S
  exact lv_iconst S1.1 S1.2.1 hdg rfl (k adr H locs ls ⟨S1, S2, S3, S4, al_c.mpr ⟨oka0 hn, S5⟩, S6⟩)
theorem z_bipush {n : Int} (hdg : decode M.2.1 pc = .ok (.bipush n, 2)) (hn : ok32 n) (hv : (Int8.ofInt n).toInt32 = Int32.ofInt n) (k : VZ l G M d mc ms n1 n2 K (pc + 2) L ((0, n) :: st) h p e s m args below meth c adr0 n0 Z) : VZ l G M d mc ms n1 n2 K pc L st h p e s m args below meth c adr0 n0 Z := by
  intro adr H locs ls S
  obtain ⟨S1, S2, S3, S4, S5, S6⟩ := S
  exact lv_bipush S1.1 S1.2.1 hdg hv (k adr H locs ls ⟨S1, S2, S3, S4, al_c.mpr ⟨oka0 hn, S5⟩, S6⟩)
theorem z_if_eq {x off : Int} {tgt : Nat} (hdg : decode M.2.1 pc = .ok (.ifCond .eq off, 3)) (ht : (pc : Int) + off = (tgt : Int)) (k1 : x = 0 → VZ l G M d mc ms n1 n2 K tgt L st h p e s m args below meth c adr0 n0 Z) (k2 : x ≠ 0 → VZ l G M d mc ms n1 n2 K (pc + 3) L st h p e s m args below meth c adr0 n0 Z) : VZ l G M d mc ms n1 n2 K pc L ((0, x) :: st) h p e s m args below meth c adr0 n0 Z := by
  intro adr H locs ls S
  obtain ⟨S1, S2, S3, S4, S5, S6⟩ := S
  have b : ok32 0 := z32
  have a : ok32 x := (al_c.mp S5).1.1 rfl
  exact lv_if_eq S1.1 S1.2.1 hdg ht (fun q => k1 ((e32 a b).mp q) adr H locs ls ⟨S1, S2, S3, S4, (al_c.mp S5).2, S6⟩) (fun q => k2 (fun z => q ((e32 a b).mpr z)) adr H locs ls ⟨S1, S2, S3, S4, (al_c.mp S5).2, S6⟩)
theorem z_if_eq_t {x off : Int} {tgt : Nat} (hdg : decode M.2.1 pc = .ok (.ifCond .eq off, 3)) (ht : (pc : Int) + off = (tgt : Int)) (q : x = 0) (k : VZ l G M d mc ms n1 n2 K tgt L st h p e s m args below meth c adr0 n0 Z) : VZ l G M d mc ms n1 n2 K pc L ((0, x) :: st) h p e s m args below meth c adr0 n0 Z := z_if_eq hdg ht (fun _ => k) (fun y => absurd q y)
theorem z_if_eq_f {x off : Int} {tgt : Nat} (hdg : decode M.2.1 pc = .ok (.ifCond .eq off, 3)) (ht : (pc : Int) + off = (tgt : Int)) (q : x ≠ 0) (k : VZ l G M d mc ms n1 n2 K (pc + 3) L st h p e s m args below meth c adr0 n0 Z) : VZ l G M d mc ms n1 n2 K pc L ((0, x) :: st) h p e s m args below meth c adr0 n0 Z := z_if_eq hdg ht (fun y => absurd y q) (fun _ => k)
theorem z_if_ne {x off : Int} {tgt : Nat} (hdg : decode M.2.1 pc = .ok (.ifCond .ne off, 3)) (ht : (pc : Int) + off = (tgt : Int)) (k1 : x ≠ 0 → VZ l G M d mc ms n1 n2 K tgt L st h p e s m args below meth c adr0 n0 Z) (k2 : x = 0 → VZ l G M d mc ms n1 n2 K (pc + 3) L st h p e s m args below meth c adr0 n0 Z) : VZ l G M d mc ms n1 n2 K pc L ((0, x) :: st) h p e s m args below meth c adr0 n0 Z := by
  intro adr H locs ls S
  obtain ⟨S1, S2, S3, S4, S5, S6⟩ := S
  have b : ok32 0 := z32
  have a : ok32 x := (al_c.mp S5).1.1 rfl
  exact lv_if_ne S1.1 S1.2.1 hdg ht (fun q => k1 (fun z => q ((e32 a b).mpr z)) adr H locs ls ⟨S1, S2, S3, S4, (al_c.mp S5).2, S6⟩) (fun q => k2 ((e32 a b).mp q) adr H locs ls ⟨S1, S2, S3, S4, (al_c.mp S5).2, S6⟩)
theorem z_if_ne_t {x off : Int} {tgt : Nat} (hdg : decode M.2.1 pc = .ok (.ifCond .ne off, 3)) (ht : (pc : Int) + off = (tgt : Int)) (q : x ≠ 0) (k : VZ l G M d mc ms n1 n2 K tgt L st h p e s m args below meth c adr0 n0 Z) : VZ l G M d mc ms n1 n2 K pc L ((0, x) :: st) h p e s m args below meth c adr0 n0 Z := z_if_ne hdg ht (fun _ => k) (fun y => absurd y q)
theorem z_if_ne_f {x off : Int} {tgt : Nat} (hdg : decode M.2.1 pc = .ok (.ifCond .ne off, 3)) (ht : (pc : Int) + off = (tgt : Int)) (q : x = 0) (k : VZ l G M d mc ms n1 n2 K (pc + 3) L st h p e s m args below meth c adr0 n0 Z) : VZ l G M d mc ms n1 n2 K pc L ((0, x) :: st) h p e s m args below meth c adr0 n0 Z := z_if_ne hdg ht (fun y => absurd q y) (fun _ => k)
theorem z_getr {ci j idx : Nat} {c9 ji z : Int} (hdg : decode M.2.1 pc = .ok (.getfield idx, 3)) (hw : Cond.fieldLink M.1.cls idx (TF ci j).1 (TF ci j).2.1 (TF ci j).2.2.1 ∈ Tb) (hc : 0 ≤ c9) (hk : K[c9.toNat]? = some (.inl ci)) (hj : j < NF ci) (hji : (j : Int) = ji) (ht : ptag (tyF ci j) = 2) (hz : (K = K0 → RefOK h) → h c9 ji = z) (h0 : 0 ≤ z)
    (k : VZ l G M d mc ms n1 n2 K (pc + 3) L ((2, z) :: st) h p e s m args below meth c adr0 n0 Z) : VZ l G M d mc ms n1 n2 K pc L ((2, c9) :: st) h p e s m args below meth c adr0 n0 Z := by
  intro adr H locs ls S
  obtain ⟨S1, S2, S3, S4, S5, S6⟩ := S
  obtain ⟨hx, hb, h3, h4, h5, h6, h7, h8, h9⟩ := id S1
  obtain ⟨hci, cell, q1, q2, q3, q4⟩ := S2.at hc hk
  obtain ⟨hS, hfc, kC, hkC, hkind⟩ := h9.1 ci hci
  obtain ⟨cf, kf, fi, f, hi, hsl⟩ := hS j hj
  have ez := hz S2.2.2.2.2.2
  have hr : okt K.length (tyF ci j) (h c9 ji) := by
    have := S2.rng hc hk (j := ji) (by omega) (by show ji < ((NF ci : Nat) : Int); omega)
    have e1 : ji.toNat = j := by omega
    rw [e1] at this
    exact this
  rw [ez] at hr
  refine W.getf hx hb h6 (h8 _ (List.mem_cons_of_mem _ hw)) hi (u_facts hfc hkC (u_lays (fun w hw => h8 w (List.mem_cons_of_mem _ hw)) (inF ci hci) hj) hi).1 q1 (by rw [q3]; exact fun z => by cases z) (v := ra adr (2, z)) ?_ rfl rfl hdg ?_
  · rw [hsl, q4 j hj]
    congr 1
    show rv adr (tyF ci j) (h c9 (j : Int)) = ra adr (2, z)
    rw [hji, ez]
    exact rv_ref ht h0
  · exact k adr H locs ls ⟨S1, S2, S3, S4, al_c.mpr ⟨okt_ref ht h0 hr, (al_c.mp S5).2⟩, S6⟩
theorem z_after {st0 : List AV} {mc' ms' : Nat} {a : Array Value} {adr : Nat → Nat} {H : Heap} {locs : List Loc} {ls : Array Slot} (S : VS G M K L st h p s m args meth c adr0 adr n0 H locs ls)
    (hr : va_Run p l e (rmO d mc ms) s m args below meth c H locs n1 n2 mc' ms' (F0 m pc ls (st0.map (ra adr))) (st.map (ra adr)) (PQ G adr K.length (fun r K' h' => VZ l G M d mc ms (n1 + mc') (n2 + ms') K' (pc + 3) L (r.toList ++ st) h' p e s m args below meth c adr0 n0 Z) a) (AA adr K.length H.size)) :
    W p l e (rmO d mc ms) s m args below meth c H locs n1 n2 Z (F0 m pc ls (st0.map (ra adr))) := by
  obtain ⟨S1, S2, S3, S4, S5, S6⟩ := S
  intro T hT X
  obtain ⟨v, st₀, t, T', Ls, g0, X', hL, e1, e2, ⟨⟨r, K', h', adr', hv, hQ, hadr, hn, hR, hA, hok⟩, hF⟩, stp⟩ := hr T hT X
  have hv2 : v = r.map (ra adr') := by cases hv; rfl
  subst hv2
  obtain ⟨F1, F2⟩ := hF
  rw [g0] at F1 F2 hA
  have hz : s.heap.size ≤ H.size := S3.2.2.1.1
  have sub : ∀ q, AA adr K.length H.size q → AA adr0 n0 s.heap.size q := by
    rintro q (⟨i, hi, rfl⟩ | hq)
    · exact S3.2.2.2 i hi
    · exact Or.inr (Nat.le_trans hz hq)
  have hst : (r.map (ra adr')).toList ++ st.map (ra adr) = (r.toList ++ st).map (ra adr') := by
    rw [List.map_append, ra_map hadr S5]
    cases r <;> rfl
  have ok' : ∀ {w : AV}, oka K.length w → oka K'.length w := fun q => q.mono hn
  obtain ⟨t2, a1, b1⟩ := hQ adr' T'.heap (locs ++ Ls) ls ⟨S1, by rw [e1]; exact hR, ⟨fun i hi => (hadr i (Nat.lt_of_lt_of_le hi S3.2.1)).trans (S3.1 i hi), Nat.le_trans S3.2.1 hn, ⟨Nat.le_trans hz (by rw [e1]; exact F1), fun q h1 h2 => by
      rw [e1, F2 q (Nat.lt_of_lt_of_le h1 hz) (fun z => h2 (sub q z))]
      exact S3.2.2.1.2.1 q h1 h2, fun z hz2 => by
      rcases List.mem_append.mp hz2 with q | q
      · exact S3.2.2.1.2.2 z q
      · exact sub _ (hL z q)⟩, fun i hi => sub _ (hA i hi)⟩, fun w hw => ok' (S4 w hw), fun w hw => by
      rcases List.mem_append.mp hw with q | q
      · cases r with
        | none => cases q
        | some z => rw [List.mem_singleton.mp q]; exact hok z rfl
      · exact ok' (S5 w q), by rw [rl_eq hadr 0 S4]; exact S6⟩ T' rfl X'
  refine ⟨t2, stp t2 ?_, b1⟩
  rw [← hst] at a1
  exact a1
theorem z_callv {M' : MI} {idx d' mc' ms' ci : Nat} {c9 : Int} {As st0 : List AV} (hdg : decode M.2.1 pc = .ok (.invokevirtual idx, 3)) (hw : Cond.methodLink M.1.cls idx M'.1 ∈ Tb) (hm : CalV M' As.length) (hcl : M'.1.cls = RF ci) (hd : d' < d) (hc : 0 ≤ c9) (hk : K[c9.toNat]? = some (.inl ci)) (hs : csum st ≤ 8) (hst : st0 = As.reverse ++ (2, c9) :: st) (hf : n1 + mc' ≤ mc ∧ n2 + ms' ≤ ms)
    (k : Sp l G M' d' mc' ms' K ((2, c9) :: As) h (fun r K' h' => VZ l G M d mc ms (n1 + mc') (n2 + ms') K' (pc + 3) L (r.toList ++ st) h' p e s m args below meth c adr0 n0 Z)) : VZ l G M d mc ms n1 n2 K pc L st0 h p e s m args below meth c adr0 n0 Z := by
  subst hst
  intro adr H locs ls S
  obtain ⟨S1, S2, S3, S4, S5, S6⟩ := S
  obtain ⟨hx, hb, h3, h4, h5, h6, h7, h8, h9⟩ := id S1
  have hoA : ∀ v ∈ (2, c9) :: As, oka K.length v := fun v hv => by
    rcases List.mem_cons.mp hv with q | q
    · rw [q]; exact S5 _ (List.mem_append_right _ List.mem_cons_self)
    · exact S5 v (List.mem_append_left _ (List.mem_reverse.mpr q))
  have hoS : ∀ v ∈ st, oka K.length v := fun v hv => S5 v (List.mem_append_right _ (List.mem_cons_of_mem _ hv))
  have hmet := k adr H.size hoA
  obtain ⟨hci, cell, q1, q2, q3, q4⟩ := S2.at hc hk
  refine z_after ⟨S1, S2, S3, S4, hoS, S6⟩ (va_runV (b := adr c9.toNat) (As := As.map (ra adr)) (rest := st.map (ra adr)) ⟨hx, hb, h5, h6, h8⟩ hmet
    (cwV (C := M'.1.cls) As.length h8 (tb_good (fun w hw2 => by
      rcases List.mem_append.mp hw2 with q | q
      · simp only [List.mem_cons, List.not_mem_nil, or_false] at q
        rcases q with rfl | rfl | rfl | rfl
        · exact hw
        · exact hm.2.1
        · exact hm.2.2
        · exact hm.1.2.1
      · exact cal_ws hm.1 w q)) rfl rfl rfl ⟨rfl, hm.1.2.2.1⟩ ⟨hd, by show 8 + (M'.2.2.1 + 11) + 64 * d' ≤ 64 * d; have := hm.1.2.2.2; omega⟩)
    ⟨pre_blind, ⟨cell, q1, by rw [q3]; rfl, by rw [q2, hcl]; exact (h9.1 ci hci).2.1⟩, fun U hU hW => ⟨rfl, by rw [hU], by rw [hU]; exact S2, h9.warm hW⟩⟩ rfl (by rw [List.length_map]) (by rw [← h5]; exact S6.1.trans h5.symm) (by rw [List.map_append, List.map_reverse]; rfl) (by show 2 * 0 + _ ≤ 8; rw [cat_sum]; unfold csum at hs; omega) hdg hf)
theorem z_calls {M' : MI} {idx d' mc' ms' : Nat} {As st0 : List AV} (hdg : decode M.2.1 pc = .ok (.invokestatic idx, 3)) (hw : Cond.methodLink M.1.cls idx M'.1 ∈ Tb) (hm : CalS M' As.length) (hd : d' < d) (hs : csum st ≤ 8) (hst : st0 = As.reverse ++ st) (hf : n1 + mc' ≤ mc ∧ n2 + ms' ≤ ms)
    (k : Sp l G M' d' mc' ms' K As h (fun r K' h' => VZ l G M d mc ms (n1 + mc') (n2 + ms') K' (pc + 3) L (r.toList ++ st) h' p e s m args below meth c adr0 n0 Z)) : VZ l G M d mc ms n1 n2 K pc L st0 h p e s m args below meth c adr0 n0 Z := by
  subst hst
  intro adr H locs ls S
  obtain ⟨S1, S2, S3, S4, S5, S6⟩ := S
  obtain ⟨hx, hb, h3, h4, h5, h6, h7, h8, h9⟩ := id S1
  have hoA : ∀ v ∈ As, oka K.length v := fun v hv => S5 v (List.mem_append_left _ (List.mem_reverse.mpr hv))
  have hoS : ∀ v ∈ st, oka K.length v := fun v hv => S5 v (List.mem_append_right _ hv)
  have hmet := k adr H.size hoA
  refine z_after ⟨S1, S2, S3, S4, hoS, S6⟩ (va_runS (As := As.map (ra adr)) (rest := st.map (ra adr)) ⟨hx, hb, h5, h6, h8⟩ hmet
    (va_cwS As.length h8 (tb_good (fun w hw2 => by
      rcases List.mem_append.mp hw2 with q | q
      · simp only [List.mem_cons, List.not_mem_nil, or_false] at q
        rcases q with rfl | rfl | rfl
        · exact hw
        · exact hm.2
        · exact hm.1.2.1
      · exact cal_ws hm.1 w q)) rfl rfl rfl hm.1.2.2.1 ⟨hd, by show 8 + (M'.2.2.1 + 11) + 64 * d' ≤ 64 * d; have := hm.1.2.2.2; omega⟩)
    ⟨pre_blind, fun U hU hW => ⟨rfl, by rw [hU], by rw [hU]; exact S2, h9.warm hW⟩⟩ rfl (by rw [List.length_map]) (by rw [← h5]; exact S6.1.trans h5.symm) (by rw [List.map_append, List.map_reverse]) (by show 2 * 0 + _ ≤ 8; rw [cat_sum]; unfold csum at hs; omega) hdg hf)
end ZRULES
