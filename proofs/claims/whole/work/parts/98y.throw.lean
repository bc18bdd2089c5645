/-! ===== told: the throw, the catch (written by wip/whole/p85.py) ===== -/
/-- the vm's words that the throw wants and that don't keep by themselves -/
theorem ba_word {G : GG} {s : State} (B : BA G s) {w : Cond} (hin : w ∈ lw_tbl) (ht : w.onTables = true) (hset : ∀ (s0 : State) (a : Array Value), s0.vm.Alike s.vm → w.before a (s0.setVm s.vm) = w.before a s0) {args : Array Value} : w.before args s = true := by
  obtain ⟨s0, L, xs, h1, h2, h3, h4, h5⟩ := B
  exact va_tabs ht (rfl : (s0.setVm s.vm).vm = s.vm) (by rw [hset s0 _ h5]; exact h2 w hin)
theorem ba_stat {G : GG} {s : State} (B : BA G s) {C n d : String} (hl : Cond.laysStatic C n d ∈ lw_tbl) (hi : Cond.initialized C ∈ lw_tbl) (hr : ∀ (s0 : State) (a : Array Value), (Jvm.Cond.and given_1 narrow_1).before a s0 = true → (Cond.isRef (.static C n d)).before a s0 = true) {A : Nat → Prop} (hA : ∀ q, A q → oldA G q) {H : Heap} (hH : ∀ q : Nat, q < G.2.2.1.size → H[q]? = G.2.2.1[q]?) : vx_Zq C n d A s H := by
  obtain ⟨s0, L, xs, h1, h2, h3, h4, h5⟩ := B
  have z := vx_Zqof (A := oldA G) (h2 _ hl) (h2 _ hi) (hr s0 _ h3) (fun a ha => by rw [h1] at ha; unfold oldA; omega)
  rw [h1] at z
  exact ((z.moved h5).kept (fun a ha _ => hH a ha)).narrow hA
theorem Rel.same {G : GG} {adr adr' : Nat → Nat} {K : List Kd} {h : AH} {H H1 : Heap} (R : Rel G adr K h H) (ha : ∀ i, i < K.length → adr' i = adr i) (ho : ∀ q : Nat, q < H.size → H1[q]? = H[q]?) : Rel G adr' K h H1 := by
  have hG := R.gsz
  obtain ⟨R1, R2, R3, R4, R5, R6⟩ := R
  have hlt : ∀ i, i < K.length → adr i < H.size := fun i hi => (R2 i K[i] (List.getElem?_eq_getElem hi)).lt
  refine ⟨fun q hq => (ho q (Nat.lt_of_lt_of_le hq hG)).trans (R1 q hq), fun i k hi => ?_, fun i hi => by rw [ha i hi]; exact R3 i hi, fun i j hi hj e => R4 i j hi hj (by rw [← ha i hi, ← ha j hj]; exact e), R5, R6⟩
  have hil : i < K.length := (List.getElem?_eq_some_iff.mp hi).1
  rw [ha i hil]
  exact ((R2 i k hi).kept (ho (adr i) (hlt i hil))).adr (fun j hj => R5 i k j hi hj) ha
abbrev nseN : String := "java/util/NoSuchElementException"
abbrev nseL : List String := ["java/lang/RuntimeException", "java/lang/Exception"]
def nseB : List Cond := [.castable nseN nseN, .declares ⟨"java/lang/RuntimeException", "<init>", "()V"⟩, .declares ⟨"java/lang/Exception", "<init>", "()V"⟩, .declares ⟨"java/lang/Throwable", "<init>", "()V"⟩, .privateMethod ⟨"java/lang/Throwable", "fillInStackTrace", "(I)Ljava/lang/Throwable;"⟩]
theorem nse_good : ((vx_at0 "MadeWhere" 163 nseN nseL).filter goodWord).all (fun w => decide (w ∈ lw_tbl)) = true := by decide +kernel
theorem nse_bad : ((vx_at0 "MadeWhere" 163 nseN nseL).filter (fun w => !goodWord w)).all (fun w => decide (w ∈ nseB)) = true := by decide +kernel
theorem nse_ot : (Cond.classLink "MadeWhere" 161 nseN :: Cond.initialized nseN :: vx_at0 "MadeWhere" 163 nseN nseL).all vx_ot = true := by decide +kernel
theorem kn_link : Cond.classLink "MadeWhere" 161 nseN ∈ Tb := tb_in 1343 (by decide +kernel) rfl
theorem kn_ini : Cond.initialized nseN ∈ Tb := tb_in 115 (by decide +kernel) rfl
theorem nse_hat {G : GG} {s : State} {args : Array Value} (B : BA G s) (hts : ∀ w ∈ Tb, w.before args s = true) : ∀ w ∈ vx_at0 "MadeWhere" 163 nseN nseL, w.before args s = true := by
  refine vx_hat (B := nseB) (fun w hw => ?_) (fun w hw => ?_) ?_
  · have h1 := List.all_eq_true.mp nse_good w hw
    exact hts w (List.mem_filter.mpr ⟨of_decide_eq_true h1, (List.mem_filter.mp hw).2⟩)
  · exact of_decide_eq_true (List.all_eq_true.mp nse_bad w hw)
  · have m : ∀ {w : Cond} (i : Nat), lw_tbl[i]? = some w → w ∈ lw_tbl := fun i h => List.mem_of_getElem? h
    exact vx_c (ba_word B (m 1345 (by decide +kernel)) rfl (fun s0 a h => Cond.castable_setVm h _ _)) (vx_c (ba_word B (m 1346 (by decide +kernel)) rfl (fun s0 a h => Cond.declares_setVm h _)) (vx_c (ba_word B (m 1348 (by decide +kernel)) rfl (fun s0 a h => Cond.declares_setVm h _)) (vx_c (ba_word B (m 1350 (by decide +kernel)) rfl (fun s0 a h => Cond.declares_setVm h _)) (vx_c (ba_word B (m 1378 (by decide +kernel)) rfl (fun s0 a h => Cond.privateMethod_setVm h _)) vx_n))))
theorem kn_is1 (s0 : State) (a : Array Value) (h : (Jvm.Cond.and given_1 narrow_1).before a s0 = true) : (Cond.isRef (.static Bundle.tN "UNASSIGNED_STACK" Bundle.steD)).before a s0 = true := flat_of_before _ h _ (by decide +kernel)
theorem kn_is2 (s0 : State) (a : Array Value) (h : (Jvm.Cond.and given_1 narrow_1).before a s0 = true) : (Cond.isRef (.static Bundle.tN "SUPPRESSED_SENTINEL" Bundle.listD)).before a s0 = true := flat_of_before _ h _ (by decide +kernel)
theorem kn_ls1 : Cond.laysStatic Bundle.tN "UNASSIGNED_STACK" Bundle.steD ∈ lw_tbl := List.mem_of_getElem? (i := 1370) (by decide +kernel)
theorem kn_ls2 : Cond.laysStatic Bundle.tN "SUPPRESSED_SENTINEL" Bundle.listD ∈ lw_tbl := List.mem_of_getElem? (i := 1372) (by decide +kernel)
theorem kn_it : Cond.initialized Bundle.tN ∈ lw_tbl := List.mem_of_getElem? (i := 112) (by decide +kernel)
theorem KK.ba {G : GG} {s : State} (k : KK G s) : BA G s := k.2.2.2.2.2.2.2.2.2.2
def XCt (G : GG) (adr : Nat → Nat) (h : AH) : String → State → State → Prop := fun E st t => E = nseN ∧ Rel G adr K0 h t.heap ∧ va_F (AA adr K0.length st.heap.size) st t

set_option maxHeartbeats 4000000 in
set_option maxRecDepth 100000 in
theorem t_throw {l : Launch} {G : GG} {d : Nat} {h : AH} {adr : Nat → Nat} {sz : Nat} {cs : Int → List (Int × List Int)} {b w : Int} (hl : l.stackTraces = false) (hd : 8 ≤ d) (I : CI h cs) (hbad : ¬ ((0 ≤ b ∧ b < h 116 45) ∧ (0 ≤ w ∧ w ≤ 8))) (hargs : ∀ v ∈ ([(2, 0), (0, b), (0, w)] : List AV), oka K0.length v) :
    vx_Met l mX11_told.1 (wsM mX11_told) (rmO d 1 6) (va_Pc (([(2, 0), (0, b), (0, w)] : List AV).map (ra adr)) (fun U => U.heap.size = sz ∧ Rel G adr K0 h U.heap ∧ KK G U)) (fun _ _ _ _ => False) (XCt G adr h) 1 6 (AA adr K0.length sz) := by
  have nb := I.W.nb
  have e41 := I.f41_12
  refine vx_ofW (cc := mX11_told.2.1) (maxL := mX11_told.2.2.1) (ret := mX11_told.2.2.2) pl_X11 rfl ?_
  intro p e s m args' below meth c s₁ B hml htab hv
  obtain ⟨rfl, hsz, hR, hKK⟩ := hv
  subst hsz
  rw [lg_entry_eq]
  have hlv := lv_entry (([(2, 0), (0, b), (0, w)] : List AV).map (ra adr)) (n := 3) (by rw [la_len]; simp [la])
  rw [la_len] at hlv ⊢
  have zt : VZ l G mX11_told d 1 6 0 0 K0 21 [(2, 0), (0, b), (0, w)] [] h p e s m (([(2, 0), (0, b), (0, w)] : List AV).map (ra adr)).toArray below meth c adr K0.length (vx_MQ below (fun _ _ _ _ => False) (XCt G adr h) (([(2, 0), (0, b), (0, w)] : List AV).map (ra adr)).toArray s 1 6 (AA adr K0.length s.heap.size)) := by
    intro adr' H locs ls S
    obtain ⟨S1, S2, S3, S4, S5, S6⟩ := S
    obtain ⟨hx, hb, h3, h4, h5, h6, h7, h8, h9⟩ := id S1
    have hts : ∀ w ∈ Tb, w.before _ s = true := fun w hw => h8 w (List.mem_cons_of_mem _ hw)
    have hG := hR.gsz
    have hAo : ∀ q, AA adr K0.length s.heap.size q → oldA G q := fun q hq => by
      rcases hq with ⟨i, hi, rfl⟩ | hq
      · exact hR.2.2.1 i hi
      · exact Nat.le_trans hG hq
    refine vx_throw0 (own := "MadeWhere") (cls := nseN) (names := nseL) (ik := 161) (ic := 163) (A := AA adr K0.length s.heap.size) hx hb hl h6 (by decide) (by decide) (hts _ kn_link) (hts _ kn_ini) (nse_hat h9.ba hts) (List.all_eq_true.mp nse_ot) (ba_stat h9.ba kn_ls1 kn_it kn_is1 hAo (fun q hq => hR.1 q hq)) (ba_stat h9.ba kn_ls2 kn_it kn_is2 hAo (fun q hq => hR.1 q hq)) S3.2.2.1 (by rw [h5]; exact S6.1) dX11_told_21 dX11_told_24 dX11_told_25 dX11_told_28 (fun x hx => (htab x hx).elim) (by show 2 + 3 < d; omega) (by show 0 + (13 * (2 + 1) + 42) ≤ 64 * d; omega) (Nat.le_refl 1) (Nat.le_refl 6) h4 (fun t ht1 ht2 ht3 => ?_) S3.2.2.1.2.2 (by decide) (by decide)
    refine ⟨rfl, S2.same (fun i hi => (S3.1 i hi).symm) ht3, Nat.le_trans S3.2.2.1.1 ht2, fun q h1 h2 => ?_⟩
    exact (ht3 q (Nat.lt_of_lt_of_le h1 S3.2.2.1.1)).trans (S3.2.2.1.2.1 q h1 h2)
  have key : VZ l G mX11_told d 1 6 0 0 K0 0 [(2, 0), (0, b), (0, w)] [] h p e s m (([(2, 0), (0, b), (0, w)] : List AV).map (ra adr)).toArray below meth c adr K0.length (vx_MQ below (fun _ _ _ _ => False) (XCt G adr h) (([(2, 0), (0, b), (0, w)] : List AV).map (ra adr)).toArray s 1 6 (AA adr K0.length s.heap.size)) := by
    refine z_aload_n dX11_told_0 rfl ?_
    refine z_getr (ci := 11) (j := 3) (ji := 3) (z := 41) dX11_told_1 k_557 (by decide) kk_0 (by decide) rfl rfl (fun r => rt_0_3 (r rfl)) (by decide) ?_
    refine z_iload_n dX11_told_4 rfl ?_
    refine z_callv (M' := mX6_has) (d' := d - 1) (mc' := 0) (ms' := 0) (ci := 6) (c9 := 41) (As := [_]) dX11_told_5 k_914 cm_X6_has rfl (by omega) (by decide) kk_41 (Nat.le_of_ble_eq_true rfl) rfl ⟨Nat.zero_le _, Nat.zero_le _⟩ ?_
    refine s_X6_has (by omega) (by omega) (by omega) (fun c5_1 => ?_) (fun c5_2 c5_3 => ?_) (fun c5_4 c5_5 => ?_)
    · dsimp only [Option.toList, List.cons_append, List.nil_append, Nat.add_zero]
      refine z_if_eq_t (tgt := 21) dX11_told_8 (by decide) (by decide) ?_
      exact zt
    · dsimp only [Option.toList, List.cons_append, List.nil_append, Nat.add_zero]
      refine z_if_eq_t (tgt := 21) dX11_told_8 (by decide) (by decide) ?_
      exact zt
    · dsimp only [Option.toList, List.cons_append, List.nil_append, Nat.add_zero]
      refine z_if_eq_f (tgt := 21) dX11_told_8 (by decide) (by decide) ?_
      refine z_iload_n dX11_told_11 rfl ?_
      refine z_iconst dX11_told_12 (c32 rfl) ?_
      refine z_bipush dX11_told_13 (c32 rfl) (by decide) ?_
      refine z_calls (M' := mX11_within) (d' := d - 1) (mc' := 0) (ms' := 0) (As := [_, _, _]) dX11_told_15 k_586 cm_X11_within (by omega) (Nat.le_of_ble_eq_true rfl) rfl ⟨Nat.zero_le _, Nat.zero_le _⟩ ?_
      refine s_X11_within (by omega) (fun c15_6 => ?_) (fun c15_7 c15_8 => ?_) (fun c15_9 c15_10 => ?_)
      · dsimp only [Option.toList, List.cons_append, List.nil_append, Nat.add_zero]
        refine z_if_ne_f (tgt := 29) dX11_told_18 (by decide) (by decide) ?_
        exact zt
      · dsimp only [Option.toList, List.cons_append, List.nil_append, Nat.add_zero]
        refine z_if_ne_f (tgt := 29) dX11_told_18 (by decide) (by decide) ?_
        exact zt
      · dsimp only [Option.toList, List.cons_append, List.nil_append, Nat.add_zero]
        refine z_if_ne_t (tgt := 29) dX11_told_18 (by decide) (by decide) ?_
        exfalso
        omega
  refine key adr s.heap [] _ ⟨⟨B.exec, B.bytes, B.returns, B.notSynchronized, hml, findClass_of_methodNamed B.named, (name_of_methodNamed B.named B.method).1, wsN_of (fun w hw => atoms_spec B.pre w (List.mem_cons_of_mem _ hw)), hKK⟩, hR, ⟨fun _ _ => rfl, Nat.le_refl _, va_S.rf, fun i hi => Or.inl ⟨i, hi, rfl⟩⟩, hargs, (fun v hv => by cases hv), ?_⟩
  have e := rl_args adr 0 [(2, 0), (0, b), (0, w)] 0 (by intro v hv; simp only [List.mem_cons, List.not_mem_nil, or_false] at hv; rcases hv with rfl | rfl | rfl <;> simp)
  rw [show ([(2, 0), (0, b), (0, w)] : List AV) = la [(2, 0), (0, b), (0, w)] ++ List.replicate 0 (9, 0) from rfl, e]
  exact hlv

set_option maxHeartbeats 4000000 in
set_option maxRecDepth 100000 in
/-- the law's told: it catches -/
abbrev mL_told : MI := (yL_told, cL_told, 5, some .int)
def wsT : List Cond := Cond.codeWith yL_told cL_told 5 (some .int) [(0, 10, 13, 13)] :: Tb
theorem kt_cw : Cond.codeWith yL_told cL_told 5 (some .int) [(0, 10, 13, 13)] ∈ Tb := tb_in 1337 (by decide +kernel) rfl
theorem kt_cl : Cond.classLink "MadeWhereLaw" 13 nseN ∈ Tb := tb_in 1338 (by decide +kernel) rfl
theorem kt_ini : Cond.initialized "MadeWhereLaw" ∈ Tb := tb_in 91 (by decide +kernel) rfl
theorem kt_st : Cond.static yL_told ∈ Tb := tb_in 1336 (by decide +kernel) rfl
def SpT (l : Launch) (G : GG) (d mc ms : Nat) (K : List Kd) (args : List AV) (h : AH) (Q : Option AV → List Kd → AH → Prop) : Prop :=
  ∀ (adr : Nat → Nat) (sz : Nat), (∀ v ∈ args, oka K.length v) →
    Met l yL_told wsT (rmO d mc ms) (va_Pc (args.map (ra adr)) (fun U => U.heap.size = sz ∧ Rel G adr K h U.heap ∧ KK G U)) (PQ G adr K.length Q) mc ms (AA adr K.length sz)
theorem spT_of {l : Launch} {G : GG} {d mc ms : Nat} {K : List Kd} {args L : List AV} {h : AH} {Q : Option AV → List Kd → AH → Prop} (hlen : (la args).length ≤ 5) (htag : ∀ v ∈ args, v.1 < 8) (hL : la args ++ List.replicate (5 - (la args).length) (9, 0) = L)
    (k : ∀ (p : Program) (e : Env) (s : State) (m : MethodId) (a : Array Value) (below : List Frame) (meth : Method) (c : Code) (adr : Nat → Nat), c.exceptionTable.toList = tableOf [(0, 10, 13, 13)] → (∀ v ∈ args, oka K.length v) → VZ l G mL_told d mc ms 0 0 K 0 L [] h p e s m a below meth c adr K.length (MQ below (PQ G adr K.length Q) a s mc ms (AA adr K.length s.heap.size))) : SpT l G d mc ms K args h Q := by
  intro adr sz hargs
  refine va_MetW (cc := cL_told) (maxL := 5) (ret := some .int) (hh := [(0, 10, 13, 13)]) (by decide) rfl ?_
  intro p e s m args' below meth c s₁ B hml hv
  obtain ⟨rfl, hsz, hR, hKK⟩ := hv
  subst hsz
  have ht := vx_table (x := yL_told) B (atoms_spec B.pre _ (show Cond.codeWith yL_told cL_told 5 (some .int) [(0, 10, 13, 13)] ∈ wsT from List.mem_cons_self))
  rw [lg_entry_eq]
  subst hL
  have hlv := lv_entry (args.map (ra adr)) (n := 5) (by rw [la_len]; exact hlen)
  rw [la_len] at hlv ⊢
  refine k p e s m _ below meth c adr ht hargs adr s.heap [] _ ⟨⟨B.exec, B.bytes, B.returns, B.notSynchronized, hml, findClass_of_methodNamed B.named, (name_of_methodNamed B.named B.method).1, wsN_of (fun w hw => atoms_spec B.pre w (List.mem_cons_of_mem _ hw)), hKK⟩, hR, ⟨fun _ _ => rfl, Nat.le_refl _, va_S.rf, fun i hi => Or.inl ⟨i, hi, rfl⟩⟩, la_ok hargs _, (fun v hv => by cases hv), ?_⟩
  rw [rl_args adr _ args 0 htag]
  exact hlv

set_option maxHeartbeats 4000000 in
set_option maxRecDepth 100000 in
theorem t_told {l : Launch} {G : GG} {d : Nat} {h : AH} {cs : Int → List (Int × List Int)} {b w : Int} {Q : Option AV → List Kd → AH → Prop} (hl : l.stackTraces = false) (hd : 10 ≤ d) (I : CI h cs)
    (q0 : ¬ ((0 ≤ b ∧ b < h 116 45) ∧ (0 ≤ w ∧ w ≤ 8)) → Q (some (0, 1)) K0 h) (q1 : (0 ≤ b ∧ b < h 116 45) ∧ (0 ≤ w ∧ w ≤ 8) → Q (some (0, 0)) K0 (hset h 177 0 (tolF h b w))) : SpT l G d 1 6 K0 [(2, 0), (0, b), (0, w), (2, 177)] h Q := by
  refine spT_of (L := [(2, 0), (0, b), (0, w), (2, 177), (9, 0)]) (by simp [la]) (by intro v hv; simp only [List.mem_cons, List.not_mem_nil, or_false] at hv; rcases hv with rfl | rfl | rfl | rfl <;> simp) rfl ?_
  intro p e s m a below meth c adr ht hargs
  by_cases ok : (0 ≤ b ∧ b < h 116 45) ∧ (0 ≤ w ∧ w ≤ 8)
  · have key : V l G mL_told d 1 6 0 0 K0 0 [(2, 0), (0, b), (0, w), (2, 177), (9, 0)] [] h Q := by
      refine v_aload_n dL_told_0 rfl ?_
      refine v_iconst dL_told_1 (c32 rfl) ?_
      refine v_aload_n dL_told_2 rfl ?_
      refine v_iload_n dL_told_3 rfl ?_
      refine v_iload_n dL_told_4 rfl ?_
      refine v_callv (M' := mX11_told) (d' := d - 1) (mc' := 0) (ms' := 0) (ci := 11) (c := 0) (As := [_, _]) dL_told_5 k_1339 cm_X11_told rfl (by omega) (by decide) kk_0 (Nat.le_of_ble_eq_true rfl) rfl ⟨Nat.zero_le _, Nat.zero_le _⟩ ?_
      refine cst_in ?_
      refine s_Ftold (by omega) I ok.1 ok.2 ?_
      rw [cst_mk]
      dsimp only [Option.toList, List.cons_append, List.nil_append, Nat.add_zero]
      refine v_i2l dL_told_8 ?_
      refine v_lastore dL_told_9 (by decide) kk_177 (by decide) (by decide) ?_
      refine v_goto (tgt := 17) dL_told_10 (by decide) ?_
      refine v_iconst dL_told_17 (c32 rfl) ?_
      exact v_ireti dL_told_18 rfl (Nat.zero_le _) (Nat.zero_le _) (q1 ok)
    intro adr' H locs ls S
    exact key p e s m a below meth c adr adr' K0.length H locs ls S
  · refine z_aload_n dL_told_0 rfl ?_
    refine z_iconst dL_told_1 (c32 rfl) ?_
    refine z_aload_n dL_told_2 rfl ?_
    refine z_iload_n dL_told_3 rfl ?_
    refine z_iload_n dL_told_4 rfl ?_
    intro adr' H locs ls S
    obtain ⟨S1, S2, S3, S4, S5, S6⟩ := S
    obtain ⟨hx, hb, h3, h4, h5, h6, h7, h8, h9⟩ := id S1
    have hts : ∀ w ∈ Tb, w.before a s = true := fun w hw => h8 w (List.mem_cons_of_mem _ hw)
    have hA : ∀ v ∈ ([(2, 0), (0, b), (0, w)] : List AV), oka K0.length v := fun v hv => by
      simp only [List.mem_cons, List.not_mem_nil, or_false] at hv
      rcases hv with rfl | rfl | rfl
      · exact hargs _ (by simp)
      · exact hargs _ (by simp)
      · exact hargs _ (by simp)
    have hT := t_throw (G := G) (adr := adr') (sz := H.size) (d := d - 1) hl (by omega) I ok hA
    obtain ⟨hci, cell, q1', q2, q3, q4⟩ := S2.at (c := 0) (by decide) kk_0
    have hm := cm_X11_told
    have hr := vx_runV (b := adr' 0) (As := ([(0, b), (0, w)] : List AV).map (ra adr')) (rest := ([(0, 0), (2, 177)] : List AV).map (ra adr')) (g := F0 m 5 ls (([(0, w), (0, b), (2, 0), (0, 0), (2, 177)] : List AV).map (ra adr'))) (cells := 0) (slots := 0) (locs := locs) (H := H) (below := below) (meth := meth) (R := rmO d 1 6) (p := p) (e := e) (l := l) ⟨hx, hb, h5, h6, h8⟩ hT
      (cwV (C := mX11_told.1.cls) 2 h8 (tb_good (fun w hw2 => by
        rcases List.mem_append.mp hw2 with q | q
        · simp only [List.mem_cons, List.not_mem_nil, or_false] at q
          rcases q with rfl | rfl | rfl | rfl
          · exact k_1339
          · exact hm.2.1
          · exact hm.2.2
          · exact hm.1.2.1
        · exact cal_ws hm.1 w q)) rfl rfl rfl ⟨rfl, hm.1.2.2.1⟩ ⟨show d - 1 < d by omega, by show 8 + (mX11_told.2.2.1 + 11) + 64 * (d - 1) ≤ 64 * d; have := hm.1.2.2.2; omega⟩)
      ⟨pre_blind, ⟨cell, q1', by rw [q3]; rfl, by rw [q2]; exact (h9.1 11 (by decide)).2.1⟩, fun U hU hW => ⟨rfl, by rw [hU], by rw [hU]; exact S2, h9.warm hW⟩⟩ rfl rfl (by rw [← h5]; exact S6.1.trans h5.symm) rfl (by show 2 * 0 + _ ≤ 8; rw [cat_sum]; decide) dL_told_5 ⟨Nat.le_refl _, Nat.le_refl _⟩
    intro T hT9 X
    rcases hr T hT9 X with ⟨v, st₀, t, T', Ls, h0, X', hL, e1, e2, hf, st⟩ | ⟨q, st₀, t, T', Ls, E, ce, h0, X', hL, e1, e2, hXC, hce, hcv, hcl, st⟩
    · exact hf.elim
    · obtain ⟨rfl, hR9, hF9⟩ := hXC
      obtain ⟨F1, F2⟩ := hF9
      rw [h0] at F1 F2
      have hz : s.heap.size ≤ H.size := S3.2.2.1.1
      have sub : ∀ q, AA adr' K0.length H.size q → AA adr K0.length s.heap.size q := by
        rintro q (⟨i, hi, rfl⟩ | hq)
        · exact S3.2.2.2 i hi
        · exact Or.inr (Nat.le_trans hz hq)
      have kx : vx_W p l e (rmO d 1 6) s m a below meth c T'.heap (locs ++ Ls) 1 6 (MQ below (PQ G adr K0.length Q) a s 1 6 (AA adr K0.length s.heap.size)) (F0 m 5 ls (([(0, 0), (2, 177)] : List AV).map (ra adr'))) q := by
        refine vx_catch (own := "MadeWhereLaw") (name := nseN) (E := nseN) (ce := ce) h6 [] ⟨0, 10, 13, 13⟩ [] (by rw [ht]; rfl) (fun z hz => by cases hz) rfl (by decide) (hts _ kt_cl) (ba_word h9.ba (List.mem_of_getElem? (i := 1345) (by decide +kernel)) rfl (fun s0 a h => Cond.castable_setVm h _ _)) (by rw [e1]; exact hce) hcv hcl ?_
        refine lv_astore hx hb dL_told_13 S6 (show 4 < 5 by decide) rfl (fun ls' hl' => ?_)
        have key : V l G mL_told d 1 6 1 6 K0 15 [(2, 0), (0, b), (0, w), (2, 177), (3, (q : Int))] [] h Q := by
          refine v_iconst dL_told_15 (c32 rfl) ?_
          exact v_ireti dL_told_16 rfl (Nat.le_refl _) (Nat.le_refl _) (q0 ok)
        have hl2 := rl_set1 (v := (3, (q : Int))) (L := [(2, 0), (0, b), (0, w), (2, 177), (9, 0)]) hl' rfl
        refine key p e s m a below meth c adr adr' K0.length T'.heap (locs ++ Ls) ls' ⟨S1, by rw [e1]; exact hR9, ⟨S3.1, Nat.le_refl _, ⟨Nat.le_trans hz (by rw [e1]; exact F1), fun q h1 h2 => by
          rw [e1, F2 q (Nat.lt_of_lt_of_le h1 hz) (fun z => h2 (sub q z))]
          exact S3.2.2.1.2.1 q h1 h2, fun z hz2 => by
          rcases List.mem_append.mp hz2 with y | y
          · exact S3.2.2.1.2.2 z y
          · exact sub _ (hL z y)⟩, S3.2.2.2⟩, fun v hv => ?_, (fun v hv => by cases hv), hl2⟩
        simp only [List.mem_cons, List.not_mem_nil, or_false] at hv
        rcases hv with rfl | rfl | rfl | rfl | rfl
        · exact hargs _ (by simp)
        · exact hargs _ (by simp)
        · exact hargs _ (by simp)
        · exact hargs _ (by simp)
        · exact oka9 (by decide)
      obtain ⟨t2, a1, b1⟩ := kx T' rfl X'
      exact ⟨t2, st.trans a1, b1⟩

