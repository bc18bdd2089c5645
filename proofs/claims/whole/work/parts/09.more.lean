/-! ===== rules for V: sums in range, Math, arraycopy, new cells ===== -/
section MRULES
variable {l : Launch} {G : GG} {M : MI} {d mc ms n1 n2 : Nat} {K : List Kd} {pc : Nat} {L st : List AV} {h : AH} {Q : Option AV → List Kd → AH → Prop}
theorem v_iaddE {x y : Int} (hdg : decode M.2.1 pc = .ok (.iadd, 1)) (hr : -2147483648 ≤ x + y ∧ x + y < 2147483648) (k : V l G M d mc ms n1 n2 K (pc + 1) L ((0, x + y) :: st) h Q) : V l G M d mc ms n1 n2 K pc L ((0, y) :: (0, x) :: st) h Q :=
  v_iadd hdg (by rw [iadd_eq hr]; exact k)
theorem v_isubE {x y : Int} (hdg : decode M.2.1 pc = .ok (.isub, 1)) (hr : -2147483648 ≤ x - y ∧ x - y < 2147483648) (k : V l G M d mc ms n1 n2 K (pc + 1) L ((0, x - y) :: st) h Q) : V l G M d mc ms n1 n2 K pc L ((0, y) :: (0, x) :: st) h Q :=
  v_isub hdg (by rw [isub_eq hr]; exact k)
theorem v_imulE {x y : Int} (hdg : decode M.2.1 pc = .ok (.imul, 1)) (hr : -2147483648 ≤ x * y ∧ x * y < 2147483648) (k : V l G M d mc ms n1 n2 K (pc + 1) L ((0, x * y) :: st) h Q) : V l G M d mc ms n1 n2 K pc L ((0, y) :: (0, x) :: st) h Q :=
  v_imul hdg (by rw [imul_eq hr]; exact k)
theorem v_laddE {x y : Int} (hdg : decode M.2.1 pc = .ok (.ladd, 1)) (hr : -9223372036854775808 ≤ x + y ∧ x + y < 9223372036854775808) (k : V l G M d mc ms n1 n2 K (pc + 1) L ((1, x + y) :: st) h Q) : V l G M d mc ms n1 n2 K pc L ((1, y) :: (1, x) :: st) h Q :=
  v_ladd hdg (by rw [ladd_eq hr]; exact k)
theorem v_lsubE {x y : Int} (hdg : decode M.2.1 pc = .ok (.lsub, 1)) (hr : -9223372036854775808 ≤ x - y ∧ x - y < 9223372036854775808) (k : V l G M d mc ms n1 n2 K (pc + 1) L ((1, x - y) :: st) h Q) : V l G M d mc ms n1 n2 K pc L ((1, y) :: (1, x) :: st) h Q :=
  v_lsub hdg (by rw [lsub_eq hr]; exact k)
theorem v_lmulE {x y : Int} (hdg : decode M.2.1 pc = .ok (.lmul, 1)) (hr : -9223372036854775808 ≤ x * y ∧ x * y < 9223372036854775808) (k : V l G M d mc ms n1 n2 K (pc + 1) L ((1, x * y) :: st) h Q) : V l G M d mc ms n1 n2 K pc L ((1, y) :: (1, x) :: st) h Q :=
  v_lmul hdg (by rw [lmul_eq hr]; exact k)
theorem kM_max : Cond.static Lib.Math.max.name ∈ Tb ∧ Cond.initialized "java/lang/Math" ∈ Tb ∧ Cond.code Lib.Math.max.name Lib.Math.max.code 2 (some .int) ∈ Tb := ⟨tb_in 688 (by decide +kernel) rfl, kini_J9, tb_in 689 (by decide +kernel) rfl⟩
theorem kM_min : Cond.static Lib.Math.min.name ∈ Tb ∧ Cond.initialized "java/lang/Math" ∈ Tb ∧ Cond.code Lib.Math.min.name Lib.Math.min.code 2 (some .int) ∈ Tb := ⟨tb_in 691 (by decide +kernel) rfl, kini_J9, tb_in 692 (by decide +kernel) rfl⟩
theorem kM_maxl : Cond.static Lib.MathLoose.max_long.x ∈ Tb ∧ Cond.initialized "java/lang/Math" ∈ Tb ∧ Cond.code Lib.MathLoose.max_long.x Lib.MathLoose.max_long.code 4 (some .long) ∈ Tb := ⟨tb_in 1021 (by decide +kernel) rfl, kini_J9, tb_in 1022 (by decide +kernel) rfl⟩
theorem kM_minl : Cond.static Lib.MathLoose.min_long.x ∈ Tb ∧ Cond.initialized "java/lang/Math" ∈ Tb ∧ Cond.code Lib.MathLoose.min_long.x Lib.MathLoose.min_long.code 4 (some .long) ∈ Tb := ⟨tb_in 998 (by decide +kernel) rfl, kini_J9, tb_in 999 (by decide +kernel) rfl⟩
theorem kM_copy : Cond.static arraycopyName ∈ Tb ∧ Cond.native arraycopyName ∈ Tb ∧ Cond.initialized "java/lang/System" ∈ Tb := ⟨tb_in 814 (by decide +kernel) rfl, tb_in 815 (by decide +kernel) rfl, kini_J10⟩
theorem max32 {x y : Int} (hx : ok32 x) (hy : ok32 y) : (if Int32.ofInt x < Int32.ofInt y then Int32.ofInt y else Int32.ofInt x) = Int32.ofInt (max x y) := by
  by_cases q : x < y
  · rw [if_pos ((l32 hx hy).mpr q)]; congr 1; omega
  · rw [if_neg (fun z => q ((l32 hx hy).mp z))]; congr 1; omega
theorem min32 {x y : Int} (hx : ok32 x) (hy : ok32 y) : (if Int32.ofInt y < Int32.ofInt x then Int32.ofInt y else Int32.ofInt x) = Int32.ofInt (min x y) := by
  by_cases q : y < x
  · rw [if_pos ((l32 hy hx).mpr q)]; congr 1; omega
  · rw [if_neg (fun z => q ((l32 hy hx).mp z))]; congr 1; omega
theorem max64 {x y : Int} (hx : ok64 x) (hy : ok64 y) : (if Int64.ofInt y < Int64.ofInt x then Int64.ofInt x else Int64.ofInt y) = Int64.ofInt (max x y) := by
  by_cases q : y < x
  · rw [if_pos ((l64 hy hx).mpr q)]; congr 1; omega
  · rw [if_neg (fun z => q ((l64 hy hx).mp z))]; congr 1; omega
theorem min64 {x y : Int} (hx : ok64 x) (hy : ok64 y) : (if Int64.ofInt y < Int64.ofInt x then Int64.ofInt y else Int64.ofInt x) = Int64.ofInt (min x y) := by
  by_cases q : y < x
  · rw [if_pos ((l64 hy hx).mpr q)]; congr 1; omega
  · rw [if_neg (fun z => q ((l64 hy hx).mp z))]; congr 1; omega
theorem v_mmax {idx : Nat} {x y : Int} (hdg : decode M.2.1 pc = .ok (.invokestatic idx, 3)) (hw : Cond.methodLink M.1.cls idx Lib.Math.max.name ∈ Tb) (hd : 1 ≤ d) (hs : csum st ≤ 8) (hf : n1 ≤ mc ∧ n2 ≤ ms) (k : V l G M d mc ms n1 n2 K (pc + 3) L ((0, max x y) :: st) h Q) : V l G M d mc ms n1 n2 K pc L ((0, y) :: (0, x) :: st) h Q := by
  intro p e s m args below meth c0 adr0 adr n0 H locs ls S
  obtain ⟨S1, S2, S3, S4, S5, S6⟩ := S
  obtain ⟨hx, hb, h3, h4, h5, h6, h7, h8, h9⟩ := id S1
  have hts : ∀ w ∈ Tb, w.before args s = true := fun w hw => h8 w (List.mem_cons_of_mem _ hw)
  have b : ok32 y := (al_c.mp S5).1.1 rfl
  have a : ok32 x := (al_c.mp (al_c.mp S5).2).1.1 rfl
  refine va_mmax hx hb (h5.trans S6.1.symm) h6 (hts _ hw) (hts _ kM_max.1) (hts _ kM_max.2.1) (hts _ kM_max.2.2) hd (by show (((st.map (ra adr)).map fun v => v.category).sum) + 13 ≤ 64 * d; rw [cat_sum]; unfold csum at hs; omega) hf.1 hf.2 hdg ?_
  rw [max32 a b]
  exact k p e s m args below meth c0 adr0 adr n0 H locs ls ⟨S1, S2, S3, S4, al_c.mpr ⟨oka0 (by unfold ok32 at a b ⊢; omega), (al_c.mp (al_c.mp S5).2).2⟩, S6⟩
theorem v_mmin {idx : Nat} {x y : Int} (hdg : decode M.2.1 pc = .ok (.invokestatic idx, 3)) (hw : Cond.methodLink M.1.cls idx Lib.Math.min.name ∈ Tb) (hd : 1 ≤ d) (hs : csum st ≤ 8) (hf : n1 ≤ mc ∧ n2 ≤ ms) (k : V l G M d mc ms n1 n2 K (pc + 3) L ((0, min x y) :: st) h Q) : V l G M d mc ms n1 n2 K pc L ((0, y) :: (0, x) :: st) h Q := by
  intro p e s m args below meth c0 adr0 adr n0 H locs ls S
  obtain ⟨S1, S2, S3, S4, S5, S6⟩ := S
  obtain ⟨hx, hb, h3, h4, h5, h6, h7, h8, h9⟩ := id S1
  have hts : ∀ w ∈ Tb, w.before args s = true := fun w hw => h8 w (List.mem_cons_of_mem _ hw)
  have b : ok32 y := (al_c.mp S5).1.1 rfl
  have a : ok32 x := (al_c.mp (al_c.mp S5).2).1.1 rfl
  refine va_mmin hx hb (h5.trans S6.1.symm) h6 (hts _ hw) (hts _ kM_min.1) (hts _ kM_min.2.1) (hts _ kM_min.2.2) hd (by show (((st.map (ra adr)).map fun v => v.category).sum) + 13 ≤ 64 * d; rw [cat_sum]; unfold csum at hs; omega) hf.1 hf.2 hdg ?_
  rw [min32 a b]
  exact k p e s m args below meth c0 adr0 adr n0 H locs ls ⟨S1, S2, S3, S4, al_c.mpr ⟨oka0 (by unfold ok32 at a b ⊢; omega), (al_c.mp (al_c.mp S5).2).2⟩, S6⟩
theorem v_mmaxl {idx : Nat} {x y : Int} (hdg : decode M.2.1 pc = .ok (.invokestatic idx, 3)) (hw : Cond.methodLink M.1.cls idx Lib.MathLoose.max_long.x ∈ Tb) (hd : 1 ≤ d) (hs : csum st ≤ 8) (hf : n1 ≤ mc ∧ n2 ≤ ms) (k : V l G M d mc ms n1 n2 K (pc + 3) L ((1, max x y) :: st) h Q) : V l G M d mc ms n1 n2 K pc L ((1, y) :: (1, x) :: st) h Q := by
  intro p e s m args below meth c0 adr0 adr n0 H locs ls S
  obtain ⟨S1, S2, S3, S4, S5, S6⟩ := S
  obtain ⟨hx, hb, h3, h4, h5, h6, h7, h8, h9⟩ := id S1
  have hts : ∀ w ∈ Tb, w.before args s = true := fun w hw => h8 w (List.mem_cons_of_mem _ hw)
  have b : ok64 y := (al_c.mp S5).1.2.1 rfl
  have a : ok64 x := (al_c.mp (al_c.mp S5).2).1.2.1 rfl
  refine va_mmax_long hx hb (h5.trans S6.1.symm) h6 (hts _ hw) (hts _ kM_maxl.1) (hts _ kM_maxl.2.1) (hts _ kM_maxl.2.2) hd (by show (((st.map (ra adr)).map fun v => v.category).sum) + 15 ≤ 64 * d; rw [cat_sum]; unfold csum at hs; omega) hf.1 hf.2 hdg ?_
  rw [max64 a b]
  exact k p e s m args below meth c0 adr0 adr n0 H locs ls ⟨S1, S2, S3, S4, al_c.mpr ⟨oka1 (by unfold ok64 at a b ⊢; omega), (al_c.mp (al_c.mp S5).2).2⟩, S6⟩
theorem v_mminl {idx : Nat} {x y : Int} (hdg : decode M.2.1 pc = .ok (.invokestatic idx, 3)) (hw : Cond.methodLink M.1.cls idx Lib.MathLoose.min_long.x ∈ Tb) (hd : 1 ≤ d) (hs : csum st ≤ 8) (hf : n1 ≤ mc ∧ n2 ≤ ms) (k : V l G M d mc ms n1 n2 K (pc + 3) L ((1, min x y) :: st) h Q) : V l G M d mc ms n1 n2 K pc L ((1, y) :: (1, x) :: st) h Q := by
  intro p e s m args below meth c0 adr0 adr n0 H locs ls S
  obtain ⟨S1, S2, S3, S4, S5, S6⟩ := S
  obtain ⟨hx, hb, h3, h4, h5, h6, h7, h8, h9⟩ := id S1
  have hts : ∀ w ∈ Tb, w.before args s = true := fun w hw => h8 w (List.mem_cons_of_mem _ hw)
  have b : ok64 y := (al_c.mp S5).1.2.1 rfl
  have a : ok64 x := (al_c.mp (al_c.mp S5).2).1.2.1 rfl
  refine va_mmin_long hx hb (h5.trans S6.1.symm) h6 (hts _ hw) (hts _ kM_minl.1) (hts _ kM_minl.2.1) (hts _ kM_minl.2.2) hd (by show (((st.map (ra adr)).map fun v => v.category).sum) + 15 ≤ 64 * d; rw [cat_sum]; unfold csum at hs; omega) hf.1 hf.2 hdg ?_
  rw [min64 a b]
  exact k p e s m args below meth c0 adr0 adr n0 H locs ls ⟨S1, S2, S3, S4, al_c.mpr ⟨oka1 (by unfold ok64 at a b ⊢; omega), (al_c.mp (al_c.mp S5).2).2⟩, S6⟩
/-- a row of ints copied into another -/
def hcpy (h : AH) (c0 sp c1 dp n : Int) : AH := fun a b => if a = c1 ∧ dp ≤ b ∧ b < dp + n then h c0 (sp + (b - dp)) else h a b
theorem v_copyi {idx : Nat} {c0 c1 sp dp n : Int} {N0 N1 : Nat} (hdg : decode M.2.1 pc = .ok (.invokestatic idx, 3)) (hw : Cond.methodLink M.1.cls idx arraycopyName ∈ Tb) (hd : 1 ≤ d) (hs : csum st ≤ 8) (hc0 : 0 ≤ c0) (hk0 : K[c0.toNat]? = some (.inr (.int, N0))) (hc1 : 0 ≤ c1) (hk1 : K[c1.toNat]? = some (.inr (.int, N1)))
    (h1 : 0 ≤ sp) (h2 : 0 ≤ dp) (h3 : 0 ≤ n) (h4 : sp + n ≤ N0) (h5 : dp + n ≤ N1) (k : V l G M d mc ms n1 n2 K (pc + 3) L st (hcpy h c0 sp c1 dp n) Q) (hl126 : c1 ≠ 126 := by first | decide | omega) : V l G M d mc ms n1 n2 K pc L ((0, n) :: (0, dp) :: (2, c1) :: (0, sp) :: (2, c0) :: st) h Q := by
  intro p e s m args below meth c adr0 adr n0 H locs ls S
  obtain ⟨S1, S2, S3, S4, S5, S6⟩ := S
  obtain ⟨hx, hb, g3, g4, g5, g6, g7, g8, g9⟩ := id S1
  have hts : ∀ w ∈ Tb, w.before args s = true := fun w hw => g8 w (List.mem_cons_of_mem _ hw)
  have on : ok32 n := (al_c.mp S5).1.1 rfl
  have od : ok32 dp := (al_c.mp (al_c.mp S5).2).1.1 rfl
  have os : ok32 sp := (al_c.mp (al_c.mp (al_c.mp (al_c.mp S5).2).2).2).1.1 rfl
  have orest := (al_c.mp (al_c.mp (al_c.mp (al_c.mp (al_c.mp S5).2).2).2).2).2
  have a0 : H[adr c0.toNat]? = some (arrV (G.2.1 .int) N0 (fun j => rv adr .int (h c0 j))) := S2.at hc0 hk0
  have a1 : H[adr c1.toNat]? = some (arrV (G.2.1 .int) N1 (fun j => rv adr .int (h c1 j))) := S2.at hc1 hk1
  obtain ⟨-, k9, hk9, cm9, hkk9⟩ := (g9.2.1 .int (by simp)).1 N0 (fun j => rv adr .int (h c0 j))
  obtain ⟨-, k8, hk8, cm8, hkk8⟩ := (g9.2.1 .int (by simp)).1 N1 (fun j => rv adr .int (h c1 j))
  have nz : ∀ {z : Int}, ok32 z → 0 ≤ z → ¬ Int32.ofInt z < 0 := fun o z0 q => by have := (l32 o z32).mp q; omega
  have ti : ∀ {z : Int}, ok32 z → 0 ≤ z → (Int32.ofInt z).toInt = z := fun o _ => t32 o
  have hroom : 2 * (0 : Nat) + ((st.map (ra adr)).map fun v => v.category).sum + (nativeFrameWords "java/lang/System" "arraycopy" 5 + 11) ≤ 64 * d := by
    have h50 : nativeFrameWords "java/lang/System" "arraycopy" 5 + 11 ≤ 50 := by decide
    rw [cat_sum]
    unfold csum at hs
    omega
  intro T hT X
  obtain ⟨vm', X', step⟩ := X.arraycopy hx g6 (hts _ hw) (hts _ kM_copy.2.1) (hts _ kM_copy.1) (hts _ kM_copy.2.2) (src := adr c0.toNat) (dst := adr c1.toNat) (cs := arrV (G.2.1 .int) N0 (fun j => rv adr .int (h c0 j))) (cd := arrV (G.2.1 .int) N1 (fun j => rv adr .int (h c1 j))) (srcPos := Int32.ofInt sp) (destPos := Int32.ofInt dp) (n := Int32.ofInt n) (by rw [hT]; exact a0) (by rw [hT]; exact a1)
    (fun _ q => by cases q) (fun _ q => by cases q) (fun q => by cases q) (fun q => by cases q) hk9 hk8 hkk9 hkk8 (by simp [refKind]) (nz os h1) (nz od h2) (nz on h3)
    (by rw [t32 os, t32 on, arrV_size]; omega)
    (by rw [t32 od, t32 on, arrV_size]; omega)
    (fun vm₁ _ i hi => by
      rw [cl32 on h3] at hi
      have e9 : (arrV (G.2.1 .int) N0 (fun j => rv adr .int (h c0 j))).slots.getD ((Int32.ofInt sp).toNatClampNeg + i) .null = rv adr .int (h c0 (((Int32.ofInt sp).toNatClampNeg + i : Nat) : Int)) := by
        rw [Array.getD_eq_getD_getElem?, arrV_read _ _ (by rw [cl32 os h1]; omega)]
        rfl
      refine ⟨?_, ?_⟩
      · rw [e9]; rfl
      · rw [e9]; exact trivial)
    (g := F0 m pc ls (((0, n) :: (0, dp) :: (2, c1) :: (0, sp) :: (2, c0) :: st).map (ra adr))) rfl (by rw [g5]; exact S6.1) (rest := st.map (ra adr)) rfl (by rw [hb]; exact hdg) hd hroom
  have e1 : copied (arrV (G.2.1 .int) N0 (fun j => rv adr .int (h c0 j))) (arrV (G.2.1 .int) N1 (fun j => rv adr .int (h c1 j))) (Int32.ofInt sp) (Int32.ofInt dp) (Int32.ofInt n) = arrV (G.2.1 .int) N1 (fun j => rv adr .int (hcpy h c0 sp c1 dp n c1 j)) := by
    refine (va_copied (fun z => z) (G.2.1 .int) (G.2.1 .int) (n1 := N1) (dp := (Int32.ofInt dp).toNatClampNeg) (fun j => rv adr .int (h c0 j)) (fun j => rv adr .int (h c1 j)) (sp := (Int32.ofInt sp).toNatClampNeg) (n := (Int32.ofInt n).toNatClampNeg) (by rw [cl32 os h1, cl32 on h3]; omega)).trans ?_
    congr 1
    funext j
    rw [cl32 os h1, cl32 on h3, cl32 od h2]
    show va_cpy _ _ _ _ _ j = _
    unfold va_cpy hcpy
    by_cases q : dp ≤ (j : Int) ∧ (j : Int) < dp + n
    · rw [if_pos (by omega), if_pos ⟨rfl, q⟩]
      show rv adr .int (h c0 ((sp.toNat + (j - dp.toNat) : Nat) : Int)) = rv adr .int (h c0 (sp + ((j : Int) - dp)))
      rw [show ((sp.toNat + (j - dp.toNat) : Nat) : Int) = sp + ((j : Int) - dp) by omega]
    · rw [if_neg (by omega), if_neg (fun z => q z.2)]
  rw [e1] at X' step
  have hl : adr c1.toNat < H.size := (Array.getElem?_eq_some_iff.mp a1).1
  have hheap : ((T.setVm vm').setCell (adr c1.toNat) (arrV (G.2.1 .int) N1 (fun j => rv adr .int (hcpy h c0 sp c1 dp n c1 j)))).heap = H.setIfInBounds (adr c1.toNat) (arrV (G.2.1 .int) N1 (fun j => rv adr .int (hcpy h c0 sp c1 dp n c1 j))) := by rw [← hT]; rfl
  have oq : ∀ q : Nat, q ≠ adr c1.toNat → (H.setIfInBounds (adr c1.toNat) (arrV (G.2.1 .int) N1 (fun j => rv adr .int (hcpy h c0 sp c1 dp n c1 j))))[q]? = H[q]? := fun q hq => by simp [Array.getElem?_setIfInBounds, Ne.symm hq]
  have self : (H.setIfInBounds (adr c1.toNat) (arrV (G.2.1 .int) N1 (fun j => rv adr .int (hcpy h c0 sp c1 dp n c1 j))))[adr c1.toNat]? = some (arrV (G.2.1 .int) N1 (fun j => rv adr .int (hcpy h c0 sp c1 dp n c1 j))) := by simp [Array.getElem?_setIfInBounds, hl]
  generalize hH1 : H.setIfInBounds (adr c1.toNat) (arrV (G.2.1 .int) N1 (fun j => rv adr .int (hcpy h c0 sp c1 dp n c1 j))) = H1 at hheap oq self
  have hzz : H1.size = H.size := by rw [← hH1]; simp
  have hcl : c1.toNat < K.length := (List.getElem?_eq_some_iff.mp hk1).1
  have R' : Rel G adr K (hcpy h c0 sp c1 dp n) H1 := by
    obtain ⟨R1, R2, R3, R4, R5, R6⟩ := S2
    refine ⟨fun q hq => ?_, fun i k' hi => ?_, R3, R4, fun i k' j' hi hj' => ?_, fun e9 => ⟨fun q hq => ?_, fun q hq i i0 i1 => ?_, fun i i0 i1 => ?_⟩⟩
    · rw [oq q (fun e => by have := R3 _ hcl; omega)]
      exact R1 q hq
    · by_cases e9 : i = c1.toNat
      · subst e9
        have e2 : k' = .inr (.int, N1) := Option.some.inj (hi.symm.trans hk1)
        subst e2
        rw [Int.toNat_of_nonneg hc1]
        exact self
      · have hi2 : i < K.length := (List.getElem?_eq_some_iff.mp hi).1
        have h9 := (R2 i k' hi).kept (oq (adr i) (fun q => e9 (R4 i _ hi2 hcl q)))
        have e3 : (fun j' : Nat => hcpy h c0 sp c1 dp n i j') = fun j' : Nat => h i j' := by
          funext j'
          unfold hcpy
          rw [if_neg (fun z => e9 (by omega))]
        rw [e3]
        exact h9
    · unfold hcpy
      by_cases q : (i : Int) = c1 ∧ dp ≤ (j' : Int) ∧ (j' : Int) < dp + n
      · rw [if_pos q]
        have e9 : i = c1.toNat := by omega
        subst e9
        have e2 : k' = .inr (.int, N1) := Option.some.inj (hi.symm.trans hk1)
        subst e2
        have := R5 c0.toNat (.inr (.int, N0)) (sp + (j' - dp)).toNat hk0 (by show _ < N0; omega)
        rw [Int.toNat_of_nonneg hc0, Int.toNat_of_nonneg (by omega)] at this
        exact this
      · rw [if_neg q]
        exact R5 i k' j' hi hj'
    · subst e9
      unfold hcpy
      rw [if_neg (fun z => ?_)]
      · exact (R6 rfl).1 q hq
      · have h9 := List.all_eq_true.mp rtl_kinds q hq
        rw [z.1, hk1] at h9
        simp [noRef, kty] at h9
    · subst e9
      unfold hcpy
      rw [if_neg (fun z => ?_)]
      · exact (R6 rfl).2.1 q hq i i0 i1
      · have h9 := List.all_eq_true.mp rbl_kinds q hq
        rw [z.1, hk1] at h9
        simp [noRef, kty] at h9
    · unfold hcpy
      rw [if_neg (fun z => hl126 z.1.symm)]
      exact (R6 e9).2.2 i i0 i1
  obtain ⟨t, b1, b2⟩ := k p e s m args below meth c adr0 adr n0 H1 _ ls ⟨S1, R', ⟨S3.1, S3.2.1, ⟨by rw [hzz]; exact S3.2.2.1.1, fun q q1 q2 => by
      rw [oq q (fun z => q2 (by rw [z]; exact S3.2.2.2 _ hcl))]
      exact S3.2.2.1.2.1 q q1 q2, fun q hq => by
      rcases List.mem_append.mp hq with z | z
      · exact S3.2.2.1.2.2 q z
      · obtain ⟨z2, -, hz2⟩ := List.mem_map.mp z
        rw [← hz2]
        exact S3.2.2.2 _ hcl⟩, S3.2.2.2⟩, S4, orest, S6⟩ _ hheap X'
  exact ⟨t, step t b1, b2⟩
theorem v_if_eq_t {x off : Int} {tgt : Nat} (hdg : decode M.2.1 pc = .ok (.ifCond .eq off, 3)) (ht : (pc : Int) + off = (tgt : Int)) (c : x = 0) (k : V l G M d mc ms n1 n2 K tgt L st h Q) : V l G M d mc ms n1 n2 K pc L ((0, x) :: st) h Q := v_if_eq hdg ht (fun _ => k) (fun q => absurd c (by omega))
theorem v_if_eq_f {x off : Int} {tgt : Nat} (hdg : decode M.2.1 pc = .ok (.ifCond .eq off, 3)) (ht : (pc : Int) + off = (tgt : Int)) (c : x ≠ 0) (k : V l G M d mc ms n1 n2 K (pc + 3) L st h Q) : V l G M d mc ms n1 n2 K pc L ((0, x) :: st) h Q := v_if_eq hdg ht (fun q => absurd c (by omega)) (fun _ => k)
theorem v_icmp_eq_t {x y off : Int} {tgt : Nat} (hdg : decode M.2.1 pc = .ok (.if_icmp .eq off, 3)) (ht : (pc : Int) + off = (tgt : Int)) (c : x = y) (k : V l G M d mc ms n1 n2 K tgt L st h Q) : V l G M d mc ms n1 n2 K pc L ((0, y) :: (0, x) :: st) h Q := v_icmp_eq hdg ht (fun _ => k) (fun q => absurd c (by omega))
theorem v_icmp_eq_f {x y off : Int} {tgt : Nat} (hdg : decode M.2.1 pc = .ok (.if_icmp .eq off, 3)) (ht : (pc : Int) + off = (tgt : Int)) (c : x ≠ y) (k : V l G M d mc ms n1 n2 K (pc + 3) L st h Q) : V l G M d mc ms n1 n2 K pc L ((0, y) :: (0, x) :: st) h Q := v_icmp_eq hdg ht (fun q => absurd c (by omega)) (fun _ => k)
theorem v_if_ne_t {x off : Int} {tgt : Nat} (hdg : decode M.2.1 pc = .ok (.ifCond .ne off, 3)) (ht : (pc : Int) + off = (tgt : Int)) (c : x ≠ 0) (k : V l G M d mc ms n1 n2 K tgt L st h Q) : V l G M d mc ms n1 n2 K pc L ((0, x) :: st) h Q := v_if_ne hdg ht (fun _ => k) (fun q => absurd c (by omega))
theorem v_if_ne_f {x off : Int} {tgt : Nat} (hdg : decode M.2.1 pc = .ok (.ifCond .ne off, 3)) (ht : (pc : Int) + off = (tgt : Int)) (c : x = 0) (k : V l G M d mc ms n1 n2 K (pc + 3) L st h Q) : V l G M d mc ms n1 n2 K pc L ((0, x) :: st) h Q := v_if_ne hdg ht (fun q => absurd c (by omega)) (fun _ => k)
theorem v_icmp_ne_t {x y off : Int} {tgt : Nat} (hdg : decode M.2.1 pc = .ok (.if_icmp .ne off, 3)) (ht : (pc : Int) + off = (tgt : Int)) (c : x ≠ y) (k : V l G M d mc ms n1 n2 K tgt L st h Q) : V l G M d mc ms n1 n2 K pc L ((0, y) :: (0, x) :: st) h Q := v_icmp_ne hdg ht (fun _ => k) (fun q => absurd c (by omega))
theorem v_icmp_ne_f {x y off : Int} {tgt : Nat} (hdg : decode M.2.1 pc = .ok (.if_icmp .ne off, 3)) (ht : (pc : Int) + off = (tgt : Int)) (c : x = y) (k : V l G M d mc ms n1 n2 K (pc + 3) L st h Q) : V l G M d mc ms n1 n2 K pc L ((0, y) :: (0, x) :: st) h Q := v_icmp_ne hdg ht (fun q => absurd c (by omega)) (fun _ => k)
theorem v_if_lt_t {x off : Int} {tgt : Nat} (hdg : decode M.2.1 pc = .ok (.ifCond .lt off, 3)) (ht : (pc : Int) + off = (tgt : Int)) (c : x < 0) (k : V l G M d mc ms n1 n2 K tgt L st h Q) : V l G M d mc ms n1 n2 K pc L ((0, x) :: st) h Q := v_if_lt hdg ht (fun _ => k) (fun q => absurd c (by omega))
theorem v_if_lt_f {x off : Int} {tgt : Nat} (hdg : decode M.2.1 pc = .ok (.ifCond .lt off, 3)) (ht : (pc : Int) + off = (tgt : Int)) (c : 0 ≤ x) (k : V l G M d mc ms n1 n2 K (pc + 3) L st h Q) : V l G M d mc ms n1 n2 K pc L ((0, x) :: st) h Q := v_if_lt hdg ht (fun q => absurd c (by omega)) (fun _ => k)
theorem v_icmp_lt_t {x y off : Int} {tgt : Nat} (hdg : decode M.2.1 pc = .ok (.if_icmp .lt off, 3)) (ht : (pc : Int) + off = (tgt : Int)) (c : x < y) (k : V l G M d mc ms n1 n2 K tgt L st h Q) : V l G M d mc ms n1 n2 K pc L ((0, y) :: (0, x) :: st) h Q := v_icmp_lt hdg ht (fun _ => k) (fun q => absurd c (by omega))
theorem v_icmp_lt_f {x y off : Int} {tgt : Nat} (hdg : decode M.2.1 pc = .ok (.if_icmp .lt off, 3)) (ht : (pc : Int) + off = (tgt : Int)) (c : y ≤ x) (k : V l G M d mc ms n1 n2 K (pc + 3) L st h Q) : V l G M d mc ms n1 n2 K pc L ((0, y) :: (0, x) :: st) h Q := v_icmp_lt hdg ht (fun q => absurd c (by omega)) (fun _ => k)
theorem v_if_ge_t {x off : Int} {tgt : Nat} (hdg : decode M.2.1 pc = .ok (.ifCond .ge off, 3)) (ht : (pc : Int) + off = (tgt : Int)) (c : 0 ≤ x) (k : V l G M d mc ms n1 n2 K tgt L st h Q) : V l G M d mc ms n1 n2 K pc L ((0, x) :: st) h Q := v_if_ge hdg ht (fun _ => k) (fun q => absurd c (by omega))
theorem v_if_ge_f {x off : Int} {tgt : Nat} (hdg : decode M.2.1 pc = .ok (.ifCond .ge off, 3)) (ht : (pc : Int) + off = (tgt : Int)) (c : x < 0) (k : V l G M d mc ms n1 n2 K (pc + 3) L st h Q) : V l G M d mc ms n1 n2 K pc L ((0, x) :: st) h Q := v_if_ge hdg ht (fun q => absurd c (by omega)) (fun _ => k)
theorem v_icmp_ge_t {x y off : Int} {tgt : Nat} (hdg : decode M.2.1 pc = .ok (.if_icmp .ge off, 3)) (ht : (pc : Int) + off = (tgt : Int)) (c : y ≤ x) (k : V l G M d mc ms n1 n2 K tgt L st h Q) : V l G M d mc ms n1 n2 K pc L ((0, y) :: (0, x) :: st) h Q := v_icmp_ge hdg ht (fun _ => k) (fun q => absurd c (by omega))
theorem v_icmp_ge_f {x y off : Int} {tgt : Nat} (hdg : decode M.2.1 pc = .ok (.if_icmp .ge off, 3)) (ht : (pc : Int) + off = (tgt : Int)) (c : x < y) (k : V l G M d mc ms n1 n2 K (pc + 3) L st h Q) : V l G M d mc ms n1 n2 K pc L ((0, y) :: (0, x) :: st) h Q := v_icmp_ge hdg ht (fun q => absurd c (by omega)) (fun _ => k)
theorem v_if_gt_t {x off : Int} {tgt : Nat} (hdg : decode M.2.1 pc = .ok (.ifCond .gt off, 3)) (ht : (pc : Int) + off = (tgt : Int)) (c : 0 < x) (k : V l G M d mc ms n1 n2 K tgt L st h Q) : V l G M d mc ms n1 n2 K pc L ((0, x) :: st) h Q := v_if_gt hdg ht (fun _ => k) (fun q => absurd c (by omega))
theorem v_if_gt_f {x off : Int} {tgt : Nat} (hdg : decode M.2.1 pc = .ok (.ifCond .gt off, 3)) (ht : (pc : Int) + off = (tgt : Int)) (c : x ≤ 0) (k : V l G M d mc ms n1 n2 K (pc + 3) L st h Q) : V l G M d mc ms n1 n2 K pc L ((0, x) :: st) h Q := v_if_gt hdg ht (fun q => absurd c (by omega)) (fun _ => k)
theorem v_icmp_gt_t {x y off : Int} {tgt : Nat} (hdg : decode M.2.1 pc = .ok (.if_icmp .gt off, 3)) (ht : (pc : Int) + off = (tgt : Int)) (c : y < x) (k : V l G M d mc ms n1 n2 K tgt L st h Q) : V l G M d mc ms n1 n2 K pc L ((0, y) :: (0, x) :: st) h Q := v_icmp_gt hdg ht (fun _ => k) (fun q => absurd c (by omega))
theorem v_icmp_gt_f {x y off : Int} {tgt : Nat} (hdg : decode M.2.1 pc = .ok (.if_icmp .gt off, 3)) (ht : (pc : Int) + off = (tgt : Int)) (c : x ≤ y) (k : V l G M d mc ms n1 n2 K (pc + 3) L st h Q) : V l G M d mc ms n1 n2 K pc L ((0, y) :: (0, x) :: st) h Q := v_icmp_gt hdg ht (fun q => absurd c (by omega)) (fun _ => k)
theorem v_if_le_t {x off : Int} {tgt : Nat} (hdg : decode M.2.1 pc = .ok (.ifCond .le off, 3)) (ht : (pc : Int) + off = (tgt : Int)) (c : x ≤ 0) (k : V l G M d mc ms n1 n2 K tgt L st h Q) : V l G M d mc ms n1 n2 K pc L ((0, x) :: st) h Q := v_if_le hdg ht (fun _ => k) (fun q => absurd c (by omega))
theorem v_if_le_f {x off : Int} {tgt : Nat} (hdg : decode M.2.1 pc = .ok (.ifCond .le off, 3)) (ht : (pc : Int) + off = (tgt : Int)) (c : 0 < x) (k : V l G M d mc ms n1 n2 K (pc + 3) L st h Q) : V l G M d mc ms n1 n2 K pc L ((0, x) :: st) h Q := v_if_le hdg ht (fun q => absurd c (by omega)) (fun _ => k)
theorem v_icmp_le_t {x y off : Int} {tgt : Nat} (hdg : decode M.2.1 pc = .ok (.if_icmp .le off, 3)) (ht : (pc : Int) + off = (tgt : Int)) (c : x ≤ y) (k : V l G M d mc ms n1 n2 K tgt L st h Q) : V l G M d mc ms n1 n2 K pc L ((0, y) :: (0, x) :: st) h Q := v_icmp_le hdg ht (fun _ => k) (fun q => absurd c (by omega))
theorem v_icmp_le_f {x y off : Int} {tgt : Nat} (hdg : decode M.2.1 pc = .ok (.if_icmp .le off, 3)) (ht : (pc : Int) + off = (tgt : Int)) (c : y < x) (k : V l G M d mc ms n1 n2 K (pc + 3) L st h Q) : V l G M d mc ms n1 n2 K pc L ((0, y) :: (0, x) :: st) h Q := v_icmp_le hdg ht (fun q => absurd c (by omega)) (fun _ => k)
end MRULES
theorem refOK_text {K : List Kd} {h : AH} {x : Int} : K = K0 → RefOK h → RefOK (hset h 116 17 x) := by
  intro _ r
  refine ⟨fun q hq => ?_, fun q hq i h0 h1 => ?_, fun i i0 i1 => ?_⟩
  · have h2 := List.all_eq_true.mp (show (RTL.all fun q => decide (¬ (q.1 = 116 ∧ q.2.1 = 17))) = true by decide +kernel) q hq
    rw [hset_ne h (of_decide_eq_true h2)]
    exact r.1 q hq
  · have h2 := List.all_eq_true.mp (show (RBL.all fun q => decide (¬ q.1 = 116)) = true by decide +kernel) q hq
    rw [hset_ne h (fun z => of_decide_eq_true h2 z.1)]
    exact r.2.1 q hq i h0 h1
  · rw [hset_ne h (fun z => absurd z.1 (by decide))]
    exact r.2.2 i i0 i1
theorem krow_16 {i : Int} (h0 : 0 ≤ i) (h1 : i < 20) : K0[(17 + i).toNat]? = some (.inr (.int, 200)) := by
  rcases (show i = 0 ∨ i = 1 ∨ i = 2 ∨ i = 3 ∨ i = 4 ∨ i = 5 ∨ i = 6 ∨ i = 7 ∨ i = 8 ∨ i = 9 ∨ i = 10 ∨ i = 11 ∨ i = 12 ∨ i = 13 ∨ i = 14 ∨ i = 15 ∨ i = 16 ∨ i = 17 ∨ i = 18 ∨ i = 19 by omega) with rfl | rfl | rfl | rfl | rfl | rfl | rfl | rfl | rfl | rfl | rfl | rfl | rfl | rfl | rfl | rfl | rfl | rfl | rfl | rfl <;> decide +kernel
theorem krow_57 {i : Int} (h0 : 0 ≤ i) (h1 : i < 5) : K0[(58 + i).toNat]? = some (.inr (.int, 100)) := by
  rcases (show i = 0 ∨ i = 1 ∨ i = 2 ∨ i = 3 ∨ i = 4 by omega) with rfl | rfl | rfl | rfl | rfl <;> decide +kernel
theorem krow_101 {i : Int} (h0 : 0 ≤ i) (h1 : i < 13) : K0[(102 + i).toNat]? = some (.inr (.int, 13)) := by
  rcases (show i = 0 ∨ i = 1 ∨ i = 2 ∨ i = 3 ∨ i = 4 ∨ i = 5 ∨ i = 6 ∨ i = 7 ∨ i = 8 ∨ i = 9 ∨ i = 10 ∨ i = 11 ∨ i = 12 by omega) with rfl | rfl | rfl | rfl | rfl | rfl | rfl | rfl | rfl | rfl | rfl | rfl | rfl <;> decide +kernel
