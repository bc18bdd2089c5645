/-! ===== the constructors: all cells made (written by wip/whole/p84.py) ===== -/
/-- what a cell holds when it is made -/
def hz : AH := fun a b => match K0[a.toNat]? with
  | some (.inl ci) => dfl (tyF ci b.toNat)
  | some (.inr (.array _, _)) => a + 1 + b
  | _ => 0
def putL (Ls : List (Int × Int × Int)) (h : AH) : AH := Ls.foldr (fun e g => hset g e.1 e.2.1 e.2.2) h
theorem putL_app {L2 L1 : List (Int × Int × Int)} {h : AH} : putL L2 (putL L1 h) = putL (L2 ++ L1) h := by
  unfold putL
  rw [List.foldr_append]
theorem putL_no {Ls : List (Int × Int × Int)} {h : AH} {c : Int} (q : ∀ e ∈ Ls, e.1 ≠ c) {j : Int} : putL Ls h c j = h c j := by
  induction Ls with
  | nil => rfl
  | cons e Ls ih =>
    show hset (putL Ls h) e.1 e.2.1 e.2.2 c j = _
    rw [hset_c (fun z => q e List.mem_cons_self z.symm)]
    exact ih (fun e' h' => q e' (List.mem_cons_of_mem _ h'))
theorem putL_f {Ls : List (Int × Int × Int)} {h : AH} {c j : Int} (q : ∀ e ∈ Ls, ¬ (e.1 = c ∧ e.2.1 = j)) : putL Ls h c j = h c j := by
  induction Ls with
  | nil => rfl
  | cons e Ls ih =>
    show hset (putL Ls h) e.1 e.2.1 e.2.2 c j = _
    rw [hset_ne _ (fun z => q e List.mem_cons_self ⟨z.1.symm, z.2.symm⟩)]
    exact ih (fun e' h' => q e' (List.mem_cons_of_mem _ h'))
/-- the last put at a place -/
def lkP (c j : Int) : List (Int × Int × Int) → Option Int
  | [] => none
  | e :: Ls => if e.1 = c ∧ e.2.1 = j then some e.2.2 else lkP c j Ls
theorem putL_at {Ls : List (Int × Int × Int)} {h : AH} {c j z : Int} (q : lkP c j Ls = some z) : putL Ls h c j = z := by
  induction Ls with
  | nil => cases q
  | cons e Ls ih =>
    show hset (putL Ls h) e.1 e.2.1 e.2.2 c j = _
    unfold lkP at q
    by_cases y : e.1 = c ∧ e.2.1 = j
    · rw [if_pos y] at q
      rw [← y.1, ← y.2, hset_same]
      exact Option.some.inj q
    · rw [if_neg y] at q
      rw [hset_ne _ (fun z => y ⟨z.1.symm, z.2.symm⟩)]
      exact ih q
theorem putL_fil {Ls : List (Int × Int × Int)} {h : AH} {c n x : Int} (q : ∀ e ∈ Ls, e.1 ≠ c) : putL Ls (hfil h c n x) = hfil (putL Ls h) c n x := by
  induction Ls with
  | nil => rfl
  | cons e Ls ih =>
    have hne := q e List.mem_cons_self
    show hset (putL Ls (hfil h c n x)) e.1 e.2.1 e.2.2 = hfil (hset (putL Ls h) e.1 e.2.1 e.2.2) c n x
    rw [ih (fun e' h' => q e' (List.mem_cons_of_mem _ h'))]
    funext u v
    show (if u = e.1 ∧ v = e.2.1 then e.2.2 else (if u = c ∧ 0 ≤ v ∧ v < n then x else putL Ls h u v)) = (if u = c ∧ 0 ≤ v ∧ v < n then x else (if u = e.1 ∧ v = e.2.1 then e.2.2 else putL Ls h u v))
    by_cases y : u = e.1 ∧ v = e.2.1
    · rw [if_pos y, if_neg (fun z => hne (y.1.symm.trans z.1)), if_pos y]
    · rw [if_neg y]
      by_cases y2 : u = c ∧ 0 ≤ v ∧ v < n
      · rw [if_pos y2, if_pos y2]
      · rw [if_neg y2, if_neg y2, if_neg y]
/-- from cell n on all is as it is made -/
def Fz (n : Int) (h : AH) : Prop := ∀ c j, n ≤ c → h c j = hz c j
theorem Fz_m {n m : Int} {h : AH} (f : Fz n h) (q : n ≤ m) : Fz m h := fun c j hc => f c j (Int.le_trans q hc)
theorem Fz_p {n : Int} {h : AH} {Ls : List (Int × Int × Int)} (f : Fz n h) (q : ∀ e ∈ Ls, e.1 < n) : Fz n (putL Ls h) := fun c j hc => (putL_no (fun e he z => by have := q e he; omega)).trans (f c j hc)
theorem Fz_f {n c k x : Int} {h : AH} (f : Fz n h) (q : c < n) : Fz n (hfil h c k x) := fun a b ha => (hfil_c (by omega)).trans (f a b ha)
theorem kt {n : Nat} {c : Int} {k : Kd} (h : K0[c.toNat]? = some k) (hc : c.toNat < n) : (K0.take n)[c.toNat]? = some k := by
  rw [List.getElem?_take_of_lt hc]
  exact h
theorem kl {n : Nat} (h : n ≤ 178) : (K0.take n).length = n := by
  rw [List.length_take]
  have : K0.length = 178 := by decide +kernel
  omega
theorem kne {n : Nat} (h : n < 178) (e : K0.take n = K0) : False := by
  have h1 := kl (n := n) (by omega)
  rw [e] at h1
  have : K0.length = 178 := by decide +kernel
  omega
theorem ktk {n : Nat} {k : Kd} (h : K0[n]? = some k) : K0.take n ++ [k] = K0.take (n + 1) := by
  rw [List.take_add_one, h]
  rfl
section NRULES
variable {l : Launch} {G : GG} {M : MI} {d mc ms n1 n2 : Nat} {pc : Nat} {L st : List AV} {h : AH} {Q : Option AV → List Kd → AH → Prop}
theorem vhe {K : List Kd} {h' : AH} (e : h' = h) (k : V l G M d mc ms n1 n2 K pc L st h' Q) : V l G M d mc ms n1 n2 K pc L st h Q := e ▸ k
theorem n_arr {n N : Nat} {atype : ArrayType} {t : FieldType} (hdg : decode M.2.1 pc = .ok (.newarray atype, 2)) (hk : K0[n]? = some (.inr (t, N))) (hn : n < 177) (ht : newarray.typeOf atype = t) (hw : Cond.arrayClass t ∈ Tb) (hm : t ∈ ([.int, .long, .byte, .boolean, .array .int] : List FieldType))
    (hra : ∀ (U : State) (c : ClassId), va_RA U c t → U.vm.findClass ("[" ++ t.toString) = some c) (hg : gdT t = true) (hN : N * componentBytes t ≤ 536870912) (hn3 : ¬ Int32.ofInt (N : Int) < 0 ∧ (Int32.ofInt (N : Int)).toNatClampNeg = N)
    (hz9 : ∀ j : Nat, j < N → h (n : Int) j = dfl t) (h1 : n1 + 1 ≤ mc) (h2 : n2 + N ≤ ms) (k : V l G M d mc ms (n1 + 1) (n2 + N) (K0.take (n + 1)) (pc + 2) L ((2, (n : Int)) :: st) h Q) : V l G M d mc ms n1 n2 (K0.take n) pc L ((0, (N : Int)) :: st) h Q := by
  have e := kl (n := n) (by omega)
  refine v_newarr hdg ht hw hm hra hg hN hn3 (by rw [e]; exact hz9) (fun q => ?_) h1 h2 ?_
  · rw [ktk hk] at q
    exact (kne (by omega) q).elim
  · rw [ktk hk, e]
    exact k
theorem n_obj {n ci idx : Nat} (hdg : decode M.2.1 pc = .ok (.new idx, 3)) (hk : K0[n]? = some (.inl ci)) (hn : n < 177) (hci : ci < 13) (hw : Cond.classLink M.1.cls idx (RF ci) ∈ Tb) (hi : Cond.instantiable (RF ci) (NF ci) ∈ Tb) (hini : Cond.initialized (RF ci) ∈ Tb) (hg : ∀ j, j < NF ci → gdT (tyF ci j) = true)
    (hz9 : ∀ j : Nat, j < NF ci → h (n : Int) j = dfl (tyF ci j)) (h1 : n1 + 1 ≤ mc) (h2 : n2 + NF ci ≤ ms) (k : V l G M d mc ms (n1 + 1) (n2 + NF ci) (K0.take (n + 1)) (pc + 3) L ((2, (n : Int)) :: st) h Q) : V l G M d mc ms n1 n2 (K0.take n) pc L st h Q := by
  have e := kl (n := n) (by omega)
  refine v_newobj hdg hci hw hi hini hg (by rw [e]; exact hz9) (fun q => ?_) h1 h2 ?_
  · rw [ktk hk] at q
    exact (kne (by omega) q).elim
  · rw [ktk hk, e]
    exact k
theorem n_mul {n idx a b m : Nat} (hdg : decode M.2.1 pc = .ok (.multianewarray idx 2, 4)) (hw : Cond.classLink M.1.cls idx "[[I" ∈ Tb) (hX : K0.take n ++ (.inr (.array .int, a) :: List.replicate a (.inr (.int, b))) = K0.take m) (hn : m < 178) (hnm : n ≤ m) (ha : ¬ Int32.ofInt (a : Int) < 0 ∧ (Int32.ofInt (a : Int)).toNatClampNeg = a) (hb : ¬ Int32.ofInt (b : Int) < 0 ∧ (Int32.ofInt (b : Int)).toNatClampNeg = b) (ha2 : a ≤ 1000) (hb2 : b ≤ 1000)
    (hz0 : ∀ j : Nat, j < a → h (n : Int) (j : Int) = (n : Int) + 1 + j) (hz1 : ∀ i : Nat, i < a → ∀ j : Nat, j < b → h ((n + (i + 1) : Nat) : Int) (j : Int) = 0) (h1 : n1 + (1 + a) ≤ mc) (h2 : n2 + (a + a * b) ≤ ms)
    (k : V l G M d mc ms (n1 + 1 + a) (n2 + a + a * b) (K0.take m) (pc + 4) L ((2, (n : Int)) :: st) h Q) : V l G M d mc ms n1 n2 (K0.take n) pc L ((0, (b : Int)) :: (0, (a : Int)) :: st) h Q := by
  have e := kl (n := n) (by omega)
  refine v_multi hdg hw ha hb ha2 hb2 (by rw [e]; exact hz0) (by rw [e]; exact hz1) (fun q => ?_) h1 h2 ?_
  · rw [hX] at q
    exact (kne hn q).elim
  · rw [hX, e]
    exact k
theorem n_putr {n ci j idx : Nat} {c ji x : Int} {Ls : List (Int × Int × Int)} (hdg : decode M.2.1 pc = .ok (.putfield idx, 3)) (hw : Cond.fieldLink M.1.cls idx (TF ci j).1 (TF ci j).2.1 (TF ci j).2.2.1 ∈ Tb) (hc : 0 ≤ c) (hk : K0[c.toNat]? = some (.inl ci)) (hcn : c.toNat < n) (hn : n < 178) (hj : j < NF ci) (hji : (j : Int) = ji) (ht : ptag (tyF ci j) = 2) (hfin : (TF ci j).2.2.2 = false ∨ ((TF ci j).2.2.2 = true ∧ M.1.name = "<init>" ∧ (TF ci j).1 = M.1.cls))
    (k : V l G M d mc ms n1 n2 (K0.take n) (pc + 3) L st (putL ((c, ji, x) :: Ls) h) Q) : V l G M d mc ms n1 n2 (K0.take n) pc L ((2, x) :: (2, c) :: st) (putL Ls h) Q :=
  v_putr hdg hw hc (kt hk hcn) hj hji ht hfin (fun q => (kne hn q).elim) k
theorem n_puti {n ci j idx : Nat} {c ji x : Int} {Ls : List (Int × Int × Int)} (hdg : decode M.2.1 pc = .ok (.putfield idx, 3)) (hw : Cond.fieldLink M.1.cls idx (TF ci j).1 (TF ci j).2.1 (TF ci j).2.2.1 ∈ Tb) (hc : 0 ≤ c) (hk : K0[c.toNat]? = some (.inl ci)) (hcn : c.toNat < n) (hj : j < NF ci) (hji : (j : Int) = ji) (ht : tyF ci j = .int) (hfin : (TF ci j).2.2.2 = false)
    (k : V l G M d mc ms n1 n2 (K0.take n) (pc + 3) L st (putL ((c, ji, x) :: Ls) h) Q) : V l G M d mc ms n1 n2 (K0.take n) pc L ((0, x) :: (2, c) :: st) (putL Ls h) Q :=
  v_puti hdg hw hc (kt hk hcn) hj hji ht hfin k
theorem n_putf {n ci j idx : Nat} {c ji x : Int} {Ls : List (Int × Int × Int)} (hdg : decode M.2.1 pc = .ok (.putfield idx, 3)) (hw : Cond.fieldLink M.1.cls idx (TF ci j).1 (TF ci j).2.1 (TF ci j).2.2.1 ∈ Tb) (hc : 0 ≤ c) (hk : K0[c.toNat]? = some (.inl ci)) (hcn : c.toNat < n) (hj : j < NF ci) (hji : (j : Int) = ji) (ht : tyF ci j = .int) (hfin : (TF ci j).2.2.2 = true ∧ M.1.name = "<init>" ∧ (TF ci j).1 = M.1.cls)
    (k : V l G M d mc ms n1 n2 (K0.take n) (pc + 3) L st (putL ((c, ji, x) :: Ls) h) Q) : V l G M d mc ms n1 n2 (K0.take n) pc L ((0, x) :: (2, c) :: st) (putL Ls h) Q :=
  v_putiF hdg hw hc (kt hk hcn) hj hji ht hfin k
end NRULES

theorem hzo_0 : ∀ j : Nat, j < NF 11 → hz (0 : Int) (j : Int) = dfl (tyF 11 j) := fun j _ => by
  show dfl (tyF 11 ((j : Int).toNat)) = _
  rw [Int.toNat_natCast]
theorem hzo_1 : ∀ j : Nat, j < NF 7 → hz (1 : Int) (j : Int) = dfl (tyF 7 j) := fun j _ => by
  show dfl (tyF 7 ((j : Int).toNat)) = _
  rw [Int.toNat_natCast]
theorem hzo_4 : ∀ j : Nat, j < NF 0 → hz (4 : Int) (j : Int) = dfl (tyF 0 j) := fun j _ => by
  show dfl (tyF 0 ((j : Int).toNat)) = _
  rw [Int.toNat_natCast]
theorem hzo_5 : ∀ j : Nat, j < NF 4 → hz (5 : Int) (j : Int) = dfl (tyF 4 j) := fun j _ => by
  show dfl (tyF 4 ((j : Int).toNat)) = _
  rw [Int.toNat_natCast]
theorem hzo_6 : ∀ j : Nat, j < NF 8 → hz (6 : Int) (j : Int) = dfl (tyF 8 j) := fun j _ => by
  show dfl (tyF 8 ((j : Int).toNat)) = _
  rw [Int.toNat_natCast]
theorem hzo_7 : ∀ j : Nat, j < NF 1 → hz (7 : Int) (j : Int) = dfl (tyF 1 j) := fun j _ => by
  show dfl (tyF 1 ((j : Int).toNat)) = _
  rw [Int.toNat_natCast]
theorem hzo_12 : ∀ j : Nat, j < NF 1 → hz (12 : Int) (j : Int) = dfl (tyF 1 j) := fun j _ => by
  show dfl (tyF 1 ((j : Int).toNat)) = _
  rw [Int.toNat_natCast]
theorem hzo_38 : ∀ j : Nat, j < NF 2 → hz (38 : Int) (j : Int) = dfl (tyF 2 j) := fun j _ => by
  show dfl (tyF 2 ((j : Int).toNat)) = _
  rw [Int.toNat_natCast]
theorem hzo_41 : ∀ j : Nat, j < NF 6 → hz (41 : Int) (j : Int) = dfl (tyF 6 j) := fun j _ => by
  show dfl (tyF 6 ((j : Int).toNat)) = _
  rw [Int.toNat_natCast]
theorem hzo_53 : ∀ j : Nat, j < NF 3 → hz (53 : Int) (j : Int) = dfl (tyF 3 j) := fun j _ => by
  show dfl (tyF 3 ((j : Int).toNat)) = _
  rw [Int.toNat_natCast]
theorem hzo_70 : ∀ j : Nat, j < NF 3 → hz (70 : Int) (j : Int) = dfl (tyF 3 j) := fun j _ => by
  show dfl (tyF 3 ((j : Int).toNat)) = _
  rw [Int.toNat_natCast]
theorem hzo_81 : ∀ j : Nat, j < NF 10 → hz (81 : Int) (j : Int) = dfl (tyF 10 j) := fun j _ => by
  show dfl (tyF 10 ((j : Int).toNat)) = _
  rw [Int.toNat_natCast]
theorem hzo_87 : ∀ j : Nat, j < NF 5 → hz (87 : Int) (j : Int) = dfl (tyF 5 j) := fun j _ => by
  show dfl (tyF 5 ((j : Int).toNat)) = _
  rw [Int.toNat_natCast]
theorem hzo_97 : ∀ j : Nat, j < NF 9 → hz (97 : Int) (j : Int) = dfl (tyF 9 j) := fun j _ => by
  show dfl (tyF 9 ((j : Int).toNat)) = _
  rw [Int.toNat_natCast]
theorem hzo_116 : ∀ j : Nat, j < NF 12 → hz (116 : Int) (j : Int) = dfl (tyF 12 j) := fun j _ => by
  show dfl (tyF 12 ((j : Int).toNat)) = _
  rw [Int.toNat_natCast]
theorem hzr_16 : ∀ i : Nat, i < 20 → ∀ {j : Int}, hz ((16 + (i + 1) : Nat) : Int) j = 0 := by
  intro i hi j
  by_cases e0 : i = 0
  · subst e0; rfl
  by_cases e1 : i = 1
  · subst e1; rfl
  by_cases e2 : i = 2
  · subst e2; rfl
  by_cases e3 : i = 3
  · subst e3; rfl
  by_cases e4 : i = 4
  · subst e4; rfl
  by_cases e5 : i = 5
  · subst e5; rfl
  by_cases e6 : i = 6
  · subst e6; rfl
  by_cases e7 : i = 7
  · subst e7; rfl
  by_cases e8 : i = 8
  · subst e8; rfl
  by_cases e9 : i = 9
  · subst e9; rfl
  by_cases e10 : i = 10
  · subst e10; rfl
  by_cases e11 : i = 11
  · subst e11; rfl
  by_cases e12 : i = 12
  · subst e12; rfl
  by_cases e13 : i = 13
  · subst e13; rfl
  by_cases e14 : i = 14
  · subst e14; rfl
  by_cases e15 : i = 15
  · subst e15; rfl
  by_cases e16 : i = 16
  · subst e16; rfl
  by_cases e17 : i = 17
  · subst e17; rfl
  by_cases e18 : i = 18
  · subst e18; rfl
  by_cases e19 : i = 19
  · subst e19; rfl
  omega
theorem hzr_57 : ∀ i : Nat, i < 5 → ∀ {j : Int}, hz ((57 + (i + 1) : Nat) : Int) j = 0 := by
  intro i hi j
  by_cases e0 : i = 0
  · subst e0; rfl
  by_cases e1 : i = 1
  · subst e1; rfl
  by_cases e2 : i = 2
  · subst e2; rfl
  by_cases e3 : i = 3
  · subst e3; rfl
  by_cases e4 : i = 4
  · subst e4; rfl
  omega
theorem hzr_101 : ∀ i : Nat, i < 13 → ∀ {j : Int}, hz ((101 + (i + 1) : Nat) : Int) j = 0 := by
  intro i hi j
  by_cases e0 : i = 0
  · subst e0; rfl
  by_cases e1 : i = 1
  · subst e1; rfl
  by_cases e2 : i = 2
  · subst e2; rfl
  by_cases e3 : i = 3
  · subst e3; rfl
  by_cases e4 : i = 4
  · subst e4; rfl
  by_cases e5 : i = 5
  · subst e5; rfl
  by_cases e6 : i = 6
  · subst e6; rfl
  by_cases e7 : i = 7
  · subst e7; rfl
  by_cases e8 : i = 8
  · subst e8; rfl
  by_cases e9 : i = 9
  · subst e9; rfl
  by_cases e10 : i = 10
  · subst e10; rfl
  by_cases e11 : i = 11
  · subst e11; rfl
  by_cases e12 : i = 12
  · subst e12; rfl
  omega
set_option maxHeartbeats 4000000 in
set_option maxRecDepth 100000 in
theorem i_X7_init_2 {l : Launch} {G : GG} {d : Nat} {h : AH} {Q : Option AV → List Kd → AH → Prop} (hd : 2 ≤ d) (fz : Fz 2 h) (hq : Q none (K0.take 4) (putL [(1, 4, 3), (1, 3, (-1)), (1, 0, 2)] h)) : Sp l G mX7_init d 2 400 (K0.take 2) [(2, 1)] h Q := by
  refine sp_of (L := [(2, 1)]) pl_X7 (Nat.le_of_ble_eq_true rfl) (tg_c (by decide) tg_0) rfl ?_
  refine V_castL (show h = putL [] h from rfl) ?_
  refine v_aload_n dX7_init_0 rfl ?_
  refine v_obj dX7_init_1 k_130 (by omega) (by decide) ?_
  refine v_aload_n dX7_init_4 rfl ?_
  refine v_sipush dX7_init_5 (c32 rfl) (by decide) ?_
  refine n_arr (n := 2) (N := 200) (t := .int) dX7_init_8 (by decide +kernel) (by decide) rfl karr_int (by simp) (fun _ _ q => q) rfl (by decide) (by decide) (fun j hj => ((Fz_p (n := 2) (Fz_m (m := 2) fz (by decide)) (by decide)) 2 j (by decide)).trans rfl) (by decide) (by decide) ?_
  refine n_putr (n := 3) (ci := 7) (j := 0) (ji := 0) dX7_init_10 k_131 (by decide) kk_1 (by decide) (by decide) (by decide) rfl rfl (by first | exact Or.inl rfl | exact Or.inr ⟨rfl, rfl, rfl⟩) ?_
  refine v_aload_n dX7_init_13 rfl ?_
  refine v_iconst dX7_init_14 (c32 rfl) ?_
  first
  | refine n_puti (n := 3) (ci := 7) (j := 3) (ji := 3) dX7_init_15 k_135 (by decide) kk_1 (by decide) (by decide) rfl rfl rfl ?_
  | refine n_putf (n := 3) (ci := 7) (j := 3) (ji := 3) dX7_init_15 k_135 (by decide) kk_1 (by decide) (by decide) rfl rfl ⟨rfl, rfl, rfl⟩ ?_
  refine v_aload_n dX7_init_18 rfl ?_
  refine v_sipush dX7_init_19 (c32 rfl) (by decide) ?_
  refine n_arr (n := 3) (N := 200) (t := .int) dX7_init_22 (by decide +kernel) (by decide) rfl karr_int (by simp) (fun _ _ q => q) rfl (by decide) (by decide) (fun j hj => ((Fz_p (n := 3) (Fz_m (m := 3) fz (by decide)) (by decide)) 3 j (by decide)).trans rfl) (by decide) (by decide) ?_
  refine n_putr (n := 4) (ci := 7) (j := 4) (ji := 4) dX7_init_24 k_136 (by decide) kk_1 (by decide) (by decide) (by decide) rfl rfl (by first | exact Or.inl rfl | exact Or.inr ⟨rfl, rfl, rfl⟩) ?_
  refine v_vret dX7_init_27 rfl (by decide) (by decide) ?_
  exact hq

set_option maxHeartbeats 4000000 in
set_option maxRecDepth 100000 in
theorem i_X1_init_8 {l : Launch} {G : GG} {d : Nat} {h : AH} {Q : Option AV → List Kd → AH → Prop} (hd : 2 ≤ d) (fz : Fz 8 h) (hq : Q none (K0.take 11) (putL [(7, 3, 10), (7, 2, 9), (7, 1, 8), (7, 0, 40)] h)) : Sp l G mX1_init d 3 120 (K0.take 8) [(2, 7), (0, 40)] h Q := by
  refine sp_of (L := [(2, 7), (0, 40)]) pl_X1 (Nat.le_of_ble_eq_true rfl) (tg_c (by decide) (tg_c (by decide) tg_0)) rfl ?_
  refine V_castL (show h = putL [] h from rfl) ?_
  refine v_aload_n dX1_init_0 rfl ?_
  refine v_obj dX1_init_1 k_177 (by omega) (by decide) ?_
  refine v_aload_n dX1_init_4 rfl ?_
  refine v_iload_n dX1_init_5 rfl ?_
  refine v_if_le_f (tgt := 13) dX1_init_6 (by decide) (by decide) ?_
  refine v_iload_n dX1_init_9 rfl ?_
  refine v_goto (tgt := 14) dX1_init_10 (by decide) ?_
  first
  | refine n_puti (n := 8) (ci := 1) (j := 0) (ji := 0) dX1_init_14 k_178 (by decide) kk_7 (by decide) (by decide) rfl rfl rfl ?_
  | refine n_putf (n := 8) (ci := 1) (j := 0) (ji := 0) dX1_init_14 k_178 (by decide) kk_7 (by decide) (by decide) rfl rfl ⟨rfl, rfl, rfl⟩ ?_
  refine v_aload_n dX1_init_17 rfl ?_
  refine v_aload_n dX1_init_18 rfl ?_
  refine v_getv (ci := 1) (j := 0) (ji := 0) (tg := 0) dX1_init_19 k_178 (by decide) (kt kk_7 (by decide)) (by decide) rfl rfl (by decide) (putL_at (show lkP 7 0 [(7, 0, 40)] = some (40) from by decide)) ?_
  refine n_arr (n := 8) (N := 40) (t := .int) dX1_init_22 (by decide +kernel) (by decide) rfl karr_int (by simp) (fun _ _ q => q) rfl (by decide) (by decide) (fun j hj => ((Fz_p (n := 8) (Fz_m (m := 8) fz (by decide)) (by decide)) 8 j (by decide)).trans rfl) (by decide) (by decide) ?_
  refine n_putr (n := 9) (ci := 1) (j := 1) (ji := 1) dX1_init_24 k_179 (by decide) kk_7 (by decide) (by decide) (by decide) rfl rfl (by first | exact Or.inl rfl | exact Or.inr ⟨rfl, rfl, rfl⟩) ?_
  refine v_aload_n dX1_init_27 rfl ?_
  refine v_aload_n dX1_init_28 rfl ?_
  refine v_getv (ci := 1) (j := 0) (ji := 0) (tg := 0) dX1_init_29 k_178 (by decide) (kt kk_7 (by decide)) (by decide) rfl rfl (by decide) (putL_at (show lkP 7 0 [(7, 1, 8), (7, 0, 40)] = some (40) from by decide)) ?_
  refine n_arr (n := 9) (N := 40) (t := .int) dX1_init_32 (by decide +kernel) (by decide) rfl karr_int (by simp) (fun _ _ q => q) rfl (by decide) (by decide) (fun j hj => ((Fz_p (n := 9) (Fz_m (m := 9) fz (by decide)) (by decide)) 9 j (by decide)).trans rfl) (by decide) (by decide) ?_
  refine n_putr (n := 10) (ci := 1) (j := 2) (ji := 2) dX1_init_34 k_180 (by decide) kk_7 (by decide) (by decide) (by decide) rfl rfl (by first | exact Or.inl rfl | exact Or.inr ⟨rfl, rfl, rfl⟩) ?_
  refine v_aload_n dX1_init_37 rfl ?_
  refine v_aload_n dX1_init_38 rfl ?_
  refine v_getv (ci := 1) (j := 0) (ji := 0) (tg := 0) dX1_init_39 k_178 (by decide) (kt kk_7 (by decide)) (by decide) rfl rfl (by decide) (putL_at (show lkP 7 0 [(7, 2, 9), (7, 1, 8), (7, 0, 40)] = some (40) from by decide)) ?_
  refine n_arr (n := 10) (N := 40) (t := .int) dX1_init_42 (by decide +kernel) (by decide) rfl karr_int (by simp) (fun _ _ q => q) rfl (by decide) (by decide) (fun j hj => ((Fz_p (n := 10) (Fz_m (m := 10) fz (by decide)) (by decide)) 10 j (by decide)).trans rfl) (by decide) (by decide) ?_
  refine n_putr (n := 11) (ci := 1) (j := 3) (ji := 3) dX1_init_44 k_181 (by decide) kk_7 (by decide) (by decide) (by decide) rfl rfl (by first | exact Or.inl rfl | exact Or.inr ⟨rfl, rfl, rfl⟩) ?_
  refine v_vret dX1_init_47 rfl (by decide) (by decide) ?_
  exact hq

set_option maxHeartbeats 4000000 in
set_option maxRecDepth 100000 in
theorem i_X1_init_13 {l : Launch} {G : GG} {d : Nat} {h : AH} {Q : Option AV → List Kd → AH → Prop} (hd : 2 ≤ d) (fz : Fz 13 h) (hq : Q none (K0.take 16) (putL [(12, 3, 15), (12, 2, 14), (12, 1, 13), (12, 0, 20)] h)) : Sp l G mX1_init d 3 60 (K0.take 13) [(2, 12), (0, 20)] h Q := by
  refine sp_of (L := [(2, 12), (0, 20)]) pl_X1 (Nat.le_of_ble_eq_true rfl) (tg_c (by decide) (tg_c (by decide) tg_0)) rfl ?_
  refine V_castL (show h = putL [] h from rfl) ?_
  refine v_aload_n dX1_init_0 rfl ?_
  refine v_obj dX1_init_1 k_177 (by omega) (by decide) ?_
  refine v_aload_n dX1_init_4 rfl ?_
  refine v_iload_n dX1_init_5 rfl ?_
  refine v_if_le_f (tgt := 13) dX1_init_6 (by decide) (by decide) ?_
  refine v_iload_n dX1_init_9 rfl ?_
  refine v_goto (tgt := 14) dX1_init_10 (by decide) ?_
  first
  | refine n_puti (n := 13) (ci := 1) (j := 0) (ji := 0) dX1_init_14 k_178 (by decide) kk_12 (by decide) (by decide) rfl rfl rfl ?_
  | refine n_putf (n := 13) (ci := 1) (j := 0) (ji := 0) dX1_init_14 k_178 (by decide) kk_12 (by decide) (by decide) rfl rfl ⟨rfl, rfl, rfl⟩ ?_
  refine v_aload_n dX1_init_17 rfl ?_
  refine v_aload_n dX1_init_18 rfl ?_
  refine v_getv (ci := 1) (j := 0) (ji := 0) (tg := 0) dX1_init_19 k_178 (by decide) (kt kk_12 (by decide)) (by decide) rfl rfl (by decide) (putL_at (show lkP 12 0 [(12, 0, 20)] = some (20) from by decide)) ?_
  refine n_arr (n := 13) (N := 20) (t := .int) dX1_init_22 (by decide +kernel) (by decide) rfl karr_int (by simp) (fun _ _ q => q) rfl (by decide) (by decide) (fun j hj => ((Fz_p (n := 13) (Fz_m (m := 13) fz (by decide)) (by decide)) 13 j (by decide)).trans rfl) (by decide) (by decide) ?_
  refine n_putr (n := 14) (ci := 1) (j := 1) (ji := 1) dX1_init_24 k_179 (by decide) kk_12 (by decide) (by decide) (by decide) rfl rfl (by first | exact Or.inl rfl | exact Or.inr ⟨rfl, rfl, rfl⟩) ?_
  refine v_aload_n dX1_init_27 rfl ?_
  refine v_aload_n dX1_init_28 rfl ?_
  refine v_getv (ci := 1) (j := 0) (ji := 0) (tg := 0) dX1_init_29 k_178 (by decide) (kt kk_12 (by decide)) (by decide) rfl rfl (by decide) (putL_at (show lkP 12 0 [(12, 1, 13), (12, 0, 20)] = some (20) from by decide)) ?_
  refine n_arr (n := 14) (N := 20) (t := .int) dX1_init_32 (by decide +kernel) (by decide) rfl karr_int (by simp) (fun _ _ q => q) rfl (by decide) (by decide) (fun j hj => ((Fz_p (n := 14) (Fz_m (m := 14) fz (by decide)) (by decide)) 14 j (by decide)).trans rfl) (by decide) (by decide) ?_
  refine n_putr (n := 15) (ci := 1) (j := 2) (ji := 2) dX1_init_34 k_180 (by decide) kk_12 (by decide) (by decide) (by decide) rfl rfl (by first | exact Or.inl rfl | exact Or.inr ⟨rfl, rfl, rfl⟩) ?_
  refine v_aload_n dX1_init_37 rfl ?_
  refine v_aload_n dX1_init_38 rfl ?_
  refine v_getv (ci := 1) (j := 0) (ji := 0) (tg := 0) dX1_init_39 k_178 (by decide) (kt kk_12 (by decide)) (by decide) rfl rfl (by decide) (putL_at (show lkP 12 0 [(12, 2, 14), (12, 1, 13), (12, 0, 20)] = some (20) from by decide)) ?_
  refine n_arr (n := 15) (N := 20) (t := .int) dX1_init_42 (by decide +kernel) (by decide) rfl karr_int (by simp) (fun _ _ q => q) rfl (by decide) (by decide) (fun j hj => ((Fz_p (n := 15) (Fz_m (m := 15) fz (by decide)) (by decide)) 15 j (by decide)).trans rfl) (by decide) (by decide) ?_
  refine n_putr (n := 16) (ci := 1) (j := 3) (ji := 3) dX1_init_44 k_181 (by decide) kk_12 (by decide) (by decide) (by decide) rfl rfl (by first | exact Or.inl rfl | exact Or.inr ⟨rfl, rfl, rfl⟩) ?_
  refine v_vret dX1_init_47 rfl (by decide) (by decide) ?_
  exact hq

set_option maxHeartbeats 4000000 in
set_option maxRecDepth 100000 in
theorem i_X2_init_39 {l : Launch} {G : GG} {d : Nat} {h : AH} {Q : Option AV → List Kd → AH → Prop} (hd : 2 ≤ d) (fz : Fz 39 h) (hq : Q none (K0.take 40) (putL [(38, 0, 39)] h)) : Sp l G mX2_init d 1 8 (K0.take 39) [(2, 38)] h Q := by
  refine sp_of (L := [(2, 38)]) pl_X2 (Nat.le_of_ble_eq_true rfl) (tg_c (by decide) tg_0) rfl ?_
  refine V_castL (show h = putL [] h from rfl) ?_
  refine v_aload_n dX2_init_0 rfl ?_
  refine v_obj dX2_init_1 k_202 (by omega) (by decide) ?_
  refine v_aload_n dX2_init_4 rfl ?_
  refine v_bipush dX2_init_5 (c32 rfl) (by decide) ?_
  refine n_arr (n := 39) (N := 8) (t := .int) dX2_init_7 (by decide +kernel) (by decide) rfl karr_int (by simp) (fun _ _ q => q) rfl (by decide) (by decide) (fun j hj => ((Fz_p (n := 39) (Fz_m (m := 39) fz (by decide)) (by decide)) 39 j (by decide)).trans rfl) (by decide) (by decide) ?_
  refine n_putr (n := 40) (ci := 2) (j := 0) (ji := 0) dX2_init_9 k_203 (by decide) kk_38 (by decide) (by decide) (by decide) rfl rfl (by first | exact Or.inl rfl | exact Or.inr ⟨rfl, rfl, rfl⟩) ?_
  refine v_vret dX2_init_12 rfl (by decide) (by decide) ?_
  exact hq

set_option maxHeartbeats 4000000 in
set_option maxRecDepth 100000 in
theorem i_X8_init_7 {l : Launch} {G : GG} {d : Nat} {h : AH} {Q : Option AV → List Kd → AH → Prop} (hd : 3 ≤ d) (fz : Fz 7 h) (hq : Q none (K0.take 41) (putL [(6, 6, 40), (6, 5, 38), (38, 0, 39), (6, 4, 37), (6, 3, 16), (6, 2, 12), (12, 3, 15), (12, 2, 14), (12, 1, 13), (12, 0, 20), (6, 1, 11), (6, 0, 7), (7, 3, 10), (7, 2, 9), (7, 1, 8), (7, 0, 40)] h)) : Sp l G mX8_init d 34 4350 (K0.take 7) [(2, 6)] h Q := by
  refine sp_of (L := [(2, 6)]) pl_X8 (Nat.le_of_ble_eq_true rfl) (tg_c (by decide) tg_0) rfl ?_
  refine V_castL (show h = putL [] h from rfl) ?_
  refine v_aload_n dX8_init_0 rfl ?_
  refine v_obj dX8_init_1 k_171 (by omega) (by decide) ?_
  refine v_aload_n dX8_init_4 rfl ?_
  refine n_obj (n := 7) (ci := 1) dX8_init_5 (by decide +kernel) (by decide) (by decide) k_172 knew_X1 kini_X1 (by decide) (fun j hj => ((Fz_p (n := 7) (Fz_m (m := 7) fz (by decide)) (by decide)) 7 j (by decide)).trans (hzo_7 j hj)) (by decide) (by decide) ?_
  refine v_dup dX8_init_8 rfl ?_
  refine v_bipush dX8_init_9 (c32 rfl) (by decide) ?_
  refine v_calli (M' := mX1_init) (d' := d - 1) (mc' := 3) (ms' := 120) (c := 7) (As := [_]) dX8_init_11 k_174 cm_X1_init (by omega) (by decide) rfl ⟨by decide, by decide⟩ (i_X1_init_8 (by omega) (Fz_p (n := 8) (Fz_m (m := 8) fz (by decide)) (by decide)) ?_)
  dsimp only [Option.toList, List.nil_append]
  rw [putL_app]
  change V _ _ _ _ _ _ _ _ _ _ _ _ (putL [(7, 3, 10), (7, 2, 9), (7, 1, 8), (7, 0, 40)] _) _
  refine n_putr (n := 11) (ci := 8) (j := 0) (ji := 0) dX8_init_14 k_230 (by decide) kk_6 (by decide) (by decide) (by decide) rfl rfl (by first | exact Or.inl rfl | exact Or.inr ⟨rfl, rfl, rfl⟩) ?_
  refine v_aload_n dX8_init_17 rfl ?_
  refine v_bipush dX8_init_18 (c32 rfl) (by decide) ?_
  refine n_arr (n := 11) (N := 40) (t := .int) dX8_init_20 (by decide +kernel) (by decide) rfl karr_int (by simp) (fun _ _ q => q) rfl (by decide) (by decide) (fun j hj => ((Fz_p (n := 11) (Fz_m (m := 11) fz (by decide)) (by decide)) 11 j (by decide)).trans rfl) (by decide) (by decide) ?_
  refine n_putr (n := 12) (ci := 8) (j := 1) (ji := 1) dX8_init_22 k_231 (by decide) kk_6 (by decide) (by decide) (by decide) rfl rfl (by first | exact Or.inl rfl | exact Or.inr ⟨rfl, rfl, rfl⟩) ?_
  refine v_aload_n dX8_init_25 rfl ?_
  refine n_obj (n := 12) (ci := 1) dX8_init_26 (by decide +kernel) (by decide) (by decide) k_172 knew_X1 kini_X1 (by decide) (fun j hj => ((Fz_p (n := 12) (Fz_m (m := 12) fz (by decide)) (by decide)) 12 j (by decide)).trans (hzo_12 j hj)) (by decide) (by decide) ?_
  refine v_dup dX8_init_29 rfl ?_
  refine v_bipush dX8_init_30 (c32 rfl) (by decide) ?_
  refine v_calli (M' := mX1_init) (d' := d - 1) (mc' := 3) (ms' := 60) (c := 12) (As := [_]) dX8_init_32 k_174 cm_X1_init (by omega) (by decide) rfl ⟨by decide, by decide⟩ (i_X1_init_13 (by omega) (Fz_p (n := 13) (Fz_m (m := 13) fz (by decide)) (by decide)) ?_)
  dsimp only [Option.toList, List.nil_append]
  rw [putL_app]
  change V _ _ _ _ _ _ _ _ _ _ _ _ (putL [(12, 3, 15), (12, 2, 14), (12, 1, 13), (12, 0, 20), (6, 1, 11), (6, 0, 7), (7, 3, 10), (7, 2, 9), (7, 1, 8), (7, 0, 40)] _) _
  refine n_putr (n := 16) (ci := 8) (j := 2) (ji := 2) dX8_init_35 k_232 (by decide) kk_6 (by decide) (by decide) (by decide) rfl rfl (by first | exact Or.inl rfl | exact Or.inr ⟨rfl, rfl, rfl⟩) ?_
  refine v_aload_n dX8_init_38 rfl ?_
  refine v_bipush dX8_init_39 (c32 rfl) (by decide) ?_
  refine v_sipush dX8_init_41 (c32 rfl) (by decide) ?_
  refine n_mul (n := 16) (a := 20) (b := 200) (m := 37) dX8_init_44 k_195 rfl (by decide) (by decide) (by decide) (by decide) (by decide) (by decide) (fun j hj => ((Fz_p (n := 16) (Fz_m (m := 16) fz (by decide)) (by decide)) 16 j (by decide)).trans rfl) (fun i hi j hj => ((Fz_p (n := 16) (Fz_m (m := 16) fz (by decide)) (by decide)) _ j (by omega)).trans (hzr_16 i hi)) (by decide) (by decide) ?_
  refine n_putr (n := 37) (ci := 8) (j := 3) (ji := 3) dX8_init_48 k_237 (by decide) kk_6 (by decide) (by decide) (by decide) rfl rfl (by first | exact Or.inl rfl | exact Or.inr ⟨rfl, rfl, rfl⟩) ?_
  refine v_aload_n dX8_init_51 rfl ?_
  refine v_bipush dX8_init_52 (c32 rfl) (by decide) ?_
  refine n_arr (n := 37) (N := 20) (t := .int) dX8_init_54 (by decide +kernel) (by decide) rfl karr_int (by simp) (fun _ _ q => q) rfl (by decide) (by decide) (fun j hj => ((Fz_p (n := 37) (Fz_m (m := 37) fz (by decide)) (by decide)) 37 j (by decide)).trans rfl) (by decide) (by decide) ?_
  refine n_putr (n := 38) (ci := 8) (j := 4) (ji := 4) dX8_init_56 k_238 (by decide) kk_6 (by decide) (by decide) (by decide) rfl rfl (by first | exact Or.inl rfl | exact Or.inr ⟨rfl, rfl, rfl⟩) ?_
  refine v_aload_n dX8_init_59 rfl ?_
  refine n_obj (n := 38) (ci := 2) dX8_init_60 (by decide +kernel) (by decide) (by decide) k_197 knew_X2 kini_X2 (by decide) (fun j hj => ((Fz_p (n := 38) (Fz_m (m := 38) fz (by decide)) (by decide)) 38 j (by decide)).trans (hzo_38 j hj)) (by decide) (by decide) ?_
  refine v_dup dX8_init_63 rfl ?_
  refine v_calliN (M' := mX2_init) (d' := d - 1) (mc' := 1) (ms' := 8) (c := 38) (As := []) dX8_init_64 k_199 cm_X2_init (by omega) (by decide) rfl ⟨by decide, by decide⟩ (i_X2_init_39 (by omega) (Fz_p (n := 39) (Fz_m (m := 39) fz (by decide)) (by decide)) ?_)
  dsimp only [Option.toList, List.nil_append]
  rw [putL_app]
  change V _ _ _ _ _ _ _ _ _ _ _ _ (putL [(38, 0, 39), (6, 4, 37), (6, 3, 16), (6, 2, 12), (12, 3, 15), (12, 2, 14), (12, 1, 13), (12, 0, 20), (6, 1, 11), (6, 0, 7), (7, 3, 10), (7, 2, 9), (7, 1, 8), (7, 0, 40)] _) _
  refine n_putr (n := 40) (ci := 8) (j := 5) (ji := 5) dX8_init_67 k_239 (by decide) kk_6 (by decide) (by decide) (by decide) rfl rfl (by first | exact Or.inl rfl | exact Or.inr ⟨rfl, rfl, rfl⟩) ?_
  refine v_aload_n dX8_init_70 rfl ?_
  refine v_bipush dX8_init_71 (c32 rfl) (by decide) ?_
  refine n_arr (n := 40) (N := 64) (t := .int) dX8_init_73 (by decide +kernel) (by decide) rfl karr_int (by simp) (fun _ _ q => q) rfl (by decide) (by decide) (fun j hj => ((Fz_p (n := 40) (Fz_m (m := 40) fz (by decide)) (by decide)) 40 j (by decide)).trans rfl) (by decide) (by decide) ?_
  refine n_putr (n := 41) (ci := 8) (j := 6) (ji := 6) dX8_init_75 k_243 (by decide) kk_6 (by decide) (by decide) (by decide) rfl rfl (by first | exact Or.inl rfl | exact Or.inr ⟨rfl, rfl, rfl⟩) ?_
  refine v_vret dX8_init_78 rfl (by decide) (by decide) ?_
  exact hq

set_option maxHeartbeats 4000000 in
set_option maxRecDepth 100000 in
theorem i_X3_init_54 {l : Launch} {G : GG} {d : Nat} {h : AH} {Q : Option AV → List Kd → AH → Prop} (hd : 2 ≤ d) (fz : Fz 54 h) (hq : Q none (K0.take 57) (putL [(53, 2, 56), (53, 1, 55), (53, 0, 54)] h)) : Sp l G mX3_init d 3 300 (K0.take 54) [(2, 53)] h Q := by
  refine sp_of (L := [(2, 53)]) pl_X3 (Nat.le_of_ble_eq_true rfl) (tg_c (by decide) tg_0) rfl ?_
  refine V_castL (show h = putL [] h from rfl) ?_
  refine v_aload_n dX3_init_0 rfl ?_
  refine v_obj dX3_init_1 k_273 (by omega) (by decide) ?_
  refine v_aload_n dX3_init_4 rfl ?_
  refine v_bipush dX3_init_5 (c32 rfl) (by decide) ?_
  refine n_arr (n := 54) (N := 100) (t := .int) dX3_init_7 (by decide +kernel) (by decide) rfl karr_int (by simp) (fun _ _ q => q) rfl (by decide) (by decide) (fun j hj => ((Fz_p (n := 54) (Fz_m (m := 54) fz (by decide)) (by decide)) 54 j (by decide)).trans rfl) (by decide) (by decide) ?_
  refine n_putr (n := 55) (ci := 3) (j := 0) (ji := 0) dX3_init_9 k_274 (by decide) kk_53 (by decide) (by decide) (by decide) rfl rfl (by first | exact Or.inl rfl | exact Or.inr ⟨rfl, rfl, rfl⟩) ?_
  refine v_aload_n dX3_init_12 rfl ?_
  refine v_bipush dX3_init_13 (c32 rfl) (by decide) ?_
  refine n_arr (n := 55) (N := 100) (t := .int) dX3_init_15 (by decide +kernel) (by decide) rfl karr_int (by simp) (fun _ _ q => q) rfl (by decide) (by decide) (fun j hj => ((Fz_p (n := 55) (Fz_m (m := 55) fz (by decide)) (by decide)) 55 j (by decide)).trans rfl) (by decide) (by decide) ?_
  refine n_putr (n := 56) (ci := 3) (j := 1) (ji := 1) dX3_init_17 k_276 (by decide) kk_53 (by decide) (by decide) (by decide) rfl rfl (by first | exact Or.inl rfl | exact Or.inr ⟨rfl, rfl, rfl⟩) ?_
  refine v_aload_n dX3_init_20 rfl ?_
  refine v_bipush dX3_init_21 (c32 rfl) (by decide) ?_
  refine n_arr (n := 56) (N := 100) (t := .int) dX3_init_23 (by decide +kernel) (by decide) rfl karr_int (by simp) (fun _ _ q => q) rfl (by decide) (by decide) (fun j hj => ((Fz_p (n := 56) (Fz_m (m := 56) fz (by decide)) (by decide)) 56 j (by decide)).trans rfl) (by decide) (by decide) ?_
  refine n_putr (n := 57) (ci := 3) (j := 2) (ji := 2) dX3_init_25 k_278 (by decide) kk_53 (by decide) (by decide) (by decide) rfl rfl (by first | exact Or.inl rfl | exact Or.inr ⟨rfl, rfl, rfl⟩) ?_
  refine v_vret dX3_init_28 rfl (by decide) (by decide) ?_
  exact hq

set_option maxHeartbeats 4000000 in
set_option maxRecDepth 100000 in
theorem i_X6_init_42 {l : Launch} {G : GG} {d : Nat} {h : AH} {Q : Option AV → List Kd → AH → Prop} (hd : 3 ≤ d) (fz : Fz 42 h) (hq : Q none (K0.take 57) (putL [(41, 11, 53), (53, 2, 56), (53, 1, 55), (53, 0, 54), (41, 10, 52), (41, 9, 51), (41, 8, 50), (41, 7, 49), (41, 6, 48), (41, 5, 47), (41, 4, 46), (41, 3, 45), (41, 2, 44), (41, 1, 43), (41, 0, 42)] h)) : Sp l G mX6_init d 15 2404 (K0.take 42) [(2, 41)] h Q := by
  refine sp_of (L := [(2, 41)]) pl_X6 (Nat.le_of_ble_eq_true rfl) (tg_c (by decide) tg_0) rfl ?_
  refine V_castL (show h = putL [] h from rfl) ?_
  refine v_aload_n dX6_init_0 rfl ?_
  refine v_obj dX6_init_1 k_267 (by omega) (by decide) ?_
  refine v_aload_n dX6_init_4 rfl ?_
  refine v_bipush dX6_init_5 (c32 rfl) (by decide) ?_
  refine n_arr (n := 42) (N := 100) (t := .int) dX6_init_7 (by decide +kernel) (by decide) rfl karr_int (by simp) (fun _ _ q => q) rfl (by decide) (by decide) (fun j hj => ((Fz_p (n := 42) (Fz_m (m := 42) fz (by decide)) (by decide)) 42 j (by decide)).trans rfl) (by decide) (by decide) ?_
  refine n_putr (n := 43) (ci := 6) (j := 0) (ji := 0) dX6_init_9 k_291 (by decide) kk_41 (by decide) (by decide) (by decide) rfl rfl (by first | exact Or.inl rfl | exact Or.inr ⟨rfl, rfl, rfl⟩) ?_
  refine v_aload_n dX6_init_12 rfl ?_
  refine v_bipush dX6_init_13 (c32 rfl) (by decide) ?_
  refine n_arr (n := 43) (N := 100) (t := .int) dX6_init_15 (by decide +kernel) (by decide) rfl karr_int (by simp) (fun _ _ q => q) rfl (by decide) (by decide) (fun j hj => ((Fz_p (n := 43) (Fz_m (m := 43) fz (by decide)) (by decide)) 43 j (by decide)).trans rfl) (by decide) (by decide) ?_
  refine n_putr (n := 44) (ci := 6) (j := 1) (ji := 1) dX6_init_17 k_294 (by decide) kk_41 (by decide) (by decide) (by decide) rfl rfl (by first | exact Or.inl rfl | exact Or.inr ⟨rfl, rfl, rfl⟩) ?_
  refine v_aload_n dX6_init_20 rfl ?_
  refine v_bipush dX6_init_21 (c32 rfl) (by decide) ?_
  refine n_arr (n := 44) (N := 100) (t := .int) dX6_init_23 (by decide +kernel) (by decide) rfl karr_int (by simp) (fun _ _ q => q) rfl (by decide) (by decide) (fun j hj => ((Fz_p (n := 44) (Fz_m (m := 44) fz (by decide)) (by decide)) 44 j (by decide)).trans rfl) (by decide) (by decide) ?_
  refine n_putr (n := 45) (ci := 6) (j := 2) (ji := 2) dX6_init_25 k_297 (by decide) kk_41 (by decide) (by decide) (by decide) rfl rfl (by first | exact Or.inl rfl | exact Or.inr ⟨rfl, rfl, rfl⟩) ?_
  refine v_aload_n dX6_init_28 rfl ?_
  refine v_bipush dX6_init_29 (c32 rfl) (by decide) ?_
  refine n_arr (n := 45) (N := 100) (t := .int) dX6_init_31 (by decide +kernel) (by decide) rfl karr_int (by simp) (fun _ _ q => q) rfl (by decide) (by decide) (fun j hj => ((Fz_p (n := 45) (Fz_m (m := 45) fz (by decide)) (by decide)) 45 j (by decide)).trans rfl) (by decide) (by decide) ?_
  refine n_putr (n := 46) (ci := 6) (j := 3) (ji := 3) dX6_init_33 k_298 (by decide) kk_41 (by decide) (by decide) (by decide) rfl rfl (by first | exact Or.inl rfl | exact Or.inr ⟨rfl, rfl, rfl⟩) ?_
  refine v_aload_n dX6_init_36 rfl ?_
  refine v_bipush dX6_init_37 (c32 rfl) (by decide) ?_
  refine n_arr (n := 46) (N := 100) (t := .int) dX6_init_39 (by decide +kernel) (by decide) rfl karr_int (by simp) (fun _ _ q => q) rfl (by decide) (by decide) (fun j hj => ((Fz_p (n := 46) (Fz_m (m := 46) fz (by decide)) (by decide)) 46 j (by decide)).trans rfl) (by decide) (by decide) ?_
  refine n_putr (n := 47) (ci := 6) (j := 4) (ji := 4) dX6_init_41 k_301 (by decide) kk_41 (by decide) (by decide) (by decide) rfl rfl (by first | exact Or.inl rfl | exact Or.inr ⟨rfl, rfl, rfl⟩) ?_
  refine v_aload_n dX6_init_44 rfl ?_
  refine v_bipush dX6_init_45 (c32 rfl) (by decide) ?_
  refine n_arr (n := 47) (N := 100) (t := .int) dX6_init_47 (by decide +kernel) (by decide) rfl karr_int (by simp) (fun _ _ q => q) rfl (by decide) (by decide) (fun j hj => ((Fz_p (n := 47) (Fz_m (m := 47) fz (by decide)) (by decide)) 47 j (by decide)).trans rfl) (by decide) (by decide) ?_
  refine n_putr (n := 48) (ci := 6) (j := 5) (ji := 5) dX6_init_49 k_304 (by decide) kk_41 (by decide) (by decide) (by decide) rfl rfl (by first | exact Or.inl rfl | exact Or.inr ⟨rfl, rfl, rfl⟩) ?_
  refine v_aload_n dX6_init_52 rfl ?_
  refine v_bipush dX6_init_53 (c32 rfl) (by decide) ?_
  refine n_arr (n := 48) (N := 100) (t := .int) dX6_init_55 (by decide +kernel) (by decide) rfl karr_int (by simp) (fun _ _ q => q) rfl (by decide) (by decide) (fun j hj => ((Fz_p (n := 48) (Fz_m (m := 48) fz (by decide)) (by decide)) 48 j (by decide)).trans rfl) (by decide) (by decide) ?_
  refine n_putr (n := 49) (ci := 6) (j := 6) (ji := 6) dX6_init_57 k_307 (by decide) kk_41 (by decide) (by decide) (by decide) rfl rfl (by first | exact Or.inl rfl | exact Or.inr ⟨rfl, rfl, rfl⟩) ?_
  refine v_aload_n dX6_init_60 rfl ?_
  refine v_bipush dX6_init_61 (c32 rfl) (by decide) ?_
  refine n_arr (n := 49) (N := 100) (t := .int) dX6_init_63 (by decide +kernel) (by decide) rfl karr_int (by simp) (fun _ _ q => q) rfl (by decide) (by decide) (fun j hj => ((Fz_p (n := 49) (Fz_m (m := 49) fz (by decide)) (by decide)) 49 j (by decide)).trans rfl) (by decide) (by decide) ?_
  refine n_putr (n := 50) (ci := 6) (j := 7) (ji := 7) dX6_init_65 k_310 (by decide) kk_41 (by decide) (by decide) (by decide) rfl rfl (by first | exact Or.inl rfl | exact Or.inr ⟨rfl, rfl, rfl⟩) ?_
  refine v_aload_n dX6_init_68 rfl ?_
  refine v_bipush dX6_init_69 (c32 rfl) (by decide) ?_
  refine n_arr (n := 50) (N := 100) (t := .int) dX6_init_71 (by decide +kernel) (by decide) rfl karr_int (by simp) (fun _ _ q => q) rfl (by decide) (by decide) (fun j hj => ((Fz_p (n := 50) (Fz_m (m := 50) fz (by decide)) (by decide)) 50 j (by decide)).trans rfl) (by decide) (by decide) ?_
  refine n_putr (n := 51) (ci := 6) (j := 8) (ji := 8) dX6_init_73 k_311 (by decide) kk_41 (by decide) (by decide) (by decide) rfl rfl (by first | exact Or.inl rfl | exact Or.inr ⟨rfl, rfl, rfl⟩) ?_
  refine v_aload_n dX6_init_76 rfl ?_
  refine v_sipush dX6_init_77 (c32 rfl) (by decide) ?_
  refine n_arr (n := 51) (N := 600) (t := .int) dX6_init_80 (by decide +kernel) (by decide) rfl karr_int (by simp) (fun _ _ q => q) rfl (by decide) (by decide) (fun j hj => ((Fz_p (n := 51) (Fz_m (m := 51) fz (by decide)) (by decide)) 51 j (by decide)).trans rfl) (by decide) (by decide) ?_
  refine n_putr (n := 52) (ci := 6) (j := 9) (ji := 9) dX6_init_82 k_314 (by decide) kk_41 (by decide) (by decide) (by decide) rfl rfl (by first | exact Or.inl rfl | exact Or.inr ⟨rfl, rfl, rfl⟩) ?_
  refine v_aload_n dX6_init_85 rfl ?_
  refine v_sipush dX6_init_86 (c32 rfl) (by decide) ?_
  refine n_arr (n := 52) (N := 600) (t := .int) dX6_init_89 (by decide +kernel) (by decide) rfl karr_int (by simp) (fun _ _ q => q) rfl (by decide) (by decide) (fun j hj => ((Fz_p (n := 52) (Fz_m (m := 52) fz (by decide)) (by decide)) 52 j (by decide)).trans rfl) (by decide) (by decide) ?_
  refine n_putr (n := 53) (ci := 6) (j := 10) (ji := 10) dX6_init_91 k_315 (by decide) kk_41 (by decide) (by decide) (by decide) rfl rfl (by first | exact Or.inl rfl | exact Or.inr ⟨rfl, rfl, rfl⟩) ?_
  refine v_aload_n dX6_init_94 rfl ?_
  refine n_obj (n := 53) (ci := 3) dX6_init_95 (by decide +kernel) (by decide) (by decide) k_268 knew_X3 kini_X3 (by decide) (fun j hj => ((Fz_p (n := 53) (Fz_m (m := 53) fz (by decide)) (by decide)) 53 j (by decide)).trans (hzo_53 j hj)) (by decide) (by decide) ?_
  refine v_dup dX6_init_98 rfl ?_
  refine v_calliN (M' := mX3_init) (d' := d - 1) (mc' := 3) (ms' := 300) (c := 53) (As := []) dX6_init_99 k_270 cm_X3_init (by omega) (by decide) rfl ⟨by decide, by decide⟩ (i_X3_init_54 (by omega) (Fz_p (n := 54) (Fz_m (m := 54) fz (by decide)) (by decide)) ?_)
  dsimp only [Option.toList, List.nil_append]
  rw [putL_app]
  change V _ _ _ _ _ _ _ _ _ _ _ _ (putL [(53, 2, 56), (53, 1, 55), (53, 0, 54), (41, 10, 52), (41, 9, 51), (41, 8, 50), (41, 7, 49), (41, 6, 48), (41, 5, 47), (41, 4, 46), (41, 3, 45), (41, 2, 44), (41, 1, 43), (41, 0, 42)] _) _
  refine n_putr (n := 57) (ci := 6) (j := 11) (ji := 11) dX6_init_102 k_316 (by decide) kk_41 (by decide) (by decide) (by decide) rfl rfl (by first | exact Or.inl rfl | exact Or.inr ⟨rfl, rfl, rfl⟩) ?_
  refine v_vret dX6_init_105 rfl (by decide) (by decide) ?_
  exact hq

set_option maxHeartbeats 4000000 in
set_option maxRecDepth 100000 in
theorem i_X4_init_6 {l : Launch} {G : GG} {d : Nat} {h : AH} {Q : Option AV → List Kd → AH → Prop} (hd : 4 ≤ d) (fz : Fz 6 h) (hq : Q none (K0.take 64) (putL [(5, 3, 63), (5, 2, 57), (5, 1, 41), (41, 11, 53), (53, 2, 56), (53, 1, 55), (53, 0, 54), (41, 10, 52), (41, 9, 51), (41, 8, 50), (41, 7, 49), (41, 6, 48), (41, 5, 47), (41, 4, 46), (41, 3, 45), (41, 2, 44), (41, 1, 43), (41, 0, 42), (5, 0, 6), (6, 6, 40), (6, 5, 38), (38, 0, 39), (6, 4, 37), (6, 3, 16), (6, 2, 12), (12, 3, 15), (12, 2, 14), (12, 1, 13), (12, 0, 20), (6, 1, 11), (6, 0, 7), (7, 3, 10), (7, 2, 9), (7, 1, 8), (7, 0, 40)] h)) : Sp l G mX4_init d 58 7381 (K0.take 6) [(2, 5)] h Q := by
  refine sp_of (L := [(2, 5)]) pl_X4 (Nat.le_of_ble_eq_true rfl) (tg_c (by decide) tg_0) rfl ?_
  refine V_castL (show h = putL [] h from rfl) ?_
  refine v_aload_n dX4_init_0 rfl ?_
  refine v_obj dX4_init_1 k_165 (by omega) (by decide) ?_
  refine v_aload_n dX4_init_4 rfl ?_
  refine n_obj (n := 6) (ci := 8) dX4_init_5 (by decide +kernel) (by decide) (by decide) k_166 knew_X8 kini_X8 (by decide) (fun j hj => ((Fz_p (n := 6) (Fz_m (m := 6) fz (by decide)) (by decide)) 6 j (by decide)).trans (hzo_6 j hj)) (by decide) (by decide) ?_
  refine v_dup dX4_init_8 rfl ?_
  refine v_calliN (M' := mX8_init) (d' := d - 1) (mc' := 34) (ms' := 4350) (c := 6) (As := []) dX4_init_9 k_168 cm_X8_init (by omega) (by decide) rfl ⟨by decide, by decide⟩ (i_X8_init_7 (by omega) (Fz_p (n := 7) (Fz_m (m := 7) fz (by decide)) (by decide)) ?_)
  dsimp only [Option.toList, List.nil_append]
  rw [putL_app]
  change V _ _ _ _ _ _ _ _ _ _ _ _ (putL [(6, 6, 40), (6, 5, 38), (38, 0, 39), (6, 4, 37), (6, 3, 16), (6, 2, 12), (12, 3, 15), (12, 2, 14), (12, 1, 13), (12, 0, 20), (6, 1, 11), (6, 0, 7), (7, 3, 10), (7, 2, 9), (7, 1, 8), (7, 0, 40)] _) _
  refine n_putr (n := 41) (ci := 4) (j := 0) (ji := 0) dX4_init_12 k_353 (by decide) kk_5 (by decide) (by decide) (by decide) rfl rfl (by first | exact Or.inl rfl | exact Or.inr ⟨rfl, rfl, rfl⟩) ?_
  refine v_aload_n dX4_init_15 rfl ?_
  refine n_obj (n := 41) (ci := 6) dX4_init_16 (by decide +kernel) (by decide) (by decide) k_262 knew_X6 kini_X6 (by decide) (fun j hj => ((Fz_p (n := 41) (Fz_m (m := 41) fz (by decide)) (by decide)) 41 j (by decide)).trans (hzo_41 j hj)) (by decide) (by decide) ?_
  refine v_dup dX4_init_19 rfl ?_
  refine v_calliN (M' := mX6_init) (d' := d - 1) (mc' := 15) (ms' := 2404) (c := 41) (As := []) dX4_init_20 k_264 cm_X6_init (by omega) (by decide) rfl ⟨by decide, by decide⟩ (i_X6_init_42 (by omega) (Fz_p (n := 42) (Fz_m (m := 42) fz (by decide)) (by decide)) ?_)
  dsimp only [Option.toList, List.nil_append]
  rw [putL_app]
  change V _ _ _ _ _ _ _ _ _ _ _ _ (putL [(41, 11, 53), (53, 2, 56), (53, 1, 55), (53, 0, 54), (41, 10, 52), (41, 9, 51), (41, 8, 50), (41, 7, 49), (41, 6, 48), (41, 5, 47), (41, 4, 46), (41, 3, 45), (41, 2, 44), (41, 1, 43), (41, 0, 42), (5, 0, 6), (6, 6, 40), (6, 5, 38), (38, 0, 39), (6, 4, 37), (6, 3, 16), (6, 2, 12), (12, 3, 15), (12, 2, 14), (12, 1, 13), (12, 0, 20), (6, 1, 11), (6, 0, 7), (7, 3, 10), (7, 2, 9), (7, 1, 8), (7, 0, 40)] _) _
  refine n_putr (n := 57) (ci := 4) (j := 1) (ji := 1) dX4_init_23 k_356 (by decide) kk_5 (by decide) (by decide) (by decide) rfl rfl (by first | exact Or.inl rfl | exact Or.inr ⟨rfl, rfl, rfl⟩) ?_
  refine v_aload_n dX4_init_26 rfl ?_
  refine v_iconst dX4_init_27 (c32 rfl) ?_
  refine v_bipush dX4_init_28 (c32 rfl) (by decide) ?_
  refine n_mul (n := 57) (a := 5) (b := 100) (m := 63) dX4_init_30 k_352 rfl (by decide) (by decide) (by decide) (by decide) (by decide) (by decide) (fun j hj => ((Fz_p (n := 57) (Fz_m (m := 57) fz (by decide)) (by decide)) 57 j (by decide)).trans rfl) (fun i hi j hj => ((Fz_p (n := 57) (Fz_m (m := 57) fz (by decide)) (by decide)) _ j (by omega)).trans (hzr_57 i hi)) (by decide) (by decide) ?_
  refine n_putr (n := 63) (ci := 4) (j := 2) (ji := 2) dX4_init_34 k_359 (by decide) kk_5 (by decide) (by decide) (by decide) rfl rfl (by first | exact Or.inl rfl | exact Or.inr ⟨rfl, rfl, rfl⟩) ?_
  refine v_aload_n dX4_init_37 rfl ?_
  refine v_bipush dX4_init_38 (c32 rfl) (by decide) ?_
  refine n_arr (n := 63) (N := 100) (t := .int) dX4_init_40 (by decide +kernel) (by decide) rfl karr_int (by simp) (fun _ _ q => q) rfl (by decide) (by decide) (fun j hj => ((Fz_p (n := 63) (Fz_m (m := 63) fz (by decide)) (by decide)) 63 j (by decide)).trans rfl) (by decide) (by decide) ?_
  refine n_putr (n := 64) (ci := 4) (j := 3) (ji := 3) dX4_init_42 k_360 (by decide) kk_5 (by decide) (by decide) (by decide) rfl rfl (by first | exact Or.inl rfl | exact Or.inr ⟨rfl, rfl, rfl⟩) ?_
  refine v_vret dX4_init_45 rfl (by decide) (by decide) ?_
  exact hq

set_option maxHeartbeats 4000000 in
set_option maxRecDepth 100000 in
theorem i_X3_init_71 {l : Launch} {G : GG} {d : Nat} {h : AH} {Q : Option AV → List Kd → AH → Prop} (hd : 2 ≤ d) (fz : Fz 71 h) (hq : Q none (K0.take 74) (putL [(70, 2, 73), (70, 1, 72), (70, 0, 71)] h)) : Sp l G mX3_init d 3 300 (K0.take 71) [(2, 70)] h Q := by
  refine sp_of (L := [(2, 70)]) pl_X3 (Nat.le_of_ble_eq_true rfl) (tg_c (by decide) tg_0) rfl ?_
  refine V_castL (show h = putL [] h from rfl) ?_
  refine v_aload_n dX3_init_0 rfl ?_
  refine v_obj dX3_init_1 k_273 (by omega) (by decide) ?_
  refine v_aload_n dX3_init_4 rfl ?_
  refine v_bipush dX3_init_5 (c32 rfl) (by decide) ?_
  refine n_arr (n := 71) (N := 100) (t := .int) dX3_init_7 (by decide +kernel) (by decide) rfl karr_int (by simp) (fun _ _ q => q) rfl (by decide) (by decide) (fun j hj => ((Fz_p (n := 71) (Fz_m (m := 71) fz (by decide)) (by decide)) 71 j (by decide)).trans rfl) (by decide) (by decide) ?_
  refine n_putr (n := 72) (ci := 3) (j := 0) (ji := 0) dX3_init_9 k_274 (by decide) kk_70 (by decide) (by decide) (by decide) rfl rfl (by first | exact Or.inl rfl | exact Or.inr ⟨rfl, rfl, rfl⟩) ?_
  refine v_aload_n dX3_init_12 rfl ?_
  refine v_bipush dX3_init_13 (c32 rfl) (by decide) ?_
  refine n_arr (n := 72) (N := 100) (t := .int) dX3_init_15 (by decide +kernel) (by decide) rfl karr_int (by simp) (fun _ _ q => q) rfl (by decide) (by decide) (fun j hj => ((Fz_p (n := 72) (Fz_m (m := 72) fz (by decide)) (by decide)) 72 j (by decide)).trans rfl) (by decide) (by decide) ?_
  refine n_putr (n := 73) (ci := 3) (j := 1) (ji := 1) dX3_init_17 k_276 (by decide) kk_70 (by decide) (by decide) (by decide) rfl rfl (by first | exact Or.inl rfl | exact Or.inr ⟨rfl, rfl, rfl⟩) ?_
  refine v_aload_n dX3_init_20 rfl ?_
  refine v_bipush dX3_init_21 (c32 rfl) (by decide) ?_
  refine n_arr (n := 73) (N := 100) (t := .int) dX3_init_23 (by decide +kernel) (by decide) rfl karr_int (by simp) (fun _ _ q => q) rfl (by decide) (by decide) (fun j hj => ((Fz_p (n := 73) (Fz_m (m := 73) fz (by decide)) (by decide)) 73 j (by decide)).trans rfl) (by decide) (by decide) ?_
  refine n_putr (n := 74) (ci := 3) (j := 2) (ji := 2) dX3_init_25 k_278 (by decide) kk_70 (by decide) (by decide) (by decide) rfl rfl (by first | exact Or.inl rfl | exact Or.inr ⟨rfl, rfl, rfl⟩) ?_
  refine v_vret dX3_init_28 rfl (by decide) (by decide) ?_
  exact hq

set_option maxHeartbeats 4000000 in
set_option maxRecDepth 100000 in
theorem lpi_X0_init {l : Launch} {G : GG} {d mc ms n1 n2 : Nat} {h g : AH} {Q : Option AV → List Kd → AH → Prop} (hd : 1 ≤ d) (hn : n1 ≤ 76 ∧ n2 ≤ 10589) (hm : 76 ≤ mc ∧ 10589 ≤ ms) (hg : g = h) (he : h 4 9 = 74) (hq : Q none (K0.take 81) (hfil h 74 800 100)) : ∀ k : Int, 0 ≤ k → k ≤ 800 → V l G mX0_init d mc ms n1 n2 (K0.take 81) 136 [(2, 4), (0, k)] [] (hfil h 74 k 100) Q := by
  refine loop_m3 (fun k hk hkN ih => ?_)
  refine v_iload_n dX0_init_136 rfl ?_
  refine v_aload_n dX0_init_137 rfl ?_
  refine v_getr (ci := 0) (j := 9) (ji := 9) (z := 74) dX0_init_138 k_385 (by decide) (kt kk_4 (by decide)) (by decide) rfl rfl (fun _ => (hfil_c (by decide)).trans he) (by decide) ?_
  refine v_alen (ni := 800) dX0_init_141 (by decide) (kt kk_74 (by decide)) (by simp) rfl (c32 rfl) ?_
  refine v_icmp_ge (tgt := 159) dX0_init_142 (by decide) (fun c1 => ?_) (fun c1 => ?_)
  · obtain rfl : k = 800 := by omega
    refine v_vret dX0_init_159 rfl (by omega) (by omega) ?_
    exact hq
  · skip
    refine v_aload_n dX0_init_145 rfl ?_
    refine v_getr (ci := 0) (j := 9) (ji := 9) (z := 74) dX0_init_146 k_385 (by decide) (kt kk_4 (by decide)) (by decide) rfl rfl (fun _ => (hfil_c (by decide)).trans he) (by decide) ?_
    refine v_iload_n dX0_init_149 rfl ?_
    refine v_bipush dX0_init_150 (c32 rfl) (by decide) ?_
    refine v_iastore dX0_init_152 (by decide) (kt kk_74 (by decide)) (by omega) (by omega) ?_
    rw [← hfil_s hk]
    refine v_iinc_1 dX0_init_153 (by decide) rfl ?_
    rw [iadd_eq (x := k) (y := 1) (by unfold ok32; omega)]
    refine v_goto (tgt := 136) dX0_init_156 (by decide) ?_
    exact ih (by omega)

set_option maxHeartbeats 4000000 in
set_option maxRecDepth 100000 in
theorem i_X0_init_5 {l : Launch} {G : GG} {d : Nat} {h : AH} {Q : Option AV → List Kd → AH → Prop} (hd : 5 ≤ d) (fz : Fz 5 h) (hq : Q none (K0.take 81) (hfil (putL [(4, 17, 80), (4, 14, 79), (4, 13, 78), (4, 12, 77), (4, 11, 76), (4, 10, 75), (4, 9, 74), (4, 8, 70), (70, 2, 73), (70, 1, 72), (70, 0, 71), (4, 6, 69), (4, 5, 68), (4, 4, 67), (4, 3, 66), (4, 2, 65), (4, 1, 64), (4, 0, 5), (5, 3, 63), (5, 2, 57), (5, 1, 41), (41, 11, 53), (53, 2, 56), (53, 1, 55), (53, 0, 54), (41, 10, 52), (41, 9, 51), (41, 8, 50), (41, 7, 49), (41, 6, 48), (41, 5, 47), (41, 4, 46), (41, 3, 45), (41, 2, 44), (41, 1, 43), (41, 0, 42), (5, 0, 6), (6, 6, 40), (6, 5, 38), (38, 0, 39), (6, 4, 37), (6, 3, 16), (6, 2, 12), (12, 3, 15), (12, 2, 14), (12, 1, 13), (12, 0, 20), (6, 1, 11), (6, 0, 7), (7, 3, 10), (7, 2, 9), (7, 1, 8), (7, 0, 40)] h) 74 800 100)) : Sp l G mX0_init d 76 10589 (K0.take 5) [(2, 4)] h Q := by
  refine sp_of (L := [(2, 4), (9, 0)]) pl_X0 (Nat.le_of_ble_eq_true rfl) (tg_c (by decide) tg_0) rfl ?_
  refine V_castL (show h = putL [] h from rfl) ?_
  refine v_aload_n dX0_init_0 rfl ?_
  refine v_obj dX0_init_1 k_159 (by omega) (by decide) ?_
  refine v_aload_n dX0_init_4 rfl ?_
  refine n_obj (n := 5) (ci := 4) dX0_init_5 (by decide +kernel) (by decide) (by decide) k_160 knew_X4 kini_X4 (by decide) (fun j hj => ((Fz_p (n := 5) (Fz_m (m := 5) fz (by decide)) (by decide)) 5 j (by decide)).trans (hzo_5 j hj)) (by decide) (by decide) ?_
  refine v_dup dX0_init_8 rfl ?_
  refine v_calliN (M' := mX4_init) (d' := d - 1) (mc' := 58) (ms' := 7381) (c := 5) (As := []) dX0_init_9 k_162 cm_X4_init (by omega) (by decide) rfl ⟨by decide, by decide⟩ (i_X4_init_6 (by omega) (Fz_p (n := 6) (Fz_m (m := 6) fz (by decide)) (by decide)) ?_)
  dsimp only [Option.toList, List.nil_append]
  rw [putL_app]
  change V _ _ _ _ _ _ _ _ _ _ _ _ (putL [(5, 3, 63), (5, 2, 57), (5, 1, 41), (41, 11, 53), (53, 2, 56), (53, 1, 55), (53, 0, 54), (41, 10, 52), (41, 9, 51), (41, 8, 50), (41, 7, 49), (41, 6, 48), (41, 5, 47), (41, 4, 46), (41, 3, 45), (41, 2, 44), (41, 1, 43), (41, 0, 42), (5, 0, 6), (6, 6, 40), (6, 5, 38), (38, 0, 39), (6, 4, 37), (6, 3, 16), (6, 2, 12), (12, 3, 15), (12, 2, 14), (12, 1, 13), (12, 0, 20), (6, 1, 11), (6, 0, 7), (7, 3, 10), (7, 2, 9), (7, 1, 8), (7, 0, 40)] _) _
  refine n_putr (n := 64) (ci := 0) (j := 0) (ji := 0) dX0_init_12 k_372 (by decide) kk_4 (by decide) (by decide) (by decide) rfl rfl (by first | exact Or.inl rfl | exact Or.inr ⟨rfl, rfl, rfl⟩) ?_
  refine v_aload_n dX0_init_15 rfl ?_
  refine v_bipush dX0_init_16 (c32 rfl) (by decide) ?_
  refine n_arr (n := 64) (N := 100) (t := .int) dX0_init_18 (by decide +kernel) (by decide) rfl karr_int (by simp) (fun _ _ q => q) rfl (by decide) (by decide) (fun j hj => ((Fz_p (n := 64) (Fz_m (m := 64) fz (by decide)) (by decide)) 64 j (by decide)).trans rfl) (by decide) (by decide) ?_
  refine n_putr (n := 65) (ci := 0) (j := 1) (ji := 1) dX0_init_20 k_374 (by decide) kk_4 (by decide) (by decide) (by decide) rfl rfl (by first | exact Or.inl rfl | exact Or.inr ⟨rfl, rfl, rfl⟩) ?_
  refine v_aload_n dX0_init_23 rfl ?_
  refine v_bipush dX0_init_24 (c32 rfl) (by decide) ?_
  refine n_arr (n := 65) (N := 100) (t := .int) dX0_init_26 (by decide +kernel) (by decide) rfl karr_int (by simp) (fun _ _ q => q) rfl (by decide) (by decide) (fun j hj => ((Fz_p (n := 65) (Fz_m (m := 65) fz (by decide)) (by decide)) 65 j (by decide)).trans rfl) (by decide) (by decide) ?_
  refine n_putr (n := 66) (ci := 0) (j := 2) (ji := 2) dX0_init_28 k_375 (by decide) kk_4 (by decide) (by decide) (by decide) rfl rfl (by first | exact Or.inl rfl | exact Or.inr ⟨rfl, rfl, rfl⟩) ?_
  refine v_aload_n dX0_init_31 rfl ?_
  refine v_bipush dX0_init_32 (c32 rfl) (by decide) ?_
  refine n_arr (n := 66) (N := 100) (t := .int) dX0_init_34 (by decide +kernel) (by decide) rfl karr_int (by simp) (fun _ _ q => q) rfl (by decide) (by decide) (fun j hj => ((Fz_p (n := 66) (Fz_m (m := 66) fz (by decide)) (by decide)) 66 j (by decide)).trans rfl) (by decide) (by decide) ?_
  refine n_putr (n := 67) (ci := 0) (j := 3) (ji := 3) dX0_init_36 k_376 (by decide) kk_4 (by decide) (by decide) (by decide) rfl rfl (by first | exact Or.inl rfl | exact Or.inr ⟨rfl, rfl, rfl⟩) ?_
  refine v_aload_n dX0_init_39 rfl ?_
  refine v_bipush dX0_init_40 (c32 rfl) (by decide) ?_
  refine n_arr (n := 67) (N := 100) (t := .int) dX0_init_42 (by decide +kernel) (by decide) rfl karr_int (by simp) (fun _ _ q => q) rfl (by decide) (by decide) (fun j hj => ((Fz_p (n := 67) (Fz_m (m := 67) fz (by decide)) (by decide)) 67 j (by decide)).trans rfl) (by decide) (by decide) ?_
  refine n_putr (n := 68) (ci := 0) (j := 4) (ji := 4) dX0_init_44 k_377 (by decide) kk_4 (by decide) (by decide) (by decide) rfl rfl (by first | exact Or.inl rfl | exact Or.inr ⟨rfl, rfl, rfl⟩) ?_
  refine v_aload_n dX0_init_47 rfl ?_
  refine v_bipush dX0_init_48 (c32 rfl) (by decide) ?_
  refine n_arr (n := 68) (N := 100) (t := .int) dX0_init_50 (by decide +kernel) (by decide) rfl karr_int (by simp) (fun _ _ q => q) rfl (by decide) (by decide) (fun j hj => ((Fz_p (n := 68) (Fz_m (m := 68) fz (by decide)) (by decide)) 68 j (by decide)).trans rfl) (by decide) (by decide) ?_
  refine n_putr (n := 69) (ci := 0) (j := 5) (ji := 5) dX0_init_52 k_378 (by decide) kk_4 (by decide) (by decide) (by decide) rfl rfl (by first | exact Or.inl rfl | exact Or.inr ⟨rfl, rfl, rfl⟩) ?_
  refine v_aload_n dX0_init_55 rfl ?_
  refine v_bipush dX0_init_56 (c32 rfl) (by decide) ?_
  refine n_arr (n := 69) (N := 100) (t := .int) dX0_init_58 (by decide +kernel) (by decide) rfl karr_int (by simp) (fun _ _ q => q) rfl (by decide) (by decide) (fun j hj => ((Fz_p (n := 69) (Fz_m (m := 69) fz (by decide)) (by decide)) 69 j (by decide)).trans rfl) (by decide) (by decide) ?_
  refine n_putr (n := 70) (ci := 0) (j := 6) (ji := 6) dX0_init_60 k_379 (by decide) kk_4 (by decide) (by decide) (by decide) rfl rfl (by first | exact Or.inl rfl | exact Or.inr ⟨rfl, rfl, rfl⟩) ?_
  refine v_aload_n dX0_init_63 rfl ?_
  refine n_obj (n := 70) (ci := 3) dX0_init_64 (by decide +kernel) (by decide) (by decide) k_370 knew_X3 kini_X3 (by decide) (fun j hj => ((Fz_p (n := 70) (Fz_m (m := 70) fz (by decide)) (by decide)) 70 j (by decide)).trans (hzo_70 j hj)) (by decide) (by decide) ?_
  refine v_dup dX0_init_67 rfl ?_
  refine v_calliN (M' := mX3_init) (d' := d - 1) (mc' := 3) (ms' := 300) (c := 70) (As := []) dX0_init_68 k_371 cm_X3_init (by omega) (by decide) rfl ⟨by decide, by decide⟩ (i_X3_init_71 (by omega) (Fz_p (n := 71) (Fz_m (m := 71) fz (by decide)) (by decide)) ?_)
  dsimp only [Option.toList, List.nil_append]
  rw [putL_app]
  change V _ _ _ _ _ _ _ _ _ _ _ _ (putL [(70, 2, 73), (70, 1, 72), (70, 0, 71), (4, 6, 69), (4, 5, 68), (4, 4, 67), (4, 3, 66), (4, 2, 65), (4, 1, 64), (4, 0, 5), (5, 3, 63), (5, 2, 57), (5, 1, 41), (41, 11, 53), (53, 2, 56), (53, 1, 55), (53, 0, 54), (41, 10, 52), (41, 9, 51), (41, 8, 50), (41, 7, 49), (41, 6, 48), (41, 5, 47), (41, 4, 46), (41, 3, 45), (41, 2, 44), (41, 1, 43), (41, 0, 42), (5, 0, 6), (6, 6, 40), (6, 5, 38), (38, 0, 39), (6, 4, 37), (6, 3, 16), (6, 2, 12), (12, 3, 15), (12, 2, 14), (12, 1, 13), (12, 0, 20), (6, 1, 11), (6, 0, 7), (7, 3, 10), (7, 2, 9), (7, 1, 8), (7, 0, 40)] _) _
  refine n_putr (n := 74) (ci := 0) (j := 8) (ji := 8) dX0_init_71 k_383 (by decide) kk_4 (by decide) (by decide) (by decide) rfl rfl (by first | exact Or.inl rfl | exact Or.inr ⟨rfl, rfl, rfl⟩) ?_
  refine v_aload_n dX0_init_74 rfl ?_
  refine v_sipush dX0_init_75 (c32 rfl) (by decide) ?_
  refine n_arr (n := 74) (N := 800) (t := .int) dX0_init_78 (by decide +kernel) (by decide) rfl karr_int (by simp) (fun _ _ q => q) rfl (by decide) (by decide) (fun j hj => ((Fz_p (n := 74) (Fz_m (m := 74) fz (by decide)) (by decide)) 74 j (by decide)).trans rfl) (by decide) (by decide) ?_
  refine n_putr (n := 75) (ci := 0) (j := 9) (ji := 9) dX0_init_80 k_385 (by decide) kk_4 (by decide) (by decide) (by decide) rfl rfl (by first | exact Or.inl rfl | exact Or.inr ⟨rfl, rfl, rfl⟩) ?_
  refine v_aload_n dX0_init_83 rfl ?_
  refine v_bipush dX0_init_84 (c32 rfl) (by decide) ?_
  refine n_arr (n := 75) (N := 100) (t := .int) dX0_init_86 (by decide +kernel) (by decide) rfl karr_int (by simp) (fun _ _ q => q) rfl (by decide) (by decide) (fun j hj => ((Fz_p (n := 75) (Fz_m (m := 75) fz (by decide)) (by decide)) 75 j (by decide)).trans rfl) (by decide) (by decide) ?_
  refine n_putr (n := 76) (ci := 0) (j := 10) (ji := 10) dX0_init_88 k_386 (by decide) kk_4 (by decide) (by decide) (by decide) rfl rfl (by first | exact Or.inl rfl | exact Or.inr ⟨rfl, rfl, rfl⟩) ?_
  refine v_aload_n dX0_init_91 rfl ?_
  refine v_bipush dX0_init_92 (c32 rfl) (by decide) ?_
  refine n_arr (n := 76) (N := 100) (t := .long) dX0_init_94 (by decide +kernel) (by decide) rfl karr_long (by simp) (fun _ _ q => q) rfl (by decide) (by decide) (fun j hj => ((Fz_p (n := 76) (Fz_m (m := 76) fz (by decide)) (by decide)) 76 j (by decide)).trans rfl) (by decide) (by decide) ?_
  refine n_putr (n := 77) (ci := 0) (j := 11) (ji := 11) dX0_init_96 k_388 (by decide) kk_4 (by decide) (by decide) (by decide) rfl rfl (by first | exact Or.inl rfl | exact Or.inr ⟨rfl, rfl, rfl⟩) ?_
  refine v_aload_n dX0_init_99 rfl ?_
  refine v_sipush dX0_init_100 (c32 rfl) (by decide) ?_
  refine n_arr (n := 77) (N := 400) (t := .int) dX0_init_103 (by decide +kernel) (by decide) rfl karr_int (by simp) (fun _ _ q => q) rfl (by decide) (by decide) (fun j hj => ((Fz_p (n := 77) (Fz_m (m := 77) fz (by decide)) (by decide)) 77 j (by decide)).trans rfl) (by decide) (by decide) ?_
  refine n_putr (n := 78) (ci := 0) (j := 12) (ji := 12) dX0_init_105 k_389 (by decide) kk_4 (by decide) (by decide) (by decide) rfl rfl (by first | exact Or.inl rfl | exact Or.inr ⟨rfl, rfl, rfl⟩) ?_
  refine v_aload_n dX0_init_108 rfl ?_
  refine v_sipush dX0_init_109 (c32 rfl) (by decide) ?_
  refine n_arr (n := 78) (N := 400) (t := .long) dX0_init_112 (by decide +kernel) (by decide) rfl karr_long (by simp) (fun _ _ q => q) rfl (by decide) (by decide) (fun j hj => ((Fz_p (n := 78) (Fz_m (m := 78) fz (by decide)) (by decide)) 78 j (by decide)).trans rfl) (by decide) (by decide) ?_
  refine n_putr (n := 79) (ci := 0) (j := 13) (ji := 13) dX0_init_114 k_390 (by decide) kk_4 (by decide) (by decide) (by decide) rfl rfl (by first | exact Or.inl rfl | exact Or.inr ⟨rfl, rfl, rfl⟩) ?_
  refine v_aload_n dX0_init_117 rfl ?_
  refine v_sipush dX0_init_118 (c32 rfl) (by decide) ?_
  refine n_arr (n := 79) (N := 400) (t := .int) dX0_init_121 (by decide +kernel) (by decide) rfl karr_int (by simp) (fun _ _ q => q) rfl (by decide) (by decide) (fun j hj => ((Fz_p (n := 79) (Fz_m (m := 79) fz (by decide)) (by decide)) 79 j (by decide)).trans rfl) (by decide) (by decide) ?_
  refine n_putr (n := 80) (ci := 0) (j := 14) (ji := 14) dX0_init_123 k_391 (by decide) kk_4 (by decide) (by decide) (by decide) rfl rfl (by first | exact Or.inl rfl | exact Or.inr ⟨rfl, rfl, rfl⟩) ?_
  refine v_aload_n dX0_init_126 rfl ?_
  refine v_bipush dX0_init_127 (c32 rfl) (by decide) ?_
  refine n_arr (n := 80) (N := 100) (t := .int) dX0_init_129 (by decide +kernel) (by decide) rfl karr_int (by simp) (fun _ _ q => q) rfl (by decide) (by decide) (fun j hj => ((Fz_p (n := 80) (Fz_m (m := 80) fz (by decide)) (by decide)) 80 j (by decide)).trans rfl) (by decide) (by decide) ?_
  refine n_putr (n := 81) (ci := 0) (j := 17) (ji := 17) dX0_init_131 k_396 (by decide) kk_4 (by decide) (by decide) (by decide) rfl rfl (by first | exact Or.inl rfl | exact Or.inr ⟨rfl, rfl, rfl⟩) ?_
  refine v_iconst dX0_init_134 (c32 rfl) ?_
  refine v_istore_n_1 dX0_init_135 (by decide) rfl ?_
  refine vhe (hfil_0 (h := putL [(4, 17, 80), (4, 14, 79), (4, 13, 78), (4, 12, 77), (4, 11, 76), (4, 10, 75), (4, 9, 74), (4, 8, 70), (70, 2, 73), (70, 1, 72), (70, 0, 71), (4, 6, 69), (4, 5, 68), (4, 4, 67), (4, 3, 66), (4, 2, 65), (4, 1, 64), (4, 0, 5), (5, 3, 63), (5, 2, 57), (5, 1, 41), (41, 11, 53), (53, 2, 56), (53, 1, 55), (53, 0, 54), (41, 10, 52), (41, 9, 51), (41, 8, 50), (41, 7, 49), (41, 6, 48), (41, 5, 47), (41, 4, 46), (41, 3, 45), (41, 2, 44), (41, 1, 43), (41, 0, 42), (5, 0, 6), (6, 6, 40), (6, 5, 38), (38, 0, 39), (6, 4, 37), (6, 3, 16), (6, 2, 12), (12, 3, 15), (12, 2, 14), (12, 1, 13), (12, 0, 20), (6, 1, 11), (6, 0, 7), (7, 3, 10), (7, 2, 9), (7, 1, 8), (7, 0, 40)] h) (c := 74) (x := 100)) ?_
  exact lpi_X0_init (by omega) ⟨by decide, by decide⟩ ⟨by decide, by decide⟩ (Eq.refl _) (putL_at (show lkP 4 9 [(4, 17, 80), (4, 14, 79), (4, 13, 78), (4, 12, 77), (4, 11, 76), (4, 10, 75), (4, 9, 74), (4, 8, 70), (70, 2, 73), (70, 1, 72), (70, 0, 71), (4, 6, 69), (4, 5, 68), (4, 4, 67), (4, 3, 66), (4, 2, 65), (4, 1, 64), (4, 0, 5), (5, 3, 63), (5, 2, 57), (5, 1, 41), (41, 11, 53), (53, 2, 56), (53, 1, 55), (53, 0, 54), (41, 10, 52), (41, 9, 51), (41, 8, 50), (41, 7, 49), (41, 6, 48), (41, 5, 47), (41, 4, 46), (41, 3, 45), (41, 2, 44), (41, 1, 43), (41, 0, 42), (5, 0, 6), (6, 6, 40), (6, 5, 38), (38, 0, 39), (6, 4, 37), (6, 3, 16), (6, 2, 12), (12, 3, 15), (12, 2, 14), (12, 1, 13), (12, 0, 20), (6, 1, 11), (6, 0, 7), (7, 3, 10), (7, 2, 9), (7, 1, 8), (7, 0, 40)] = some (74) from by decide)) hq 0 (Int.le_refl _) (by decide)

set_option maxHeartbeats 4000000 in
set_option maxRecDepth 100000 in
theorem i_X10_init_82 {l : Launch} {G : GG} {d : Nat} {h : AH} {Q : Option AV → List Kd → AH → Prop} (hd : 2 ≤ d) (fz : Fz 82 h) (hq : Q none (K0.take 87) (putL [(81, 5, 86), (81, 4, 85), (81, 3, 84), (81, 1, 83), (81, 0, 82)] h)) : Sp l G mX10_init d 5 312 (K0.take 82) [(2, 81)] h Q := by
  refine sp_of (L := [(2, 81)]) pl_X10 (Nat.le_of_ble_eq_true rfl) (tg_c (by decide) tg_0) rfl ?_
  refine V_castL (show h = putL [] h from rfl) ?_
  refine v_aload_n dX10_init_0 rfl ?_
  refine v_obj dX10_init_1 k_440 (by omega) (by decide) ?_
  refine v_aload_n dX10_init_4 rfl ?_
  refine v_bipush dX10_init_5 (c32 rfl) (by decide) ?_
  refine n_arr (n := 82) (N := 6) (t := .int) dX10_init_7 (by decide +kernel) (by decide) rfl karr_int (by simp) (fun _ _ q => q) rfl (by decide) (by decide) (fun j hj => ((Fz_p (n := 82) (Fz_m (m := 82) fz (by decide)) (by decide)) 82 j (by decide)).trans rfl) (by decide) (by decide) ?_
  refine n_putr (n := 83) (ci := 10) (j := 0) (ji := 0) dX10_init_9 k_441 (by decide) kk_81 (by decide) (by decide) (by decide) rfl rfl (by first | exact Or.inl rfl | exact Or.inr ⟨rfl, rfl, rfl⟩) ?_
  refine v_aload_n dX10_init_12 rfl ?_
  refine v_bipush dX10_init_13 (c32 rfl) (by decide) ?_
  refine n_arr (n := 83) (N := 6) (t := .int) dX10_init_15 (by decide +kernel) (by decide) rfl karr_int (by simp) (fun _ _ q => q) rfl (by decide) (by decide) (fun j hj => ((Fz_p (n := 83) (Fz_m (m := 83) fz (by decide)) (by decide)) 83 j (by decide)).trans rfl) (by decide) (by decide) ?_
  refine n_putr (n := 84) (ci := 10) (j := 1) (ji := 1) dX10_init_17 k_442 (by decide) kk_81 (by decide) (by decide) (by decide) rfl rfl (by first | exact Or.inl rfl | exact Or.inr ⟨rfl, rfl, rfl⟩) ?_
  refine v_aload_n dX10_init_20 rfl ?_
  refine v_bipush dX10_init_21 (c32 rfl) (by decide) ?_
  refine n_arr (n := 84) (N := 100) (t := .int) dX10_init_23 (by decide +kernel) (by decide) rfl karr_int (by simp) (fun _ _ q => q) rfl (by decide) (by decide) (fun j hj => ((Fz_p (n := 84) (Fz_m (m := 84) fz (by decide)) (by decide)) 84 j (by decide)).trans rfl) (by decide) (by decide) ?_
  refine n_putr (n := 85) (ci := 10) (j := 3) (ji := 3) dX10_init_25 k_445 (by decide) kk_81 (by decide) (by decide) (by decide) rfl rfl (by first | exact Or.inl rfl | exact Or.inr ⟨rfl, rfl, rfl⟩) ?_
  refine v_aload_n dX10_init_28 rfl ?_
  refine v_bipush dX10_init_29 (c32 rfl) (by decide) ?_
  refine n_arr (n := 85) (N := 100) (t := .int) dX10_init_31 (by decide +kernel) (by decide) rfl karr_int (by simp) (fun _ _ q => q) rfl (by decide) (by decide) (fun j hj => ((Fz_p (n := 85) (Fz_m (m := 85) fz (by decide)) (by decide)) 85 j (by decide)).trans rfl) (by decide) (by decide) ?_
  refine n_putr (n := 86) (ci := 10) (j := 4) (ji := 4) dX10_init_33 k_446 (by decide) kk_81 (by decide) (by decide) (by decide) rfl rfl (by first | exact Or.inl rfl | exact Or.inr ⟨rfl, rfl, rfl⟩) ?_
  refine v_aload_n dX10_init_36 rfl ?_
  refine v_bipush dX10_init_37 (c32 rfl) (by decide) ?_
  refine n_arr (n := 86) (N := 100) (t := .int) dX10_init_39 (by decide +kernel) (by decide) rfl karr_int (by simp) (fun _ _ q => q) rfl (by decide) (by decide) (fun j hj => ((Fz_p (n := 86) (Fz_m (m := 86) fz (by decide)) (by decide)) 86 j (by decide)).trans rfl) (by decide) (by decide) ?_
  refine n_putr (n := 87) (ci := 10) (j := 5) (ji := 5) dX10_init_41 k_447 (by decide) kk_81 (by decide) (by decide) (by decide) rfl rfl (by first | exact Or.inl rfl | exact Or.inr ⟨rfl, rfl, rfl⟩) ?_
  refine v_vret dX10_init_44 rfl (by decide) (by decide) ?_
  exact hq

set_option maxHeartbeats 4000000 in
set_option maxRecDepth 100000 in
theorem i_X5_init_88 {l : Launch} {G : GG} {d : Nat} {h : AH} {Q : Option AV → List Kd → AH → Prop} (hd : 2 ≤ d) (fz : Fz 88 h) (hq : Q none (K0.take 97) (putL [(87, 15, 96), (87, 14, 95), (87, 12, 94), (87, 11, 93), (87, 4, 92), (87, 3, 91), (87, 2, 90), (87, 1, 89), (87, 0, 88)] h)) : Sp l G mX5_init d 9 84 (K0.take 88) [(2, 87)] h Q := by
  refine sp_of (L := [(2, 87)]) pl_X5 (Nat.le_of_ble_eq_true rfl) (tg_c (by decide) tg_0) rfl ?_
  refine V_castL (show h = putL [] h from rfl) ?_
  refine v_aload_n dX5_init_0 rfl ?_
  refine v_obj dX5_init_1 k_469 (by omega) (by decide) ?_
  refine v_aload_n dX5_init_4 rfl ?_
  refine v_bipush dX5_init_5 (c32 rfl) (by decide) ?_
  refine n_arr (n := 88) (N := 16) (t := .int) dX5_init_7 (by decide +kernel) (by decide) rfl karr_int (by simp) (fun _ _ q => q) rfl (by decide) (by decide) (fun j hj => ((Fz_p (n := 88) (Fz_m (m := 88) fz (by decide)) (by decide)) 88 j (by decide)).trans rfl) (by decide) (by decide) ?_
  refine n_putr (n := 89) (ci := 5) (j := 0) (ji := 0) dX5_init_9 k_470 (by decide) kk_87 (by decide) (by decide) (by decide) rfl rfl (by first | exact Or.inl rfl | exact Or.inr ⟨rfl, rfl, rfl⟩) ?_
  refine v_aload_n dX5_init_12 rfl ?_
  refine v_bipush dX5_init_13 (c32 rfl) (by decide) ?_
  refine n_arr (n := 89) (N := 16) (t := .int) dX5_init_15 (by decide +kernel) (by decide) rfl karr_int (by simp) (fun _ _ q => q) rfl (by decide) (by decide) (fun j hj => ((Fz_p (n := 89) (Fz_m (m := 89) fz (by decide)) (by decide)) 89 j (by decide)).trans rfl) (by decide) (by decide) ?_
  refine n_putr (n := 90) (ci := 5) (j := 1) (ji := 1) dX5_init_17 k_471 (by decide) kk_87 (by decide) (by decide) (by decide) rfl rfl (by first | exact Or.inl rfl | exact Or.inr ⟨rfl, rfl, rfl⟩) ?_
  refine v_aload_n dX5_init_20 rfl ?_
  refine v_bipush dX5_init_21 (c32 rfl) (by decide) ?_
  refine n_arr (n := 90) (N := 16) (t := .int) dX5_init_23 (by decide +kernel) (by decide) rfl karr_int (by simp) (fun _ _ q => q) rfl (by decide) (by decide) (fun j hj => ((Fz_p (n := 90) (Fz_m (m := 90) fz (by decide)) (by decide)) 90 j (by decide)).trans rfl) (by decide) (by decide) ?_
  refine n_putr (n := 91) (ci := 5) (j := 2) (ji := 2) dX5_init_25 k_472 (by decide) kk_87 (by decide) (by decide) (by decide) rfl rfl (by first | exact Or.inl rfl | exact Or.inr ⟨rfl, rfl, rfl⟩) ?_
  refine v_aload_n dX5_init_28 rfl ?_
  refine v_bipush dX5_init_29 (c32 rfl) (by decide) ?_
  refine n_arr (n := 91) (N := 16) (t := .int) dX5_init_31 (by decide +kernel) (by decide) rfl karr_int (by simp) (fun _ _ q => q) rfl (by decide) (by decide) (fun j hj => ((Fz_p (n := 91) (Fz_m (m := 91) fz (by decide)) (by decide)) 91 j (by decide)).trans rfl) (by decide) (by decide) ?_
  refine n_putr (n := 92) (ci := 5) (j := 3) (ji := 3) dX5_init_33 k_473 (by decide) kk_87 (by decide) (by decide) (by decide) rfl rfl (by first | exact Or.inl rfl | exact Or.inr ⟨rfl, rfl, rfl⟩) ?_
  refine v_aload_n dX5_init_36 rfl ?_
  refine v_iconst dX5_init_37 (c32 rfl) ?_
  refine n_arr (n := 92) (N := 4) (t := .int) dX5_init_38 (by decide +kernel) (by decide) rfl karr_int (by simp) (fun _ _ q => q) rfl (by decide) (by decide) (fun j hj => ((Fz_p (n := 92) (Fz_m (m := 92) fz (by decide)) (by decide)) 92 j (by decide)).trans rfl) (by decide) (by decide) ?_
  refine n_putr (n := 93) (ci := 5) (j := 4) (ji := 4) dX5_init_40 k_474 (by decide) kk_87 (by decide) (by decide) (by decide) rfl rfl (by first | exact Or.inl rfl | exact Or.inr ⟨rfl, rfl, rfl⟩) ?_
  refine v_aload_n dX5_init_43 rfl ?_
  refine v_iconst dX5_init_44 (c32 rfl) ?_
  refine n_arr (n := 93) (N := 4) (t := .int) dX5_init_45 (by decide +kernel) (by decide) rfl karr_int (by simp) (fun _ _ q => q) rfl (by decide) (by decide) (fun j hj => ((Fz_p (n := 93) (Fz_m (m := 93) fz (by decide)) (by decide)) 93 j (by decide)).trans rfl) (by decide) (by decide) ?_
  refine n_putr (n := 94) (ci := 5) (j := 11) (ji := 11) dX5_init_47 k_481 (by decide) kk_87 (by decide) (by decide) (by decide) rfl rfl (by first | exact Or.inl rfl | exact Or.inr ⟨rfl, rfl, rfl⟩) ?_
  refine v_aload_n dX5_init_50 rfl ?_
  refine v_iconst dX5_init_51 (c32 rfl) ?_
  refine n_arr (n := 94) (N := 4) (t := .int) dX5_init_52 (by decide +kernel) (by decide) rfl karr_int (by simp) (fun _ _ q => q) rfl (by decide) (by decide) (fun j hj => ((Fz_p (n := 94) (Fz_m (m := 94) fz (by decide)) (by decide)) 94 j (by decide)).trans rfl) (by decide) (by decide) ?_
  refine n_putr (n := 95) (ci := 5) (j := 12) (ji := 12) dX5_init_54 k_482 (by decide) kk_87 (by decide) (by decide) (by decide) rfl rfl (by first | exact Or.inl rfl | exact Or.inr ⟨rfl, rfl, rfl⟩) ?_
  refine v_aload_n dX5_init_57 rfl ?_
  refine v_iconst dX5_init_58 (c32 rfl) ?_
  refine n_arr (n := 95) (N := 4) (t := .int) dX5_init_59 (by decide +kernel) (by decide) rfl karr_int (by simp) (fun _ _ q => q) rfl (by decide) (by decide) (fun j hj => ((Fz_p (n := 95) (Fz_m (m := 95) fz (by decide)) (by decide)) 95 j (by decide)).trans rfl) (by decide) (by decide) ?_
  refine n_putr (n := 96) (ci := 5) (j := 14) (ji := 14) dX5_init_61 k_484 (by decide) kk_87 (by decide) (by decide) (by decide) rfl rfl (by first | exact Or.inl rfl | exact Or.inr ⟨rfl, rfl, rfl⟩) ?_
  refine v_aload_n dX5_init_64 rfl ?_
  refine v_iconst dX5_init_65 (c32 rfl) ?_
  refine n_arr (n := 96) (N := 4) (t := .int) dX5_init_66 (by decide +kernel) (by decide) rfl karr_int (by simp) (fun _ _ q => q) rfl (by decide) (by decide) (fun j hj => ((Fz_p (n := 96) (Fz_m (m := 96) fz (by decide)) (by decide)) 96 j (by decide)).trans rfl) (by decide) (by decide) ?_
  refine n_putr (n := 97) (ci := 5) (j := 15) (ji := 15) dX5_init_68 k_485 (by decide) kk_87 (by decide) (by decide) (by decide) rfl rfl (by first | exact Or.inl rfl | exact Or.inr ⟨rfl, rfl, rfl⟩) ?_
  refine v_vret dX5_init_71 rfl (by decide) (by decide) ?_
  exact hq

set_option maxHeartbeats 4000000 in
set_option maxRecDepth 100000 in
theorem i_X9_init_98 {l : Launch} {G : GG} {d : Nat} {h : AH} {Q : Option AV → List Kd → AH → Prop} (hd : 2 ≤ d) (fz : Fz 98 h) (hq : Q none (K0.take 116) (putL [(97, 6, 115), (97, 5, 101), (97, 3, 100), (97, 1, 99), (97, 0, 98)] h)) : Sp l G mX9_init d 18 326 (K0.take 98) [(2, 97)] h Q := by
  refine sp_of (L := [(2, 97)]) pl_X9 (Nat.le_of_ble_eq_true rfl) (tg_c (by decide) tg_0) rfl ?_
  refine V_castL (show h = putL [] h from rfl) ?_
  refine v_aload_n dX9_init_0 rfl ?_
  refine v_obj dX9_init_1 k_525 (by omega) (by decide) ?_
  refine v_aload_n dX9_init_4 rfl ?_
  refine v_bipush dX9_init_5 (c32 rfl) (by decide) ?_
  refine n_arr (n := 98) (N := 60) (t := .int) dX9_init_7 (by decide +kernel) (by decide) rfl karr_int (by simp) (fun _ _ q => q) rfl (by decide) (by decide) (fun j hj => ((Fz_p (n := 98) (Fz_m (m := 98) fz (by decide)) (by decide)) 98 j (by decide)).trans rfl) (by decide) (by decide) ?_
  refine n_putr (n := 99) (ci := 9) (j := 0) (ji := 0) dX9_init_9 k_527 (by decide) kk_97 (by decide) (by decide) (by decide) rfl rfl (by first | exact Or.inl rfl | exact Or.inr ⟨rfl, rfl, rfl⟩) ?_
  refine v_aload_n dX9_init_12 rfl ?_
  refine v_bipush dX9_init_13 (c32 rfl) (by decide) ?_
  refine n_arr (n := 99) (N := 60) (t := .int) dX9_init_15 (by decide +kernel) (by decide) rfl karr_int (by simp) (fun _ _ q => q) rfl (by decide) (by decide) (fun j hj => ((Fz_p (n := 99) (Fz_m (m := 99) fz (by decide)) (by decide)) 99 j (by decide)).trans rfl) (by decide) (by decide) ?_
  refine n_putr (n := 100) (ci := 9) (j := 1) (ji := 1) dX9_init_17 k_528 (by decide) kk_97 (by decide) (by decide) (by decide) rfl rfl (by first | exact Or.inl rfl | exact Or.inr ⟨rfl, rfl, rfl⟩) ?_
  refine v_aload_n dX9_init_20 rfl ?_
  refine v_bipush dX9_init_21 (c32 rfl) (by decide) ?_
  refine n_arr (n := 100) (N := 12) (t := .int) dX9_init_23 (by decide +kernel) (by decide) rfl karr_int (by simp) (fun _ _ q => q) rfl (by decide) (by decide) (fun j hj => ((Fz_p (n := 100) (Fz_m (m := 100) fz (by decide)) (by decide)) 100 j (by decide)).trans rfl) (by decide) (by decide) ?_
  refine n_putr (n := 101) (ci := 9) (j := 3) (ji := 3) dX9_init_25 k_531 (by decide) kk_97 (by decide) (by decide) (by decide) rfl rfl (by first | exact Or.inl rfl | exact Or.inr ⟨rfl, rfl, rfl⟩) ?_
  refine v_aload_n dX9_init_28 rfl ?_
  refine v_bipush dX9_init_29 (c32 rfl) (by decide) ?_
  refine v_bipush dX9_init_31 (c32 rfl) (by decide) ?_
  refine n_mul (n := 101) (a := 13) (b := 13) (m := 115) dX9_init_33 k_526 rfl (by decide) (by decide) (by decide) (by decide) (by decide) (by decide) (fun j hj => ((Fz_p (n := 101) (Fz_m (m := 101) fz (by decide)) (by decide)) 101 j (by decide)).trans rfl) (fun i hi j hj => ((Fz_p (n := 101) (Fz_m (m := 101) fz (by decide)) (by decide)) _ j (by omega)).trans (hzr_101 i hi)) (by decide) (by decide) ?_
  refine n_putr (n := 115) (ci := 9) (j := 5) (ji := 5) dX9_init_37 k_533 (by decide) kk_97 (by decide) (by decide) (by decide) rfl rfl (by first | exact Or.inl rfl | exact Or.inr ⟨rfl, rfl, rfl⟩) ?_
  refine v_aload_n dX9_init_40 rfl ?_
  refine v_bipush dX9_init_41 (c32 rfl) (by decide) ?_
  refine n_arr (n := 115) (N := 12) (t := .int) dX9_init_43 (by decide +kernel) (by decide) rfl karr_int (by simp) (fun _ _ q => q) rfl (by decide) (by decide) (fun j hj => ((Fz_p (n := 115) (Fz_m (m := 115) fz (by decide)) (by decide)) 115 j (by decide)).trans rfl) (by decide) (by decide) ?_
  refine n_putr (n := 116) (ci := 9) (j := 6) (ji := 6) dX9_init_45 k_534 (by decide) kk_97 (by decide) (by decide) (by decide) rfl rfl (by first | exact Or.inl rfl | exact Or.inr ⟨rfl, rfl, rfl⟩) ?_
  refine v_vret dX9_init_48 rfl (by decide) (by decide) ?_
  exact hq

set_option maxHeartbeats 4000000 in
set_option maxRecDepth 100000 in
theorem i_X11_init_1 {l : Launch} {G : GG} {d : Nat} {h : AH} {Q : Option AV → List Kd → AH → Prop} (hd : 6 ≤ d) (fz : Fz 1 h) (hq : Q none (K0.take 116) (hfil (putL [(0, 8, 97), (97, 6, 115), (97, 5, 101), (97, 3, 100), (97, 1, 99), (97, 0, 98), (0, 7, 87), (87, 15, 96), (87, 14, 95), (87, 12, 94), (87, 11, 93), (87, 4, 92), (87, 3, 91), (87, 2, 90), (87, 1, 89), (87, 0, 88), (0, 4, 81), (81, 5, 86), (81, 4, 85), (81, 3, 84), (81, 1, 83), (81, 0, 82), (0, 3, 41), (0, 2, 6), (0, 5, 5), (0, 6, 4), (4, 17, 80), (4, 14, 79), (4, 13, 78), (4, 12, 77), (4, 11, 76), (4, 10, 75), (4, 9, 74), (4, 8, 70), (70, 2, 73), (70, 1, 72), (70, 0, 71), (4, 6, 69), (4, 5, 68), (4, 4, 67), (4, 3, 66), (4, 2, 65), (4, 1, 64), (4, 0, 5), (5, 3, 63), (5, 2, 57), (5, 1, 41), (41, 11, 53), (53, 2, 56), (53, 1, 55), (53, 0, 54), (41, 10, 52), (41, 9, 51), (41, 8, 50), (41, 7, 49), (41, 6, 48), (41, 5, 47), (41, 4, 46), (41, 3, 45), (41, 2, 44), (41, 1, 43), (41, 0, 42), (5, 0, 6), (6, 6, 40), (6, 5, 38), (38, 0, 39), (6, 4, 37), (6, 3, 16), (6, 2, 12), (12, 3, 15), (12, 2, 14), (12, 1, 13), (12, 0, 20), (6, 1, 11), (6, 0, 7), (7, 3, 10), (7, 2, 9), (7, 1, 8), (7, 0, 40), (0, 1, 1), (1, 4, 3), (1, 3, (-1)), (1, 0, 2)] h) 74 800 100)) : Sp l G mX11_init d 115 11766 (K0.take 1) [(2, 0)] h Q := by
  refine sp_of (L := [(2, 0)]) pl_X11 (Nat.le_of_ble_eq_true rfl) (tg_c (by decide) tg_0) rfl ?_
  refine V_castL (show h = putL [] h from rfl) ?_
  refine v_aload_n dX11_init_0 rfl ?_
  refine v_obj dX11_init_1 k_122 (by omega) (by decide) ?_
  refine v_aload_n dX11_init_4 rfl ?_
  refine n_obj (n := 1) (ci := 7) dX11_init_5 (by decide +kernel) (by decide) (by decide) k_125 knew_X7 kini_X7 (by decide) (fun j hj => ((Fz_p (n := 1) (Fz_m (m := 1) fz (by decide)) (by decide)) 1 j (by decide)).trans (hzo_1 j hj)) (by decide) (by decide) ?_
  refine v_dup dX11_init_8 rfl ?_
  refine v_calliN (M' := mX7_init) (d' := d - 1) (mc' := 2) (ms' := 400) (c := 1) (As := []) dX11_init_9 k_127 cm_X7_init (by omega) (by decide) rfl ⟨by decide, by decide⟩ (i_X7_init_2 (by omega) (Fz_p (n := 2) (Fz_m (m := 2) fz (by decide)) (by decide)) ?_)
  dsimp only [Option.toList, List.nil_append]
  rw [putL_app]
  change V _ _ _ _ _ _ _ _ _ _ _ _ (putL [(1, 4, 3), (1, 3, (-1)), (1, 0, 2)] _) _
  refine n_putr (n := 4) (ci := 11) (j := 1) (ji := 1) dX11_init_12 k_555 (by decide) kk_0 (by decide) (by decide) (by decide) rfl rfl (by first | exact Or.inl rfl | exact Or.inr ⟨rfl, rfl, rfl⟩) ?_
  refine v_aload_n dX11_init_15 rfl ?_
  refine n_obj (n := 4) (ci := 0) dX11_init_16 (by decide +kernel) (by decide) (by decide) k_154 knew_X0 kini_X0 (by decide) (fun j hj => ((Fz_p (n := 4) (Fz_m (m := 4) fz (by decide)) (by decide)) 4 j (by decide)).trans (hzo_4 j hj)) (by decide) (by decide) ?_
  refine v_dup dX11_init_19 rfl ?_
  refine v_calli (M' := mX0_init) (d' := d - 1) (mc' := 76) (ms' := 10589) (c := 4) (As := []) dX11_init_20 k_156 cm_X0_init (by omega) (by decide) rfl ⟨by decide, by decide⟩ (i_X0_init_5 (by omega) (Fz_p (n := 5) (Fz_m (m := 5) fz (by decide)) (by decide)) ?_)
  dsimp only [Option.toList, List.nil_append]
  skip
  rw [putL_app]
  change V _ _ _ _ _ _ _ _ _ _ _ _ (hfil (putL [(4, 17, 80), (4, 14, 79), (4, 13, 78), (4, 12, 77), (4, 11, 76), (4, 10, 75), (4, 9, 74), (4, 8, 70), (70, 2, 73), (70, 1, 72), (70, 0, 71), (4, 6, 69), (4, 5, 68), (4, 4, 67), (4, 3, 66), (4, 2, 65), (4, 1, 64), (4, 0, 5), (5, 3, 63), (5, 2, 57), (5, 1, 41), (41, 11, 53), (53, 2, 56), (53, 1, 55), (53, 0, 54), (41, 10, 52), (41, 9, 51), (41, 8, 50), (41, 7, 49), (41, 6, 48), (41, 5, 47), (41, 4, 46), (41, 3, 45), (41, 2, 44), (41, 1, 43), (41, 0, 42), (5, 0, 6), (6, 6, 40), (6, 5, 38), (38, 0, 39), (6, 4, 37), (6, 3, 16), (6, 2, 12), (12, 3, 15), (12, 2, 14), (12, 1, 13), (12, 0, 20), (6, 1, 11), (6, 0, 7), (7, 3, 10), (7, 2, 9), (7, 1, 8), (7, 0, 40), (0, 1, 1), (1, 4, 3), (1, 3, (-1)), (1, 0, 2)] _) 74 800 100) _
  rw [← putL_fil (by decide)]
  refine n_putr (n := 81) (ci := 11) (j := 6) (ji := 6) dX11_init_23 k_560 (by decide) kk_0 (by decide) (by decide) (by decide) rfl rfl (by first | exact Or.inl rfl | exact Or.inr ⟨rfl, rfl, rfl⟩) ?_
  refine v_aload_n dX11_init_26 rfl ?_
  refine v_aload_n dX11_init_27 rfl ?_
  refine v_getr (ci := 11) (j := 6) (ji := 6) (z := 4) dX11_init_28 k_560 (by decide) (kt kk_0 (by decide)) (by decide) rfl rfl (fun _ => (putL_at (show lkP 0 6 [(0, 6, 4), (4, 17, 80), (4, 14, 79), (4, 13, 78), (4, 12, 77), (4, 11, 76), (4, 10, 75), (4, 9, 74), (4, 8, 70), (70, 2, 73), (70, 1, 72), (70, 0, 71), (4, 6, 69), (4, 5, 68), (4, 4, 67), (4, 3, 66), (4, 2, 65), (4, 1, 64), (4, 0, 5), (5, 3, 63), (5, 2, 57), (5, 1, 41), (41, 11, 53), (53, 2, 56), (53, 1, 55), (53, 0, 54), (41, 10, 52), (41, 9, 51), (41, 8, 50), (41, 7, 49), (41, 6, 48), (41, 5, 47), (41, 4, 46), (41, 3, 45), (41, 2, 44), (41, 1, 43), (41, 0, 42), (5, 0, 6), (6, 6, 40), (6, 5, 38), (38, 0, 39), (6, 4, 37), (6, 3, 16), (6, 2, 12), (12, 3, 15), (12, 2, 14), (12, 1, 13), (12, 0, 20), (6, 1, 11), (6, 0, 7), (7, 3, 10), (7, 2, 9), (7, 1, 8), (7, 0, 40), (0, 1, 1), (1, 4, 3), (1, 3, (-1)), (1, 0, 2)] = some (4) from by decide))) (by decide) ?_
  refine v_getrN (ci := 0) (j := 0) (ji := 0) (z := 5) dX11_init_31 k_373 (by decide) (kt kk_4 (by decide)) (by decide) rfl rfl (fun _ => (putL_at (show lkP 4 0 [(0, 6, 4), (4, 17, 80), (4, 14, 79), (4, 13, 78), (4, 12, 77), (4, 11, 76), (4, 10, 75), (4, 9, 74), (4, 8, 70), (70, 2, 73), (70, 1, 72), (70, 0, 71), (4, 6, 69), (4, 5, 68), (4, 4, 67), (4, 3, 66), (4, 2, 65), (4, 1, 64), (4, 0, 5), (5, 3, 63), (5, 2, 57), (5, 1, 41), (41, 11, 53), (53, 2, 56), (53, 1, 55), (53, 0, 54), (41, 10, 52), (41, 9, 51), (41, 8, 50), (41, 7, 49), (41, 6, 48), (41, 5, 47), (41, 4, 46), (41, 3, 45), (41, 2, 44), (41, 1, 43), (41, 0, 42), (5, 0, 6), (6, 6, 40), (6, 5, 38), (38, 0, 39), (6, 4, 37), (6, 3, 16), (6, 2, 12), (12, 3, 15), (12, 2, 14), (12, 1, 13), (12, 0, 20), (6, 1, 11), (6, 0, 7), (7, 3, 10), (7, 2, 9), (7, 1, 8), (7, 0, 40), (0, 1, 1), (1, 4, 3), (1, 3, (-1)), (1, 0, 2)] = some (5) from by decide))) (by decide) ?_
  refine n_putr (n := 81) (ci := 11) (j := 5) (ji := 5) dX11_init_34 k_559 (by decide) kk_0 (by decide) (by decide) (by decide) rfl rfl (by first | exact Or.inl rfl | exact Or.inr ⟨rfl, rfl, rfl⟩) ?_
  refine v_aload_n dX11_init_37 rfl ?_
  refine v_aload_n dX11_init_38 rfl ?_
  refine v_getr (ci := 11) (j := 5) (ji := 5) (z := 5) dX11_init_39 k_559 (by decide) (kt kk_0 (by decide)) (by decide) rfl rfl (fun _ => (putL_at (show lkP 0 5 [(0, 5, 5), (0, 6, 4), (4, 17, 80), (4, 14, 79), (4, 13, 78), (4, 12, 77), (4, 11, 76), (4, 10, 75), (4, 9, 74), (4, 8, 70), (70, 2, 73), (70, 1, 72), (70, 0, 71), (4, 6, 69), (4, 5, 68), (4, 4, 67), (4, 3, 66), (4, 2, 65), (4, 1, 64), (4, 0, 5), (5, 3, 63), (5, 2, 57), (5, 1, 41), (41, 11, 53), (53, 2, 56), (53, 1, 55), (53, 0, 54), (41, 10, 52), (41, 9, 51), (41, 8, 50), (41, 7, 49), (41, 6, 48), (41, 5, 47), (41, 4, 46), (41, 3, 45), (41, 2, 44), (41, 1, 43), (41, 0, 42), (5, 0, 6), (6, 6, 40), (6, 5, 38), (38, 0, 39), (6, 4, 37), (6, 3, 16), (6, 2, 12), (12, 3, 15), (12, 2, 14), (12, 1, 13), (12, 0, 20), (6, 1, 11), (6, 0, 7), (7, 3, 10), (7, 2, 9), (7, 1, 8), (7, 0, 40), (0, 1, 1), (1, 4, 3), (1, 3, (-1)), (1, 0, 2)] = some (5) from by decide))) (by decide) ?_
  refine v_getrN (ci := 4) (j := 0) (ji := 0) (z := 6) dX11_init_42 k_354 (by decide) (kt kk_5 (by decide)) (by decide) rfl rfl (fun _ => (putL_at (show lkP 5 0 [(0, 5, 5), (0, 6, 4), (4, 17, 80), (4, 14, 79), (4, 13, 78), (4, 12, 77), (4, 11, 76), (4, 10, 75), (4, 9, 74), (4, 8, 70), (70, 2, 73), (70, 1, 72), (70, 0, 71), (4, 6, 69), (4, 5, 68), (4, 4, 67), (4, 3, 66), (4, 2, 65), (4, 1, 64), (4, 0, 5), (5, 3, 63), (5, 2, 57), (5, 1, 41), (41, 11, 53), (53, 2, 56), (53, 1, 55), (53, 0, 54), (41, 10, 52), (41, 9, 51), (41, 8, 50), (41, 7, 49), (41, 6, 48), (41, 5, 47), (41, 4, 46), (41, 3, 45), (41, 2, 44), (41, 1, 43), (41, 0, 42), (5, 0, 6), (6, 6, 40), (6, 5, 38), (38, 0, 39), (6, 4, 37), (6, 3, 16), (6, 2, 12), (12, 3, 15), (12, 2, 14), (12, 1, 13), (12, 0, 20), (6, 1, 11), (6, 0, 7), (7, 3, 10), (7, 2, 9), (7, 1, 8), (7, 0, 40), (0, 1, 1), (1, 4, 3), (1, 3, (-1)), (1, 0, 2)] = some (6) from by decide))) (by decide) ?_
  refine n_putr (n := 81) (ci := 11) (j := 2) (ji := 2) dX11_init_45 k_556 (by decide) kk_0 (by decide) (by decide) (by decide) rfl rfl (by first | exact Or.inl rfl | exact Or.inr ⟨rfl, rfl, rfl⟩) ?_
  refine v_aload_n dX11_init_48 rfl ?_
  refine v_aload_n dX11_init_49 rfl ?_
  refine v_getr (ci := 11) (j := 5) (ji := 5) (z := 5) dX11_init_50 k_559 (by decide) (kt kk_0 (by decide)) (by decide) rfl rfl (fun _ => (putL_at (show lkP 0 5 [(0, 2, 6), (0, 5, 5), (0, 6, 4), (4, 17, 80), (4, 14, 79), (4, 13, 78), (4, 12, 77), (4, 11, 76), (4, 10, 75), (4, 9, 74), (4, 8, 70), (70, 2, 73), (70, 1, 72), (70, 0, 71), (4, 6, 69), (4, 5, 68), (4, 4, 67), (4, 3, 66), (4, 2, 65), (4, 1, 64), (4, 0, 5), (5, 3, 63), (5, 2, 57), (5, 1, 41), (41, 11, 53), (53, 2, 56), (53, 1, 55), (53, 0, 54), (41, 10, 52), (41, 9, 51), (41, 8, 50), (41, 7, 49), (41, 6, 48), (41, 5, 47), (41, 4, 46), (41, 3, 45), (41, 2, 44), (41, 1, 43), (41, 0, 42), (5, 0, 6), (6, 6, 40), (6, 5, 38), (38, 0, 39), (6, 4, 37), (6, 3, 16), (6, 2, 12), (12, 3, 15), (12, 2, 14), (12, 1, 13), (12, 0, 20), (6, 1, 11), (6, 0, 7), (7, 3, 10), (7, 2, 9), (7, 1, 8), (7, 0, 40), (0, 1, 1), (1, 4, 3), (1, 3, (-1)), (1, 0, 2)] = some (5) from by decide))) (by decide) ?_
  refine v_getrN (ci := 4) (j := 1) (ji := 1) (z := 41) dX11_init_53 k_357 (by decide) (kt kk_5 (by decide)) (by decide) rfl rfl (fun _ => (putL_at (show lkP 5 1 [(0, 2, 6), (0, 5, 5), (0, 6, 4), (4, 17, 80), (4, 14, 79), (4, 13, 78), (4, 12, 77), (4, 11, 76), (4, 10, 75), (4, 9, 74), (4, 8, 70), (70, 2, 73), (70, 1, 72), (70, 0, 71), (4, 6, 69), (4, 5, 68), (4, 4, 67), (4, 3, 66), (4, 2, 65), (4, 1, 64), (4, 0, 5), (5, 3, 63), (5, 2, 57), (5, 1, 41), (41, 11, 53), (53, 2, 56), (53, 1, 55), (53, 0, 54), (41, 10, 52), (41, 9, 51), (41, 8, 50), (41, 7, 49), (41, 6, 48), (41, 5, 47), (41, 4, 46), (41, 3, 45), (41, 2, 44), (41, 1, 43), (41, 0, 42), (5, 0, 6), (6, 6, 40), (6, 5, 38), (38, 0, 39), (6, 4, 37), (6, 3, 16), (6, 2, 12), (12, 3, 15), (12, 2, 14), (12, 1, 13), (12, 0, 20), (6, 1, 11), (6, 0, 7), (7, 3, 10), (7, 2, 9), (7, 1, 8), (7, 0, 40), (0, 1, 1), (1, 4, 3), (1, 3, (-1)), (1, 0, 2)] = some (41) from by decide))) (by decide) ?_
  refine n_putr (n := 81) (ci := 11) (j := 3) (ji := 3) dX11_init_56 k_557 (by decide) kk_0 (by decide) (by decide) (by decide) rfl rfl (by first | exact Or.inl rfl | exact Or.inr ⟨rfl, rfl, rfl⟩) ?_
  refine v_aload_n dX11_init_59 rfl ?_
  refine n_obj (n := 81) (ci := 10) dX11_init_60 (by decide +kernel) (by decide) (by decide) k_435 knew_X10 kini_X10 (by decide) (fun j hj => ((Fz_p (n := 81) (Fz_m (m := 81) (Fz_f (n := 81) (Fz_m (m := 81) fz (by decide)) (by decide)) (by decide)) (by decide)) 81 j (by decide)).trans (hzo_81 j hj)) (by decide) (by decide) ?_
  refine v_dup dX11_init_63 rfl ?_
  refine v_calliN (M' := mX10_init) (d' := d - 1) (mc' := 5) (ms' := 312) (c := 81) (As := []) dX11_init_64 k_437 cm_X10_init (by omega) (by decide) rfl ⟨by decide, by decide⟩ (i_X10_init_82 (by omega) (Fz_p (n := 82) (Fz_m (m := 82) (Fz_f (n := 81) (Fz_m (m := 81) fz (by decide)) (by decide)) (by decide)) (by decide)) ?_)
  dsimp only [Option.toList, List.nil_append]
  rw [putL_app]
  change V _ _ _ _ _ _ _ _ _ _ _ _ (putL [(81, 5, 86), (81, 4, 85), (81, 3, 84), (81, 1, 83), (81, 0, 82), (0, 3, 41), (0, 2, 6), (0, 5, 5), (0, 6, 4), (4, 17, 80), (4, 14, 79), (4, 13, 78), (4, 12, 77), (4, 11, 76), (4, 10, 75), (4, 9, 74), (4, 8, 70), (70, 2, 73), (70, 1, 72), (70, 0, 71), (4, 6, 69), (4, 5, 68), (4, 4, 67), (4, 3, 66), (4, 2, 65), (4, 1, 64), (4, 0, 5), (5, 3, 63), (5, 2, 57), (5, 1, 41), (41, 11, 53), (53, 2, 56), (53, 1, 55), (53, 0, 54), (41, 10, 52), (41, 9, 51), (41, 8, 50), (41, 7, 49), (41, 6, 48), (41, 5, 47), (41, 4, 46), (41, 3, 45), (41, 2, 44), (41, 1, 43), (41, 0, 42), (5, 0, 6), (6, 6, 40), (6, 5, 38), (38, 0, 39), (6, 4, 37), (6, 3, 16), (6, 2, 12), (12, 3, 15), (12, 2, 14), (12, 1, 13), (12, 0, 20), (6, 1, 11), (6, 0, 7), (7, 3, 10), (7, 2, 9), (7, 1, 8), (7, 0, 40), (0, 1, 1), (1, 4, 3), (1, 3, (-1)), (1, 0, 2)] _) _
  refine n_putr (n := 87) (ci := 11) (j := 4) (ji := 4) dX11_init_67 k_558 (by decide) kk_0 (by decide) (by decide) (by decide) rfl rfl (by first | exact Or.inl rfl | exact Or.inr ⟨rfl, rfl, rfl⟩) ?_
  refine v_aload_n dX11_init_70 rfl ?_
  refine n_obj (n := 87) (ci := 5) dX11_init_71 (by decide +kernel) (by decide) (by decide) k_464 knew_X5 kini_X5 (by decide) (fun j hj => ((Fz_p (n := 87) (Fz_m (m := 87) (Fz_f (n := 81) (Fz_m (m := 81) fz (by decide)) (by decide)) (by decide)) (by decide)) 87 j (by decide)).trans (hzo_87 j hj)) (by decide) (by decide) ?_
  refine v_dup dX11_init_74 rfl ?_
  refine v_calliN (M' := mX5_init) (d' := d - 1) (mc' := 9) (ms' := 84) (c := 87) (As := []) dX11_init_75 k_466 cm_X5_init (by omega) (by decide) rfl ⟨by decide, by decide⟩ (i_X5_init_88 (by omega) (Fz_p (n := 88) (Fz_m (m := 88) (Fz_f (n := 81) (Fz_m (m := 81) fz (by decide)) (by decide)) (by decide)) (by decide)) ?_)
  dsimp only [Option.toList, List.nil_append]
  rw [putL_app]
  change V _ _ _ _ _ _ _ _ _ _ _ _ (putL [(87, 15, 96), (87, 14, 95), (87, 12, 94), (87, 11, 93), (87, 4, 92), (87, 3, 91), (87, 2, 90), (87, 1, 89), (87, 0, 88), (0, 4, 81), (81, 5, 86), (81, 4, 85), (81, 3, 84), (81, 1, 83), (81, 0, 82), (0, 3, 41), (0, 2, 6), (0, 5, 5), (0, 6, 4), (4, 17, 80), (4, 14, 79), (4, 13, 78), (4, 12, 77), (4, 11, 76), (4, 10, 75), (4, 9, 74), (4, 8, 70), (70, 2, 73), (70, 1, 72), (70, 0, 71), (4, 6, 69), (4, 5, 68), (4, 4, 67), (4, 3, 66), (4, 2, 65), (4, 1, 64), (4, 0, 5), (5, 3, 63), (5, 2, 57), (5, 1, 41), (41, 11, 53), (53, 2, 56), (53, 1, 55), (53, 0, 54), (41, 10, 52), (41, 9, 51), (41, 8, 50), (41, 7, 49), (41, 6, 48), (41, 5, 47), (41, 4, 46), (41, 3, 45), (41, 2, 44), (41, 1, 43), (41, 0, 42), (5, 0, 6), (6, 6, 40), (6, 5, 38), (38, 0, 39), (6, 4, 37), (6, 3, 16), (6, 2, 12), (12, 3, 15), (12, 2, 14), (12, 1, 13), (12, 0, 20), (6, 1, 11), (6, 0, 7), (7, 3, 10), (7, 2, 9), (7, 1, 8), (7, 0, 40), (0, 1, 1), (1, 4, 3), (1, 3, (-1)), (1, 0, 2)] _) _
  refine n_putr (n := 97) (ci := 11) (j := 7) (ji := 7) dX11_init_78 k_561 (by decide) kk_0 (by decide) (by decide) (by decide) rfl rfl (by first | exact Or.inl rfl | exact Or.inr ⟨rfl, rfl, rfl⟩) ?_
  refine v_aload_n dX11_init_81 rfl ?_
  refine n_obj (n := 97) (ci := 9) dX11_init_82 (by decide +kernel) (by decide) (by decide) k_520 knew_X9 kini_X9 (by decide) (fun j hj => ((Fz_p (n := 97) (Fz_m (m := 97) (Fz_f (n := 81) (Fz_m (m := 81) fz (by decide)) (by decide)) (by decide)) (by decide)) 97 j (by decide)).trans (hzo_97 j hj)) (by decide) (by decide) ?_
  refine v_dup dX11_init_85 rfl ?_
  refine v_calliN (M' := mX9_init) (d' := d - 1) (mc' := 18) (ms' := 326) (c := 97) (As := []) dX11_init_86 k_522 cm_X9_init (by omega) (by decide) rfl ⟨by decide, by decide⟩ (i_X9_init_98 (by omega) (Fz_p (n := 98) (Fz_m (m := 98) (Fz_f (n := 81) (Fz_m (m := 81) fz (by decide)) (by decide)) (by decide)) (by decide)) ?_)
  dsimp only [Option.toList, List.nil_append]
  rw [putL_app]
  change V _ _ _ _ _ _ _ _ _ _ _ _ (putL [(97, 6, 115), (97, 5, 101), (97, 3, 100), (97, 1, 99), (97, 0, 98), (0, 7, 87), (87, 15, 96), (87, 14, 95), (87, 12, 94), (87, 11, 93), (87, 4, 92), (87, 3, 91), (87, 2, 90), (87, 1, 89), (87, 0, 88), (0, 4, 81), (81, 5, 86), (81, 4, 85), (81, 3, 84), (81, 1, 83), (81, 0, 82), (0, 3, 41), (0, 2, 6), (0, 5, 5), (0, 6, 4), (4, 17, 80), (4, 14, 79), (4, 13, 78), (4, 12, 77), (4, 11, 76), (4, 10, 75), (4, 9, 74), (4, 8, 70), (70, 2, 73), (70, 1, 72), (70, 0, 71), (4, 6, 69), (4, 5, 68), (4, 4, 67), (4, 3, 66), (4, 2, 65), (4, 1, 64), (4, 0, 5), (5, 3, 63), (5, 2, 57), (5, 1, 41), (41, 11, 53), (53, 2, 56), (53, 1, 55), (53, 0, 54), (41, 10, 52), (41, 9, 51), (41, 8, 50), (41, 7, 49), (41, 6, 48), (41, 5, 47), (41, 4, 46), (41, 3, 45), (41, 2, 44), (41, 1, 43), (41, 0, 42), (5, 0, 6), (6, 6, 40), (6, 5, 38), (38, 0, 39), (6, 4, 37), (6, 3, 16), (6, 2, 12), (12, 3, 15), (12, 2, 14), (12, 1, 13), (12, 0, 20), (6, 1, 11), (6, 0, 7), (7, 3, 10), (7, 2, 9), (7, 1, 8), (7, 0, 40), (0, 1, 1), (1, 4, 3), (1, 3, (-1)), (1, 0, 2)] _) _
  refine n_putr (n := 116) (ci := 11) (j := 8) (ji := 8) dX11_init_89 k_562 (by decide) kk_0 (by decide) (by decide) (by decide) rfl rfl (by first | exact Or.inl rfl | exact Or.inr ⟨rfl, rfl, rfl⟩) ?_
  refine v_vret dX11_init_92 rfl (by decide) (by decide) ?_
  rw [putL_fil (by decide)]
  exact hq

set_option maxHeartbeats 4000000 in
set_option maxRecDepth 100000 in
theorem lpi_X12_init {l : Launch} {G : GG} {d mc ms n1 n2 : Nat} {h g : AH} {Q : Option AV → List Kd → AH → Prop} (hd : 1 ≤ d) (hn : n1 ≤ 60 ∧ n2 ≤ 11388) (hm : 60 ≤ mc ∧ 11388 ≤ ms) (hg : g = h) (he : h 116 10 = 125) (hq : Q none (K0.take 177) (hfil h 125 800 100)) : ∀ k : Int, 0 ≤ k → k ≤ 800 → V l G mX12_init d mc ms n1 n2 (K0.take 177) 501 [(2, 116), (0, k)] [] (hfil h 125 k 100) Q := by
  refine loop_m3 (fun k hk hkN ih => ?_)
  refine v_iload_n dX12_init_501 rfl ?_
  refine v_sipush dX12_init_502 (c32 rfl) (by decide) ?_
  refine v_icmp_ge (tgt := 522) dX12_init_505 (by decide) (fun c1 => ?_) (fun c1 => ?_)
  · obtain rfl : k = 800 := by omega
    refine v_vret dX12_init_522 rfl (by omega) (by omega) ?_
    exact hq
  · skip
    refine v_aload_n dX12_init_508 rfl ?_
    refine v_getr (ci := 12) (j := 10) (ji := 10) (z := 125) dX12_init_509 k_1426 (by decide) (kt kk_116 (by decide)) (by decide) rfl rfl (fun _ => (hfil_c (by decide)).trans he) (by decide) ?_
    refine v_iload_n dX12_init_512 rfl ?_
    refine v_bipush dX12_init_513 (c32 rfl) (by decide) ?_
    refine v_iastore dX12_init_515 (by decide) (kt kk_125 (by decide)) (by omega) (by omega) ?_
    rw [← hfil_s hk]
    refine v_iinc_1 dX12_init_516 (by decide) rfl ?_
    rw [iadd_eq (x := k) (y := 1) (by unfold ok32; omega)]
    refine v_goto (tgt := 501) dX12_init_519 (by decide) ?_
    exact ih (by omega)

set_option maxHeartbeats 4000000 in
set_option maxRecDepth 100000 in
theorem i_X12_init_117 {l : Launch} {G : GG} {d : Nat} {h : AH} {Q : Option AV → List Kd → AH → Prop} (hd : 2 ≤ d) (fz : Fz 117 h) (hq : Q none (K0.take 177) (hfil (putL [(116, 87, 176), (116, 86, 175), (116, 85, 174), (116, 78, 173), (116, 77, 172), (116, 76, 171), (116, 75, 170), (116, 74, 169), (116, 73, 168), (116, 72, 167), (116, 71, 166), (116, 70, 165), (116, 69, 164), (116, 64, 163), (116, 63, 162), (116, 62, 161), (116, 61, 160), (116, 60, 159), (116, 59, 158), (116, 58, 157), (116, 57, 156), (116, 56, 155), (116, 55, 154), (116, 54, 153), (116, 53, 152), (116, 52, 151), (116, 51, 150), (116, 50, 149), (116, 49, 148), (116, 44, 147), (116, 43, 146), (116, 42, 145), (116, 41, 144), (116, 40, 143), (116, 39, 142), (116, 38, 141), (116, 37, 140), (116, 36, 139), (116, 35, 138), (116, 34, 137), (116, 33, 136), (116, 32, 135), (116, 31, 134), (116, 30, 133), (116, 29, 132), (116, 28, 131), (116, 27, 130), (116, 26, 129), (116, 17, 127), (116, 13, 128), (116, 12, 127), (116, 11, 126), (116, 10, 125), (116, 9, 124), (116, 8, 123), (116, 7, 122), (116, 6, 121), (116, 5, 120), (116, 4, 119), (116, 3, 118), (116, 2, 117)] h) 125 800 100)) : Sp l G mX12_init d 60 11388 (K0.take 117) [(2, 116)] h Q := by
  refine sp_of (L := [(2, 116), (9, 0)]) pl_X12 (Nat.le_of_ble_eq_true rfl) (tg_c (by decide) tg_0) rfl ?_
  refine V_castL (show h = putL [] h from rfl) ?_
  refine v_aload_n dX12_init_0 rfl ?_
  refine v_obj dX12_init_1 k_1415 (by omega) (by decide) ?_
  refine v_aload_n dX12_init_4 rfl ?_
  refine v_bipush dX12_init_5 (c32 rfl) (by decide) ?_
  refine n_arr (n := 117) (N := 40) (t := .int) dX12_init_7 (by decide +kernel) (by decide) rfl karr_int (by simp) (fun _ _ q => q) rfl (by decide) (by decide) (fun j hj => ((Fz_p (n := 117) (Fz_m (m := 117) fz (by decide)) (by decide)) 117 j (by decide)).trans rfl) (by decide) (by decide) ?_
  refine n_putr (n := 118) (ci := 12) (j := 2) (ji := 2) dX12_init_9 k_1418 (by decide) kk_116 (by decide) (by decide) (by decide) rfl rfl (by first | exact Or.inl rfl | exact Or.inr ⟨rfl, rfl, rfl⟩) ?_
  refine v_aload_n dX12_init_12 rfl ?_
  refine v_bipush dX12_init_13 (c32 rfl) (by decide) ?_
  refine n_arr (n := 118) (N := 40) (t := .int) dX12_init_15 (by decide +kernel) (by decide) rfl karr_int (by simp) (fun _ _ q => q) rfl (by decide) (by decide) (fun j hj => ((Fz_p (n := 118) (Fz_m (m := 118) fz (by decide)) (by decide)) 118 j (by decide)).trans rfl) (by decide) (by decide) ?_
  refine n_putr (n := 119) (ci := 12) (j := 3) (ji := 3) dX12_init_17 k_1419 (by decide) kk_116 (by decide) (by decide) (by decide) rfl rfl (by first | exact Or.inl rfl | exact Or.inr ⟨rfl, rfl, rfl⟩) ?_
  refine v_aload_n dX12_init_20 rfl ?_
  refine v_bipush dX12_init_21 (c32 rfl) (by decide) ?_
  refine n_arr (n := 119) (N := 40) (t := .int) dX12_init_23 (by decide +kernel) (by decide) rfl karr_int (by simp) (fun _ _ q => q) rfl (by decide) (by decide) (fun j hj => ((Fz_p (n := 119) (Fz_m (m := 119) fz (by decide)) (by decide)) 119 j (by decide)).trans rfl) (by decide) (by decide) ?_
  refine n_putr (n := 120) (ci := 12) (j := 4) (ji := 4) dX12_init_25 k_1420 (by decide) kk_116 (by decide) (by decide) (by decide) rfl rfl (by first | exact Or.inl rfl | exact Or.inr ⟨rfl, rfl, rfl⟩) ?_
  refine v_aload_n dX12_init_28 rfl ?_
  refine v_bipush dX12_init_29 (c32 rfl) (by decide) ?_
  refine n_arr (n := 120) (N := 40) (t := .int) dX12_init_31 (by decide +kernel) (by decide) rfl karr_int (by simp) (fun _ _ q => q) rfl (by decide) (by decide) (fun j hj => ((Fz_p (n := 120) (Fz_m (m := 120) fz (by decide)) (by decide)) 120 j (by decide)).trans rfl) (by decide) (by decide) ?_
  refine n_putr (n := 121) (ci := 12) (j := 5) (ji := 5) dX12_init_33 k_1421 (by decide) kk_116 (by decide) (by decide) (by decide) rfl rfl (by first | exact Or.inl rfl | exact Or.inr ⟨rfl, rfl, rfl⟩) ?_
  refine v_aload_n dX12_init_36 rfl ?_
  refine v_bipush dX12_init_37 (c32 rfl) (by decide) ?_
  refine n_arr (n := 121) (N := 20) (t := .int) dX12_init_39 (by decide +kernel) (by decide) rfl karr_int (by simp) (fun _ _ q => q) rfl (by decide) (by decide) (fun j hj => ((Fz_p (n := 121) (Fz_m (m := 121) fz (by decide)) (by decide)) 121 j (by decide)).trans rfl) (by decide) (by decide) ?_
  refine n_putr (n := 122) (ci := 12) (j := 6) (ji := 6) dX12_init_41 k_1422 (by decide) kk_116 (by decide) (by decide) (by decide) rfl rfl (by first | exact Or.inl rfl | exact Or.inr ⟨rfl, rfl, rfl⟩) ?_
  refine v_aload_n dX12_init_44 rfl ?_
  refine v_bipush dX12_init_45 (c32 rfl) (by decide) ?_
  refine n_arr (n := 122) (N := 20) (t := .int) dX12_init_47 (by decide +kernel) (by decide) rfl karr_int (by simp) (fun _ _ q => q) rfl (by decide) (by decide) (fun j hj => ((Fz_p (n := 122) (Fz_m (m := 122) fz (by decide)) (by decide)) 122 j (by decide)).trans rfl) (by decide) (by decide) ?_
  refine n_putr (n := 123) (ci := 12) (j := 7) (ji := 7) dX12_init_49 k_1423 (by decide) kk_116 (by decide) (by decide) (by decide) rfl rfl (by first | exact Or.inl rfl | exact Or.inr ⟨rfl, rfl, rfl⟩) ?_
  refine v_aload_n dX12_init_52 rfl ?_
  refine v_bipush dX12_init_53 (c32 rfl) (by decide) ?_
  refine n_arr (n := 123) (N := 20) (t := .int) dX12_init_55 (by decide +kernel) (by decide) rfl karr_int (by simp) (fun _ _ q => q) rfl (by decide) (by decide) (fun j hj => ((Fz_p (n := 123) (Fz_m (m := 123) fz (by decide)) (by decide)) 123 j (by decide)).trans rfl) (by decide) (by decide) ?_
  refine n_putr (n := 124) (ci := 12) (j := 8) (ji := 8) dX12_init_57 k_1424 (by decide) kk_116 (by decide) (by decide) (by decide) rfl rfl (by first | exact Or.inl rfl | exact Or.inr ⟨rfl, rfl, rfl⟩) ?_
  refine v_aload_n dX12_init_60 rfl ?_
  refine v_bipush dX12_init_61 (c32 rfl) (by decide) ?_
  refine n_arr (n := 124) (N := 20) (t := .int) dX12_init_63 (by decide +kernel) (by decide) rfl karr_int (by simp) (fun _ _ q => q) rfl (by decide) (by decide) (fun j hj => ((Fz_p (n := 124) (Fz_m (m := 124) fz (by decide)) (by decide)) 124 j (by decide)).trans rfl) (by decide) (by decide) ?_
  refine n_putr (n := 125) (ci := 12) (j := 9) (ji := 9) dX12_init_65 k_1425 (by decide) kk_116 (by decide) (by decide) (by decide) rfl rfl (by first | exact Or.inl rfl | exact Or.inr ⟨rfl, rfl, rfl⟩) ?_
  refine v_aload_n dX12_init_68 rfl ?_
  refine v_sipush dX12_init_69 (c32 rfl) (by decide) ?_
  refine n_arr (n := 125) (N := 800) (t := .int) dX12_init_72 (by decide +kernel) (by decide) rfl karr_int (by simp) (fun _ _ q => q) rfl (by decide) (by decide) (fun j hj => ((Fz_p (n := 125) (Fz_m (m := 125) fz (by decide)) (by decide)) 125 j (by decide)).trans rfl) (by decide) (by decide) ?_
  refine n_putr (n := 126) (ci := 12) (j := 10) (ji := 10) dX12_init_74 k_1426 (by decide) kk_116 (by decide) (by decide) (by decide) rfl rfl (by first | exact Or.inl rfl | exact Or.inr ⟨rfl, rfl, rfl⟩) ?_
  refine v_aload_n dX12_init_77 rfl ?_
  refine v_sipush dX12_init_78 (c32 rfl) (by decide) ?_
  refine n_arr (n := 126) (N := 128) (t := .int) dX12_init_81 (by decide +kernel) (by decide) rfl karr_int (by simp) (fun _ _ q => q) rfl (by decide) (by decide) (fun j hj => ((Fz_p (n := 126) (Fz_m (m := 126) fz (by decide)) (by decide)) 126 j (by decide)).trans rfl) (by decide) (by decide) ?_
  refine n_putr (n := 127) (ci := 12) (j := 11) (ji := 11) dX12_init_83 k_1427 (by decide) kk_116 (by decide) (by decide) (by decide) rfl rfl (by first | exact Or.inl rfl | exact Or.inr ⟨rfl, rfl, rfl⟩) ?_
  refine v_aload_n dX12_init_86 rfl ?_
  refine v_sipush dX12_init_87 (c32 rfl) (by decide) ?_
  refine n_arr (n := 127) (N := 200) (t := .byte) dX12_init_90 (by decide +kernel) (by decide) rfl karr_byte (by simp) (fun _ _ q => q) rfl (by decide) (by decide) (fun j hj => ((Fz_p (n := 127) (Fz_m (m := 127) fz (by decide)) (by decide)) 127 j (by decide)).trans rfl) (by decide) (by decide) ?_
  refine n_putr (n := 128) (ci := 12) (j := 12) (ji := 12) dX12_init_92 k_1428 (by decide) kk_116 (by decide) (by decide) (by decide) rfl rfl (by first | exact Or.inl rfl | exact Or.inr ⟨rfl, rfl, rfl⟩) ?_
  refine v_aload_n dX12_init_95 rfl ?_
  refine v_sipush dX12_init_96 (c32 rfl) (by decide) ?_
  refine n_arr (n := 128) (N := 4000) (t := .byte) dX12_init_99 (by decide +kernel) (by decide) rfl karr_byte (by simp) (fun _ _ q => q) rfl (by decide) (by decide) (fun j hj => ((Fz_p (n := 128) (Fz_m (m := 128) fz (by decide)) (by decide)) 128 j (by decide)).trans rfl) (by decide) (by decide) ?_
  refine n_putr (n := 129) (ci := 12) (j := 13) (ji := 13) dX12_init_101 k_1429 (by decide) kk_116 (by decide) (by decide) (by decide) rfl rfl (by first | exact Or.inl rfl | exact Or.inr ⟨rfl, rfl, rfl⟩) ?_
  refine v_aload_n dX12_init_104 rfl ?_
  refine v_aload_n dX12_init_105 rfl ?_
  refine v_getr (ci := 12) (j := 12) (ji := 12) (z := 127) dX12_init_106 k_1428 (by decide) (kt kk_116 (by decide)) (by decide) rfl rfl (fun _ => (putL_at (show lkP 116 12 [(116, 13, 128), (116, 12, 127), (116, 11, 126), (116, 10, 125), (116, 9, 124), (116, 8, 123), (116, 7, 122), (116, 6, 121), (116, 5, 120), (116, 4, 119), (116, 3, 118), (116, 2, 117)] = some (127) from by decide))) (by decide) ?_
  refine n_putr (n := 129) (ci := 12) (j := 17) (ji := 17) dX12_init_109 k_1433 (by decide) kk_116 (by decide) (by decide) (by decide) rfl rfl (by first | exact Or.inl rfl | exact Or.inr ⟨rfl, rfl, rfl⟩) ?_
  refine v_aload_n dX12_init_112 rfl ?_
  refine v_bipush dX12_init_113 (c32 rfl) (by decide) ?_
  refine n_arr (n := 129) (N := 100) (t := .int) dX12_init_115 (by decide +kernel) (by decide) rfl karr_int (by simp) (fun _ _ q => q) rfl (by decide) (by decide) (fun j hj => ((Fz_p (n := 129) (Fz_m (m := 129) fz (by decide)) (by decide)) 129 j (by decide)).trans rfl) (by decide) (by decide) ?_
  refine n_putr (n := 130) (ci := 12) (j := 26) (ji := 26) dX12_init_117 k_1442 (by decide) kk_116 (by decide) (by decide) (by decide) rfl rfl (by first | exact Or.inl rfl | exact Or.inr ⟨rfl, rfl, rfl⟩) ?_
  refine v_aload_n dX12_init_120 rfl ?_
  refine v_bipush dX12_init_121 (c32 rfl) (by decide) ?_
  refine n_arr (n := 130) (N := 100) (t := .int) dX12_init_123 (by decide +kernel) (by decide) rfl karr_int (by simp) (fun _ _ q => q) rfl (by decide) (by decide) (fun j hj => ((Fz_p (n := 130) (Fz_m (m := 130) fz (by decide)) (by decide)) 130 j (by decide)).trans rfl) (by decide) (by decide) ?_
  refine n_putr (n := 131) (ci := 12) (j := 27) (ji := 27) dX12_init_125 k_1443 (by decide) kk_116 (by decide) (by decide) (by decide) rfl rfl (by first | exact Or.inl rfl | exact Or.inr ⟨rfl, rfl, rfl⟩) ?_
  refine v_aload_n dX12_init_128 rfl ?_
  refine v_bipush dX12_init_129 (c32 rfl) (by decide) ?_
  refine n_arr (n := 131) (N := 100) (t := .int) dX12_init_131 (by decide +kernel) (by decide) rfl karr_int (by simp) (fun _ _ q => q) rfl (by decide) (by decide) (fun j hj => ((Fz_p (n := 131) (Fz_m (m := 131) fz (by decide)) (by decide)) 131 j (by decide)).trans rfl) (by decide) (by decide) ?_
  refine n_putr (n := 132) (ci := 12) (j := 28) (ji := 28) dX12_init_133 k_1444 (by decide) kk_116 (by decide) (by decide) (by decide) rfl rfl (by first | exact Or.inl rfl | exact Or.inr ⟨rfl, rfl, rfl⟩) ?_
  refine v_aload_n dX12_init_136 rfl ?_
  refine v_bipush dX12_init_137 (c32 rfl) (by decide) ?_
  refine n_arr (n := 132) (N := 100) (t := .int) dX12_init_139 (by decide +kernel) (by decide) rfl karr_int (by simp) (fun _ _ q => q) rfl (by decide) (by decide) (fun j hj => ((Fz_p (n := 132) (Fz_m (m := 132) fz (by decide)) (by decide)) 132 j (by decide)).trans rfl) (by decide) (by decide) ?_
  refine n_putr (n := 133) (ci := 12) (j := 29) (ji := 29) dX12_init_141 k_1445 (by decide) kk_116 (by decide) (by decide) (by decide) rfl rfl (by first | exact Or.inl rfl | exact Or.inr ⟨rfl, rfl, rfl⟩) ?_
  refine v_aload_n dX12_init_144 rfl ?_
  refine v_bipush dX12_init_145 (c32 rfl) (by decide) ?_
  refine n_arr (n := 133) (N := 100) (t := .int) dX12_init_147 (by decide +kernel) (by decide) rfl karr_int (by simp) (fun _ _ q => q) rfl (by decide) (by decide) (fun j hj => ((Fz_p (n := 133) (Fz_m (m := 133) fz (by decide)) (by decide)) 133 j (by decide)).trans rfl) (by decide) (by decide) ?_
  refine n_putr (n := 134) (ci := 12) (j := 30) (ji := 30) dX12_init_149 k_1446 (by decide) kk_116 (by decide) (by decide) (by decide) rfl rfl (by first | exact Or.inl rfl | exact Or.inr ⟨rfl, rfl, rfl⟩) ?_
  refine v_aload_n dX12_init_152 rfl ?_
  refine v_bipush dX12_init_153 (c32 rfl) (by decide) ?_
  refine n_arr (n := 134) (N := 100) (t := .int) dX12_init_155 (by decide +kernel) (by decide) rfl karr_int (by simp) (fun _ _ q => q) rfl (by decide) (by decide) (fun j hj => ((Fz_p (n := 134) (Fz_m (m := 134) fz (by decide)) (by decide)) 134 j (by decide)).trans rfl) (by decide) (by decide) ?_
  refine n_putr (n := 135) (ci := 12) (j := 31) (ji := 31) dX12_init_157 k_1447 (by decide) kk_116 (by decide) (by decide) (by decide) rfl rfl (by first | exact Or.inl rfl | exact Or.inr ⟨rfl, rfl, rfl⟩) ?_
  refine v_aload_n dX12_init_160 rfl ?_
  refine v_bipush dX12_init_161 (c32 rfl) (by decide) ?_
  refine n_arr (n := 135) (N := 100) (t := .int) dX12_init_163 (by decide +kernel) (by decide) rfl karr_int (by simp) (fun _ _ q => q) rfl (by decide) (by decide) (fun j hj => ((Fz_p (n := 135) (Fz_m (m := 135) fz (by decide)) (by decide)) 135 j (by decide)).trans rfl) (by decide) (by decide) ?_
  refine n_putr (n := 136) (ci := 12) (j := 32) (ji := 32) dX12_init_165 k_1448 (by decide) kk_116 (by decide) (by decide) (by decide) rfl rfl (by first | exact Or.inl rfl | exact Or.inr ⟨rfl, rfl, rfl⟩) ?_
  refine v_aload_n dX12_init_168 rfl ?_
  refine v_bipush dX12_init_169 (c32 rfl) (by decide) ?_
  refine n_arr (n := 136) (N := 100) (t := .int) dX12_init_171 (by decide +kernel) (by decide) rfl karr_int (by simp) (fun _ _ q => q) rfl (by decide) (by decide) (fun j hj => ((Fz_p (n := 136) (Fz_m (m := 136) fz (by decide)) (by decide)) 136 j (by decide)).trans rfl) (by decide) (by decide) ?_
  refine n_putr (n := 137) (ci := 12) (j := 33) (ji := 33) dX12_init_173 k_1449 (by decide) kk_116 (by decide) (by decide) (by decide) rfl rfl (by first | exact Or.inl rfl | exact Or.inr ⟨rfl, rfl, rfl⟩) ?_
  refine v_aload_n dX12_init_176 rfl ?_
  refine v_bipush dX12_init_177 (c32 rfl) (by decide) ?_
  refine n_arr (n := 137) (N := 100) (t := .int) dX12_init_179 (by decide +kernel) (by decide) rfl karr_int (by simp) (fun _ _ q => q) rfl (by decide) (by decide) (fun j hj => ((Fz_p (n := 137) (Fz_m (m := 137) fz (by decide)) (by decide)) 137 j (by decide)).trans rfl) (by decide) (by decide) ?_
  refine n_putr (n := 138) (ci := 12) (j := 34) (ji := 34) dX12_init_181 k_1450 (by decide) kk_116 (by decide) (by decide) (by decide) rfl rfl (by first | exact Or.inl rfl | exact Or.inr ⟨rfl, rfl, rfl⟩) ?_
  refine v_aload_n dX12_init_184 rfl ?_
  refine v_sipush dX12_init_185 (c32 rfl) (by decide) ?_
  refine n_arr (n := 138) (N := 600) (t := .int) dX12_init_188 (by decide +kernel) (by decide) rfl karr_int (by simp) (fun _ _ q => q) rfl (by decide) (by decide) (fun j hj => ((Fz_p (n := 138) (Fz_m (m := 138) fz (by decide)) (by decide)) 138 j (by decide)).trans rfl) (by decide) (by decide) ?_
  refine n_putr (n := 139) (ci := 12) (j := 35) (ji := 35) dX12_init_190 k_1451 (by decide) kk_116 (by decide) (by decide) (by decide) rfl rfl (by first | exact Or.inl rfl | exact Or.inr ⟨rfl, rfl, rfl⟩) ?_
  refine v_aload_n dX12_init_193 rfl ?_
  refine v_sipush dX12_init_194 (c32 rfl) (by decide) ?_
  refine n_arr (n := 139) (N := 600) (t := .int) dX12_init_197 (by decide +kernel) (by decide) rfl karr_int (by simp) (fun _ _ q => q) rfl (by decide) (by decide) (fun j hj => ((Fz_p (n := 139) (Fz_m (m := 139) fz (by decide)) (by decide)) 139 j (by decide)).trans rfl) (by decide) (by decide) ?_
  refine n_putr (n := 140) (ci := 12) (j := 36) (ji := 36) dX12_init_199 k_1452 (by decide) kk_116 (by decide) (by decide) (by decide) rfl rfl (by first | exact Or.inl rfl | exact Or.inr ⟨rfl, rfl, rfl⟩) ?_
  refine v_aload_n dX12_init_202 rfl ?_
  refine v_bipush dX12_init_203 (c32 rfl) (by decide) ?_
  refine n_arr (n := 140) (N := 6) (t := .int) dX12_init_205 (by decide +kernel) (by decide) rfl karr_int (by simp) (fun _ _ q => q) rfl (by decide) (by decide) (fun j hj => ((Fz_p (n := 140) (Fz_m (m := 140) fz (by decide)) (by decide)) 140 j (by decide)).trans rfl) (by decide) (by decide) ?_
  refine n_putr (n := 141) (ci := 12) (j := 37) (ji := 37) dX12_init_207 k_1453 (by decide) kk_116 (by decide) (by decide) (by decide) rfl rfl (by first | exact Or.inl rfl | exact Or.inr ⟨rfl, rfl, rfl⟩) ?_
  refine v_aload_n dX12_init_210 rfl ?_
  refine v_bipush dX12_init_211 (c32 rfl) (by decide) ?_
  refine n_arr (n := 141) (N := 6) (t := .int) dX12_init_213 (by decide +kernel) (by decide) rfl karr_int (by simp) (fun _ _ q => q) rfl (by decide) (by decide) (fun j hj => ((Fz_p (n := 141) (Fz_m (m := 141) fz (by decide)) (by decide)) 141 j (by decide)).trans rfl) (by decide) (by decide) ?_
  refine n_putr (n := 142) (ci := 12) (j := 38) (ji := 38) dX12_init_215 k_1454 (by decide) kk_116 (by decide) (by decide) (by decide) rfl rfl (by first | exact Or.inl rfl | exact Or.inr ⟨rfl, rfl, rfl⟩) ?_
  refine v_aload_n dX12_init_218 rfl ?_
  refine v_bipush dX12_init_219 (c32 rfl) (by decide) ?_
  refine n_arr (n := 142) (N := 100) (t := .int) dX12_init_221 (by decide +kernel) (by decide) rfl karr_int (by simp) (fun _ _ q => q) rfl (by decide) (by decide) (fun j hj => ((Fz_p (n := 142) (Fz_m (m := 142) fz (by decide)) (by decide)) 142 j (by decide)).trans rfl) (by decide) (by decide) ?_
  refine n_putr (n := 143) (ci := 12) (j := 39) (ji := 39) dX12_init_223 k_1455 (by decide) kk_116 (by decide) (by decide) (by decide) rfl rfl (by first | exact Or.inl rfl | exact Or.inr ⟨rfl, rfl, rfl⟩) ?_
  refine v_aload_n dX12_init_226 rfl ?_
  refine v_bipush dX12_init_227 (c32 rfl) (by decide) ?_
  refine n_arr (n := 143) (N := 100) (t := .int) dX12_init_229 (by decide +kernel) (by decide) rfl karr_int (by simp) (fun _ _ q => q) rfl (by decide) (by decide) (fun j hj => ((Fz_p (n := 143) (Fz_m (m := 143) fz (by decide)) (by decide)) 143 j (by decide)).trans rfl) (by decide) (by decide) ?_
  refine n_putr (n := 144) (ci := 12) (j := 40) (ji := 40) dX12_init_231 k_1456 (by decide) kk_116 (by decide) (by decide) (by decide) rfl rfl (by first | exact Or.inl rfl | exact Or.inr ⟨rfl, rfl, rfl⟩) ?_
  refine v_aload_n dX12_init_234 rfl ?_
  refine v_bipush dX12_init_235 (c32 rfl) (by decide) ?_
  refine n_arr (n := 144) (N := 100) (t := .int) dX12_init_237 (by decide +kernel) (by decide) rfl karr_int (by simp) (fun _ _ q => q) rfl (by decide) (by decide) (fun j hj => ((Fz_p (n := 144) (Fz_m (m := 144) fz (by decide)) (by decide)) 144 j (by decide)).trans rfl) (by decide) (by decide) ?_
  refine n_putr (n := 145) (ci := 12) (j := 41) (ji := 41) dX12_init_239 k_1457 (by decide) kk_116 (by decide) (by decide) (by decide) rfl rfl (by first | exact Or.inl rfl | exact Or.inr ⟨rfl, rfl, rfl⟩) ?_
  refine v_aload_n dX12_init_242 rfl ?_
  refine v_bipush dX12_init_243 (c32 rfl) (by decide) ?_
  refine n_arr (n := 145) (N := 100) (t := .int) dX12_init_245 (by decide +kernel) (by decide) rfl karr_int (by simp) (fun _ _ q => q) rfl (by decide) (by decide) (fun j hj => ((Fz_p (n := 145) (Fz_m (m := 145) fz (by decide)) (by decide)) 145 j (by decide)).trans rfl) (by decide) (by decide) ?_
  refine n_putr (n := 146) (ci := 12) (j := 42) (ji := 42) dX12_init_247 k_1458 (by decide) kk_116 (by decide) (by decide) (by decide) rfl rfl (by first | exact Or.inl rfl | exact Or.inr ⟨rfl, rfl, rfl⟩) ?_
  refine v_aload_n dX12_init_250 rfl ?_
  refine v_bipush dX12_init_251 (c32 rfl) (by decide) ?_
  refine n_arr (n := 146) (N := 100) (t := .int) dX12_init_253 (by decide +kernel) (by decide) rfl karr_int (by simp) (fun _ _ q => q) rfl (by decide) (by decide) (fun j hj => ((Fz_p (n := 146) (Fz_m (m := 146) fz (by decide)) (by decide)) 146 j (by decide)).trans rfl) (by decide) (by decide) ?_
  refine n_putr (n := 147) (ci := 12) (j := 43) (ji := 43) dX12_init_255 k_1459 (by decide) kk_116 (by decide) (by decide) (by decide) rfl rfl (by first | exact Or.inl rfl | exact Or.inr ⟨rfl, rfl, rfl⟩) ?_
  refine v_aload_n dX12_init_258 rfl ?_
  refine v_bipush dX12_init_259 (c32 rfl) (by decide) ?_
  refine n_arr (n := 147) (N := 100) (t := .int) dX12_init_261 (by decide +kernel) (by decide) rfl karr_int (by simp) (fun _ _ q => q) rfl (by decide) (by decide) (fun j hj => ((Fz_p (n := 147) (Fz_m (m := 147) fz (by decide)) (by decide)) 147 j (by decide)).trans rfl) (by decide) (by decide) ?_
  refine n_putr (n := 148) (ci := 12) (j := 44) (ji := 44) dX12_init_263 k_1460 (by decide) kk_116 (by decide) (by decide) (by decide) rfl rfl (by first | exact Or.inl rfl | exact Or.inr ⟨rfl, rfl, rfl⟩) ?_
  refine v_aload_n dX12_init_266 rfl ?_
  refine v_bipush dX12_init_267 (c32 rfl) (by decide) ?_
  refine n_arr (n := 148) (N := 100) (t := .boolean) dX12_init_269 (by decide +kernel) (by decide) rfl karr_boolean (by simp) (fun _ _ q => q) rfl (by decide) (by decide) (fun j hj => ((Fz_p (n := 148) (Fz_m (m := 148) fz (by decide)) (by decide)) 148 j (by decide)).trans rfl) (by decide) (by decide) ?_
  refine n_putr (n := 149) (ci := 12) (j := 49) (ji := 49) dX12_init_271 k_1465 (by decide) kk_116 (by decide) (by decide) (by decide) rfl rfl (by first | exact Or.inl rfl | exact Or.inr ⟨rfl, rfl, rfl⟩) ?_
  refine v_aload_n dX12_init_274 rfl ?_
  refine v_bipush dX12_init_275 (c32 rfl) (by decide) ?_
  refine n_arr (n := 149) (N := 100) (t := .boolean) dX12_init_277 (by decide +kernel) (by decide) rfl karr_boolean (by simp) (fun _ _ q => q) rfl (by decide) (by decide) (fun j hj => ((Fz_p (n := 149) (Fz_m (m := 149) fz (by decide)) (by decide)) 149 j (by decide)).trans rfl) (by decide) (by decide) ?_
  refine n_putr (n := 150) (ci := 12) (j := 50) (ji := 50) dX12_init_279 k_1466 (by decide) kk_116 (by decide) (by decide) (by decide) rfl rfl (by first | exact Or.inl rfl | exact Or.inr ⟨rfl, rfl, rfl⟩) ?_
  refine v_aload_n dX12_init_282 rfl ?_
  refine v_bipush dX12_init_283 (c32 rfl) (by decide) ?_
  refine n_arr (n := 150) (N := 100) (t := .int) dX12_init_285 (by decide +kernel) (by decide) rfl karr_int (by simp) (fun _ _ q => q) rfl (by decide) (by decide) (fun j hj => ((Fz_p (n := 150) (Fz_m (m := 150) fz (by decide)) (by decide)) 150 j (by decide)).trans rfl) (by decide) (by decide) ?_
  refine n_putr (n := 151) (ci := 12) (j := 51) (ji := 51) dX12_init_287 k_1467 (by decide) kk_116 (by decide) (by decide) (by decide) rfl rfl (by first | exact Or.inl rfl | exact Or.inr ⟨rfl, rfl, rfl⟩) ?_
  refine v_aload_n dX12_init_290 rfl ?_
  refine v_bipush dX12_init_291 (c32 rfl) (by decide) ?_
  refine n_arr (n := 151) (N := 100) (t := .int) dX12_init_293 (by decide +kernel) (by decide) rfl karr_int (by simp) (fun _ _ q => q) rfl (by decide) (by decide) (fun j hj => ((Fz_p (n := 151) (Fz_m (m := 151) fz (by decide)) (by decide)) 151 j (by decide)).trans rfl) (by decide) (by decide) ?_
  refine n_putr (n := 152) (ci := 12) (j := 52) (ji := 52) dX12_init_295 k_1468 (by decide) kk_116 (by decide) (by decide) (by decide) rfl rfl (by first | exact Or.inl rfl | exact Or.inr ⟨rfl, rfl, rfl⟩) ?_
  refine v_aload_n dX12_init_298 rfl ?_
  refine v_bipush dX12_init_299 (c32 rfl) (by decide) ?_
  refine n_arr (n := 152) (N := 100) (t := .int) dX12_init_301 (by decide +kernel) (by decide) rfl karr_int (by simp) (fun _ _ q => q) rfl (by decide) (by decide) (fun j hj => ((Fz_p (n := 152) (Fz_m (m := 152) fz (by decide)) (by decide)) 152 j (by decide)).trans rfl) (by decide) (by decide) ?_
  refine n_putr (n := 153) (ci := 12) (j := 53) (ji := 53) dX12_init_303 k_1469 (by decide) kk_116 (by decide) (by decide) (by decide) rfl rfl (by first | exact Or.inl rfl | exact Or.inr ⟨rfl, rfl, rfl⟩) ?_
  refine v_aload_n dX12_init_306 rfl ?_
  refine v_bipush dX12_init_307 (c32 rfl) (by decide) ?_
  refine n_arr (n := 153) (N := 100) (t := .int) dX12_init_309 (by decide +kernel) (by decide) rfl karr_int (by simp) (fun _ _ q => q) rfl (by decide) (by decide) (fun j hj => ((Fz_p (n := 153) (Fz_m (m := 153) fz (by decide)) (by decide)) 153 j (by decide)).trans rfl) (by decide) (by decide) ?_
  refine n_putr (n := 154) (ci := 12) (j := 54) (ji := 54) dX12_init_311 k_1470 (by decide) kk_116 (by decide) (by decide) (by decide) rfl rfl (by first | exact Or.inl rfl | exact Or.inr ⟨rfl, rfl, rfl⟩) ?_
  refine v_aload_n dX12_init_314 rfl ?_
  refine v_bipush dX12_init_315 (c32 rfl) (by decide) ?_
  refine n_arr (n := 154) (N := 100) (t := .int) dX12_init_317 (by decide +kernel) (by decide) rfl karr_int (by simp) (fun _ _ q => q) rfl (by decide) (by decide) (fun j hj => ((Fz_p (n := 154) (Fz_m (m := 154) fz (by decide)) (by decide)) 154 j (by decide)).trans rfl) (by decide) (by decide) ?_
  refine n_putr (n := 155) (ci := 12) (j := 55) (ji := 55) dX12_init_319 k_1471 (by decide) kk_116 (by decide) (by decide) (by decide) rfl rfl (by first | exact Or.inl rfl | exact Or.inr ⟨rfl, rfl, rfl⟩) ?_
  refine v_aload_n dX12_init_322 rfl ?_
  refine v_bipush dX12_init_323 (c32 rfl) (by decide) ?_
  refine n_arr (n := 155) (N := 100) (t := .int) dX12_init_325 (by decide +kernel) (by decide) rfl karr_int (by simp) (fun _ _ q => q) rfl (by decide) (by decide) (fun j hj => ((Fz_p (n := 155) (Fz_m (m := 155) fz (by decide)) (by decide)) 155 j (by decide)).trans rfl) (by decide) (by decide) ?_
  refine n_putr (n := 156) (ci := 12) (j := 56) (ji := 56) dX12_init_327 k_1472 (by decide) kk_116 (by decide) (by decide) (by decide) rfl rfl (by first | exact Or.inl rfl | exact Or.inr ⟨rfl, rfl, rfl⟩) ?_
  refine v_aload_n dX12_init_330 rfl ?_
  refine v_bipush dX12_init_331 (c32 rfl) (by decide) ?_
  refine n_arr (n := 156) (N := 100) (t := .int) dX12_init_333 (by decide +kernel) (by decide) rfl karr_int (by simp) (fun _ _ q => q) rfl (by decide) (by decide) (fun j hj => ((Fz_p (n := 156) (Fz_m (m := 156) fz (by decide)) (by decide)) 156 j (by decide)).trans rfl) (by decide) (by decide) ?_
  refine n_putr (n := 157) (ci := 12) (j := 57) (ji := 57) dX12_init_335 k_1473 (by decide) kk_116 (by decide) (by decide) (by decide) rfl rfl (by first | exact Or.inl rfl | exact Or.inr ⟨rfl, rfl, rfl⟩) ?_
  refine v_aload_n dX12_init_338 rfl ?_
  refine v_bipush dX12_init_339 (c32 rfl) (by decide) ?_
  refine n_arr (n := 157) (N := 100) (t := .int) dX12_init_341 (by decide +kernel) (by decide) rfl karr_int (by simp) (fun _ _ q => q) rfl (by decide) (by decide) (fun j hj => ((Fz_p (n := 157) (Fz_m (m := 157) fz (by decide)) (by decide)) 157 j (by decide)).trans rfl) (by decide) (by decide) ?_
  refine n_putr (n := 158) (ci := 12) (j := 58) (ji := 58) dX12_init_343 k_1474 (by decide) kk_116 (by decide) (by decide) (by decide) rfl rfl (by first | exact Or.inl rfl | exact Or.inr ⟨rfl, rfl, rfl⟩) ?_
  refine v_aload_n dX12_init_346 rfl ?_
  refine v_bipush dX12_init_347 (c32 rfl) (by decide) ?_
  refine n_arr (n := 158) (N := 100) (t := .int) dX12_init_349 (by decide +kernel) (by decide) rfl karr_int (by simp) (fun _ _ q => q) rfl (by decide) (by decide) (fun j hj => ((Fz_p (n := 158) (Fz_m (m := 158) fz (by decide)) (by decide)) 158 j (by decide)).trans rfl) (by decide) (by decide) ?_
  refine n_putr (n := 159) (ci := 12) (j := 59) (ji := 59) dX12_init_351 k_1475 (by decide) kk_116 (by decide) (by decide) (by decide) rfl rfl (by first | exact Or.inl rfl | exact Or.inr ⟨rfl, rfl, rfl⟩) ?_
  refine v_aload_n dX12_init_354 rfl ?_
  refine v_bipush dX12_init_355 (c32 rfl) (by decide) ?_
  refine n_arr (n := 159) (N := 100) (t := .int) dX12_init_357 (by decide +kernel) (by decide) rfl karr_int (by simp) (fun _ _ q => q) rfl (by decide) (by decide) (fun j hj => ((Fz_p (n := 159) (Fz_m (m := 159) fz (by decide)) (by decide)) 159 j (by decide)).trans rfl) (by decide) (by decide) ?_
  refine n_putr (n := 160) (ci := 12) (j := 60) (ji := 60) dX12_init_359 k_1476 (by decide) kk_116 (by decide) (by decide) (by decide) rfl rfl (by first | exact Or.inl rfl | exact Or.inr ⟨rfl, rfl, rfl⟩) ?_
  refine v_aload_n dX12_init_362 rfl ?_
  refine v_bipush dX12_init_363 (c32 rfl) (by decide) ?_
  refine n_arr (n := 160) (N := 100) (t := .long) dX12_init_365 (by decide +kernel) (by decide) rfl karr_long (by simp) (fun _ _ q => q) rfl (by decide) (by decide) (fun j hj => ((Fz_p (n := 160) (Fz_m (m := 160) fz (by decide)) (by decide)) 160 j (by decide)).trans rfl) (by decide) (by decide) ?_
  refine n_putr (n := 161) (ci := 12) (j := 61) (ji := 61) dX12_init_367 k_1477 (by decide) kk_116 (by decide) (by decide) (by decide) rfl rfl (by first | exact Or.inl rfl | exact Or.inr ⟨rfl, rfl, rfl⟩) ?_
  refine v_aload_n dX12_init_370 rfl ?_
  refine v_sipush dX12_init_371 (c32 rfl) (by decide) ?_
  refine n_arr (n := 161) (N := 400) (t := .long) dX12_init_374 (by decide +kernel) (by decide) rfl karr_long (by simp) (fun _ _ q => q) rfl (by decide) (by decide) (fun j hj => ((Fz_p (n := 161) (Fz_m (m := 161) fz (by decide)) (by decide)) 161 j (by decide)).trans rfl) (by decide) (by decide) ?_
  refine n_putr (n := 162) (ci := 12) (j := 62) (ji := 62) dX12_init_376 k_1478 (by decide) kk_116 (by decide) (by decide) (by decide) rfl rfl (by first | exact Or.inl rfl | exact Or.inr ⟨rfl, rfl, rfl⟩) ?_
  refine v_aload_n dX12_init_379 rfl ?_
  refine v_sipush dX12_init_380 (c32 rfl) (by decide) ?_
  refine n_arr (n := 162) (N := 400) (t := .int) dX12_init_383 (by decide +kernel) (by decide) rfl karr_int (by simp) (fun _ _ q => q) rfl (by decide) (by decide) (fun j hj => ((Fz_p (n := 162) (Fz_m (m := 162) fz (by decide)) (by decide)) 162 j (by decide)).trans rfl) (by decide) (by decide) ?_
  refine n_putr (n := 163) (ci := 12) (j := 63) (ji := 63) dX12_init_385 k_1479 (by decide) kk_116 (by decide) (by decide) (by decide) rfl rfl (by first | exact Or.inl rfl | exact Or.inr ⟨rfl, rfl, rfl⟩) ?_
  refine v_aload_n dX12_init_388 rfl ?_
  refine v_sipush dX12_init_389 (c32 rfl) (by decide) ?_
  refine n_arr (n := 163) (N := 400) (t := .int) dX12_init_392 (by decide +kernel) (by decide) rfl karr_int (by simp) (fun _ _ q => q) rfl (by decide) (by decide) (fun j hj => ((Fz_p (n := 163) (Fz_m (m := 163) fz (by decide)) (by decide)) 163 j (by decide)).trans rfl) (by decide) (by decide) ?_
  refine n_putr (n := 164) (ci := 12) (j := 64) (ji := 64) dX12_init_394 k_1480 (by decide) kk_116 (by decide) (by decide) (by decide) rfl rfl (by first | exact Or.inl rfl | exact Or.inr ⟨rfl, rfl, rfl⟩) ?_
  refine v_aload_n dX12_init_397 rfl ?_
  refine v_sipush dX12_init_398 (c32 rfl) (by decide) ?_
  refine n_arr (n := 164) (N := 400) (t := .boolean) dX12_init_401 (by decide +kernel) (by decide) rfl karr_boolean (by simp) (fun _ _ q => q) rfl (by decide) (by decide) (fun j hj => ((Fz_p (n := 164) (Fz_m (m := 164) fz (by decide)) (by decide)) 164 j (by decide)).trans rfl) (by decide) (by decide) ?_
  refine n_putr (n := 165) (ci := 12) (j := 69) (ji := 69) dX12_init_403 k_1485 (by decide) kk_116 (by decide) (by decide) (by decide) rfl rfl (by first | exact Or.inl rfl | exact Or.inr ⟨rfl, rfl, rfl⟩) ?_
  refine v_aload_n dX12_init_406 rfl ?_
  refine v_bipush dX12_init_407 (c32 rfl) (by decide) ?_
  refine n_arr (n := 165) (N := 100) (t := .int) dX12_init_409 (by decide +kernel) (by decide) rfl karr_int (by simp) (fun _ _ q => q) rfl (by decide) (by decide) (fun j hj => ((Fz_p (n := 165) (Fz_m (m := 165) fz (by decide)) (by decide)) 165 j (by decide)).trans rfl) (by decide) (by decide) ?_
  refine n_putr (n := 166) (ci := 12) (j := 70) (ji := 70) dX12_init_411 k_1486 (by decide) kk_116 (by decide) (by decide) (by decide) rfl rfl (by first | exact Or.inl rfl | exact Or.inr ⟨rfl, rfl, rfl⟩) ?_
  refine v_aload_n dX12_init_414 rfl ?_
  refine v_bipush dX12_init_415 (c32 rfl) (by decide) ?_
  refine n_arr (n := 166) (N := 100) (t := .long) dX12_init_417 (by decide +kernel) (by decide) rfl karr_long (by simp) (fun _ _ q => q) rfl (by decide) (by decide) (fun j hj => ((Fz_p (n := 166) (Fz_m (m := 166) fz (by decide)) (by decide)) 166 j (by decide)).trans rfl) (by decide) (by decide) ?_
  refine n_putr (n := 167) (ci := 12) (j := 71) (ji := 71) dX12_init_419 k_1487 (by decide) kk_116 (by decide) (by decide) (by decide) rfl rfl (by first | exact Or.inl rfl | exact Or.inr ⟨rfl, rfl, rfl⟩) ?_
  refine v_aload_n dX12_init_422 rfl ?_
  refine v_iconst dX12_init_423 (c32 rfl) ?_
  refine n_arr (n := 167) (N := 4) (t := .int) dX12_init_424 (by decide +kernel) (by decide) rfl karr_int (by simp) (fun _ _ q => q) rfl (by decide) (by decide) (fun j hj => ((Fz_p (n := 167) (Fz_m (m := 167) fz (by decide)) (by decide)) 167 j (by decide)).trans rfl) (by decide) (by decide) ?_
  refine n_putr (n := 168) (ci := 12) (j := 72) (ji := 72) dX12_init_426 k_1488 (by decide) kk_116 (by decide) (by decide) (by decide) rfl rfl (by first | exact Or.inl rfl | exact Or.inr ⟨rfl, rfl, rfl⟩) ?_
  refine v_aload_n dX12_init_429 rfl ?_
  refine v_bipush dX12_init_430 (c32 rfl) (by decide) ?_
  refine n_arr (n := 168) (N := 16) (t := .int) dX12_init_432 (by decide +kernel) (by decide) rfl karr_int (by simp) (fun _ _ q => q) rfl (by decide) (by decide) (fun j hj => ((Fz_p (n := 168) (Fz_m (m := 168) fz (by decide)) (by decide)) 168 j (by decide)).trans rfl) (by decide) (by decide) ?_
  refine n_putr (n := 169) (ci := 12) (j := 73) (ji := 73) dX12_init_434 k_1489 (by decide) kk_116 (by decide) (by decide) (by decide) rfl rfl (by first | exact Or.inl rfl | exact Or.inr ⟨rfl, rfl, rfl⟩) ?_
  refine v_aload_n dX12_init_437 rfl ?_
  refine v_bipush dX12_init_438 (c32 rfl) (by decide) ?_
  refine n_arr (n := 169) (N := 16) (t := .int) dX12_init_440 (by decide +kernel) (by decide) rfl karr_int (by simp) (fun _ _ q => q) rfl (by decide) (by decide) (fun j hj => ((Fz_p (n := 169) (Fz_m (m := 169) fz (by decide)) (by decide)) 169 j (by decide)).trans rfl) (by decide) (by decide) ?_
  refine n_putr (n := 170) (ci := 12) (j := 74) (ji := 74) dX12_init_442 k_1490 (by decide) kk_116 (by decide) (by decide) (by decide) rfl rfl (by first | exact Or.inl rfl | exact Or.inr ⟨rfl, rfl, rfl⟩) ?_
  refine v_aload_n dX12_init_445 rfl ?_
  refine v_bipush dX12_init_446 (c32 rfl) (by decide) ?_
  refine n_arr (n := 170) (N := 16) (t := .int) dX12_init_448 (by decide +kernel) (by decide) rfl karr_int (by simp) (fun _ _ q => q) rfl (by decide) (by decide) (fun j hj => ((Fz_p (n := 170) (Fz_m (m := 170) fz (by decide)) (by decide)) 170 j (by decide)).trans rfl) (by decide) (by decide) ?_
  refine n_putr (n := 171) (ci := 12) (j := 75) (ji := 75) dX12_init_450 k_1491 (by decide) kk_116 (by decide) (by decide) (by decide) rfl rfl (by first | exact Or.inl rfl | exact Or.inr ⟨rfl, rfl, rfl⟩) ?_
  refine v_aload_n dX12_init_453 rfl ?_
  refine v_bipush dX12_init_454 (c32 rfl) (by decide) ?_
  refine n_arr (n := 171) (N := 16) (t := .int) dX12_init_456 (by decide +kernel) (by decide) rfl karr_int (by simp) (fun _ _ q => q) rfl (by decide) (by decide) (fun j hj => ((Fz_p (n := 171) (Fz_m (m := 171) fz (by decide)) (by decide)) 171 j (by decide)).trans rfl) (by decide) (by decide) ?_
  refine n_putr (n := 172) (ci := 12) (j := 76) (ji := 76) dX12_init_458 k_1492 (by decide) kk_116 (by decide) (by decide) (by decide) rfl rfl (by first | exact Or.inl rfl | exact Or.inr ⟨rfl, rfl, rfl⟩) ?_
  refine v_aload_n dX12_init_461 rfl ?_
  refine v_iconst dX12_init_462 (c32 rfl) ?_
  refine n_arr (n := 172) (N := 4) (t := .int) dX12_init_463 (by decide +kernel) (by decide) rfl karr_int (by simp) (fun _ _ q => q) rfl (by decide) (by decide) (fun j hj => ((Fz_p (n := 172) (Fz_m (m := 172) fz (by decide)) (by decide)) 172 j (by decide)).trans rfl) (by decide) (by decide) ?_
  refine n_putr (n := 173) (ci := 12) (j := 77) (ji := 77) dX12_init_465 k_1493 (by decide) kk_116 (by decide) (by decide) (by decide) rfl rfl (by first | exact Or.inl rfl | exact Or.inr ⟨rfl, rfl, rfl⟩) ?_
  refine v_aload_n dX12_init_468 rfl ?_
  refine v_iconst dX12_init_469 (c32 rfl) ?_
  refine n_arr (n := 173) (N := 4) (t := .int) dX12_init_470 (by decide +kernel) (by decide) rfl karr_int (by simp) (fun _ _ q => q) rfl (by decide) (by decide) (fun j hj => ((Fz_p (n := 173) (Fz_m (m := 173) fz (by decide)) (by decide)) 173 j (by decide)).trans rfl) (by decide) (by decide) ?_
  refine n_putr (n := 174) (ci := 12) (j := 78) (ji := 78) dX12_init_472 k_1494 (by decide) kk_116 (by decide) (by decide) (by decide) rfl rfl (by first | exact Or.inl rfl | exact Or.inr ⟨rfl, rfl, rfl⟩) ?_
  refine v_aload_n dX12_init_475 rfl ?_
  refine v_bipush dX12_init_476 (c32 rfl) (by decide) ?_
  refine n_arr (n := 174) (N := 60) (t := .int) dX12_init_478 (by decide +kernel) (by decide) rfl karr_int (by simp) (fun _ _ q => q) rfl (by decide) (by decide) (fun j hj => ((Fz_p (n := 174) (Fz_m (m := 174) fz (by decide)) (by decide)) 174 j (by decide)).trans rfl) (by decide) (by decide) ?_
  refine n_putr (n := 175) (ci := 12) (j := 85) (ji := 85) dX12_init_480 k_1501 (by decide) kk_116 (by decide) (by decide) (by decide) rfl rfl (by first | exact Or.inl rfl | exact Or.inr ⟨rfl, rfl, rfl⟩) ?_
  refine v_aload_n dX12_init_483 rfl ?_
  refine v_bipush dX12_init_484 (c32 rfl) (by decide) ?_
  refine n_arr (n := 175) (N := 60) (t := .int) dX12_init_486 (by decide +kernel) (by decide) rfl karr_int (by simp) (fun _ _ q => q) rfl (by decide) (by decide) (fun j hj => ((Fz_p (n := 175) (Fz_m (m := 175) fz (by decide)) (by decide)) 175 j (by decide)).trans rfl) (by decide) (by decide) ?_
  refine n_putr (n := 176) (ci := 12) (j := 86) (ji := 86) dX12_init_488 k_1502 (by decide) kk_116 (by decide) (by decide) (by decide) rfl rfl (by first | exact Or.inl rfl | exact Or.inr ⟨rfl, rfl, rfl⟩) ?_
  refine v_aload_n dX12_init_491 rfl ?_
  refine v_bipush dX12_init_492 (c32 rfl) (by decide) ?_
  refine n_arr (n := 176) (N := 12) (t := .int) dX12_init_494 (by decide +kernel) (by decide) rfl karr_int (by simp) (fun _ _ q => q) rfl (by decide) (by decide) (fun j hj => ((Fz_p (n := 176) (Fz_m (m := 176) fz (by decide)) (by decide)) 176 j (by decide)).trans rfl) (by decide) (by decide) ?_
  refine n_putr (n := 177) (ci := 12) (j := 87) (ji := 87) dX12_init_496 k_1503 (by decide) kk_116 (by decide) (by decide) (by decide) rfl rfl (by first | exact Or.inl rfl | exact Or.inr ⟨rfl, rfl, rfl⟩) ?_
  refine v_iconst dX12_init_499 (c32 rfl) ?_
  refine v_istore_n_1 dX12_init_500 (by decide) rfl ?_
  refine vhe (hfil_0 (h := putL [(116, 87, 176), (116, 86, 175), (116, 85, 174), (116, 78, 173), (116, 77, 172), (116, 76, 171), (116, 75, 170), (116, 74, 169), (116, 73, 168), (116, 72, 167), (116, 71, 166), (116, 70, 165), (116, 69, 164), (116, 64, 163), (116, 63, 162), (116, 62, 161), (116, 61, 160), (116, 60, 159), (116, 59, 158), (116, 58, 157), (116, 57, 156), (116, 56, 155), (116, 55, 154), (116, 54, 153), (116, 53, 152), (116, 52, 151), (116, 51, 150), (116, 50, 149), (116, 49, 148), (116, 44, 147), (116, 43, 146), (116, 42, 145), (116, 41, 144), (116, 40, 143), (116, 39, 142), (116, 38, 141), (116, 37, 140), (116, 36, 139), (116, 35, 138), (116, 34, 137), (116, 33, 136), (116, 32, 135), (116, 31, 134), (116, 30, 133), (116, 29, 132), (116, 28, 131), (116, 27, 130), (116, 26, 129), (116, 17, 127), (116, 13, 128), (116, 12, 127), (116, 11, 126), (116, 10, 125), (116, 9, 124), (116, 8, 123), (116, 7, 122), (116, 6, 121), (116, 5, 120), (116, 4, 119), (116, 3, 118), (116, 2, 117)] h) (c := 125) (x := 100)) ?_
  exact lpi_X12_init (by omega) ⟨by decide, by decide⟩ ⟨by decide, by decide⟩ (Eq.refl _) (putL_at (show lkP 116 10 [(116, 87, 176), (116, 86, 175), (116, 85, 174), (116, 78, 173), (116, 77, 172), (116, 76, 171), (116, 75, 170), (116, 74, 169), (116, 73, 168), (116, 72, 167), (116, 71, 166), (116, 70, 165), (116, 69, 164), (116, 64, 163), (116, 63, 162), (116, 62, 161), (116, 61, 160), (116, 60, 159), (116, 59, 158), (116, 58, 157), (116, 57, 156), (116, 56, 155), (116, 55, 154), (116, 54, 153), (116, 53, 152), (116, 52, 151), (116, 51, 150), (116, 50, 149), (116, 49, 148), (116, 44, 147), (116, 43, 146), (116, 42, 145), (116, 41, 144), (116, 40, 143), (116, 39, 142), (116, 38, 141), (116, 37, 140), (116, 36, 139), (116, 35, 138), (116, 34, 137), (116, 33, 136), (116, 32, 135), (116, 31, 134), (116, 30, 133), (116, 29, 132), (116, 28, 131), (116, 27, 130), (116, 26, 129), (116, 17, 127), (116, 13, 128), (116, 12, 127), (116, 11, 126), (116, 10, 125), (116, 9, 124), (116, 8, 123), (116, 7, 122), (116, 6, 121), (116, 5, 120), (116, 4, 119), (116, 3, 118), (116, 2, 117)] = some (125) from by decide)) hq 0 (Int.le_refl _) (by decide)

