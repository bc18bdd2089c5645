section LW
variable {l : Launch} {G : GG} {M : MI} {d mc ms n1 n2 : Nat} {K : List Kd} {pc : Nat} {L st : List AV} {h : AH} {Q : Option AV → List Kd → AH → Prop}
theorem va_ldcwStr {p : Program} {e : Env} {R : Room} {s : State} {m : MethodId} {args : Array Value} {below : List Frame} {meth : Method} {c : Code} {T : State} {locs : List Loc} {cells slots : Nat}
    (X : Stand p l e R s m args below meth c T locs cells slots) (hexec : p.tables.exec = Jvm.exec) {own text : String} {index : Nat} {a : Addr} (hown : s.vm.findClass own = some m.cls)
    (hconst : (Cond.stringRef own index text).before args s = true) (hev : (Term.string own index).eval args s none [] s = some (.ref a)) {g : JFrame} (hg : g.method = m) (hdg : decode c.code g.pc = .ok (.ldc_w index, 3)) :
    ∀ target, Steps p.tables e below (T.setTop { g with pc := g.pc + 3, stack := .ref a :: g.stack }) target → Steps p.tables e below (T.setTop g) target := by
  obtain ⟨k, cf, i, a', hk, hcf, hcp, -, hr, hev'⟩ := Cond.stringRef_spec hown hconst
  cases hev.symm.trans hev'
  obtain ⟨k', hk', he⟩ := X.warmed.alike.2.2 _ _ hk
  have hr' : k'.resolved[index]? = some (some (.string a)) := by
    rcases X.warmed.entry hk hk' index with h | ⟨h, -⟩
    · rw [h]; exact hr
    · rw [hr] at h; cases h
  intro target hrest
  subst hg
  jvm_step X.here [hexec, hdg, ldc_w.wp_string (e := e) (s := T) (f := g) X.here.top hk' (by rw [he]; exact hcf) hcp hr']
  exact hrest
theorem v_ldcwS {idx i : Nat} {tx : String} (hdg : decode M.2.1 pc = .ok (.ldc_w idx, 3)) (hv : ∀ s, KS G s → vk_R M.1.cls idx tx (G.2.2.2.1 i) s) (k : V l G M d mc ms n1 n2 K (pc + 3) L ((3, adK G i) :: st) h Q) : V l G M d mc ms n1 n2 K pc L st h Q := by
  intro p e s m args below meth c0 adr0 adr n0 H locs ls S
  obtain ⟨S1, S2, S3, S4, S5, S6⟩ := S
  obtain ⟨hx, hb, h3, h4, h5, h6, h7, h8, h9⟩ := id S1
  have k9 := k p e s m args below meth c0 adr0 adr n0 H locs ls ⟨S1, S2, S3, S4, al_c.mpr ⟨oka16, S5⟩, S6⟩
  rw [List.map_cons, show ra adr (3, adK G i) = .ref (G.2.2.2.1 i) from ra16] at k9
  intro T hT X
  obtain ⟨t, a1, b1⟩ := k9 T hT X
  have hZ := hv s h9.2.2.2
  exact ⟨t, va_ldcwStr X hx h6 (text := tx) (a := G.2.2.2.1 i) hZ.1 hZ.2 (g := F0 m pc ls _) rfl (by rw [hb]; exact hdg) t a1, b1⟩
end LW
/-! ===== the reference's reader: its state over a heap ===== -/
def s8 (x : Int) : Int := if x < 128 then x else x - 256
theorem s8_c {x : Int} : (x < 128 ∧ s8 x = x) ∨ (128 ≤ x ∧ s8 x = x - 256) := by
  unfold s8
  by_cases q : x < 128
  · exact Or.inl ⟨q, if_pos q⟩
  · exact Or.inr ⟨by omega, if_neg q⟩
theorem iand255 {x : Int} (h0 : 0 ≤ x) (h1 : x < 256) : iand (s8 x) 255 = x := by
  have key : ∀ m : Fin 256, iand (s8 (m.val : Int)) 255 = (m.val : Int) := by decide +kernel
  obtain ⟨m, rfl⟩ := Int.eq_ofNat_of_zero_le h0
  exact key ⟨m, by omega⟩
def pst (h : AH) (a f dp : Int) : AH := hset (hset (hset h 116 20 a) 116 21 f) 116 22 dp
section PST
variable {h : AH} {a f dp c j v : Int}
theorem pst_r20 : pst h a f dp 116 20 = a := by unfold pst; rw [hset_j (by decide), hset_j (by decide), hset_same]
theorem pst_r21 : pst h a f dp 116 21 = f := by unfold pst; rw [hset_j (by decide), hset_same]
theorem pst_r22 : pst h a f dp 116 22 = dp := by unfold pst; rw [hset_same]
theorem pst_c (q : c ≠ 116) : pst h a f dp c j = h c j := by unfold pst; rw [hset_c q, hset_c q, hset_c q]
theorem pst_j (q : j ≠ 20 ∧ j ≠ 21 ∧ j ≠ 22) : pst h a f dp 116 j = h 116 j := by unfold pst; rw [hset_j q.2.2, hset_j q.2.1, hset_j q.1]
theorem pst_w (q : c ≠ 116) : pst h a f dp c = h c := funext fun _ => pst_c q
theorem hset_dj {b x y : Int} (q : b ≠ j) : hset (hset h c b x) c j y = hset (hset h c j y) c b x := by
  funext s t
  simp only [hset]
  by_cases e1 : s = c ∧ t = j
  · rw [if_pos e1, if_neg (fun z => q (z.2.symm.trans e1.2)), if_pos e1]
  · rw [if_neg e1]
    by_cases e2 : s = c ∧ t = b
    · rw [if_pos e2, if_pos e2]
    · rw [if_neg e2, if_neg e2, if_neg e1]
theorem hset_tw {x y : Int} : hset (hset h c j x) c j y = hset h c j y := by
  funext s t
  simp only [hset]
  by_cases e1 : s = c ∧ t = j
  · rw [if_pos e1, if_pos e1]
  · rw [if_neg e1, if_neg e1, if_neg e1]
theorem pst_w20 : hset (pst h a f dp) 116 20 v = pst h v f dp := by
  unfold pst
  rw [hset_dj (b := 22) (j := 20) (by decide), hset_dj (b := 21) (j := 20) (by decide), hset_tw]
theorem pst_w21 : hset (pst h a f dp) 116 21 v = pst h a v dp := by
  unfold pst
  rw [hset_dj (b := 22) (j := 21) (by decide), hset_tw]
theorem pst_w22 : hset (pst h a f dp) 116 22 v = pst h a f v := by
  unfold pst
  rw [hset_tw]
end PST
/-- the text that is read: t's bytes from b on, n of them, are u -/
def MT (h : AH) (t b n : Int) (u : Int → Int) (tn : Nat) : Prop :=
  (t = 127 ∨ t = 128) ∧ K0[t.toNat]? = some (.inr (.byte, tn)) ∧ b + n ≤ tn ∧ h 116 17 = t ∧ h 116 18 = b ∧ h 116 19 = n ∧ 0 ≤ b ∧ b ≤ 4000 ∧ 0 ≤ n ∧ n ≤ 200 ∧
  (∀ i, 0 ≤ i → i < n → 0 ≤ u i ∧ u i < 256) ∧ (∀ i, 0 ≤ i → i < n → h t (b + i) = s8 (u i))
section PKL
variable {u : Int → Int} {n a : Int}
theorem pk_t (h : a < n) (h2 : u a = 32) : pk u n a = pk u n (a + 1) := by unfold pk; rw [sk_t h h2]
theorem pk_f (h : a < n) (h2 : u a ≠ 32) : pk u n a = u a := by
  unfold pk
  rw [sk_f (fun q => h2 q.2), if_pos h]
theorem pk_n (h : ¬ a < n) : pk u n a = -1 := by
  unfold pk
  rw [sk_f (fun q => h q.1), if_neg h]
theorem pk_rng (hu : ∀ i, 0 ≤ i → i < n → 0 ≤ u i ∧ u i < 256) (h0 : 0 ≤ a) : (pk u n a = -1 ∧ ¬ sk u n a < n) ∨ (0 ≤ pk u n a ∧ pk u n a < 256 ∧ sk u n a < n ∧ u (sk u n a) = pk u n a) := by
  unfold pk
  have := @sk_ge u n a
  by_cases q : sk u n a < n
  · rw [if_pos q]
    have := hu (sk u n a) (by omega) q
    exact Or.inr ⟨this.1, this.2, q, rfl⟩
  · rw [if_neg q]
    exact Or.inl ⟨rfl, q⟩
theorem pk_at (h : sk u n a < n) : pk u n a = u (sk u n a) := by unfold pk; rw [if_pos h]
end PKL
/-! ===== codes and what they are worth ===== -/
def bd (x : Int) : Int := max (-10000000) (min 10000000 x)
theorem bd_rng {x : Int} : -10000000 ≤ bd x ∧ bd x ≤ 10000000 := by unfold bd; omega
theorem bd_id {x : Int} (h : -10000000 ≤ x) (h2 : x ≤ 10000000) : bd x = x := by unfold bd; omega
def jn (c l r : Int) : Int := if c = 61 then (if l = r then 1 else 0) else if c = 60 then (if l < r then 1 else 0) else if c = 62 then (if r < l then 1 else 0) else if c = 38 then land l r else if c = 124 then lor l r else if c = 43 then l + r else if c = 45 then l - r else if c = 42 then l * r else if c = 47 then (if r = 0 then 0 else ldiv l r) else 0
def psh (x : Int) (st : List Int) : List Int := if st.length < 64 then bd x :: st else st
/-- a step over the stack; none: the condition doesn't hold -/
def stp (lt : Int → Int) (x : Int) (st : List Int) : Option (List Int) :=
  if 0 ≤ x then some (psh x st)
  else if -8 ≤ x then some (psh (lt (-1 - x)) st)
  else if x = -63 then (if st.headD 0 = 0 then none else some st.tail)
  else if x = -33 then some (psh (1 - st.headD 0) st.tail)
  else some (psh (jn (-x) (st.tail.headD 0) (st.headD 0)) st.tail.tail)
def exC (lt : Int → Int) : List Int → List Int → Option (List Int)
  | [], st => some st
  | x :: k, st => match stp lt x st with
    | none => none
    | some s => exC lt k s
theorem exC_app {lt : Int → Int} {k2 : List Int} : ∀ {k1 st : List Int}, exC lt (k1 ++ k2) st = match exC lt k1 st with | none => none | some s => exC lt k2 s := by
  intro k1
  induction k1 with
  | nil => intro st; rfl
  | cons x k ih =>
    intro st
    show (match stp lt x st with | none => none | some s => exC lt (k ++ k2) s) = _
    show _ = match (match stp lt x st with | none => none | some s => exC lt k s) with | none => none | some s => exC lt k2 s
    cases stp lt x st with
    | none => rfl
    | some s => exact ih
/-- a code that leaves v, with room for m -/
def VH (lt : Int → Int) (k : List Int) (v : Int) (m : Nat) : Prop := ∀ st : List Int, st.length + m ≤ 64 → exC lt k st = some (v :: st)
theorem VH.mono {lt : Int → Int} {k : List Int} {v : Int} {m m' : Nat} (h : VH lt k v m) (hm : m ≤ m') : VH lt k v m' := fun st q => h st (by omega)
theorem VH_num {lt : Int → Int} {v : Int} (h0 : 0 ≤ v) (h1 : v ≤ 10000000) : VH lt [v] v 1 := by
  intro st q
  show (match stp lt v st with | none => none | some s => exC lt [] s) = _
  unfold stp psh
  rw [if_pos h0, if_pos (by omega), bd_id (by omega) h1]
  rfl
theorem VH_let {lt : Int → Int} {i : Int} (h0 : 0 ≤ i) (h1 : i < 8) (h2 : bd (lt i) = lt i) : VH lt [-1 - i] (lt i) 1 := by
  intro st q
  show (match stp lt (-1 - i) st with | none => none | some s => exC lt [] s) = _
  unfold stp psh
  rw [if_neg (by omega), if_pos (by omega), if_pos (by omega), show -1 - (-1 - i) = i by omega, h2]
  rfl
theorem VH_bin {lt : Int → Int} {k1 k2 : List Int} {v1 v2 c : Int} {m1 m2 m : Nat} (h1 : VH lt k1 v1 m1) (h2 : VH lt k2 v2 m2) (hm1 : m1 ≤ m) (hm2 : m2 + 1 ≤ m) (hc : 8 < c ∧ c ≠ 63 ∧ c ≠ 33) : VH lt (k1 ++ k2 ++ [-c]) (bd (jn c v1 v2)) m := by
  intro st q
  rw [exC_app, exC_app, h1 st (by omega)]
  show (match exC lt k2 (v1 :: st) with | none => none | some s => exC lt [-c] s) = _
  rw [h2 (v1 :: st) (by show st.length + 1 + m2 ≤ 64; omega)]
  show (match stp lt (-c) (v2 :: v1 :: st) with | none => none | some s => exC lt [] s) = _
  unfold stp psh
  rw [if_neg (by omega), if_neg (by omega), if_neg (by omega), if_neg (by omega)]
  show (match some (if st.length < 64 then bd (jn (- -c) v1 v2) :: st else st) with | none => none | some s => exC lt [] s) = _
  rw [if_pos (by omega), Int.neg_neg]
  rfl
theorem VH_not {lt : Int → Int} {k : List Int} {v : Int} {m : Nat} (h1 : VH lt k v m) (hm : 1 ≤ m) : VH lt (k ++ [-33]) (bd (1 - v)) m := by
  intro st q
  rw [exC_app, h1 st q]
  show (match stp lt (-33) (v :: st) with | none => none | some s => exC lt [] s) = _
  unfold stp psh
  rw [if_neg (by decide), if_neg (by decide), if_neg (by decide), if_pos rfl]
  show (match some (if st.length < 64 then bd (1 - v) :: st else st) with | none => none | some s => exC lt [] s) = _
  rw [if_pos (by omega)]
  rfl
/-- a clause's body: a sum alone -/
theorem VH.run {lt : Int → Int} {k : List Int} {v : Int} {m : Nat} (h : VH lt k v m) (hm : m ≤ 64) : exC lt k [] = some [v] := h [] (by show 0 + m ≤ 64; omega)
/-- with a condition -/
theorem VH_if {lt : Int → Int} {k1 k2 : List Int} {v1 v2 : Int} {m1 m2 : Nat} (h1 : VH lt k1 v1 m1) (h2 : VH lt k2 v2 m2) (hm1 : m1 ≤ 64) (hm2 : m2 ≤ 64) : exC lt (k1 ++ [-63] ++ k2) [] = if v1 = 0 then none else some [v2] := by
  rw [exC_app, exC_app, h1 [] (by show 0 + m1 ≤ 64; omega)]
  show (match (match stp lt (-63) [v1] with | none => none | some s => exC lt [] s) with | none => none | some s => exC lt k2 s) = _
  unfold stp
  rw [if_neg (by decide), if_neg (by decide), if_pos rfl]
  by_cases q : v1 = 0
  · rw [if_pos q]
    show (match (match (if v1 = 0 then none else some []) with | none => none | some s => exC lt [] s) with | none => none | some s => exC lt k2 s) = _
    rw [if_pos q]
  · rw [if_neg q]
    show (match (match (if v1 = 0 then none else some []) with | none => none | some s => exC lt [] s) with | none => none | some s => exC lt k2 s) = _
    rw [if_neg q]
    exact h2 [] (by show 0 + m2 ≤ 64; omega)
