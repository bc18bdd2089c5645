/-! ===== the invariant over what the other calls change (written by wip/whole/p77.py, ci.py) ===== -/
/-- scratch of both sides -/
abbrev mS (c j : Int) : Prop := cS c j ∨ kS c j ∨ (c = 148 ∨ c = 126 ∨ (c = 116 ∧ 17 ≤ j ∧ j ≤ 25))
/-- but for scratch the same -/
def AL (h h' : AH) : Prop := ∀ c j, ¬ mS c j → h' c j = h c j
theorem AL_0 {h : AH} : AL h h := fun _ _ _ => rfl
theorem AL_t {h h1 h2 : AH} (a : AL h h1) (b : AL h1 h2) : AL h h2 := fun c j q => (b c j q).trans (a c j q)
theorem AL_cst {h F : AH} : AL h (cst h F) := fun _ _ q => cst_c (fun z => q (Or.inl z))
theorem AL_kst {h F : AH} : AL h (kst h F) := fun _ _ q => kst_c (fun z => q (Or.inr (Or.inl z)))
theorem AL_jst {h : AH} {z O L : Int → Int} : AL h (jst h z O L) := fun c j q => by
  unfold jst
  rw [if_neg (fun e => q (Or.inr (Or.inr (Or.inr (Or.inr e))))), if_neg (fun e => q (Or.inr (Or.inr (Or.inl e)))), if_neg (fun e => q (Or.inr (Or.inr (Or.inr (Or.inl e)))))]
theorem AL_s {h : AH} {c j x : Int} (q : mS c j) : AL h (hset h c j x) := fun a b e => hset_ne h (fun z => e (by rw [z.1, z.2]; exact q))
theorem AL_hs {h h' : AH} {c j x : Int} (a : AL h h') : AL (hset h c j x) (hset h' c j x) := fun u v e => by
  unfold hset
  by_cases q : u = c ∧ v = j
  · rw [if_pos q, if_pos q]
  · rw [if_neg q, if_neg q]; exact a u v e
theorem AL_ov {h h' : AH} {c : Int} {R : Int → Int} (a : AL h h') : AL (ov1 h c R) (ov1 h' c R) := fun u v e => by
  unfold ov1
  by_cases q : u = c
  · rw [if_pos q, if_pos q]
  · rw [if_neg q, if_neg q]; exact a u v e
theorem AL_cp {h h' : AH} {c0 sp c1 dp n : Int} (a : AL h h') (q0 : ∀ j, ¬ mS c0 j) : AL (hcpy h c0 sp c1 dp n) (hcpy h' c0 sp c1 dp n) := fun u v e => by
  unfold hcpy
  by_cases q : u = c1 ∧ dp ≤ v ∧ v < dp + n
  · rw [if_pos q, if_pos q]; exact a _ _ (q0 _)
  · rw [if_neg q, if_neg q]; exact a u v e
theorem AL.ag {h h' : AH} (a : AL h h') : Ag h h' := fun c j q => a c j (fun z => by
  rcases z with z | z | z
  · exact q.1.1 z
  · exact q.1.2.1 z
  · exact q.1.2.2 z)
theorem AL.ls {h h' : AH} (a : AL h h') : ∀ c j, lS c j → h' c j = h c j := fun c j q => a c j (by unfold lS at q; unfold mS cS cR cF kS; omega)
theorem CI_al {h h' : AH} {cs : Int → List (Int × List Int)} (a : AL h h') (I : CI h cs) : CI h' cs := CI_ag a.ag I
theorem CLN_al {h h' : AH} (a : AL h h') (L : CLN h) : CLN h' := CLN_ag a.ls L
theorem LI_al {h h' : AH} (a : AL h h') (H : LI h) : LI h' := by
  obtain ⟨cs, I, L⟩ := H
  exact ⟨cs, CI_al a I, CLN_al a L⟩
theorem hfil_ov {h : AH} {c n x : Int} : hfil h c n x = ov1 h c (fun i => if 0 ≤ i ∧ i < n then x else h c i) := by
  funext a b
  unfold hfil ov1
  by_cases e : a = c
  · rw [if_pos e]
    show (if a = c ∧ 0 ≤ b ∧ b < n then x else h a b) = (if 0 ≤ b ∧ b < n then x else h c b)
    by_cases e2 : 0 ≤ b ∧ b < n
    · rw [if_pos ⟨e, e2⟩, if_pos e2]
    · rw [if_neg (fun z => e2 z.2), if_neg e2, e]
  · rw [if_neg e, if_neg (fun z => e z.1)]
theorem hcpy_ov {h : AH} {c0 sp c1 dp n : Int} : hcpy h c0 sp c1 dp n = ov1 h c1 (fun b => if dp ≤ b ∧ b < dp + n then h c0 (sp + (b - dp)) else h c1 b) := by
  funext a b
  unfold hcpy ov1
  by_cases e : a = c1
  · rw [if_pos e]
    show (if a = c1 ∧ dp ≤ b ∧ b < dp + n then h c0 (sp + (b - dp)) else h a b) = (if dp ≤ b ∧ b < dp + n then h c0 (sp + (b - dp)) else h c1 b)
    by_cases e2 : dp ≤ b ∧ b < dp + n
    · rw [if_pos ⟨e, e2⟩, if_pos e2]
    · rw [if_neg (fun z => e2 z.2), if_neg e2, e]
  · rw [if_neg e, if_neg (fun z => e z.1)]
/-- a sum of which one place is another -/
theorem sm_set {f g : Int → Int} {n k : Int} (h0 : 0 ≤ k) (h1 : k < n) (hg : ∀ i, i ≠ k → f i = g i) : sm f n = sm g n + (f k - g k) := by
  have key : ∀ m : Nat, ((m : Int) ≤ k → sm f (m : Int) = sm g (m : Int)) ∧ (k < (m : Int) → sm f (m : Int) = sm g (m : Int) + (f k - g k)) := by
    intro m
    induction m with
    | zero => exact ⟨fun _ => rfl, fun z => by omega⟩
    | succ m ih =>
      rw [show ((m + 1 : Nat) : Int) = (m : Int) + 1 by omega, sm_s (by omega), sm_s (by omega)]
      refine ⟨fun z => ?_, fun z => ?_⟩
      · rw [ih.1 (by omega), hg _ (by omega)]
      · by_cases e : (m : Int) = k
        · rw [ih.1 (by omega), e]; omega
        · rw [ih.2 (by omega), hg _ e]; omega
  have := (key n.toNat).2 (by omega)
  rw [show ((n.toNat : Nat) : Int) = n by omega] at this
  exact this
/-- what lies on the bench goes back -/
theorem clrR_co {Of M Le : Int → Int} {b n : Int} (hn : 0 ≤ n) (hM : ∀ i, 0 ≤ i → i < n → 0 ≤ M i) (h0 : 0 ≤ Le b) (hb : Le b + sm (onF Of M b) n ≤ 10000) : clrR Of M Le n b = Le b + sm (onF Of M b) n := by
  have key : ∀ m : Nat, (m : Int) ≤ n → clrR Of M Le (m : Int) b = Le b + sm (onF Of M b) (m : Int) := by
    intro m
    induction m with
    | zero => intro _; show Le b = Le b + 0; omega
    | succ m ih =>
      intro hm
      have i9 := ih (by omega)
      have le := sm_le (f := onF Of M b) (N := n) (fun i i0 i1 => by have := hM i i0 i1; unfold onF; split <;> omega) (a := (m : Int) + 1) (b := n) (by omega) (by omega) (Int.le_refl _)
      have nn := on_nn (of := Of) (many := M) (b := b) (m := (m : Int)) (by omega) (fun i i0 i1 => hM i i0 (by omega))
      have mm := hM (m : Int) (by omega) (by omega)
      rw [sm_s (by omega)] at le
      rw [show ((m + 1 : Nat) : Int) = (m : Int) + 1 by omega, clrR_s (by omega), sm_s (by omega)]
      by_cases e : Of (m : Int) = b
      · have f9 : onF Of M b (m : Int) = M (m : Int) := if_pos e
        rw [f9] at le ⊢
        rw [e, fset_same, i9, iadd_eq (by unfold ok32; omega)]
        omega
      · have f9 : onF Of M b (m : Int) = 0 := if_neg e
        rw [f9, fset_ne (fun z => e z.symm), i9]
        omega
  have := key n.toNat (by omega)
  rw [show ((n.toNat : Nat) : Int) = n by omega] at this
  exact this
section CPR
variable {E V : Int → Int} {b k : Int}
theorem cpR_in (h0 : 0 ≤ k) : ∀ i, 0 ≤ i → i < k → cpR E b V k (6 * b + i) = V i := by
  have key : ∀ m : Nat, ∀ i, 0 ≤ i → i < (m : Int) → cpR E b V (m : Int) (6 * b + i) = V i := by
    intro m
    induction m with
    | zero => intro i i0 i1; omega
    | succ m ih =>
      intro i i0 i1
      rw [show ((m + 1 : Nat) : Int) = (m : Int) + 1 by omega, cpR_s (by omega)]
      by_cases e : i = (m : Int)
      · rw [e, fset_same]
      · rw [fset_ne (by omega)]; exact ih i i0 (by omega)
  have := key k.toNat
  rw [show ((k.toNat : Nat) : Int) = k by omega] at this
  exact this
theorem cpR_out (h0 : 0 ≤ k) (h6 : k ≤ 6) : ∀ j, j < 6 * b → cpR E b V k j = E j := by
  have key : ∀ m : Nat, (m : Int) ≤ 6 → ∀ j, j < 6 * b → cpR E b V (m : Int) j = E j := by
    intro m
    induction m with
    | zero => intro _ j _; rfl
    | succ m ih =>
      intro hm j hj
      rw [show ((m + 1 : Nat) : Int) = (m : Int) + 1 by omega, cpR_s (by omega), fset_ne (by omega)]
      exact ih (by omega) j hj
  have := key k.toNat (by omega)
  rw [show ((k.toNat : Nat) : Int) = k by omega] at this
  exact this
end CPR
/-- a draw: what is taken of the pourings lies on the bench -/
def DIw (Of B M P : Int → Int) (b np nb : Int) (D : DRT) : Prop :=
  b ≤ D.2.2.2.2 ∧ (∀ i, 0 ≤ i → i < D.2.2.2.2 → (0 ≤ D.2.2.1 i ∧ D.2.2.1 i < nb) ∧ 1 ≤ D.2.2.2.1 i ∧ D.2.2.2.1 i ≤ 10000) ∧ (∀ k, 0 ≤ k → k < np → 0 ≤ D.2.1 k ∧ D.2.1 k ≤ 10000) ∧ ∀ x, sm (onF D.2.2.1 D.2.2.2.1 x) D.2.2.2.2 + sm (onF Of D.2.1 x) np = sm (onF B M x) b + sm (onF Of P x) np
theorem DIw_s {H Of B M P : Int → Int} {b np nb hp k : Int} {D : DRT} (h0 : 0 ≤ b) (hk : 0 ≤ k) (hn : k < np) (hO : ∀ k, 0 ≤ k → k < np → 0 ≤ Of k ∧ Of k < nb) (a : DIw Of B M P b np nb D) : DIw Of B M P b np nb (drS H Of hp k D) := by
  obtain ⟨a1, a2, a3, a4⟩ := a
  by_cases c : 0 < D.1 ∧ H k = hp ∧ 0 < D.2.1 k
  · rw [drS_1 c]
    have p3 := a3 k hk hn
    have o3 := hO k hk hn
    refine ⟨by dsimp only; omega, fun i i0 i1 => ?_, fun j j0 j1 => ?_, fun x => ?_⟩
    · dsimp only at i1 ⊢
      by_cases e : i = D.2.2.2.2
      · rw [e, fset_same, fset_same]; omega
      · rw [fset_ne e, fset_ne e]; exact a2 i i0 (by omega)
    · dsimp only
      by_cases e : j = k
      · rw [e, fset_same]; omega
      · rw [fset_ne e]; exact a3 j j0 j1
    · dsimp only
      have a4x := a4 x
      rw [on_add (by omega), sm_set (f := onF Of (fset D.2.1 k (D.2.1 k - min D.1 (D.2.1 k))) x) (g := onF Of D.2.1 x) hk hn (fun i e => by unfold onF; rw [fset_ne e])]
      unfold onF
      unfold onF at a4x
      rw [fset_same]
      by_cases e : Of k = x
      · rw [if_pos e, if_pos e, if_pos e]; omega
      · rw [if_neg e, if_neg e, if_neg e]; omega
  · rw [drS_0 c]; exact ⟨a1, a2, a3, a4⟩
theorem DIw_F {H Of B M P : Int → Int} {b np nb hp n : Int} (h0 : 0 ≤ b) (hB : ∀ i, 0 ≤ i → i < b → (0 ≤ B i ∧ B i < nb) ∧ 1 ≤ M i ∧ M i ≤ 10000) (hP : ∀ k, 0 ≤ k → k < np → 0 ≤ P k ∧ P k ≤ 10000) (hO : ∀ k, 0 ≤ k → k < np → 0 ≤ Of k ∧ Of k < nb) (hn : 0 ≤ np) : DIw Of B M P b np nb (drF H Of hp (n, P, B, M, b) np) := by
  have key : ∀ m : Nat, (m : Int) ≤ np → DIw Of B M P b np nb (drF H Of hp (n, P, B, M, b) (m : Int)) := by
    intro m
    induction m with
    | zero => intro _; exact ⟨Int.le_refl _, hB, hP, fun x => rfl⟩
    | succ m ih =>
      intro hm
      rw [show ((m + 1 : Nat) : Int) = (m : Int) + 1 by omega, drF_s (by omega)]
      exact DIw_s h0 (by omega) (by omega) hO (ih (by omega))
  have := key np.toNat (by omega)
  rw [show ((np.toNat : Nat) : Int) = np by omega] at this
  exact this

set_option maxHeartbeats 2000000 in
theorem LI_offer {h : AH} {cs : Int → List (Int × List Int)} {a b c e f : Int} (I : CI h cs) (L : CLN h) (ha : 0 ≤ a ∧ a ≤ 3) (hb : 0 ≤ b ∧ b ≤ 1000000) (hc : 0 ≤ c ∧ c ≤ 99) (he : 0 ≤ e ∧ e ≤ 15) (hf : 0 ≤ f ∧ f ≤ 7) (hk : h 167 a < 4) (hw : 0 < a → 0 < h 167 (a - 1)) : LI (hset (hset (hset (hset (hset (hset (hset (hset (hset (hset (hset h 88 (4 * a + h 167 a) b) 89 (4 * a + h 167 a) c) 90 (4 * a + h 167 a) e) 91 (4 * a + h 167 a) f) 92 a (h 167 a + 1)) 116 0 0) 168 (4 * a + h 167 a) b) 169 (4 * a + h 167 a) c) 170 (4 * a + h 167 a) e) 171 (4 * a + h 167 a) f) 167 a (h 167 a + 1)) := by
  have key : ∀ N : AH, N = (hset (hset (hset (hset (hset (hset (hset (hset (hset (hset (hset h 88 (4 * a + h 167 a) b) 89 (4 * a + h 167 a) c) 90 (4 * a + h 167 a) e) 91 (4 * a + h 167 a) f) 92 a (h 167 a + 1)) 116 0 0) 168 (4 * a + h 167 a) b) 169 (4 * a + h 167 a) c) 170 (4 * a + h 167 a) e) 171 (4 * a + h 167 a) f) 167 a (h 167 a + 1)) → LI N := fun N hN => by
    have u : ∀ c j, ¬ (c = 167 ∨ c = 171 ∨ c = 170 ∨ c = 169 ∨ c = 168 ∨ (c = 116 ∧ j = 0) ∨ c = 92 ∨ c = 91 ∨ c = 90 ∨ c = 89 ∨ c = 88) → N c j = h c j := fun c j q => by
      rw [hN, hset_ne _ (by omega), hset_ne _ (by omega), hset_ne _ (by omega), hset_ne _ (by omega), hset_ne _ (by omega), hset_ne _ (by omega), hset_ne _ (by omega), hset_ne _ (by omega), hset_ne _ (by omega), hset_ne _ (by omega), hset_ne _ (by omega)]
    have r2 : N 2 = h 2 := funext fun j => u 2 j (by omega)
    have r8 : N 8 = h 8 := funext fun j => u 8 j (by omega)
    have r9 : N 9 = h 9 := funext fun j => u 9 j (by omega)
    have r10 : N 10 = h 10 := funext fun j => u 10 j (by omega)
    have r11 : N 11 = h 11 := funext fun j => u 11 j (by omega)
    have r13 : N 13 = h 13 := funext fun j => u 13 j (by omega)
    have r14 : N 14 = h 14 := funext fun j => u 14 j (by omega)
    have r15 : N 15 = h 15 := funext fun j => u 15 j (by omega)
    have r37 : N 37 = h 37 := funext fun j => u 37 j (by omega)
    have r42 : N 42 = h 42 := funext fun j => u 42 j (by omega)
    have r43 : N 43 = h 43 := funext fun j => u 43 j (by omega)
    have r44 : N 44 = h 44 := funext fun j => u 44 j (by omega)
    have r45 : N 45 = h 45 := funext fun j => u 45 j (by omega)
    have r46 : N 46 = h 46 := funext fun j => u 46 j (by omega)
    have r47 : N 47 = h 47 := funext fun j => u 47 j (by omega)
    have r48 : N 48 = h 48 := funext fun j => u 48 j (by omega)
    have r49 : N 49 = h 49 := funext fun j => u 49 j (by omega)
    have r50 : N 50 = h 50 := funext fun j => u 50 j (by omega)
    have r51 : N 51 = h 51 := funext fun j => u 51 j (by omega)
    have r52 : N 52 = h 52 := funext fun j => u 52 j (by omega)
    have r54 : N 54 = h 54 := funext fun j => u 54 j (by omega)
    have r55 : N 55 = h 55 := funext fun j => u 55 j (by omega)
    have r56 : N 56 = h 56 := funext fun j => u 56 j (by omega)
    have r64 : N 64 = h 64 := funext fun j => u 64 j (by omega)
    have r65 : N 65 = h 65 := funext fun j => u 65 j (by omega)
    have r66 : N 66 = h 66 := funext fun j => u 66 j (by omega)
    have r67 : N 67 = h 67 := funext fun j => u 67 j (by omega)
    have r68 : N 68 = h 68 := funext fun j => u 68 j (by omega)
    have r69 : N 69 = h 69 := funext fun j => u 69 j (by omega)
    have r71 : N 71 = h 71 := funext fun j => u 71 j (by omega)
    have r72 : N 72 = h 72 := funext fun j => u 72 j (by omega)
    have r73 : N 73 = h 73 := funext fun j => u 73 j (by omega)
    have r74 : N 74 = h 74 := funext fun j => u 74 j (by omega)
    have r82 : N 82 = h 82 := funext fun j => u 82 j (by omega)
    have r83 : N 83 = h 83 := funext fun j => u 83 j (by omega)
    have r84 : N 84 = h 84 := funext fun j => u 84 j (by omega)
    have r85 : N 85 = h 85 := funext fun j => u 85 j (by omega)
    have r86 : N 86 = h 86 := funext fun j => u 86 j (by omega)
    have r88 : N 88 = (fset (h 88) (4 * a + h 167 a) b) := by rw [hN, hset_r (by decide), hset_r (by decide), hset_r (by decide), hset_r (by decide), hset_r (by decide), hset_r (by decide), hset_r (by decide), hset_r (by decide), hset_r (by decide), hset_r (by decide), hset_f]
    have r89 : N 89 = (fset (h 89) (4 * a + h 167 a) c) := by rw [hN, hset_r (by decide), hset_r (by decide), hset_r (by decide), hset_r (by decide), hset_r (by decide), hset_r (by decide), hset_r (by decide), hset_r (by decide), hset_r (by decide), hset_f, hset_r (by decide)]
    have r90 : N 90 = (fset (h 90) (4 * a + h 167 a) e) := by rw [hN, hset_r (by decide), hset_r (by decide), hset_r (by decide), hset_r (by decide), hset_r (by decide), hset_r (by decide), hset_r (by decide), hset_r (by decide), hset_f, hset_r (by decide), hset_r (by decide)]
    have r91 : N 91 = (fset (h 91) (4 * a + h 167 a) f) := by rw [hN, hset_r (by decide), hset_r (by decide), hset_r (by decide), hset_r (by decide), hset_r (by decide), hset_r (by decide), hset_r (by decide), hset_f, hset_r (by decide), hset_r (by decide), hset_r (by decide)]
    have r92 : N 92 = (fset (h 92) a (h 167 a + 1)) := by rw [hN, hset_r (by decide), hset_r (by decide), hset_r (by decide), hset_r (by decide), hset_r (by decide), hset_r (by decide), hset_f, hset_r (by decide), hset_r (by decide), hset_r (by decide), hset_r (by decide)]
    have r98 : N 98 = h 98 := funext fun j => u 98 j (by omega)
    have r99 : N 99 = h 99 := funext fun j => u 99 j (by omega)
    have r117 : N 117 = h 117 := funext fun j => u 117 j (by omega)
    have r118 : N 118 = h 118 := funext fun j => u 118 j (by omega)
    have r119 : N 119 = h 119 := funext fun j => u 119 j (by omega)
    have r120 : N 120 = h 120 := funext fun j => u 120 j (by omega)
    have r121 : N 121 = h 121 := funext fun j => u 121 j (by omega)
    have r122 : N 122 = h 122 := funext fun j => u 122 j (by omega)
    have r123 : N 123 = h 123 := funext fun j => u 123 j (by omega)
    have r124 : N 124 = h 124 := funext fun j => u 124 j (by omega)
    have r125 : N 125 = h 125 := funext fun j => u 125 j (by omega)
    have r127 : N 127 = h 127 := funext fun j => u 127 j (by omega)
    have r128 : N 128 = h 128 := funext fun j => u 128 j (by omega)
    have r129 : N 129 = h 129 := funext fun j => u 129 j (by omega)
    have r130 : N 130 = h 130 := funext fun j => u 130 j (by omega)
    have r131 : N 131 = h 131 := funext fun j => u 131 j (by omega)
    have r132 : N 132 = h 132 := funext fun j => u 132 j (by omega)
    have r133 : N 133 = h 133 := funext fun j => u 133 j (by omega)
    have r134 : N 134 = h 134 := funext fun j => u 134 j (by omega)
    have r135 : N 135 = h 135 := funext fun j => u 135 j (by omega)
    have r136 : N 136 = h 136 := funext fun j => u 136 j (by omega)
    have r137 : N 137 = h 137 := funext fun j => u 137 j (by omega)
    have r138 : N 138 = h 138 := funext fun j => u 138 j (by omega)
    have r139 : N 139 = h 139 := funext fun j => u 139 j (by omega)
    have r140 : N 140 = h 140 := funext fun j => u 140 j (by omega)
    have r141 : N 141 = h 141 := funext fun j => u 141 j (by omega)
    have r142 : N 142 = h 142 := funext fun j => u 142 j (by omega)
    have r143 : N 143 = h 143 := funext fun j => u 143 j (by omega)
    have r144 : N 144 = h 144 := funext fun j => u 144 j (by omega)
    have r145 : N 145 = h 145 := funext fun j => u 145 j (by omega)
    have r146 : N 146 = h 146 := funext fun j => u 146 j (by omega)
    have r147 : N 147 = h 147 := funext fun j => u 147 j (by omega)
    have r150 : N 150 = h 150 := funext fun j => u 150 j (by omega)
    have r151 : N 151 = h 151 := funext fun j => u 151 j (by omega)
    have r152 : N 152 = h 152 := funext fun j => u 152 j (by omega)
    have r153 : N 153 = h 153 := funext fun j => u 153 j (by omega)
    have r154 : N 154 = h 154 := funext fun j => u 154 j (by omega)
    have r155 : N 155 = h 155 := funext fun j => u 155 j (by omega)
    have r156 : N 156 = h 156 := funext fun j => u 156 j (by omega)
    have r157 : N 157 = h 157 := funext fun j => u 157 j (by omega)
    have r158 : N 158 = h 158 := funext fun j => u 158 j (by omega)
    have r167 : N 167 = (fset (h 167) a (h 167 a + 1)) := by rw [hN, hset_f, hset_r (by decide), hset_r (by decide), hset_r (by decide), hset_r (by decide), hset_r (by decide), hset_r (by decide), hset_r (by decide), hset_r (by decide), hset_r (by decide), hset_r (by decide)]
    have r168 : N 168 = (fset (h 168) (4 * a + h 167 a) b) := by rw [hN, hset_r (by decide), hset_r (by decide), hset_r (by decide), hset_r (by decide), hset_f, hset_r (by decide), hset_r (by decide), hset_r (by decide), hset_r (by decide), hset_r (by decide), hset_r (by decide)]
    have r169 : N 169 = (fset (h 169) (4 * a + h 167 a) c) := by rw [hN, hset_r (by decide), hset_r (by decide), hset_r (by decide), hset_f, hset_r (by decide), hset_r (by decide), hset_r (by decide), hset_r (by decide), hset_r (by decide), hset_r (by decide), hset_r (by decide)]
    have r170 : N 170 = (fset (h 170) (4 * a + h 167 a) e) := by rw [hN, hset_r (by decide), hset_r (by decide), hset_f, hset_r (by decide), hset_r (by decide), hset_r (by decide), hset_r (by decide), hset_r (by decide), hset_r (by decide), hset_r (by decide), hset_r (by decide)]
    have r171 : N 171 = (fset (h 171) (4 * a + h 167 a) f) := by rw [hN, hset_r (by decide), hset_f, hset_r (by decide), hset_r (by decide), hset_r (by decide), hset_r (by decide), hset_r (by decide), hset_r (by decide), hset_r (by decide), hset_r (by decide), hset_r (by decide)]
    have r174 : N 174 = h 174 := funext fun j => u 174 j (by omega)
    have r175 : N 175 = h 175 := funext fun j => u 175 j (by omega)
    have r76 : N 76 = h 76 := funext fun j => u 76 j (by omega)
    have r77 : N 77 = h 77 := funext fun j => u 77 j (by omega)
    have r78 : N 78 = h 78 := funext fun j => u 78 j (by omega)
    have r79 : N 79 = h 79 := funext fun j => u 79 j (by omega)
    have r160 : N 160 = h 160 := funext fun j => u 160 j (by omega)
    have r161 : N 161 = h 161 := funext fun j => u 161 j (by omega)
    have r162 : N 162 = h 162 := funext fun j => u 162 j (by omega)
    have r163 : N 163 = h 163 := funext fun j => u 163 j (by omega)
    have f0_0 : N 0 0 = h 0 0 := u 0 0 (by omega)
    have f1_1 : N 1 1 = h 1 1 := u 1 1 (by omega)
    have f4_7 : N 4 7 = h 4 7 := u 4 7 (by omega)
    have f7_0 : N 7 0 = h 7 0 := u 7 0 (by omega)
    have f7_4 : N 7 4 = h 7 4 := u 7 4 (by omega)
    have f12_0 : N 12 0 = h 12 0 := u 12 0 (by omega)
    have f12_4 : N 12 4 = h 12 4 := u 12 4 (by omega)
    have f41_12 : N 41 12 = h 41 12 := u 41 12 (by omega)
    have f41_13 : N 41 13 = h 41 13 := u 41 13 (by omega)
    have f53_3 : N 53 3 = h 53 3 := u 53 3 (by omega)
    have f70_3 : N 70 3 = h 70 3 := u 70 3 (by omega)
    have f81_2 : N 81 2 = h 81 2 := u 81 2 (by omega)
    have f81_6 : N 81 6 = h 81 6 := u 81 6 (by omega)
    have f97_2 : N 97 2 = h 97 2 := u 97 2 (by omega)
    have f116_1 : N 116 1 = h 116 1 := u 116 1 (by omega)
    have f116_14 : N 116 14 = h 116 14 := u 116 14 (by omega)
    have f116_15 : N 116 15 = h 116 15 := u 116 15 (by omega)
    have f116_16 : N 116 16 = h 116 16 := u 116 16 (by omega)
    have f116_45 : N 116 45 = h 116 45 := u 116 45 (by omega)
    have f116_46 : N 116 46 = h 116 46 := u 116 46 (by omega)
    have f116_47 : N 116 47 = h 116 47 := u 116 47 (by omega)
    have f116_48 : N 116 48 = h 116 48 := u 116 48 (by omega)
    have f116_65 : N 116 65 = h 116 65 := u 116 65 (by omega)
    have f116_66 : N 116 66 = h 116 66 := u 116 66 (by omega)
    have f116_88 : N 116 88 = h 116 88 := u 116 88 (by omega)
    have f4_15 : N 4 15 = h 4 15 := u 4 15 (by omega)
    have f4_16 : N 4 16 = h 4 16 := u 4 16 (by omega)
    have f116_67 : N 116 67 = h 116 67 := u 116 67 (by omega)
    have f116_68 : N 116 68 = h 116 68 := u 116 68 (by omega)
    refine ⟨cs, ⟨?_, ?_, ?_, ?_, ?_, ?_, ?_, ?_, ?_, ?_, ?_, ?_, ?_, ?_, ?_, ?_, ?_, ?_, ?_, ?_, ?_, ?_, ?_, ?_, ?_, ?_, ?_, ?_, ?_, ?_, ?_, ?_, ?_, ?_, ?_, ?_, ?_, ?_, ?_, ?_, ?_, ?_, ?_, ?_, ?_, ?_, ?_, ?_, ?_, ?_, ?_, ?_, ?_, ?_, ?_, ?_, ?_, ?_, ?_, ?_, ?_, ?_, ?_, ?_, ?_, ?_, ?_, ?_, ?_, ?_, ?_, ?_, ?_, ?_, ?_, ?_, ?_, ?_, ?_, ?_, ?_⟩, ⟨?_, ?_, ?_, ?_, ?_, ?_, ?_, ?_⟩⟩
    · exact (by
        simp only [r8, r117]
        exact I.e8)
    · exact (by
        simp only [r9, r119]
        exact I.e9)
    · exact (by
        simp only [r10, r120]
        exact I.e10)
    · exact (by
        simp only [r11, r118]
        exact I.e11)
    · exact (by
        simp only [r13, r121]
        exact I.e13)
    · exact (by
        simp only [r14, r122]
        exact I.e14)
    · exact (by
        simp only [r15, r123]
        exact I.e15)
    · exact (by
        simp only [r42, r129]
        exact I.e42)
    · exact (by
        simp only [r43, r130]
        exact I.e43)
    · exact (by
        simp only [r44, r131]
        exact I.e44)
    · exact (by
        simp only [r45, r132]
        exact I.e45)
    · exact (by
        simp only [r46, r133]
        exact I.e46)
    · exact (by
        simp only [r47, r134]
        exact I.e47)
    · exact (by
        simp only [r48, r135]
        exact I.e48)
    · exact (by
        simp only [r50, r137]
        exact I.e50)
    · exact (by
        simp only [r51, r138]
        exact I.e51)
    · exact (by
        simp only [r52, r139]
        exact I.e52)
    · exact (by
        simp only [r54, r145]
        exact I.e54)
    · exact (by
        simp only [r55, r146]
        exact I.e55)
    · exact (by
        simp only [r56, r147]
        exact I.e56)
    · exact (by
        simp only [r64, r150]
        exact I.e64)
    · exact (by
        simp only [r65, r151]
        exact I.e65)
    · exact (by
        simp only [r66, r152]
        exact I.e66)
    · exact (by
        simp only [r67, r153]
        exact I.e67)
    · exact (by
        simp only [r68, r154]
        exact I.e68)
    · exact (by
        simp only [r69, r155]
        exact I.e69)
    · exact (by
        simp only [r71, r156]
        exact I.e71)
    · exact (by
        simp only [r72, r157]
        exact I.e72)
    · exact (by
        simp only [r73, r158]
        exact I.e73)
    · exact (by
        simp only [r74, r125]
        exact I.e74)
    · exact (by
        simp only [r82, r140]
        exact I.e82)
    · exact (by
        simp only [r83, r141]
        exact I.e83)
    · exact (by
        simp only [r84, r143]
        exact I.e84)
    · exact (by
        simp only [r85, r144]
        exact I.e85)
    · exact (by
        simp only [r86, r142]
        exact I.e86)
    · exact (by
        simp only [r88, r168]
        rw [I.e88])
    · exact (by
        simp only [r89, r169]
        rw [I.e89])
    · exact (by
        simp only [r90, r170]
        rw [I.e90])
    · exact (by
        simp only [r91, r171]
        rw [I.e91])
    · exact (by
        simp only [r92, r167]
        rw [I.e92])
    · exact (by
        simp only [r98, r174]
        exact I.e98)
    · exact (by
        simp only [r99, r175]
        exact I.e99)
    · exact (by
        simp only [f0_0, f116_1]
        exact I.f0_0)
    · exact (by
        simp only [f7_4, f116_14]
        exact I.f7_4)
    · exact (by
        simp only [f12_4, f116_15]
        exact I.f12_4)
    · exact (by
        simp only [f1_1, f116_16]
        exact I.f1_1)
    · exact (by
        simp only [f41_12, f116_45]
        exact I.f41_12)
    · exact (by
        simp only [f53_3, f116_48]
        exact I.f53_3)
    · exact (by
        simp only [f81_2, f116_46]
        exact I.f81_2)
    · exact (by
        simp only [f81_6, f116_47]
        exact I.f81_6)
    · exact (by
        simp only [f4_7, f116_65]
        exact I.f4_7)
    · exact (by
        simp only [f70_3, f116_66]
        exact I.f70_3)
    · exact (by
        simp only [f97_2, f116_88]
        exact I.f97_2)
    · exact (by
        simp only [f7_0]
        exact I.k7)
    · exact (by
        simp only [f12_0]
        exact I.k12)
    · exact (by
        unfold RW
        simp only [f116_45, f116_48, f116_14, f116_15, r129, r130, r131, r132, r135, r137, r138, r139, r146]
        exact I.W)
    · exact (by
        unfold RS
        simp only [f116_65, f116_66, f116_45, r150, r151, r152, r153, r154, r155, r157]
        exact I.S)
    · exact TX_eq I.T f116_15 r124 r128
    · exact CX_eq I.X f12_4 r37 (fun p h0 h1 => funext fun j => u (17 + p) j (by omega))
    · exact (by
        simp only [f116_1]
        exact I.now)
    · exact (by
        simp only [f116_14, r118]
        exact I.il)
    · exact (by
        simp only [f116_1, f116_48, r147]
        exact I.m147)
    · exact (by
        simp only [f116_1, f116_45, r134]
        exact I.m134)
    · exact (by
        simp only [f116_1, f116_65, r155]
        exact I.m155)
    · exact (by
        simp only [f116_1, f116_66, r158]
        exact I.m158)
    · exact (by
        simp only [f116_1, f116_45, r49, r136]
        exact I.iu)
    · exact (by
        simp only [f41_13, f116_45, r136]
        exact I.un)
    · exact (by
        simp only [f116_45, f116_48, r145]
        exact I.ma)
    · exact (by
        simp only [f116_16, r2, r127]
        exact I.tp)
    · exact (by
        simp only [f116_45, f116_46, r140, r141]
        exact I.bn)
    · exact (by
        simp only [f116_45, f116_47, r142, r143, r144]
        exact I.po)
    · exact (by
        simp only [f116_45, f116_46, f116_47, r132, r133, r140, r141, r142, r144]
        exact I.co)
    · exact (by
        simp only [f116_45, r137]
        exact I.en)
    · exact (by
        simp only [r125]
        exact I.ta)
    · exact (by
        simp only [r167]
        exact fun p p0 p1 => by
          have q := I.ofn p p0 p1
          by_cases z : p = a
          · rw [z] at q
            rw [z, fset_same]; omega
          · rw [fset_ne z]; exact q)
    · exact (by
        simp only [r167]
        exact fun p p0 p1 => by
          have q := I.ofc p p0 p1
          have qa := I.ofn a ha.1 (by omega)
          by_cases z : p = a
          · rw [z, fset_same]; omega
          · rw [fset_ne z]
            by_cases z2 : p + 1 = a
            · intro _
              have w := hw (by omega)
              rw [show a - 1 = p by omega] at w
              exact w
            · rw [fset_ne z2]; exact q)
    · exact (by
        simp only [r168, r169, r170, r171]
        exact fun k k0 k1 => by
          by_cases z : k = 4 * a + h 167 a
          · rw [z, fset_same, fset_same, fset_same, fset_same]; omega
          · rw [fset_ne z, fset_ne z, fset_ne z, fset_ne z]; exact I.ofk k k0 k1)
    · exact (by
        simp only [f116_15, r121]
        exact I.tw)
    · exact (by
        simp only [f116_45, r135, r137]
        exact I.gr)
    · exact (by
        simp only [f116_65, r134, r150, r155]
        exact I.sd)
    · exact (by
        simp only [f116_88, r175]
        exact I.wo)
    · exact (by
        simp only [r76, r160]
        exact L.e76)
    · exact (by
        simp only [r77, r162]
        exact L.e77)
    · exact (by
        simp only [r78, r161]
        exact L.e78)
    · exact (by
        simp only [r79, r163]
        exact L.e79)
    · exact (by
        simp only [f4_15, f116_67]
        exact L.f4_15)
    · exact (by
        simp only [f4_16, f116_68]
        exact L.f4_16)
    · exact (by
        simp only [f116_67]
        exact L.li)
    · exact (by
        simp only [r160]
        exact L.bk)
  exact key _ rfl

set_option maxHeartbeats 2000000 in
theorem LI_offers {h : AH} {cs : Int → List (Int × List Int)} (I : CI h cs) (L : CLN h)  : LI (ov1 (hset (ov1 h 92 (fun i => if 0 ≤ i ∧ i < 4 then 0 else h 92 i)) 116 0 0) 167 (fun i => if 0 ≤ i ∧ i < 4 then 0 else h 167 i)) := by
  have key : ∀ N : AH, N = (ov1 (hset (ov1 h 92 (fun i => if 0 ≤ i ∧ i < 4 then 0 else h 92 i)) 116 0 0) 167 (fun i => if 0 ≤ i ∧ i < 4 then 0 else h 167 i)) → LI N := fun N hN => by
    have u : ∀ c j, ¬ (c = 167 ∨ (c = 116 ∧ j = 0) ∨ c = 92) → N c j = h c j := fun c j q => by
      rw [hN, ov1_c (by omega), hset_ne _ (by omega), ov1_c (by omega)]
    have r2 : N 2 = h 2 := funext fun j => u 2 j (by omega)
    have r8 : N 8 = h 8 := funext fun j => u 8 j (by omega)
    have r9 : N 9 = h 9 := funext fun j => u 9 j (by omega)
    have r10 : N 10 = h 10 := funext fun j => u 10 j (by omega)
    have r11 : N 11 = h 11 := funext fun j => u 11 j (by omega)
    have r13 : N 13 = h 13 := funext fun j => u 13 j (by omega)
    have r14 : N 14 = h 14 := funext fun j => u 14 j (by omega)
    have r15 : N 15 = h 15 := funext fun j => u 15 j (by omega)
    have r37 : N 37 = h 37 := funext fun j => u 37 j (by omega)
    have r42 : N 42 = h 42 := funext fun j => u 42 j (by omega)
    have r43 : N 43 = h 43 := funext fun j => u 43 j (by omega)
    have r44 : N 44 = h 44 := funext fun j => u 44 j (by omega)
    have r45 : N 45 = h 45 := funext fun j => u 45 j (by omega)
    have r46 : N 46 = h 46 := funext fun j => u 46 j (by omega)
    have r47 : N 47 = h 47 := funext fun j => u 47 j (by omega)
    have r48 : N 48 = h 48 := funext fun j => u 48 j (by omega)
    have r49 : N 49 = h 49 := funext fun j => u 49 j (by omega)
    have r50 : N 50 = h 50 := funext fun j => u 50 j (by omega)
    have r51 : N 51 = h 51 := funext fun j => u 51 j (by omega)
    have r52 : N 52 = h 52 := funext fun j => u 52 j (by omega)
    have r54 : N 54 = h 54 := funext fun j => u 54 j (by omega)
    have r55 : N 55 = h 55 := funext fun j => u 55 j (by omega)
    have r56 : N 56 = h 56 := funext fun j => u 56 j (by omega)
    have r64 : N 64 = h 64 := funext fun j => u 64 j (by omega)
    have r65 : N 65 = h 65 := funext fun j => u 65 j (by omega)
    have r66 : N 66 = h 66 := funext fun j => u 66 j (by omega)
    have r67 : N 67 = h 67 := funext fun j => u 67 j (by omega)
    have r68 : N 68 = h 68 := funext fun j => u 68 j (by omega)
    have r69 : N 69 = h 69 := funext fun j => u 69 j (by omega)
    have r71 : N 71 = h 71 := funext fun j => u 71 j (by omega)
    have r72 : N 72 = h 72 := funext fun j => u 72 j (by omega)
    have r73 : N 73 = h 73 := funext fun j => u 73 j (by omega)
    have r74 : N 74 = h 74 := funext fun j => u 74 j (by omega)
    have r82 : N 82 = h 82 := funext fun j => u 82 j (by omega)
    have r83 : N 83 = h 83 := funext fun j => u 83 j (by omega)
    have r84 : N 84 = h 84 := funext fun j => u 84 j (by omega)
    have r85 : N 85 = h 85 := funext fun j => u 85 j (by omega)
    have r86 : N 86 = h 86 := funext fun j => u 86 j (by omega)
    have r88 : N 88 = h 88 := funext fun j => u 88 j (by omega)
    have r89 : N 89 = h 89 := funext fun j => u 89 j (by omega)
    have r90 : N 90 = h 90 := funext fun j => u 90 j (by omega)
    have r91 : N 91 = h 91 := funext fun j => u 91 j (by omega)
    have r92 : N 92 = (fun i => if 0 ≤ i ∧ i < 4 then 0 else h 92 i) := by rw [hN, ov1_r (by decide), hset_r (by decide), ov1_rs]
    have r98 : N 98 = h 98 := funext fun j => u 98 j (by omega)
    have r99 : N 99 = h 99 := funext fun j => u 99 j (by omega)
    have r117 : N 117 = h 117 := funext fun j => u 117 j (by omega)
    have r118 : N 118 = h 118 := funext fun j => u 118 j (by omega)
    have r119 : N 119 = h 119 := funext fun j => u 119 j (by omega)
    have r120 : N 120 = h 120 := funext fun j => u 120 j (by omega)
    have r121 : N 121 = h 121 := funext fun j => u 121 j (by omega)
    have r122 : N 122 = h 122 := funext fun j => u 122 j (by omega)
    have r123 : N 123 = h 123 := funext fun j => u 123 j (by omega)
    have r124 : N 124 = h 124 := funext fun j => u 124 j (by omega)
    have r125 : N 125 = h 125 := funext fun j => u 125 j (by omega)
    have r127 : N 127 = h 127 := funext fun j => u 127 j (by omega)
    have r128 : N 128 = h 128 := funext fun j => u 128 j (by omega)
    have r129 : N 129 = h 129 := funext fun j => u 129 j (by omega)
    have r130 : N 130 = h 130 := funext fun j => u 130 j (by omega)
    have r131 : N 131 = h 131 := funext fun j => u 131 j (by omega)
    have r132 : N 132 = h 132 := funext fun j => u 132 j (by omega)
    have r133 : N 133 = h 133 := funext fun j => u 133 j (by omega)
    have r134 : N 134 = h 134 := funext fun j => u 134 j (by omega)
    have r135 : N 135 = h 135 := funext fun j => u 135 j (by omega)
    have r136 : N 136 = h 136 := funext fun j => u 136 j (by omega)
    have r137 : N 137 = h 137 := funext fun j => u 137 j (by omega)
    have r138 : N 138 = h 138 := funext fun j => u 138 j (by omega)
    have r139 : N 139 = h 139 := funext fun j => u 139 j (by omega)
    have r140 : N 140 = h 140 := funext fun j => u 140 j (by omega)
    have r141 : N 141 = h 141 := funext fun j => u 141 j (by omega)
    have r142 : N 142 = h 142 := funext fun j => u 142 j (by omega)
    have r143 : N 143 = h 143 := funext fun j => u 143 j (by omega)
    have r144 : N 144 = h 144 := funext fun j => u 144 j (by omega)
    have r145 : N 145 = h 145 := funext fun j => u 145 j (by omega)
    have r146 : N 146 = h 146 := funext fun j => u 146 j (by omega)
    have r147 : N 147 = h 147 := funext fun j => u 147 j (by omega)
    have r150 : N 150 = h 150 := funext fun j => u 150 j (by omega)
    have r151 : N 151 = h 151 := funext fun j => u 151 j (by omega)
    have r152 : N 152 = h 152 := funext fun j => u 152 j (by omega)
    have r153 : N 153 = h 153 := funext fun j => u 153 j (by omega)
    have r154 : N 154 = h 154 := funext fun j => u 154 j (by omega)
    have r155 : N 155 = h 155 := funext fun j => u 155 j (by omega)
    have r156 : N 156 = h 156 := funext fun j => u 156 j (by omega)
    have r157 : N 157 = h 157 := funext fun j => u 157 j (by omega)
    have r158 : N 158 = h 158 := funext fun j => u 158 j (by omega)
    have r167 : N 167 = (fun i => if 0 ≤ i ∧ i < 4 then 0 else h 167 i) := by rw [hN, ov1_rs]
    have r168 : N 168 = h 168 := funext fun j => u 168 j (by omega)
    have r169 : N 169 = h 169 := funext fun j => u 169 j (by omega)
    have r170 : N 170 = h 170 := funext fun j => u 170 j (by omega)
    have r171 : N 171 = h 171 := funext fun j => u 171 j (by omega)
    have r174 : N 174 = h 174 := funext fun j => u 174 j (by omega)
    have r175 : N 175 = h 175 := funext fun j => u 175 j (by omega)
    have r76 : N 76 = h 76 := funext fun j => u 76 j (by omega)
    have r77 : N 77 = h 77 := funext fun j => u 77 j (by omega)
    have r78 : N 78 = h 78 := funext fun j => u 78 j (by omega)
    have r79 : N 79 = h 79 := funext fun j => u 79 j (by omega)
    have r160 : N 160 = h 160 := funext fun j => u 160 j (by omega)
    have r161 : N 161 = h 161 := funext fun j => u 161 j (by omega)
    have r162 : N 162 = h 162 := funext fun j => u 162 j (by omega)
    have r163 : N 163 = h 163 := funext fun j => u 163 j (by omega)
    have f0_0 : N 0 0 = h 0 0 := u 0 0 (by omega)
    have f1_1 : N 1 1 = h 1 1 := u 1 1 (by omega)
    have f4_7 : N 4 7 = h 4 7 := u 4 7 (by omega)
    have f7_0 : N 7 0 = h 7 0 := u 7 0 (by omega)
    have f7_4 : N 7 4 = h 7 4 := u 7 4 (by omega)
    have f12_0 : N 12 0 = h 12 0 := u 12 0 (by omega)
    have f12_4 : N 12 4 = h 12 4 := u 12 4 (by omega)
    have f41_12 : N 41 12 = h 41 12 := u 41 12 (by omega)
    have f41_13 : N 41 13 = h 41 13 := u 41 13 (by omega)
    have f53_3 : N 53 3 = h 53 3 := u 53 3 (by omega)
    have f70_3 : N 70 3 = h 70 3 := u 70 3 (by omega)
    have f81_2 : N 81 2 = h 81 2 := u 81 2 (by omega)
    have f81_6 : N 81 6 = h 81 6 := u 81 6 (by omega)
    have f97_2 : N 97 2 = h 97 2 := u 97 2 (by omega)
    have f116_1 : N 116 1 = h 116 1 := u 116 1 (by omega)
    have f116_14 : N 116 14 = h 116 14 := u 116 14 (by omega)
    have f116_15 : N 116 15 = h 116 15 := u 116 15 (by omega)
    have f116_16 : N 116 16 = h 116 16 := u 116 16 (by omega)
    have f116_45 : N 116 45 = h 116 45 := u 116 45 (by omega)
    have f116_46 : N 116 46 = h 116 46 := u 116 46 (by omega)
    have f116_47 : N 116 47 = h 116 47 := u 116 47 (by omega)
    have f116_48 : N 116 48 = h 116 48 := u 116 48 (by omega)
    have f116_65 : N 116 65 = h 116 65 := u 116 65 (by omega)
    have f116_66 : N 116 66 = h 116 66 := u 116 66 (by omega)
    have f116_88 : N 116 88 = h 116 88 := u 116 88 (by omega)
    have f4_15 : N 4 15 = h 4 15 := u 4 15 (by omega)
    have f4_16 : N 4 16 = h 4 16 := u 4 16 (by omega)
    have f116_67 : N 116 67 = h 116 67 := u 116 67 (by omega)
    have f116_68 : N 116 68 = h 116 68 := u 116 68 (by omega)
    refine ⟨cs, ⟨?_, ?_, ?_, ?_, ?_, ?_, ?_, ?_, ?_, ?_, ?_, ?_, ?_, ?_, ?_, ?_, ?_, ?_, ?_, ?_, ?_, ?_, ?_, ?_, ?_, ?_, ?_, ?_, ?_, ?_, ?_, ?_, ?_, ?_, ?_, ?_, ?_, ?_, ?_, ?_, ?_, ?_, ?_, ?_, ?_, ?_, ?_, ?_, ?_, ?_, ?_, ?_, ?_, ?_, ?_, ?_, ?_, ?_, ?_, ?_, ?_, ?_, ?_, ?_, ?_, ?_, ?_, ?_, ?_, ?_, ?_, ?_, ?_, ?_, ?_, ?_, ?_, ?_, ?_, ?_, ?_⟩, ⟨?_, ?_, ?_, ?_, ?_, ?_, ?_, ?_⟩⟩
    · exact (by
        simp only [r8, r117]
        exact I.e8)
    · exact (by
        simp only [r9, r119]
        exact I.e9)
    · exact (by
        simp only [r10, r120]
        exact I.e10)
    · exact (by
        simp only [r11, r118]
        exact I.e11)
    · exact (by
        simp only [r13, r121]
        exact I.e13)
    · exact (by
        simp only [r14, r122]
        exact I.e14)
    · exact (by
        simp only [r15, r123]
        exact I.e15)
    · exact (by
        simp only [r42, r129]
        exact I.e42)
    · exact (by
        simp only [r43, r130]
        exact I.e43)
    · exact (by
        simp only [r44, r131]
        exact I.e44)
    · exact (by
        simp only [r45, r132]
        exact I.e45)
    · exact (by
        simp only [r46, r133]
        exact I.e46)
    · exact (by
        simp only [r47, r134]
        exact I.e47)
    · exact (by
        simp only [r48, r135]
        exact I.e48)
    · exact (by
        simp only [r50, r137]
        exact I.e50)
    · exact (by
        simp only [r51, r138]
        exact I.e51)
    · exact (by
        simp only [r52, r139]
        exact I.e52)
    · exact (by
        simp only [r54, r145]
        exact I.e54)
    · exact (by
        simp only [r55, r146]
        exact I.e55)
    · exact (by
        simp only [r56, r147]
        exact I.e56)
    · exact (by
        simp only [r64, r150]
        exact I.e64)
    · exact (by
        simp only [r65, r151]
        exact I.e65)
    · exact (by
        simp only [r66, r152]
        exact I.e66)
    · exact (by
        simp only [r67, r153]
        exact I.e67)
    · exact (by
        simp only [r68, r154]
        exact I.e68)
    · exact (by
        simp only [r69, r155]
        exact I.e69)
    · exact (by
        simp only [r71, r156]
        exact I.e71)
    · exact (by
        simp only [r72, r157]
        exact I.e72)
    · exact (by
        simp only [r73, r158]
        exact I.e73)
    · exact (by
        simp only [r74, r125]
        exact I.e74)
    · exact (by
        simp only [r82, r140]
        exact I.e82)
    · exact (by
        simp only [r83, r141]
        exact I.e83)
    · exact (by
        simp only [r84, r143]
        exact I.e84)
    · exact (by
        simp only [r85, r144]
        exact I.e85)
    · exact (by
        simp only [r86, r142]
        exact I.e86)
    · exact (by
        simp only [r88, r168]
        exact I.e88)
    · exact (by
        simp only [r89, r169]
        exact I.e89)
    · exact (by
        simp only [r90, r170]
        exact I.e90)
    · exact (by
        simp only [r91, r171]
        exact I.e91)
    · exact (by
        simp only [r92, r167]
        rw [I.e92])
    · exact (by
        simp only [r98, r174]
        exact I.e98)
    · exact (by
        simp only [r99, r175]
        exact I.e99)
    · exact (by
        simp only [f0_0, f116_1]
        exact I.f0_0)
    · exact (by
        simp only [f7_4, f116_14]
        exact I.f7_4)
    · exact (by
        simp only [f12_4, f116_15]
        exact I.f12_4)
    · exact (by
        simp only [f1_1, f116_16]
        exact I.f1_1)
    · exact (by
        simp only [f41_12, f116_45]
        exact I.f41_12)
    · exact (by
        simp only [f53_3, f116_48]
        exact I.f53_3)
    · exact (by
        simp only [f81_2, f116_46]
        exact I.f81_2)
    · exact (by
        simp only [f81_6, f116_47]
        exact I.f81_6)
    · exact (by
        simp only [f4_7, f116_65]
        exact I.f4_7)
    · exact (by
        simp only [f70_3, f116_66]
        exact I.f70_3)
    · exact (by
        simp only [f97_2, f116_88]
        exact I.f97_2)
    · exact (by
        simp only [f7_0]
        exact I.k7)
    · exact (by
        simp only [f12_0]
        exact I.k12)
    · exact (by
        unfold RW
        simp only [f116_45, f116_48, f116_14, f116_15, r129, r130, r131, r132, r135, r137, r138, r139, r146]
        exact I.W)
    · exact (by
        unfold RS
        simp only [f116_65, f116_66, f116_45, r150, r151, r152, r153, r154, r155, r157]
        exact I.S)
    · exact TX_eq I.T f116_15 r124 r128
    · exact CX_eq I.X f12_4 r37 (fun p h0 h1 => funext fun j => u (17 + p) j (by omega))
    · exact (by
        simp only [f116_1]
        exact I.now)
    · exact (by
        simp only [f116_14, r118]
        exact I.il)
    · exact (by
        simp only [f116_1, f116_48, r147]
        exact I.m147)
    · exact (by
        simp only [f116_1, f116_45, r134]
        exact I.m134)
    · exact (by
        simp only [f116_1, f116_65, r155]
        exact I.m155)
    · exact (by
        simp only [f116_1, f116_66, r158]
        exact I.m158)
    · exact (by
        simp only [f116_1, f116_45, r49, r136]
        exact I.iu)
    · exact (by
        simp only [f41_13, f116_45, r136]
        exact I.un)
    · exact (by
        simp only [f116_45, f116_48, r145]
        exact I.ma)
    · exact (by
        simp only [f116_16, r2, r127]
        exact I.tp)
    · exact (by
        simp only [f116_45, f116_46, r140, r141]
        exact I.bn)
    · exact (by
        simp only [f116_45, f116_47, r142, r143, r144]
        exact I.po)
    · exact (by
        simp only [f116_45, f116_46, f116_47, r132, r133, r140, r141, r142, r144]
        exact I.co)
    · exact (by
        simp only [f116_45, r137]
        exact I.en)
    · exact (by
        simp only [r125]
        exact I.ta)
    · exact (by
        simp only [r167]
        exact fun p p0 p1 => by
          rw [if_pos ⟨p0, p1⟩]; omega)
    · exact (by
        simp only [r167]
        exact fun p p0 p1 z => by
          rw [if_pos ⟨by omega, by omega⟩] at z; omega)
    · exact (by
        simp only [r168, r169, r170, r171]
        exact I.ofk)
    · exact (by
        simp only [f116_15, r121]
        exact I.tw)
    · exact (by
        simp only [f116_45, r135, r137]
        exact I.gr)
    · exact (by
        simp only [f116_65, r134, r150, r155]
        exact I.sd)
    · exact (by
        simp only [f116_88, r175]
        exact I.wo)
    · exact (by
        simp only [r76, r160]
        exact L.e76)
    · exact (by
        simp only [r77, r162]
        exact L.e77)
    · exact (by
        simp only [r78, r161]
        exact L.e78)
    · exact (by
        simp only [r79, r163]
        exact L.e79)
    · exact (by
        simp only [f4_15, f116_67]
        exact L.f4_15)
    · exact (by
        simp only [f4_16, f116_68]
        exact L.f4_16)
    · exact (by
        simp only [f116_67]
        exact L.li)
    · exact (by
        simp only [r160]
        exact L.bk)
  exact key _ rfl

set_option maxHeartbeats 2000000 in
theorem LI_feed {h : AH} {cs : Int → List (Int × List Int)} {P : RL2} (I : CI h cs) (L : CLN h) (hB : BO P) (hp : 0 ≤ P.2 ∧ P.2 ≤ 200) : LI (ov1 (hset (hset (ov1 (hset h 1 1 P.2) 2 P.1) 116 0 0) 116 16 P.2) 127 (fun i => s8 (P.1 i))) := by
  have key : ∀ N : AH, N = (ov1 (hset (hset (ov1 (hset h 1 1 P.2) 2 P.1) 116 0 0) 116 16 P.2) 127 (fun i => s8 (P.1 i))) → LI N := fun N hN => by
    have u : ∀ c j, ¬ (c = 127 ∨ (c = 116 ∧ j = 16) ∨ (c = 116 ∧ j = 0) ∨ c = 2 ∨ (c = 1 ∧ j = 1)) → N c j = h c j := fun c j q => by
      rw [hN, ov1_c (by omega), hset_ne _ (by omega), hset_ne _ (by omega), ov1_c (by omega), hset_ne _ (by omega)]
    have r2 : N 2 = P.1 := by rw [hN, ov1_r (by decide), hset_r (by decide), hset_r (by decide), ov1_rs]
    have r8 : N 8 = h 8 := funext fun j => u 8 j (by omega)
    have r9 : N 9 = h 9 := funext fun j => u 9 j (by omega)
    have r10 : N 10 = h 10 := funext fun j => u 10 j (by omega)
    have r11 : N 11 = h 11 := funext fun j => u 11 j (by omega)
    have r13 : N 13 = h 13 := funext fun j => u 13 j (by omega)
    have r14 : N 14 = h 14 := funext fun j => u 14 j (by omega)
    have r15 : N 15 = h 15 := funext fun j => u 15 j (by omega)
    have r37 : N 37 = h 37 := funext fun j => u 37 j (by omega)
    have r42 : N 42 = h 42 := funext fun j => u 42 j (by omega)
    have r43 : N 43 = h 43 := funext fun j => u 43 j (by omega)
    have r44 : N 44 = h 44 := funext fun j => u 44 j (by omega)
    have r45 : N 45 = h 45 := funext fun j => u 45 j (by omega)
    have r46 : N 46 = h 46 := funext fun j => u 46 j (by omega)
    have r47 : N 47 = h 47 := funext fun j => u 47 j (by omega)
    have r48 : N 48 = h 48 := funext fun j => u 48 j (by omega)
    have r49 : N 49 = h 49 := funext fun j => u 49 j (by omega)
    have r50 : N 50 = h 50 := funext fun j => u 50 j (by omega)
    have r51 : N 51 = h 51 := funext fun j => u 51 j (by omega)
    have r52 : N 52 = h 52 := funext fun j => u 52 j (by omega)
    have r54 : N 54 = h 54 := funext fun j => u 54 j (by omega)
    have r55 : N 55 = h 55 := funext fun j => u 55 j (by omega)
    have r56 : N 56 = h 56 := funext fun j => u 56 j (by omega)
    have r64 : N 64 = h 64 := funext fun j => u 64 j (by omega)
    have r65 : N 65 = h 65 := funext fun j => u 65 j (by omega)
    have r66 : N 66 = h 66 := funext fun j => u 66 j (by omega)
    have r67 : N 67 = h 67 := funext fun j => u 67 j (by omega)
    have r68 : N 68 = h 68 := funext fun j => u 68 j (by omega)
    have r69 : N 69 = h 69 := funext fun j => u 69 j (by omega)
    have r71 : N 71 = h 71 := funext fun j => u 71 j (by omega)
    have r72 : N 72 = h 72 := funext fun j => u 72 j (by omega)
    have r73 : N 73 = h 73 := funext fun j => u 73 j (by omega)
    have r74 : N 74 = h 74 := funext fun j => u 74 j (by omega)
    have r82 : N 82 = h 82 := funext fun j => u 82 j (by omega)
    have r83 : N 83 = h 83 := funext fun j => u 83 j (by omega)
    have r84 : N 84 = h 84 := funext fun j => u 84 j (by omega)
    have r85 : N 85 = h 85 := funext fun j => u 85 j (by omega)
    have r86 : N 86 = h 86 := funext fun j => u 86 j (by omega)
    have r88 : N 88 = h 88 := funext fun j => u 88 j (by omega)
    have r89 : N 89 = h 89 := funext fun j => u 89 j (by omega)
    have r90 : N 90 = h 90 := funext fun j => u 90 j (by omega)
    have r91 : N 91 = h 91 := funext fun j => u 91 j (by omega)
    have r92 : N 92 = h 92 := funext fun j => u 92 j (by omega)
    have r98 : N 98 = h 98 := funext fun j => u 98 j (by omega)
    have r99 : N 99 = h 99 := funext fun j => u 99 j (by omega)
    have r117 : N 117 = h 117 := funext fun j => u 117 j (by omega)
    have r118 : N 118 = h 118 := funext fun j => u 118 j (by omega)
    have r119 : N 119 = h 119 := funext fun j => u 119 j (by omega)
    have r120 : N 120 = h 120 := funext fun j => u 120 j (by omega)
    have r121 : N 121 = h 121 := funext fun j => u 121 j (by omega)
    have r122 : N 122 = h 122 := funext fun j => u 122 j (by omega)
    have r123 : N 123 = h 123 := funext fun j => u 123 j (by omega)
    have r124 : N 124 = h 124 := funext fun j => u 124 j (by omega)
    have r125 : N 125 = h 125 := funext fun j => u 125 j (by omega)
    have r127 : N 127 = (fun i => s8 (P.1 i)) := by rw [hN, ov1_rs]
    have r128 : N 128 = h 128 := funext fun j => u 128 j (by omega)
    have r129 : N 129 = h 129 := funext fun j => u 129 j (by omega)
    have r130 : N 130 = h 130 := funext fun j => u 130 j (by omega)
    have r131 : N 131 = h 131 := funext fun j => u 131 j (by omega)
    have r132 : N 132 = h 132 := funext fun j => u 132 j (by omega)
    have r133 : N 133 = h 133 := funext fun j => u 133 j (by omega)
    have r134 : N 134 = h 134 := funext fun j => u 134 j (by omega)
    have r135 : N 135 = h 135 := funext fun j => u 135 j (by omega)
    have r136 : N 136 = h 136 := funext fun j => u 136 j (by omega)
    have r137 : N 137 = h 137 := funext fun j => u 137 j (by omega)
    have r138 : N 138 = h 138 := funext fun j => u 138 j (by omega)
    have r139 : N 139 = h 139 := funext fun j => u 139 j (by omega)
    have r140 : N 140 = h 140 := funext fun j => u 140 j (by omega)
    have r141 : N 141 = h 141 := funext fun j => u 141 j (by omega)
    have r142 : N 142 = h 142 := funext fun j => u 142 j (by omega)
    have r143 : N 143 = h 143 := funext fun j => u 143 j (by omega)
    have r144 : N 144 = h 144 := funext fun j => u 144 j (by omega)
    have r145 : N 145 = h 145 := funext fun j => u 145 j (by omega)
    have r146 : N 146 = h 146 := funext fun j => u 146 j (by omega)
    have r147 : N 147 = h 147 := funext fun j => u 147 j (by omega)
    have r150 : N 150 = h 150 := funext fun j => u 150 j (by omega)
    have r151 : N 151 = h 151 := funext fun j => u 151 j (by omega)
    have r152 : N 152 = h 152 := funext fun j => u 152 j (by omega)
    have r153 : N 153 = h 153 := funext fun j => u 153 j (by omega)
    have r154 : N 154 = h 154 := funext fun j => u 154 j (by omega)
    have r155 : N 155 = h 155 := funext fun j => u 155 j (by omega)
    have r156 : N 156 = h 156 := funext fun j => u 156 j (by omega)
    have r157 : N 157 = h 157 := funext fun j => u 157 j (by omega)
    have r158 : N 158 = h 158 := funext fun j => u 158 j (by omega)
    have r167 : N 167 = h 167 := funext fun j => u 167 j (by omega)
    have r168 : N 168 = h 168 := funext fun j => u 168 j (by omega)
    have r169 : N 169 = h 169 := funext fun j => u 169 j (by omega)
    have r170 : N 170 = h 170 := funext fun j => u 170 j (by omega)
    have r171 : N 171 = h 171 := funext fun j => u 171 j (by omega)
    have r174 : N 174 = h 174 := funext fun j => u 174 j (by omega)
    have r175 : N 175 = h 175 := funext fun j => u 175 j (by omega)
    have r76 : N 76 = h 76 := funext fun j => u 76 j (by omega)
    have r77 : N 77 = h 77 := funext fun j => u 77 j (by omega)
    have r78 : N 78 = h 78 := funext fun j => u 78 j (by omega)
    have r79 : N 79 = h 79 := funext fun j => u 79 j (by omega)
    have r160 : N 160 = h 160 := funext fun j => u 160 j (by omega)
    have r161 : N 161 = h 161 := funext fun j => u 161 j (by omega)
    have r162 : N 162 = h 162 := funext fun j => u 162 j (by omega)
    have r163 : N 163 = h 163 := funext fun j => u 163 j (by omega)
    have f0_0 : N 0 0 = h 0 0 := u 0 0 (by omega)
    have f1_1 : N 1 1 = P.2 := (congrFun (congrFun hN 1) 1).trans ((ov1_c (by decide)).trans ((hset_c (by decide)).trans ((hset_c (by decide)).trans ((ov1_c (by decide)).trans (hset_same _ _ _ _)))))
    have f4_7 : N 4 7 = h 4 7 := u 4 7 (by omega)
    have f7_0 : N 7 0 = h 7 0 := u 7 0 (by omega)
    have f7_4 : N 7 4 = h 7 4 := u 7 4 (by omega)
    have f12_0 : N 12 0 = h 12 0 := u 12 0 (by omega)
    have f12_4 : N 12 4 = h 12 4 := u 12 4 (by omega)
    have f41_12 : N 41 12 = h 41 12 := u 41 12 (by omega)
    have f41_13 : N 41 13 = h 41 13 := u 41 13 (by omega)
    have f53_3 : N 53 3 = h 53 3 := u 53 3 (by omega)
    have f70_3 : N 70 3 = h 70 3 := u 70 3 (by omega)
    have f81_2 : N 81 2 = h 81 2 := u 81 2 (by omega)
    have f81_6 : N 81 6 = h 81 6 := u 81 6 (by omega)
    have f97_2 : N 97 2 = h 97 2 := u 97 2 (by omega)
    have f116_1 : N 116 1 = h 116 1 := u 116 1 (by omega)
    have f116_14 : N 116 14 = h 116 14 := u 116 14 (by omega)
    have f116_15 : N 116 15 = h 116 15 := u 116 15 (by omega)
    have f116_16 : N 116 16 = P.2 := (congrFun (congrFun hN 116) 16).trans ((ov1_c (by decide)).trans (hset_same _ _ _ _))
    have f116_45 : N 116 45 = h 116 45 := u 116 45 (by omega)
    have f116_46 : N 116 46 = h 116 46 := u 116 46 (by omega)
    have f116_47 : N 116 47 = h 116 47 := u 116 47 (by omega)
    have f116_48 : N 116 48 = h 116 48 := u 116 48 (by omega)
    have f116_65 : N 116 65 = h 116 65 := u 116 65 (by omega)
    have f116_66 : N 116 66 = h 116 66 := u 116 66 (by omega)
    have f116_88 : N 116 88 = h 116 88 := u 116 88 (by omega)
    have f4_15 : N 4 15 = h 4 15 := u 4 15 (by omega)
    have f4_16 : N 4 16 = h 4 16 := u 4 16 (by omega)
    have f116_67 : N 116 67 = h 116 67 := u 116 67 (by omega)
    have f116_68 : N 116 68 = h 116 68 := u 116 68 (by omega)
    refine ⟨cs, ⟨?_, ?_, ?_, ?_, ?_, ?_, ?_, ?_, ?_, ?_, ?_, ?_, ?_, ?_, ?_, ?_, ?_, ?_, ?_, ?_, ?_, ?_, ?_, ?_, ?_, ?_, ?_, ?_, ?_, ?_, ?_, ?_, ?_, ?_, ?_, ?_, ?_, ?_, ?_, ?_, ?_, ?_, ?_, ?_, ?_, ?_, ?_, ?_, ?_, ?_, ?_, ?_, ?_, ?_, ?_, ?_, ?_, ?_, ?_, ?_, ?_, ?_, ?_, ?_, ?_, ?_, ?_, ?_, ?_, ?_, ?_, ?_, ?_, ?_, ?_, ?_, ?_, ?_, ?_, ?_, ?_⟩, ⟨?_, ?_, ?_, ?_, ?_, ?_, ?_, ?_⟩⟩
    · exact (by
        simp only [r8, r117]
        exact I.e8)
    · exact (by
        simp only [r9, r119]
        exact I.e9)
    · exact (by
        simp only [r10, r120]
        exact I.e10)
    · exact (by
        simp only [r11, r118]
        exact I.e11)
    · exact (by
        simp only [r13, r121]
        exact I.e13)
    · exact (by
        simp only [r14, r122]
        exact I.e14)
    · exact (by
        simp only [r15, r123]
        exact I.e15)
    · exact (by
        simp only [r42, r129]
        exact I.e42)
    · exact (by
        simp only [r43, r130]
        exact I.e43)
    · exact (by
        simp only [r44, r131]
        exact I.e44)
    · exact (by
        simp only [r45, r132]
        exact I.e45)
    · exact (by
        simp only [r46, r133]
        exact I.e46)
    · exact (by
        simp only [r47, r134]
        exact I.e47)
    · exact (by
        simp only [r48, r135]
        exact I.e48)
    · exact (by
        simp only [r50, r137]
        exact I.e50)
    · exact (by
        simp only [r51, r138]
        exact I.e51)
    · exact (by
        simp only [r52, r139]
        exact I.e52)
    · exact (by
        simp only [r54, r145]
        exact I.e54)
    · exact (by
        simp only [r55, r146]
        exact I.e55)
    · exact (by
        simp only [r56, r147]
        exact I.e56)
    · exact (by
        simp only [r64, r150]
        exact I.e64)
    · exact (by
        simp only [r65, r151]
        exact I.e65)
    · exact (by
        simp only [r66, r152]
        exact I.e66)
    · exact (by
        simp only [r67, r153]
        exact I.e67)
    · exact (by
        simp only [r68, r154]
        exact I.e68)
    · exact (by
        simp only [r69, r155]
        exact I.e69)
    · exact (by
        simp only [r71, r156]
        exact I.e71)
    · exact (by
        simp only [r72, r157]
        exact I.e72)
    · exact (by
        simp only [r73, r158]
        exact I.e73)
    · exact (by
        simp only [r74, r125]
        exact I.e74)
    · exact (by
        simp only [r82, r140]
        exact I.e82)
    · exact (by
        simp only [r83, r141]
        exact I.e83)
    · exact (by
        simp only [r84, r143]
        exact I.e84)
    · exact (by
        simp only [r85, r144]
        exact I.e85)
    · exact (by
        simp only [r86, r142]
        exact I.e86)
    · exact (by
        simp only [r88, r168]
        exact I.e88)
    · exact (by
        simp only [r89, r169]
        exact I.e89)
    · exact (by
        simp only [r90, r170]
        exact I.e90)
    · exact (by
        simp only [r91, r171]
        exact I.e91)
    · exact (by
        simp only [r92, r167]
        exact I.e92)
    · exact (by
        simp only [r98, r174]
        exact I.e98)
    · exact (by
        simp only [r99, r175]
        exact I.e99)
    · exact (by
        simp only [f0_0, f116_1]
        exact I.f0_0)
    · exact (by
        simp only [f7_4, f116_14]
        exact I.f7_4)
    · exact (by
        simp only [f12_4, f116_15]
        exact I.f12_4)
    · exact (by
        simp only [f1_1, f116_16])
    · exact (by
        simp only [f41_12, f116_45]
        exact I.f41_12)
    · exact (by
        simp only [f53_3, f116_48]
        exact I.f53_3)
    · exact (by
        simp only [f81_2, f116_46]
        exact I.f81_2)
    · exact (by
        simp only [f81_6, f116_47]
        exact I.f81_6)
    · exact (by
        simp only [f4_7, f116_65]
        exact I.f4_7)
    · exact (by
        simp only [f70_3, f116_66]
        exact I.f70_3)
    · exact (by
        simp only [f97_2, f116_88]
        exact I.f97_2)
    · exact (by
        simp only [f7_0]
        exact I.k7)
    · exact (by
        simp only [f12_0]
        exact I.k12)
    · exact (by
        unfold RW
        simp only [f116_45, f116_48, f116_14, f116_15, r129, r130, r131, r132, r135, r137, r138, r139, r146]
        exact I.W)
    · exact (by
        unfold RS
        simp only [f116_65, f116_66, f116_45, r150, r151, r152, r153, r154, r155, r157]
        exact I.S)
    · exact TX_eq I.T f116_15 r124 r128
    · exact CX_eq I.X f12_4 r37 (fun p h0 h1 => funext fun j => u (17 + p) j (by omega))
    · exact (by
        simp only [f116_1]
        exact I.now)
    · exact (by
        simp only [f116_14, r118]
        exact I.il)
    · exact (by
        simp only [f116_1, f116_48, r147]
        exact I.m147)
    · exact (by
        simp only [f116_1, f116_45, r134]
        exact I.m134)
    · exact (by
        simp only [f116_1, f116_65, r155]
        exact I.m155)
    · exact (by
        simp only [f116_1, f116_66, r158]
        exact I.m158)
    · exact (by
        simp only [f116_1, f116_45, r49, r136]
        exact I.iu)
    · exact (by
        simp only [f41_13, f116_45, r136]
        exact I.un)
    · exact (by
        simp only [f116_45, f116_48, r145]
        exact I.ma)
    · exact (by
        simp only [f116_16, r2, r127]
        exact ⟨trivial, hB, hp.1, hp.2⟩)
    · exact (by
        simp only [f116_45, f116_46, r140, r141]
        exact I.bn)
    · exact (by
        simp only [f116_45, f116_47, r142, r143, r144]
        exact I.po)
    · exact (by
        simp only [f116_45, f116_46, f116_47, r132, r133, r140, r141, r142, r144]
        exact I.co)
    · exact (by
        simp only [f116_45, r137]
        exact I.en)
    · exact (by
        simp only [r125]
        exact I.ta)
    · exact (by
        simp only [r167]
        exact I.ofn)
    · exact (by
        simp only [r167]
        exact I.ofc)
    · exact (by
        simp only [r168, r169, r170, r171]
        exact I.ofk)
    · exact (by
        simp only [f116_15, r121]
        exact I.tw)
    · exact (by
        simp only [f116_45, r135, r137]
        exact I.gr)
    · exact (by
        simp only [f116_65, r134, r150, r155]
        exact I.sd)
    · exact (by
        simp only [f116_88, r175]
        exact I.wo)
    · exact (by
        simp only [r76, r160]
        exact L.e76)
    · exact (by
        simp only [r77, r162]
        exact L.e77)
    · exact (by
        simp only [r78, r161]
        exact L.e78)
    · exact (by
        simp only [r79, r163]
        exact L.e79)
    · exact (by
        simp only [f4_15, f116_67]
        exact L.f4_15)
    · exact (by
        simp only [f4_16, f116_68]
        exact L.f4_16)
    · exact (by
        simp only [f116_67]
        exact L.li)
    · exact (by
        simp only [r160]
        exact L.bk)
  exact key _ rfl

set_option maxHeartbeats 2000000 in
theorem LI_clear {h : AH} {cs : Int → List (Int × List Int)} {C : Int → Int} (I : CI h cs) (L : CLN h) (hC : ∀ b, 0 ≤ b → b < h 116 45 → C b = h 133 b + sm (onF (h 140) (h 141) b) (h 116 46)) : LI (hset (ov1 (hset (ov1 (hset h 81 2 0) 46 C) 116 0 0) 133 C) 116 46 0) := by
  have key : ∀ N : AH, N = (hset (ov1 (hset (ov1 (hset h 81 2 0) 46 C) 116 0 0) 133 C) 116 46 0) → LI N := fun N hN => by
    have u : ∀ c j, ¬ ((c = 116 ∧ j = 46) ∨ c = 133 ∨ (c = 116 ∧ j = 0) ∨ c = 46 ∨ (c = 81 ∧ j = 2)) → N c j = h c j := fun c j q => by
      rw [hN, hset_ne _ (by omega), ov1_c (by omega), hset_ne _ (by omega), ov1_c (by omega), hset_ne _ (by omega)]
    have r2 : N 2 = h 2 := funext fun j => u 2 j (by omega)
    have r8 : N 8 = h 8 := funext fun j => u 8 j (by omega)
    have r9 : N 9 = h 9 := funext fun j => u 9 j (by omega)
    have r10 : N 10 = h 10 := funext fun j => u 10 j (by omega)
    have r11 : N 11 = h 11 := funext fun j => u 11 j (by omega)
    have r13 : N 13 = h 13 := funext fun j => u 13 j (by omega)
    have r14 : N 14 = h 14 := funext fun j => u 14 j (by omega)
    have r15 : N 15 = h 15 := funext fun j => u 15 j (by omega)
    have r37 : N 37 = h 37 := funext fun j => u 37 j (by omega)
    have r42 : N 42 = h 42 := funext fun j => u 42 j (by omega)
    have r43 : N 43 = h 43 := funext fun j => u 43 j (by omega)
    have r44 : N 44 = h 44 := funext fun j => u 44 j (by omega)
    have r45 : N 45 = h 45 := funext fun j => u 45 j (by omega)
    have r46 : N 46 = C := by rw [hN, hset_r (by decide), ov1_r (by decide), hset_r (by decide), ov1_rs]
    have r47 : N 47 = h 47 := funext fun j => u 47 j (by omega)
    have r48 : N 48 = h 48 := funext fun j => u 48 j (by omega)
    have r49 : N 49 = h 49 := funext fun j => u 49 j (by omega)
    have r50 : N 50 = h 50 := funext fun j => u 50 j (by omega)
    have r51 : N 51 = h 51 := funext fun j => u 51 j (by omega)
    have r52 : N 52 = h 52 := funext fun j => u 52 j (by omega)
    have r54 : N 54 = h 54 := funext fun j => u 54 j (by omega)
    have r55 : N 55 = h 55 := funext fun j => u 55 j (by omega)
    have r56 : N 56 = h 56 := funext fun j => u 56 j (by omega)
    have r64 : N 64 = h 64 := funext fun j => u 64 j (by omega)
    have r65 : N 65 = h 65 := funext fun j => u 65 j (by omega)
    have r66 : N 66 = h 66 := funext fun j => u 66 j (by omega)
    have r67 : N 67 = h 67 := funext fun j => u 67 j (by omega)
    have r68 : N 68 = h 68 := funext fun j => u 68 j (by omega)
    have r69 : N 69 = h 69 := funext fun j => u 69 j (by omega)
    have r71 : N 71 = h 71 := funext fun j => u 71 j (by omega)
    have r72 : N 72 = h 72 := funext fun j => u 72 j (by omega)
    have r73 : N 73 = h 73 := funext fun j => u 73 j (by omega)
    have r74 : N 74 = h 74 := funext fun j => u 74 j (by omega)
    have r82 : N 82 = h 82 := funext fun j => u 82 j (by omega)
    have r83 : N 83 = h 83 := funext fun j => u 83 j (by omega)
    have r84 : N 84 = h 84 := funext fun j => u 84 j (by omega)
    have r85 : N 85 = h 85 := funext fun j => u 85 j (by omega)
    have r86 : N 86 = h 86 := funext fun j => u 86 j (by omega)
    have r88 : N 88 = h 88 := funext fun j => u 88 j (by omega)
    have r89 : N 89 = h 89 := funext fun j => u 89 j (by omega)
    have r90 : N 90 = h 90 := funext fun j => u 90 j (by omega)
    have r91 : N 91 = h 91 := funext fun j => u 91 j (by omega)
    have r92 : N 92 = h 92 := funext fun j => u 92 j (by omega)
    have r98 : N 98 = h 98 := funext fun j => u 98 j (by omega)
    have r99 : N 99 = h 99 := funext fun j => u 99 j (by omega)
    have r117 : N 117 = h 117 := funext fun j => u 117 j (by omega)
    have r118 : N 118 = h 118 := funext fun j => u 118 j (by omega)
    have r119 : N 119 = h 119 := funext fun j => u 119 j (by omega)
    have r120 : N 120 = h 120 := funext fun j => u 120 j (by omega)
    have r121 : N 121 = h 121 := funext fun j => u 121 j (by omega)
    have r122 : N 122 = h 122 := funext fun j => u 122 j (by omega)
    have r123 : N 123 = h 123 := funext fun j => u 123 j (by omega)
    have r124 : N 124 = h 124 := funext fun j => u 124 j (by omega)
    have r125 : N 125 = h 125 := funext fun j => u 125 j (by omega)
    have r127 : N 127 = h 127 := funext fun j => u 127 j (by omega)
    have r128 : N 128 = h 128 := funext fun j => u 128 j (by omega)
    have r129 : N 129 = h 129 := funext fun j => u 129 j (by omega)
    have r130 : N 130 = h 130 := funext fun j => u 130 j (by omega)
    have r131 : N 131 = h 131 := funext fun j => u 131 j (by omega)
    have r132 : N 132 = h 132 := funext fun j => u 132 j (by omega)
    have r133 : N 133 = C := by rw [hN, hset_r (by decide), ov1_rs]
    have r134 : N 134 = h 134 := funext fun j => u 134 j (by omega)
    have r135 : N 135 = h 135 := funext fun j => u 135 j (by omega)
    have r136 : N 136 = h 136 := funext fun j => u 136 j (by omega)
    have r137 : N 137 = h 137 := funext fun j => u 137 j (by omega)
    have r138 : N 138 = h 138 := funext fun j => u 138 j (by omega)
    have r139 : N 139 = h 139 := funext fun j => u 139 j (by omega)
    have r140 : N 140 = h 140 := funext fun j => u 140 j (by omega)
    have r141 : N 141 = h 141 := funext fun j => u 141 j (by omega)
    have r142 : N 142 = h 142 := funext fun j => u 142 j (by omega)
    have r143 : N 143 = h 143 := funext fun j => u 143 j (by omega)
    have r144 : N 144 = h 144 := funext fun j => u 144 j (by omega)
    have r145 : N 145 = h 145 := funext fun j => u 145 j (by omega)
    have r146 : N 146 = h 146 := funext fun j => u 146 j (by omega)
    have r147 : N 147 = h 147 := funext fun j => u 147 j (by omega)
    have r150 : N 150 = h 150 := funext fun j => u 150 j (by omega)
    have r151 : N 151 = h 151 := funext fun j => u 151 j (by omega)
    have r152 : N 152 = h 152 := funext fun j => u 152 j (by omega)
    have r153 : N 153 = h 153 := funext fun j => u 153 j (by omega)
    have r154 : N 154 = h 154 := funext fun j => u 154 j (by omega)
    have r155 : N 155 = h 155 := funext fun j => u 155 j (by omega)
    have r156 : N 156 = h 156 := funext fun j => u 156 j (by omega)
    have r157 : N 157 = h 157 := funext fun j => u 157 j (by omega)
    have r158 : N 158 = h 158 := funext fun j => u 158 j (by omega)
    have r167 : N 167 = h 167 := funext fun j => u 167 j (by omega)
    have r168 : N 168 = h 168 := funext fun j => u 168 j (by omega)
    have r169 : N 169 = h 169 := funext fun j => u 169 j (by omega)
    have r170 : N 170 = h 170 := funext fun j => u 170 j (by omega)
    have r171 : N 171 = h 171 := funext fun j => u 171 j (by omega)
    have r174 : N 174 = h 174 := funext fun j => u 174 j (by omega)
    have r175 : N 175 = h 175 := funext fun j => u 175 j (by omega)
    have r76 : N 76 = h 76 := funext fun j => u 76 j (by omega)
    have r77 : N 77 = h 77 := funext fun j => u 77 j (by omega)
    have r78 : N 78 = h 78 := funext fun j => u 78 j (by omega)
    have r79 : N 79 = h 79 := funext fun j => u 79 j (by omega)
    have r160 : N 160 = h 160 := funext fun j => u 160 j (by omega)
    have r161 : N 161 = h 161 := funext fun j => u 161 j (by omega)
    have r162 : N 162 = h 162 := funext fun j => u 162 j (by omega)
    have r163 : N 163 = h 163 := funext fun j => u 163 j (by omega)
    have f0_0 : N 0 0 = h 0 0 := u 0 0 (by omega)
    have f1_1 : N 1 1 = h 1 1 := u 1 1 (by omega)
    have f4_7 : N 4 7 = h 4 7 := u 4 7 (by omega)
    have f7_0 : N 7 0 = h 7 0 := u 7 0 (by omega)
    have f7_4 : N 7 4 = h 7 4 := u 7 4 (by omega)
    have f12_0 : N 12 0 = h 12 0 := u 12 0 (by omega)
    have f12_4 : N 12 4 = h 12 4 := u 12 4 (by omega)
    have f41_12 : N 41 12 = h 41 12 := u 41 12 (by omega)
    have f41_13 : N 41 13 = h 41 13 := u 41 13 (by omega)
    have f53_3 : N 53 3 = h 53 3 := u 53 3 (by omega)
    have f70_3 : N 70 3 = h 70 3 := u 70 3 (by omega)
    have f81_2 : N 81 2 = 0 := (congrFun (congrFun hN 81) 2).trans ((hset_c (by decide)).trans ((ov1_c (by decide)).trans ((hset_c (by decide)).trans ((ov1_c (by decide)).trans (hset_same _ _ _ _)))))
    have f81_6 : N 81 6 = h 81 6 := u 81 6 (by omega)
    have f97_2 : N 97 2 = h 97 2 := u 97 2 (by omega)
    have f116_1 : N 116 1 = h 116 1 := u 116 1 (by omega)
    have f116_14 : N 116 14 = h 116 14 := u 116 14 (by omega)
    have f116_15 : N 116 15 = h 116 15 := u 116 15 (by omega)
    have f116_16 : N 116 16 = h 116 16 := u 116 16 (by omega)
    have f116_45 : N 116 45 = h 116 45 := u 116 45 (by omega)
    have f116_46 : N 116 46 = 0 := (congrFun (congrFun hN 116) 46).trans (hset_same _ _ _ _)
    have f116_47 : N 116 47 = h 116 47 := u 116 47 (by omega)
    have f116_48 : N 116 48 = h 116 48 := u 116 48 (by omega)
    have f116_65 : N 116 65 = h 116 65 := u 116 65 (by omega)
    have f116_66 : N 116 66 = h 116 66 := u 116 66 (by omega)
    have f116_88 : N 116 88 = h 116 88 := u 116 88 (by omega)
    have f4_15 : N 4 15 = h 4 15 := u 4 15 (by omega)
    have f4_16 : N 4 16 = h 4 16 := u 4 16 (by omega)
    have f116_67 : N 116 67 = h 116 67 := u 116 67 (by omega)
    have f116_68 : N 116 68 = h 116 68 := u 116 68 (by omega)
    refine ⟨cs, ⟨?_, ?_, ?_, ?_, ?_, ?_, ?_, ?_, ?_, ?_, ?_, ?_, ?_, ?_, ?_, ?_, ?_, ?_, ?_, ?_, ?_, ?_, ?_, ?_, ?_, ?_, ?_, ?_, ?_, ?_, ?_, ?_, ?_, ?_, ?_, ?_, ?_, ?_, ?_, ?_, ?_, ?_, ?_, ?_, ?_, ?_, ?_, ?_, ?_, ?_, ?_, ?_, ?_, ?_, ?_, ?_, ?_, ?_, ?_, ?_, ?_, ?_, ?_, ?_, ?_, ?_, ?_, ?_, ?_, ?_, ?_, ?_, ?_, ?_, ?_, ?_, ?_, ?_, ?_, ?_, ?_⟩, ⟨?_, ?_, ?_, ?_, ?_, ?_, ?_, ?_⟩⟩
    · exact (by
        simp only [r8, r117]
        exact I.e8)
    · exact (by
        simp only [r9, r119]
        exact I.e9)
    · exact (by
        simp only [r10, r120]
        exact I.e10)
    · exact (by
        simp only [r11, r118]
        exact I.e11)
    · exact (by
        simp only [r13, r121]
        exact I.e13)
    · exact (by
        simp only [r14, r122]
        exact I.e14)
    · exact (by
        simp only [r15, r123]
        exact I.e15)
    · exact (by
        simp only [r42, r129]
        exact I.e42)
    · exact (by
        simp only [r43, r130]
        exact I.e43)
    · exact (by
        simp only [r44, r131]
        exact I.e44)
    · exact (by
        simp only [r45, r132]
        exact I.e45)
    · exact (by
        simp only [r46, r133])
    · exact (by
        simp only [r47, r134]
        exact I.e47)
    · exact (by
        simp only [r48, r135]
        exact I.e48)
    · exact (by
        simp only [r50, r137]
        exact I.e50)
    · exact (by
        simp only [r51, r138]
        exact I.e51)
    · exact (by
        simp only [r52, r139]
        exact I.e52)
    · exact (by
        simp only [r54, r145]
        exact I.e54)
    · exact (by
        simp only [r55, r146]
        exact I.e55)
    · exact (by
        simp only [r56, r147]
        exact I.e56)
    · exact (by
        simp only [r64, r150]
        exact I.e64)
    · exact (by
        simp only [r65, r151]
        exact I.e65)
    · exact (by
        simp only [r66, r152]
        exact I.e66)
    · exact (by
        simp only [r67, r153]
        exact I.e67)
    · exact (by
        simp only [r68, r154]
        exact I.e68)
    · exact (by
        simp only [r69, r155]
        exact I.e69)
    · exact (by
        simp only [r71, r156]
        exact I.e71)
    · exact (by
        simp only [r72, r157]
        exact I.e72)
    · exact (by
        simp only [r73, r158]
        exact I.e73)
    · exact (by
        simp only [r74, r125]
        exact I.e74)
    · exact (by
        simp only [r82, r140]
        exact I.e82)
    · exact (by
        simp only [r83, r141]
        exact I.e83)
    · exact (by
        simp only [r84, r143]
        exact I.e84)
    · exact (by
        simp only [r85, r144]
        exact I.e85)
    · exact (by
        simp only [r86, r142]
        exact I.e86)
    · exact (by
        simp only [r88, r168]
        exact I.e88)
    · exact (by
        simp only [r89, r169]
        exact I.e89)
    · exact (by
        simp only [r90, r170]
        exact I.e90)
    · exact (by
        simp only [r91, r171]
        exact I.e91)
    · exact (by
        simp only [r92, r167]
        exact I.e92)
    · exact (by
        simp only [r98, r174]
        exact I.e98)
    · exact (by
        simp only [r99, r175]
        exact I.e99)
    · exact (by
        simp only [f0_0, f116_1]
        exact I.f0_0)
    · exact (by
        simp only [f7_4, f116_14]
        exact I.f7_4)
    · exact (by
        simp only [f12_4, f116_15]
        exact I.f12_4)
    · exact (by
        simp only [f1_1, f116_16]
        exact I.f1_1)
    · exact (by
        simp only [f41_12, f116_45]
        exact I.f41_12)
    · exact (by
        simp only [f53_3, f116_48]
        exact I.f53_3)
    · exact (by
        simp only [f81_2, f116_46])
    · exact (by
        simp only [f81_6, f116_47]
        exact I.f81_6)
    · exact (by
        simp only [f4_7, f116_65]
        exact I.f4_7)
    · exact (by
        simp only [f70_3, f116_66]
        exact I.f70_3)
    · exact (by
        simp only [f97_2, f116_88]
        exact I.f97_2)
    · exact (by
        simp only [f7_0]
        exact I.k7)
    · exact (by
        simp only [f12_0]
        exact I.k12)
    · exact (by
        unfold RW
        simp only [f116_45, f116_48, f116_14, f116_15, r129, r130, r131, r132, r135, r137, r138, r139, r146]
        exact I.W)
    · exact (by
        unfold RS
        simp only [f116_65, f116_66, f116_45, r150, r151, r152, r153, r154, r155, r157]
        exact I.S)
    · exact TX_eq I.T f116_15 r124 r128
    · exact CX_eq I.X f12_4 r37 (fun p h0 h1 => funext fun j => u (17 + p) j (by omega))
    · exact (by
        simp only [f116_1]
        exact I.now)
    · exact (by
        simp only [f116_14, r118]
        exact I.il)
    · exact (by
        simp only [f116_1, f116_48, r147]
        exact I.m147)
    · exact (by
        simp only [f116_1, f116_45, r134]
        exact I.m134)
    · exact (by
        simp only [f116_1, f116_65, r155]
        exact I.m155)
    · exact (by
        simp only [f116_1, f116_66, r158]
        exact I.m158)
    · exact (by
        simp only [f116_1, f116_45, r49, r136]
        exact I.iu)
    · exact (by
        simp only [f41_13, f116_45, r136]
        exact I.un)
    · exact (by
        simp only [f116_45, f116_48, r145]
        exact I.ma)
    · exact (by
        simp only [f116_16, r2, r127]
        exact I.tp)
    · exact (by
        simp only [f116_45, f116_46, r140, r141]
        exact ⟨by omega, fun i i0 i1 => by omega⟩)
    · exact (by
        simp only [f116_45, f116_47, r142, r143, r144]
        exact I.po)
    · exact (by
        simp only [f116_45, f116_46, f116_47, r132, r133, r140, r141, r142, r144]
        exact fun b b0 b1 => by
          have cb := I.co b b0 b1
          have nn := on_nn (of := h 140) (many := h 141) (b := b) I.bn.1.1 (fun i i0 i1 => by have := I.bn.2 i i0 i1; omega)
          rw [hC b b0 b1, sm_0]
          omega)
    · exact (by
        simp only [f116_45, r137]
        exact I.en)
    · exact (by
        simp only [r125]
        exact I.ta)
    · exact (by
        simp only [r167]
        exact I.ofn)
    · exact (by
        simp only [r167]
        exact I.ofc)
    · exact (by
        simp only [r168, r169, r170, r171]
        exact I.ofk)
    · exact (by
        simp only [f116_15, r121]
        exact I.tw)
    · exact (by
        simp only [f116_45, r135, r137]
        exact I.gr)
    · exact (by
        simp only [f116_65, r134, r150, r155]
        exact I.sd)
    · exact (by
        simp only [f116_88, r175]
        exact I.wo)
    · exact (by
        simp only [r76, r160]
        exact L.e76)
    · exact (by
        simp only [r77, r162]
        exact L.e77)
    · exact (by
        simp only [r78, r161]
        exact L.e78)
    · exact (by
        simp only [r79, r163]
        exact L.e79)
    · exact (by
        simp only [f4_15, f116_67]
        exact L.f4_15)
    · exact (by
        simp only [f4_16, f116_68]
        exact L.f4_16)
    · exact (by
        simp only [f116_67]
        exact L.li)
    · exact (by
        simp only [r160]
        exact L.bk)
  exact key _ rfl

set_option maxHeartbeats 2000000 in
theorem LI_draw {h : AH} {cs : Int → List (Int × List Int)} {D : DRT} (I : CI h cs) (L : CLN h) (h6 : D.2.2.2.2 ≤ 6) (hD : DIw (h 144) (h 140) (h 141) (h 142) (h 116 46) (h 116 47) (h 116 45) D) : LI (ov1 (ov1 (ov1 (hset (hset (ov1 (ov1 (ov1 (hset h 81 2 D.2.2.2.2) 82 D.2.2.1) 83 D.2.2.2.1) 86 D.2.1) 116 0 0) 116 46 D.2.2.2.2) 140 D.2.2.1) 141 D.2.2.2.1) 142 D.2.1) := by
  have key : ∀ N : AH, N = (ov1 (ov1 (ov1 (hset (hset (ov1 (ov1 (ov1 (hset h 81 2 D.2.2.2.2) 82 D.2.2.1) 83 D.2.2.2.1) 86 D.2.1) 116 0 0) 116 46 D.2.2.2.2) 140 D.2.2.1) 141 D.2.2.2.1) 142 D.2.1) → LI N := fun N hN => by
    obtain ⟨d1, d2, d3, d4⟩ := hD
    have u : ∀ c j, ¬ (c = 142 ∨ c = 141 ∨ c = 140 ∨ (c = 116 ∧ j = 46) ∨ (c = 116 ∧ j = 0) ∨ c = 86 ∨ c = 83 ∨ c = 82 ∨ (c = 81 ∧ j = 2)) → N c j = h c j := fun c j q => by
      rw [hN, ov1_c (by omega), ov1_c (by omega), ov1_c (by omega), hset_ne _ (by omega), hset_ne _ (by omega), ov1_c (by omega), ov1_c (by omega), ov1_c (by omega), hset_ne _ (by omega)]
    have r2 : N 2 = h 2 := funext fun j => u 2 j (by omega)
    have r8 : N 8 = h 8 := funext fun j => u 8 j (by omega)
    have r9 : N 9 = h 9 := funext fun j => u 9 j (by omega)
    have r10 : N 10 = h 10 := funext fun j => u 10 j (by omega)
    have r11 : N 11 = h 11 := funext fun j => u 11 j (by omega)
    have r13 : N 13 = h 13 := funext fun j => u 13 j (by omega)
    have r14 : N 14 = h 14 := funext fun j => u 14 j (by omega)
    have r15 : N 15 = h 15 := funext fun j => u 15 j (by omega)
    have r37 : N 37 = h 37 := funext fun j => u 37 j (by omega)
    have r42 : N 42 = h 42 := funext fun j => u 42 j (by omega)
    have r43 : N 43 = h 43 := funext fun j => u 43 j (by omega)
    have r44 : N 44 = h 44 := funext fun j => u 44 j (by omega)
    have r45 : N 45 = h 45 := funext fun j => u 45 j (by omega)
    have r46 : N 46 = h 46 := funext fun j => u 46 j (by omega)
    have r47 : N 47 = h 47 := funext fun j => u 47 j (by omega)
    have r48 : N 48 = h 48 := funext fun j => u 48 j (by omega)
    have r49 : N 49 = h 49 := funext fun j => u 49 j (by omega)
    have r50 : N 50 = h 50 := funext fun j => u 50 j (by omega)
    have r51 : N 51 = h 51 := funext fun j => u 51 j (by omega)
    have r52 : N 52 = h 52 := funext fun j => u 52 j (by omega)
    have r54 : N 54 = h 54 := funext fun j => u 54 j (by omega)
    have r55 : N 55 = h 55 := funext fun j => u 55 j (by omega)
    have r56 : N 56 = h 56 := funext fun j => u 56 j (by omega)
    have r64 : N 64 = h 64 := funext fun j => u 64 j (by omega)
    have r65 : N 65 = h 65 := funext fun j => u 65 j (by omega)
    have r66 : N 66 = h 66 := funext fun j => u 66 j (by omega)
    have r67 : N 67 = h 67 := funext fun j => u 67 j (by omega)
    have r68 : N 68 = h 68 := funext fun j => u 68 j (by omega)
    have r69 : N 69 = h 69 := funext fun j => u 69 j (by omega)
    have r71 : N 71 = h 71 := funext fun j => u 71 j (by omega)
    have r72 : N 72 = h 72 := funext fun j => u 72 j (by omega)
    have r73 : N 73 = h 73 := funext fun j => u 73 j (by omega)
    have r74 : N 74 = h 74 := funext fun j => u 74 j (by omega)
    have r82 : N 82 = D.2.2.1 := by rw [hN, ov1_r (by decide), ov1_r (by decide), ov1_r (by decide), hset_r (by decide), hset_r (by decide), ov1_r (by decide), ov1_r (by decide), ov1_rs]
    have r83 : N 83 = D.2.2.2.1 := by rw [hN, ov1_r (by decide), ov1_r (by decide), ov1_r (by decide), hset_r (by decide), hset_r (by decide), ov1_r (by decide), ov1_rs]
    have r84 : N 84 = h 84 := funext fun j => u 84 j (by omega)
    have r85 : N 85 = h 85 := funext fun j => u 85 j (by omega)
    have r86 : N 86 = D.2.1 := by rw [hN, ov1_r (by decide), ov1_r (by decide), ov1_r (by decide), hset_r (by decide), hset_r (by decide), ov1_rs]
    have r88 : N 88 = h 88 := funext fun j => u 88 j (by omega)
    have r89 : N 89 = h 89 := funext fun j => u 89 j (by omega)
    have r90 : N 90 = h 90 := funext fun j => u 90 j (by omega)
    have r91 : N 91 = h 91 := funext fun j => u 91 j (by omega)
    have r92 : N 92 = h 92 := funext fun j => u 92 j (by omega)
    have r98 : N 98 = h 98 := funext fun j => u 98 j (by omega)
    have r99 : N 99 = h 99 := funext fun j => u 99 j (by omega)
    have r117 : N 117 = h 117 := funext fun j => u 117 j (by omega)
    have r118 : N 118 = h 118 := funext fun j => u 118 j (by omega)
    have r119 : N 119 = h 119 := funext fun j => u 119 j (by omega)
    have r120 : N 120 = h 120 := funext fun j => u 120 j (by omega)
    have r121 : N 121 = h 121 := funext fun j => u 121 j (by omega)
    have r122 : N 122 = h 122 := funext fun j => u 122 j (by omega)
    have r123 : N 123 = h 123 := funext fun j => u 123 j (by omega)
    have r124 : N 124 = h 124 := funext fun j => u 124 j (by omega)
    have r125 : N 125 = h 125 := funext fun j => u 125 j (by omega)
    have r127 : N 127 = h 127 := funext fun j => u 127 j (by omega)
    have r128 : N 128 = h 128 := funext fun j => u 128 j (by omega)
    have r129 : N 129 = h 129 := funext fun j => u 129 j (by omega)
    have r130 : N 130 = h 130 := funext fun j => u 130 j (by omega)
    have r131 : N 131 = h 131 := funext fun j => u 131 j (by omega)
    have r132 : N 132 = h 132 := funext fun j => u 132 j (by omega)
    have r133 : N 133 = h 133 := funext fun j => u 133 j (by omega)
    have r134 : N 134 = h 134 := funext fun j => u 134 j (by omega)
    have r135 : N 135 = h 135 := funext fun j => u 135 j (by omega)
    have r136 : N 136 = h 136 := funext fun j => u 136 j (by omega)
    have r137 : N 137 = h 137 := funext fun j => u 137 j (by omega)
    have r138 : N 138 = h 138 := funext fun j => u 138 j (by omega)
    have r139 : N 139 = h 139 := funext fun j => u 139 j (by omega)
    have r140 : N 140 = D.2.2.1 := by rw [hN, ov1_r (by decide), ov1_r (by decide), ov1_rs]
    have r141 : N 141 = D.2.2.2.1 := by rw [hN, ov1_r (by decide), ov1_rs]
    have r142 : N 142 = D.2.1 := by rw [hN, ov1_rs]
    have r143 : N 143 = h 143 := funext fun j => u 143 j (by omega)
    have r144 : N 144 = h 144 := funext fun j => u 144 j (by omega)
    have r145 : N 145 = h 145 := funext fun j => u 145 j (by omega)
    have r146 : N 146 = h 146 := funext fun j => u 146 j (by omega)
    have r147 : N 147 = h 147 := funext fun j => u 147 j (by omega)
    have r150 : N 150 = h 150 := funext fun j => u 150 j (by omega)
    have r151 : N 151 = h 151 := funext fun j => u 151 j (by omega)
    have r152 : N 152 = h 152 := funext fun j => u 152 j (by omega)
    have r153 : N 153 = h 153 := funext fun j => u 153 j (by omega)
    have r154 : N 154 = h 154 := funext fun j => u 154 j (by omega)
    have r155 : N 155 = h 155 := funext fun j => u 155 j (by omega)
    have r156 : N 156 = h 156 := funext fun j => u 156 j (by omega)
    have r157 : N 157 = h 157 := funext fun j => u 157 j (by omega)
    have r158 : N 158 = h 158 := funext fun j => u 158 j (by omega)
    have r167 : N 167 = h 167 := funext fun j => u 167 j (by omega)
    have r168 : N 168 = h 168 := funext fun j => u 168 j (by omega)
    have r169 : N 169 = h 169 := funext fun j => u 169 j (by omega)
    have r170 : N 170 = h 170 := funext fun j => u 170 j (by omega)
    have r171 : N 171 = h 171 := funext fun j => u 171 j (by omega)
    have r174 : N 174 = h 174 := funext fun j => u 174 j (by omega)
    have r175 : N 175 = h 175 := funext fun j => u 175 j (by omega)
    have r76 : N 76 = h 76 := funext fun j => u 76 j (by omega)
    have r77 : N 77 = h 77 := funext fun j => u 77 j (by omega)
    have r78 : N 78 = h 78 := funext fun j => u 78 j (by omega)
    have r79 : N 79 = h 79 := funext fun j => u 79 j (by omega)
    have r160 : N 160 = h 160 := funext fun j => u 160 j (by omega)
    have r161 : N 161 = h 161 := funext fun j => u 161 j (by omega)
    have r162 : N 162 = h 162 := funext fun j => u 162 j (by omega)
    have r163 : N 163 = h 163 := funext fun j => u 163 j (by omega)
    have f0_0 : N 0 0 = h 0 0 := u 0 0 (by omega)
    have f1_1 : N 1 1 = h 1 1 := u 1 1 (by omega)
    have f4_7 : N 4 7 = h 4 7 := u 4 7 (by omega)
    have f7_0 : N 7 0 = h 7 0 := u 7 0 (by omega)
    have f7_4 : N 7 4 = h 7 4 := u 7 4 (by omega)
    have f12_0 : N 12 0 = h 12 0 := u 12 0 (by omega)
    have f12_4 : N 12 4 = h 12 4 := u 12 4 (by omega)
    have f41_12 : N 41 12 = h 41 12 := u 41 12 (by omega)
    have f41_13 : N 41 13 = h 41 13 := u 41 13 (by omega)
    have f53_3 : N 53 3 = h 53 3 := u 53 3 (by omega)
    have f70_3 : N 70 3 = h 70 3 := u 70 3 (by omega)
    have f81_2 : N 81 2 = D.2.2.2.2 := (congrFun (congrFun hN 81) 2).trans ((ov1_c (by decide)).trans ((ov1_c (by decide)).trans ((ov1_c (by decide)).trans ((hset_c (by decide)).trans ((hset_c (by decide)).trans ((ov1_c (by decide)).trans ((ov1_c (by decide)).trans ((ov1_c (by decide)).trans (hset_same _ _ _ _)))))))))
    have f81_6 : N 81 6 = h 81 6 := u 81 6 (by omega)
    have f97_2 : N 97 2 = h 97 2 := u 97 2 (by omega)
    have f116_1 : N 116 1 = h 116 1 := u 116 1 (by omega)
    have f116_14 : N 116 14 = h 116 14 := u 116 14 (by omega)
    have f116_15 : N 116 15 = h 116 15 := u 116 15 (by omega)
    have f116_16 : N 116 16 = h 116 16 := u 116 16 (by omega)
    have f116_45 : N 116 45 = h 116 45 := u 116 45 (by omega)
    have f116_46 : N 116 46 = D.2.2.2.2 := (congrFun (congrFun hN 116) 46).trans ((ov1_c (by decide)).trans ((ov1_c (by decide)).trans ((ov1_c (by decide)).trans (hset_same _ _ _ _))))
    have f116_47 : N 116 47 = h 116 47 := u 116 47 (by omega)
    have f116_48 : N 116 48 = h 116 48 := u 116 48 (by omega)
    have f116_65 : N 116 65 = h 116 65 := u 116 65 (by omega)
    have f116_66 : N 116 66 = h 116 66 := u 116 66 (by omega)
    have f116_88 : N 116 88 = h 116 88 := u 116 88 (by omega)
    have f4_15 : N 4 15 = h 4 15 := u 4 15 (by omega)
    have f4_16 : N 4 16 = h 4 16 := u 4 16 (by omega)
    have f116_67 : N 116 67 = h 116 67 := u 116 67 (by omega)
    have f116_68 : N 116 68 = h 116 68 := u 116 68 (by omega)
    refine ⟨cs, ⟨?_, ?_, ?_, ?_, ?_, ?_, ?_, ?_, ?_, ?_, ?_, ?_, ?_, ?_, ?_, ?_, ?_, ?_, ?_, ?_, ?_, ?_, ?_, ?_, ?_, ?_, ?_, ?_, ?_, ?_, ?_, ?_, ?_, ?_, ?_, ?_, ?_, ?_, ?_, ?_, ?_, ?_, ?_, ?_, ?_, ?_, ?_, ?_, ?_, ?_, ?_, ?_, ?_, ?_, ?_, ?_, ?_, ?_, ?_, ?_, ?_, ?_, ?_, ?_, ?_, ?_, ?_, ?_, ?_, ?_, ?_, ?_, ?_, ?_, ?_, ?_, ?_, ?_, ?_, ?_, ?_⟩, ⟨?_, ?_, ?_, ?_, ?_, ?_, ?_, ?_⟩⟩
    · exact (by
        simp only [r8, r117]
        exact I.e8)
    · exact (by
        simp only [r9, r119]
        exact I.e9)
    · exact (by
        simp only [r10, r120]
        exact I.e10)
    · exact (by
        simp only [r11, r118]
        exact I.e11)
    · exact (by
        simp only [r13, r121]
        exact I.e13)
    · exact (by
        simp only [r14, r122]
        exact I.e14)
    · exact (by
        simp only [r15, r123]
        exact I.e15)
    · exact (by
        simp only [r42, r129]
        exact I.e42)
    · exact (by
        simp only [r43, r130]
        exact I.e43)
    · exact (by
        simp only [r44, r131]
        exact I.e44)
    · exact (by
        simp only [r45, r132]
        exact I.e45)
    · exact (by
        simp only [r46, r133]
        exact I.e46)
    · exact (by
        simp only [r47, r134]
        exact I.e47)
    · exact (by
        simp only [r48, r135]
        exact I.e48)
    · exact (by
        simp only [r50, r137]
        exact I.e50)
    · exact (by
        simp only [r51, r138]
        exact I.e51)
    · exact (by
        simp only [r52, r139]
        exact I.e52)
    · exact (by
        simp only [r54, r145]
        exact I.e54)
    · exact (by
        simp only [r55, r146]
        exact I.e55)
    · exact (by
        simp only [r56, r147]
        exact I.e56)
    · exact (by
        simp only [r64, r150]
        exact I.e64)
    · exact (by
        simp only [r65, r151]
        exact I.e65)
    · exact (by
        simp only [r66, r152]
        exact I.e66)
    · exact (by
        simp only [r67, r153]
        exact I.e67)
    · exact (by
        simp only [r68, r154]
        exact I.e68)
    · exact (by
        simp only [r69, r155]
        exact I.e69)
    · exact (by
        simp only [r71, r156]
        exact I.e71)
    · exact (by
        simp only [r72, r157]
        exact I.e72)
    · exact (by
        simp only [r73, r158]
        exact I.e73)
    · exact (by
        simp only [r74, r125]
        exact I.e74)
    · exact (by
        simp only [r82, r140])
    · exact (by
        simp only [r83, r141])
    · exact (by
        simp only [r84, r143]
        exact I.e84)
    · exact (by
        simp only [r85, r144]
        exact I.e85)
    · exact (by
        simp only [r86, r142])
    · exact (by
        simp only [r88, r168]
        exact I.e88)
    · exact (by
        simp only [r89, r169]
        exact I.e89)
    · exact (by
        simp only [r90, r170]
        exact I.e90)
    · exact (by
        simp only [r91, r171]
        exact I.e91)
    · exact (by
        simp only [r92, r167]
        exact I.e92)
    · exact (by
        simp only [r98, r174]
        exact I.e98)
    · exact (by
        simp only [r99, r175]
        exact I.e99)
    · exact (by
        simp only [f0_0, f116_1]
        exact I.f0_0)
    · exact (by
        simp only [f7_4, f116_14]
        exact I.f7_4)
    · exact (by
        simp only [f12_4, f116_15]
        exact I.f12_4)
    · exact (by
        simp only [f1_1, f116_16]
        exact I.f1_1)
    · exact (by
        simp only [f41_12, f116_45]
        exact I.f41_12)
    · exact (by
        simp only [f53_3, f116_48]
        exact I.f53_3)
    · exact (by
        simp only [f81_2, f116_46])
    · exact (by
        simp only [f81_6, f116_47]
        exact I.f81_6)
    · exact (by
        simp only [f4_7, f116_65]
        exact I.f4_7)
    · exact (by
        simp only [f70_3, f116_66]
        exact I.f70_3)
    · exact (by
        simp only [f97_2, f116_88]
        exact I.f97_2)
    · exact (by
        simp only [f7_0]
        exact I.k7)
    · exact (by
        simp only [f12_0]
        exact I.k12)
    · exact (by
        unfold RW
        simp only [f116_45, f116_48, f116_14, f116_15, r129, r130, r131, r132, r135, r137, r138, r139, r146]
        exact I.W)
    · exact (by
        unfold RS
        simp only [f116_65, f116_66, f116_45, r150, r151, r152, r153, r154, r155, r157]
        exact I.S)
    · exact TX_eq I.T f116_15 r124 r128
    · exact CX_eq I.X f12_4 r37 (fun p h0 h1 => funext fun j => u (17 + p) j (by omega))
    · exact (by
        simp only [f116_1]
        exact I.now)
    · exact (by
        simp only [f116_14, r118]
        exact I.il)
    · exact (by
        simp only [f116_1, f116_48, r147]
        exact I.m147)
    · exact (by
        simp only [f116_1, f116_45, r134]
        exact I.m134)
    · exact (by
        simp only [f116_1, f116_65, r155]
        exact I.m155)
    · exact (by
        simp only [f116_1, f116_66, r158]
        exact I.m158)
    · exact (by
        simp only [f116_1, f116_45, r49, r136]
        exact I.iu)
    · exact (by
        simp only [f41_13, f116_45, r136]
        exact I.un)
    · exact (by
        simp only [f116_45, f116_48, r145]
        exact I.ma)
    · exact (by
        simp only [f116_16, r2, r127]
        exact I.tp)
    · exact (by
        have bn := I.bn.1
        simp only [f116_45, f116_46, r140, r141]
        exact ⟨by omega, fun i i0 i1 => ⟨(d2 i i0 i1).1, (d2 i i0 i1).2⟩⟩)
    · exact (by
        simp only [f116_45, f116_47, r142, r143, r144]
        exact ⟨I.po.1, fun k k0 k1 => ⟨(I.po.2 k k0 k1).1, (I.po.2 k k0 k1).2.1, d3 k k0 k1⟩⟩)
    · exact (by
        simp only [f116_45, f116_46, f116_47, r132, r133, r140, r141, r142, r144]
        exact fun b b0 b1 => by
          have cb := I.co b b0 b1
          have cc := d4 b
          omega)
    · exact (by
        simp only [f116_45, r137]
        exact I.en)
    · exact (by
        simp only [r125]
        exact I.ta)
    · exact (by
        simp only [r167]
        exact I.ofn)
    · exact (by
        simp only [r167]
        exact I.ofc)
    · exact (by
        simp only [r168, r169, r170, r171]
        exact I.ofk)
    · exact (by
        simp only [f116_15, r121]
        exact I.tw)
    · exact (by
        simp only [f116_45, r135, r137]
        exact I.gr)
    · exact (by
        simp only [f116_65, r134, r150, r155]
        exact I.sd)
    · exact (by
        simp only [f116_88, r175]
        exact I.wo)
    · exact (by
        simp only [r76, r160]
        exact L.e76)
    · exact (by
        simp only [r77, r162]
        exact L.e77)
    · exact (by
        simp only [r78, r161]
        exact L.e78)
    · exact (by
        simp only [r79, r163]
        exact L.e79)
    · exact (by
        simp only [f4_15, f116_67]
        exact L.f4_15)
    · exact (by
        simp only [f4_16, f116_68]
        exact L.f4_16)
    · exact (by
        simp only [f116_67]
        exact L.li)
    · exact (by
        simp only [r160]
        exact L.bk)
  exact key _ rfl

