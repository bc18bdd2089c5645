/-! ===== what holds between calls: the invariant over what a call changes (written by wip/whole/p75.py, ci.py) ===== -/
/-- what holds between the calls of the law -/
def LI (h : AH) : Prop := ∃ cs, CI h cs ∧ CLN h
theorem LI_cast {a b : AH} (e : a = b) (x : LI b) : LI a := e ▸ x
theorem TX_eq {h N : AH} {cs : Int → List (Int × List Int)} (X : TX h cs) (f : N 116 15 = h 116 15) (r4 : N 124 = h 124) (r8 : N 128 = h 128) : TX N cs := by
  intro p h0 h1
  rw [f] at h1
  obtain ⟨u, q1, q2⟩ := X p h0 h1
  refine ⟨u, ?_, by rw [r4]; exact q2⟩
  unfold PT at q1 ⊢
  rw [r4, r8]
  exact q1
theorem CX_eq {h N : AH} {cs : Int → List (Int × List Int)} (X : CX h cs) (f : N 12 4 = h 12 4) (r : N 37 = h 37) (rp : ∀ p, 0 ≤ p → p < 20 → N (17 + p) = h (17 + p)) : CX N cs := by
  refine ⟨by rw [f]; exact X.1, fun p h0 h1 => ?_⟩
  rw [f] at h1
  have q := X.2 p h0 h1
  have hp := X.1.2
  rw [rp p h0 (by omega), r]
  exact q
theorem MN_now {A : Int → Int} {n a b : Int} (M : MN A n a) (h : a ≤ b) : MN A n b := ⟨M.1, fun i h0 h1 => by have := M.2 i h0 h1; omega⟩
theorem MN_add {A : Int → Int} {n a : Int} (M : MN A n a) (h0 : 0 ≤ a) : MN (fset A n a) (n + 1) a := by
  refine ⟨fun i j i0 ij jn => ?_, fun i i0 i1 => ?_⟩
  · by_cases e : j = n
    · rw [e, fset_same]
      by_cases e2 : i = n
      · rw [e2, fset_same]; omega
      · rw [fset_ne e2]; exact (M.2 i i0 (by omega)).2
    · rw [fset_ne e, fset_ne (by omega)]; exact M.1 i j i0 ij (by omega)
  · by_cases e : i = n
    · rw [e, fset_same]; omega
    · rw [fset_ne e]; exact M.2 i i0 (by omega)
theorem fs_all {P : Int → Prop} {A : Int → Int} {n x : Int} (ha : ∀ k, 0 ≤ k → k < n → P (A k)) (hx : P x) : ∀ k, 0 ≤ k → k < n + 1 → P (fset A n x k) := fun k k0 k1 => by
  by_cases e : k = n
  · rw [e, fset_same]; exact hx
  · rw [fset_ne e]; exact ha k k0 (by omega)
theorem fset_id {A : Int → Int} {i x : Int} (e : A i = x) : fset A i x = A := by
  funext j
  by_cases q : j = i
  · rw [q, fset_same, e]
  · rw [fset_ne q]
theorem on_0 {of many : Int → Int} {b m : Int} (h0 : 0 ≤ m) (h : ∀ i, 0 ≤ i → i < m → of i ≠ b) : sm (onF of many b) m = 0 := by
  have := sm_rng (f := onF of many b) (N := m) (B := 0) (fun i i0 i1 => by unfold onF; rw [if_neg (h i i0 i1)]; omega) m h0 (Int.le_refl _)
  omega
theorem on_nn {of many : Int → Int} {b m : Int} (h0 : 0 ≤ m) (h : ∀ i, 0 ≤ i → i < m → 0 ≤ many i) : 0 ≤ sm (onF of many b) m := by
  have := sm_le (f := onF of many b) (N := m) (fun i i0 i1 => by have := h i i0 i1; unfold onF; split <;> omega) (a := 0) (b := m) (Int.le_refl _) h0 (Int.le_refl _)
  rw [sm_0] at this
  exact this
theorem on_add {of many : Int → Int} {b k p q : Int} (h0 : 0 ≤ k) : sm (onF (fset of k p) (fset many k q) b) (k + 1) = sm (onF of many b) k + (if p = b then q else 0) := by
  rw [sm_s h0, sm_congr (g := onF of many b) (fun i i0 i1 => by unfold onF; rw [fset_ne (by omega), fset_ne (by omega)])]
  unfold onF
  rw [fset_same, fset_same]
theorem un_set {A : Int → Int} {n p x : Int} (h0 : 0 ≤ p) (h1 : p < n) (ha : A p = 9999) (hx : x ≠ 9999) : sm (undF (fset A p x)) n = sm (undF A) n + 1 := by
  have key : ∀ m : Nat, ((m : Int) ≤ p → sm (undF (fset A p x)) (m : Int) = sm (undF A) (m : Int)) ∧ (p < (m : Int) → sm (undF (fset A p x)) (m : Int) = sm (undF A) (m : Int) + 1) := by
    intro m
    induction m with
    | zero => exact ⟨fun _ => rfl, fun z => by omega⟩
    | succ m ih =>
      rw [show ((m + 1 : Nat) : Int) = (m : Int) + 1 by omega, sm_s (by omega), sm_s (by omega)]
      refine ⟨fun z => ?_, fun z => ?_⟩
      · rw [ih.1 (by omega)]
        unfold undF
        rw [fset_ne (by omega)]
      · by_cases e : (m : Int) = p
        · rw [ih.1 (by omega)]
          unfold undF
          rw [e, fset_same, if_neg hx, if_pos ha]
          omega
        · rw [ih.2 (by omega)]
          unfold undF
          rw [fset_ne e]
          omega
  have := (key n.toNat).2 (by omega)
  rw [show ((n.toNat : Nat) : Int) = n by omega] at this
  exact this

set_option maxHeartbeats 2000000 in
theorem LI_h0 {h : AH} {cs : Int → List (Int × List Int)} {x : Int} (I : CI h cs) (L : CLN h)  : LI (hset h 116 0 x) := by
  have key : ∀ N : AH, N = (hset h 116 0 x) → LI N := fun N hN => by
    have u : ∀ c j, ¬ ((c = 116 ∧ j = 0)) → N c j = h c j := fun c j q => by
      rw [hN, hset_ne _ (by omega)]
    have r2 : N 2 = h 2 := funext fun j => u 2 j (by omega)
    have r8 : N 8 = h 8 := funext fun j => u 8 j (by omega)
    have r9 : N 9 = h 9 := funext fun j => u 9 j (by omega)
    have r10 : N 10 = h 10 := funext fun j => u 10 j (by omega)
    have r11 : N 11 = h 11 := funext fun j => u 11 j (by omega)
    have r13 : N 13 = h 13 := funext fun j => u 13 j (by omega)
    have r14 : N 14 = h 14 := funext fun j => u 14 j (by omega)
    have r15 : N 15 = h 15 := funext fun j => u 15 j (by omega)
    have r37 : N 37 = h 37 := funext fun j => u 37 j (by omega)
    have r42 : N 42 = h 42 := funext fun j => u 42 j (by omega)
    have r43 : N 43 = h 43 := funext fun j => u 43 j (by omega)
    have r44 : N 44 = h 44 := funext fun j => u 44 j (by omega)
    have r45 : N 45 = h 45 := funext fun j => u 45 j (by omega)
    have r46 : N 46 = h 46 := funext fun j => u 46 j (by omega)
    have r47 : N 47 = h 47 := funext fun j => u 47 j (by omega)
    have r48 : N 48 = h 48 := funext fun j => u 48 j (by omega)
    have r49 : N 49 = h 49 := funext fun j => u 49 j (by omega)
    have r50 : N 50 = h 50 := funext fun j => u 50 j (by omega)
    have r51 : N 51 = h 51 := funext fun j => u 51 j (by omega)
    have r52 : N 52 = h 52 := funext fun j => u 52 j (by omega)
    have r54 : N 54 = h 54 := funext fun j => u 54 j (by omega)
    have r55 : N 55 = h 55 := funext fun j => u 55 j (by omega)
    have r56 : N 56 = h 56 := funext fun j => u 56 j (by omega)
    have r64 : N 64 = h 64 := funext fun j => u 64 j (by omega)
    have r65 : N 65 = h 65 := funext fun j => u 65 j (by omega)
    have r66 : N 66 = h 66 := funext fun j => u 66 j (by omega)
    have r67 : N 67 = h 67 := funext fun j => u 67 j (by omega)
    have r68 : N 68 = h 68 := funext fun j => u 68 j (by omega)
    have r69 : N 69 = h 69 := funext fun j => u 69 j (by omega)
    have r71 : N 71 = h 71 := funext fun j => u 71 j (by omega)
    have r72 : N 72 = h 72 := funext fun j => u 72 j (by omega)
    have r73 : N 73 = h 73 := funext fun j => u 73 j (by omega)
    have r74 : N 74 = h 74 := funext fun j => u 74 j (by omega)
    have r82 : N 82 = h 82 := funext fun j => u 82 j (by omega)
    have r83 : N 83 = h 83 := funext fun j => u 83 j (by omega)
    have r84 : N 84 = h 84 := funext fun j => u 84 j (by omega)
    have r85 : N 85 = h 85 := funext fun j => u 85 j (by omega)
    have r86 : N 86 = h 86 := funext fun j => u 86 j (by omega)
    have r88 : N 88 = h 88 := funext fun j => u 88 j (by omega)
    have r89 : N 89 = h 89 := funext fun j => u 89 j (by omega)
    have r90 : N 90 = h 90 := funext fun j => u 90 j (by omega)
    have r91 : N 91 = h 91 := funext fun j => u 91 j (by omega)
    have r92 : N 92 = h 92 := funext fun j => u 92 j (by omega)
    have r98 : N 98 = h 98 := funext fun j => u 98 j (by omega)
    have r99 : N 99 = h 99 := funext fun j => u 99 j (by omega)
    have r117 : N 117 = h 117 := funext fun j => u 117 j (by omega)
    have r118 : N 118 = h 118 := funext fun j => u 118 j (by omega)
    have r119 : N 119 = h 119 := funext fun j => u 119 j (by omega)
    have r120 : N 120 = h 120 := funext fun j => u 120 j (by omega)
    have r121 : N 121 = h 121 := funext fun j => u 121 j (by omega)
    have r122 : N 122 = h 122 := funext fun j => u 122 j (by omega)
    have r123 : N 123 = h 123 := funext fun j => u 123 j (by omega)
    have r124 : N 124 = h 124 := funext fun j => u 124 j (by omega)
    have r125 : N 125 = h 125 := funext fun j => u 125 j (by omega)
    have r127 : N 127 = h 127 := funext fun j => u 127 j (by omega)
    have r128 : N 128 = h 128 := funext fun j => u 128 j (by omega)
    have r129 : N 129 = h 129 := funext fun j => u 129 j (by omega)
    have r130 : N 130 = h 130 := funext fun j => u 130 j (by omega)
    have r131 : N 131 = h 131 := funext fun j => u 131 j (by omega)
    have r132 : N 132 = h 132 := funext fun j => u 132 j (by omega)
    have r133 : N 133 = h 133 := funext fun j => u 133 j (by omega)
    have r134 : N 134 = h 134 := funext fun j => u 134 j (by omega)
    have r135 : N 135 = h 135 := funext fun j => u 135 j (by omega)
    have r136 : N 136 = h 136 := funext fun j => u 136 j (by omega)
    have r137 : N 137 = h 137 := funext fun j => u 137 j (by omega)
    have r138 : N 138 = h 138 := funext fun j => u 138 j (by omega)
    have r139 : N 139 = h 139 := funext fun j => u 139 j (by omega)
    have r140 : N 140 = h 140 := funext fun j => u 140 j (by omega)
    have r141 : N 141 = h 141 := funext fun j => u 141 j (by omega)
    have r142 : N 142 = h 142 := funext fun j => u 142 j (by omega)
    have r143 : N 143 = h 143 := funext fun j => u 143 j (by omega)
    have r144 : N 144 = h 144 := funext fun j => u 144 j (by omega)
    have r145 : N 145 = h 145 := funext fun j => u 145 j (by omega)
    have r146 : N 146 = h 146 := funext fun j => u 146 j (by omega)
    have r147 : N 147 = h 147 := funext fun j => u 147 j (by omega)
    have r150 : N 150 = h 150 := funext fun j => u 150 j (by omega)
    have r151 : N 151 = h 151 := funext fun j => u 151 j (by omega)
    have r152 : N 152 = h 152 := funext fun j => u 152 j (by omega)
    have r153 : N 153 = h 153 := funext fun j => u 153 j (by omega)
    have r154 : N 154 = h 154 := funext fun j => u 154 j (by omega)
    have r155 : N 155 = h 155 := funext fun j => u 155 j (by omega)
    have r156 : N 156 = h 156 := funext fun j => u 156 j (by omega)
    have r157 : N 157 = h 157 := funext fun j => u 157 j (by omega)
    have r158 : N 158 = h 158 := funext fun j => u 158 j (by omega)
    have r167 : N 167 = h 167 := funext fun j => u 167 j (by omega)
    have r168 : N 168 = h 168 := funext fun j => u 168 j (by omega)
    have r169 : N 169 = h 169 := funext fun j => u 169 j (by omega)
    have r170 : N 170 = h 170 := funext fun j => u 170 j (by omega)
    have r171 : N 171 = h 171 := funext fun j => u 171 j (by omega)
    have r174 : N 174 = h 174 := funext fun j => u 174 j (by omega)
    have r175 : N 175 = h 175 := funext fun j => u 175 j (by omega)
    have r76 : N 76 = h 76 := funext fun j => u 76 j (by omega)
    have r77 : N 77 = h 77 := funext fun j => u 77 j (by omega)
    have r78 : N 78 = h 78 := funext fun j => u 78 j (by omega)
    have r79 : N 79 = h 79 := funext fun j => u 79 j (by omega)
    have r160 : N 160 = h 160 := funext fun j => u 160 j (by omega)
    have r161 : N 161 = h 161 := funext fun j => u 161 j (by omega)
    have r162 : N 162 = h 162 := funext fun j => u 162 j (by omega)
    have r163 : N 163 = h 163 := funext fun j => u 163 j (by omega)
    have f0_0 : N 0 0 = h 0 0 := u 0 0 (by omega)
    have f1_1 : N 1 1 = h 1 1 := u 1 1 (by omega)
    have f4_7 : N 4 7 = h 4 7 := u 4 7 (by omega)
    have f7_0 : N 7 0 = h 7 0 := u 7 0 (by omega)
    have f7_4 : N 7 4 = h 7 4 := u 7 4 (by omega)
    have f12_0 : N 12 0 = h 12 0 := u 12 0 (by omega)
    have f12_4 : N 12 4 = h 12 4 := u 12 4 (by omega)
    have f41_12 : N 41 12 = h 41 12 := u 41 12 (by omega)
    have f41_13 : N 41 13 = h 41 13 := u 41 13 (by omega)
    have f53_3 : N 53 3 = h 53 3 := u 53 3 (by omega)
    have f70_3 : N 70 3 = h 70 3 := u 70 3 (by omega)
    have f81_2 : N 81 2 = h 81 2 := u 81 2 (by omega)
    have f81_6 : N 81 6 = h 81 6 := u 81 6 (by omega)
    have f97_2 : N 97 2 = h 97 2 := u 97 2 (by omega)
    have f116_1 : N 116 1 = h 116 1 := u 116 1 (by omega)
    have f116_14 : N 116 14 = h 116 14 := u 116 14 (by omega)
    have f116_15 : N 116 15 = h 116 15 := u 116 15 (by omega)
    have f116_16 : N 116 16 = h 116 16 := u 116 16 (by omega)
    have f116_45 : N 116 45 = h 116 45 := u 116 45 (by omega)
    have f116_46 : N 116 46 = h 116 46 := u 116 46 (by omega)
    have f116_47 : N 116 47 = h 116 47 := u 116 47 (by omega)
    have f116_48 : N 116 48 = h 116 48 := u 116 48 (by omega)
    have f116_65 : N 116 65 = h 116 65 := u 116 65 (by omega)
    have f116_66 : N 116 66 = h 116 66 := u 116 66 (by omega)
    have f116_88 : N 116 88 = h 116 88 := u 116 88 (by omega)
    have f4_15 : N 4 15 = h 4 15 := u 4 15 (by omega)
    have f4_16 : N 4 16 = h 4 16 := u 4 16 (by omega)
    have f116_67 : N 116 67 = h 116 67 := u 116 67 (by omega)
    have f116_68 : N 116 68 = h 116 68 := u 116 68 (by omega)
    refine ⟨cs, ⟨?_, ?_, ?_, ?_, ?_, ?_, ?_, ?_, ?_, ?_, ?_, ?_, ?_, ?_, ?_, ?_, ?_, ?_, ?_, ?_, ?_, ?_, ?_, ?_, ?_, ?_, ?_, ?_, ?_, ?_, ?_, ?_, ?_, ?_, ?_, ?_, ?_, ?_, ?_, ?_, ?_, ?_, ?_, ?_, ?_, ?_, ?_, ?_, ?_, ?_, ?_, ?_, ?_, ?_, ?_, ?_, ?_, ?_, ?_, ?_, ?_, ?_, ?_, ?_, ?_, ?_, ?_, ?_, ?_, ?_, ?_, ?_, ?_, ?_, ?_, ?_, ?_, ?_, ?_, ?_, ?_⟩, ⟨?_, ?_, ?_, ?_, ?_, ?_, ?_, ?_⟩⟩
    · exact (by
        simp only [r8, r117]
        exact I.e8)
    · exact (by
        simp only [r9, r119]
        exact I.e9)
    · exact (by
        simp only [r10, r120]
        exact I.e10)
    · exact (by
        simp only [r11, r118]
        exact I.e11)
    · exact (by
        simp only [r13, r121]
        exact I.e13)
    · exact (by
        simp only [r14, r122]
        exact I.e14)
    · exact (by
        simp only [r15, r123]
        exact I.e15)
    · exact (by
        simp only [r42, r129]
        exact I.e42)
    · exact (by
        simp only [r43, r130]
        exact I.e43)
    · exact (by
        simp only [r44, r131]
        exact I.e44)
    · exact (by
        simp only [r45, r132]
        exact I.e45)
    · exact (by
        simp only [r46, r133]
        exact I.e46)
    · exact (by
        simp only [r47, r134]
        exact I.e47)
    · exact (by
        simp only [r48, r135]
        exact I.e48)
    · exact (by
        simp only [r50, r137]
        exact I.e50)
    · exact (by
        simp only [r51, r138]
        exact I.e51)
    · exact (by
        simp only [r52, r139]
        exact I.e52)
    · exact (by
        simp only [r54, r145]
        exact I.e54)
    · exact (by
        simp only [r55, r146]
        exact I.e55)
    · exact (by
        simp only [r56, r147]
        exact I.e56)
    · exact (by
        simp only [r64, r150]
        exact I.e64)
    · exact (by
        simp only [r65, r151]
        exact I.e65)
    · exact (by
        simp only [r66, r152]
        exact I.e66)
    · exact (by
        simp only [r67, r153]
        exact I.e67)
    · exact (by
        simp only [r68, r154]
        exact I.e68)
    · exact (by
        simp only [r69, r155]
        exact I.e69)
    · exact (by
        simp only [r71, r156]
        exact I.e71)
    · exact (by
        simp only [r72, r157]
        exact I.e72)
    · exact (by
        simp only [r73, r158]
        exact I.e73)
    · exact (by
        simp only [r74, r125]
        exact I.e74)
    · exact (by
        simp only [r82, r140]
        exact I.e82)
    · exact (by
        simp only [r83, r141]
        exact I.e83)
    · exact (by
        simp only [r84, r143]
        exact I.e84)
    · exact (by
        simp only [r85, r144]
        exact I.e85)
    · exact (by
        simp only [r86, r142]
        exact I.e86)
    · exact (by
        simp only [r88, r168]
        exact I.e88)
    · exact (by
        simp only [r89, r169]
        exact I.e89)
    · exact (by
        simp only [r90, r170]
        exact I.e90)
    · exact (by
        simp only [r91, r171]
        exact I.e91)
    · exact (by
        simp only [r92, r167]
        exact I.e92)
    · exact (by
        simp only [r98, r174]
        exact I.e98)
    · exact (by
        simp only [r99, r175]
        exact I.e99)
    · exact (by
        simp only [f0_0, f116_1]
        exact I.f0_0)
    · exact (by
        simp only [f7_4, f116_14]
        exact I.f7_4)
    · exact (by
        simp only [f12_4, f116_15]
        exact I.f12_4)
    · exact (by
        simp only [f1_1, f116_16]
        exact I.f1_1)
    · exact (by
        simp only [f41_12, f116_45]
        exact I.f41_12)
    · exact (by
        simp only [f53_3, f116_48]
        exact I.f53_3)
    · exact (by
        simp only [f81_2, f116_46]
        exact I.f81_2)
    · exact (by
        simp only [f81_6, f116_47]
        exact I.f81_6)
    · exact (by
        simp only [f4_7, f116_65]
        exact I.f4_7)
    · exact (by
        simp only [f70_3, f116_66]
        exact I.f70_3)
    · exact (by
        simp only [f97_2, f116_88]
        exact I.f97_2)
    · exact (by
        simp only [f7_0]
        exact I.k7)
    · exact (by
        simp only [f12_0]
        exact I.k12)
    · exact (by
        unfold RW
        simp only [f116_45, f116_48, f116_14, f116_15, r129, r130, r131, r132, r135, r137, r138, r139, r146]
        exact I.W)
    · exact (by
        unfold RS
        simp only [f116_65, f116_66, f116_45, r150, r151, r152, r153, r154, r155, r157]
        exact I.S)
    · exact TX_eq I.T f116_15 r124 r128
    · exact CX_eq I.X f12_4 r37 (fun p h0 h1 => funext fun j => u (17 + p) j (by omega))
    · exact (by
        simp only [f116_1]
        exact I.now)
    · exact (by
        simp only [f116_14, r118]
        exact I.il)
    · exact (by
        simp only [f116_1, f116_48, r147]
        exact I.m147)
    · exact (by
        simp only [f116_1, f116_45, r134]
        exact I.m134)
    · exact (by
        simp only [f116_1, f116_65, r155]
        exact I.m155)
    · exact (by
        simp only [f116_1, f116_66, r158]
        exact I.m158)
    · exact (by
        simp only [f116_1, f116_45, r49, r136]
        exact I.iu)
    · exact (by
        simp only [f41_13, f116_45, r136]
        exact I.un)
    · exact (by
        simp only [f116_45, f116_48, r145]
        exact I.ma)
    · exact (by
        simp only [f116_16, r2, r127]
        exact I.tp)
    · exact (by
        simp only [f116_45, f116_46, r140, r141]
        exact I.bn)
    · exact (by
        simp only [f116_45, f116_47, r142, r143, r144]
        exact I.po)
    · exact (by
        simp only [f116_45, f116_46, f116_47, r132, r133, r140, r141, r142, r144]
        exact I.co)
    · exact (by
        simp only [f116_45, r137]
        exact I.en)
    · exact (by
        simp only [r125]
        exact I.ta)
    · exact (by
        simp only [r167]
        exact I.ofn)
    · exact (by
        simp only [r167]
        exact I.ofc)
    · exact (by
        simp only [r168, r169, r170, r171]
        exact I.ofk)
    · exact (by
        simp only [f116_15, r121]
        exact I.tw)
    · exact (by
        simp only [f116_45, r135, r137]
        exact I.gr)
    · exact (by
        simp only [f116_65, r134, r150, r155]
        exact I.sd)
    · exact (by
        simp only [f116_88, r175]
        exact I.wo)
    · exact (by
        simp only [r76, r160]
        exact L.e76)
    · exact (by
        simp only [r77, r162]
        exact L.e77)
    · exact (by
        simp only [r78, r161]
        exact L.e78)
    · exact (by
        simp only [r79, r163]
        exact L.e79)
    · exact (by
        simp only [f4_15, f116_67]
        exact L.f4_15)
    · exact (by
        simp only [f4_16, f116_68]
        exact L.f4_16)
    · exact (by
        simp only [f116_67]
        exact L.li)
    · exact (by
        simp only [r160]
        exact L.bk)
  exact key _ rfl

set_option maxHeartbeats 2000000 in
theorem LI_days {h : AH} {cs : Int → List (Int × List Int)} {x : Int} (I : CI h cs) (L : CLN h) (hx : h 116 1 ≤ x ∧ x ≤ 2000) : LI (hset (hset (hset h 0 0 x) 116 0 0) 116 1 x) := by
  have key : ∀ N : AH, N = (hset (hset (hset h 0 0 x) 116 0 0) 116 1 x) → LI N := fun N hN => by
    have u : ∀ c j, ¬ ((c = 116 ∧ j = 1) ∨ (c = 116 ∧ j = 0) ∨ (c = 0 ∧ j = 0)) → N c j = h c j := fun c j q => by
      rw [hN, hset_ne _ (by omega), hset_ne _ (by omega), hset_ne _ (by omega)]
    have r2 : N 2 = h 2 := funext fun j => u 2 j (by omega)
    have r8 : N 8 = h 8 := funext fun j => u 8 j (by omega)
    have r9 : N 9 = h 9 := funext fun j => u 9 j (by omega)
    have r10 : N 10 = h 10 := funext fun j => u 10 j (by omega)
    have r11 : N 11 = h 11 := funext fun j => u 11 j (by omega)
    have r13 : N 13 = h 13 := funext fun j => u 13 j (by omega)
    have r14 : N 14 = h 14 := funext fun j => u 14 j (by omega)
    have r15 : N 15 = h 15 := funext fun j => u 15 j (by omega)
    have r37 : N 37 = h 37 := funext fun j => u 37 j (by omega)
    have r42 : N 42 = h 42 := funext fun j => u 42 j (by omega)
    have r43 : N 43 = h 43 := funext fun j => u 43 j (by omega)
    have r44 : N 44 = h 44 := funext fun j => u 44 j (by omega)
    have r45 : N 45 = h 45 := funext fun j => u 45 j (by omega)
    have r46 : N 46 = h 46 := funext fun j => u 46 j (by omega)
    have r47 : N 47 = h 47 := funext fun j => u 47 j (by omega)
    have r48 : N 48 = h 48 := funext fun j => u 48 j (by omega)
    have r49 : N 49 = h 49 := funext fun j => u 49 j (by omega)
    have r50 : N 50 = h 50 := funext fun j => u 50 j (by omega)
    have r51 : N 51 = h 51 := funext fun j => u 51 j (by omega)
    have r52 : N 52 = h 52 := funext fun j => u 52 j (by omega)
    have r54 : N 54 = h 54 := funext fun j => u 54 j (by omega)
    have r55 : N 55 = h 55 := funext fun j => u 55 j (by omega)
    have r56 : N 56 = h 56 := funext fun j => u 56 j (by omega)
    have r64 : N 64 = h 64 := funext fun j => u 64 j (by omega)
    have r65 : N 65 = h 65 := funext fun j => u 65 j (by omega)
    have r66 : N 66 = h 66 := funext fun j => u 66 j (by omega)
    have r67 : N 67 = h 67 := funext fun j => u 67 j (by omega)
    have r68 : N 68 = h 68 := funext fun j => u 68 j (by omega)
    have r69 : N 69 = h 69 := funext fun j => u 69 j (by omega)
    have r71 : N 71 = h 71 := funext fun j => u 71 j (by omega)
    have r72 : N 72 = h 72 := funext fun j => u 72 j (by omega)
    have r73 : N 73 = h 73 := funext fun j => u 73 j (by omega)
    have r74 : N 74 = h 74 := funext fun j => u 74 j (by omega)
    have r82 : N 82 = h 82 := funext fun j => u 82 j (by omega)
    have r83 : N 83 = h 83 := funext fun j => u 83 j (by omega)
    have r84 : N 84 = h 84 := funext fun j => u 84 j (by omega)
    have r85 : N 85 = h 85 := funext fun j => u 85 j (by omega)
    have r86 : N 86 = h 86 := funext fun j => u 86 j (by omega)
    have r88 : N 88 = h 88 := funext fun j => u 88 j (by omega)
    have r89 : N 89 = h 89 := funext fun j => u 89 j (by omega)
    have r90 : N 90 = h 90 := funext fun j => u 90 j (by omega)
    have r91 : N 91 = h 91 := funext fun j => u 91 j (by omega)
    have r92 : N 92 = h 92 := funext fun j => u 92 j (by omega)
    have r98 : N 98 = h 98 := funext fun j => u 98 j (by omega)
    have r99 : N 99 = h 99 := funext fun j => u 99 j (by omega)
    have r117 : N 117 = h 117 := funext fun j => u 117 j (by omega)
    have r118 : N 118 = h 118 := funext fun j => u 118 j (by omega)
    have r119 : N 119 = h 119 := funext fun j => u 119 j (by omega)
    have r120 : N 120 = h 120 := funext fun j => u 120 j (by omega)
    have r121 : N 121 = h 121 := funext fun j => u 121 j (by omega)
    have r122 : N 122 = h 122 := funext fun j => u 122 j (by omega)
    have r123 : N 123 = h 123 := funext fun j => u 123 j (by omega)
    have r124 : N 124 = h 124 := funext fun j => u 124 j (by omega)
    have r125 : N 125 = h 125 := funext fun j => u 125 j (by omega)
    have r127 : N 127 = h 127 := funext fun j => u 127 j (by omega)
    have r128 : N 128 = h 128 := funext fun j => u 128 j (by omega)
    have r129 : N 129 = h 129 := funext fun j => u 129 j (by omega)
    have r130 : N 130 = h 130 := funext fun j => u 130 j (by omega)
    have r131 : N 131 = h 131 := funext fun j => u 131 j (by omega)
    have r132 : N 132 = h 132 := funext fun j => u 132 j (by omega)
    have r133 : N 133 = h 133 := funext fun j => u 133 j (by omega)
    have r134 : N 134 = h 134 := funext fun j => u 134 j (by omega)
    have r135 : N 135 = h 135 := funext fun j => u 135 j (by omega)
    have r136 : N 136 = h 136 := funext fun j => u 136 j (by omega)
    have r137 : N 137 = h 137 := funext fun j => u 137 j (by omega)
    have r138 : N 138 = h 138 := funext fun j => u 138 j (by omega)
    have r139 : N 139 = h 139 := funext fun j => u 139 j (by omega)
    have r140 : N 140 = h 140 := funext fun j => u 140 j (by omega)
    have r141 : N 141 = h 141 := funext fun j => u 141 j (by omega)
    have r142 : N 142 = h 142 := funext fun j => u 142 j (by omega)
    have r143 : N 143 = h 143 := funext fun j => u 143 j (by omega)
    have r144 : N 144 = h 144 := funext fun j => u 144 j (by omega)
    have r145 : N 145 = h 145 := funext fun j => u 145 j (by omega)
    have r146 : N 146 = h 146 := funext fun j => u 146 j (by omega)
    have r147 : N 147 = h 147 := funext fun j => u 147 j (by omega)
    have r150 : N 150 = h 150 := funext fun j => u 150 j (by omega)
    have r151 : N 151 = h 151 := funext fun j => u 151 j (by omega)
    have r152 : N 152 = h 152 := funext fun j => u 152 j (by omega)
    have r153 : N 153 = h 153 := funext fun j => u 153 j (by omega)
    have r154 : N 154 = h 154 := funext fun j => u 154 j (by omega)
    have r155 : N 155 = h 155 := funext fun j => u 155 j (by omega)
    have r156 : N 156 = h 156 := funext fun j => u 156 j (by omega)
    have r157 : N 157 = h 157 := funext fun j => u 157 j (by omega)
    have r158 : N 158 = h 158 := funext fun j => u 158 j (by omega)
    have r167 : N 167 = h 167 := funext fun j => u 167 j (by omega)
    have r168 : N 168 = h 168 := funext fun j => u 168 j (by omega)
    have r169 : N 169 = h 169 := funext fun j => u 169 j (by omega)
    have r170 : N 170 = h 170 := funext fun j => u 170 j (by omega)
    have r171 : N 171 = h 171 := funext fun j => u 171 j (by omega)
    have r174 : N 174 = h 174 := funext fun j => u 174 j (by omega)
    have r175 : N 175 = h 175 := funext fun j => u 175 j (by omega)
    have r76 : N 76 = h 76 := funext fun j => u 76 j (by omega)
    have r77 : N 77 = h 77 := funext fun j => u 77 j (by omega)
    have r78 : N 78 = h 78 := funext fun j => u 78 j (by omega)
    have r79 : N 79 = h 79 := funext fun j => u 79 j (by omega)
    have r160 : N 160 = h 160 := funext fun j => u 160 j (by omega)
    have r161 : N 161 = h 161 := funext fun j => u 161 j (by omega)
    have r162 : N 162 = h 162 := funext fun j => u 162 j (by omega)
    have r163 : N 163 = h 163 := funext fun j => u 163 j (by omega)
    have f0_0 : N 0 0 = x := (congrFun (congrFun hN 0) 0).trans ((hset_c (by decide)).trans ((hset_c (by decide)).trans (hset_same _ _ _ _)))
    have f1_1 : N 1 1 = h 1 1 := u 1 1 (by omega)
    have f4_7 : N 4 7 = h 4 7 := u 4 7 (by omega)
    have f7_0 : N 7 0 = h 7 0 := u 7 0 (by omega)
    have f7_4 : N 7 4 = h 7 4 := u 7 4 (by omega)
    have f12_0 : N 12 0 = h 12 0 := u 12 0 (by omega)
    have f12_4 : N 12 4 = h 12 4 := u 12 4 (by omega)
    have f41_12 : N 41 12 = h 41 12 := u 41 12 (by omega)
    have f41_13 : N 41 13 = h 41 13 := u 41 13 (by omega)
    have f53_3 : N 53 3 = h 53 3 := u 53 3 (by omega)
    have f70_3 : N 70 3 = h 70 3 := u 70 3 (by omega)
    have f81_2 : N 81 2 = h 81 2 := u 81 2 (by omega)
    have f81_6 : N 81 6 = h 81 6 := u 81 6 (by omega)
    have f97_2 : N 97 2 = h 97 2 := u 97 2 (by omega)
    have f116_1 : N 116 1 = x := (congrFun (congrFun hN 116) 1).trans (hset_same _ _ _ _)
    have f116_14 : N 116 14 = h 116 14 := u 116 14 (by omega)
    have f116_15 : N 116 15 = h 116 15 := u 116 15 (by omega)
    have f116_16 : N 116 16 = h 116 16 := u 116 16 (by omega)
    have f116_45 : N 116 45 = h 116 45 := u 116 45 (by omega)
    have f116_46 : N 116 46 = h 116 46 := u 116 46 (by omega)
    have f116_47 : N 116 47 = h 116 47 := u 116 47 (by omega)
    have f116_48 : N 116 48 = h 116 48 := u 116 48 (by omega)
    have f116_65 : N 116 65 = h 116 65 := u 116 65 (by omega)
    have f116_66 : N 116 66 = h 116 66 := u 116 66 (by omega)
    have f116_88 : N 116 88 = h 116 88 := u 116 88 (by omega)
    have f4_15 : N 4 15 = h 4 15 := u 4 15 (by omega)
    have f4_16 : N 4 16 = h 4 16 := u 4 16 (by omega)
    have f116_67 : N 116 67 = h 116 67 := u 116 67 (by omega)
    have f116_68 : N 116 68 = h 116 68 := u 116 68 (by omega)
    refine ⟨cs, ⟨?_, ?_, ?_, ?_, ?_, ?_, ?_, ?_, ?_, ?_, ?_, ?_, ?_, ?_, ?_, ?_, ?_, ?_, ?_, ?_, ?_, ?_, ?_, ?_, ?_, ?_, ?_, ?_, ?_, ?_, ?_, ?_, ?_, ?_, ?_, ?_, ?_, ?_, ?_, ?_, ?_, ?_, ?_, ?_, ?_, ?_, ?_, ?_, ?_, ?_, ?_, ?_, ?_, ?_, ?_, ?_, ?_, ?_, ?_, ?_, ?_, ?_, ?_, ?_, ?_, ?_, ?_, ?_, ?_, ?_, ?_, ?_, ?_, ?_, ?_, ?_, ?_, ?_, ?_, ?_, ?_⟩, ⟨?_, ?_, ?_, ?_, ?_, ?_, ?_, ?_⟩⟩
    · exact (by
        simp only [r8, r117]
        exact I.e8)
    · exact (by
        simp only [r9, r119]
        exact I.e9)
    · exact (by
        simp only [r10, r120]
        exact I.e10)
    · exact (by
        simp only [r11, r118]
        exact I.e11)
    · exact (by
        simp only [r13, r121]
        exact I.e13)
    · exact (by
        simp only [r14, r122]
        exact I.e14)
    · exact (by
        simp only [r15, r123]
        exact I.e15)
    · exact (by
        simp only [r42, r129]
        exact I.e42)
    · exact (by
        simp only [r43, r130]
        exact I.e43)
    · exact (by
        simp only [r44, r131]
        exact I.e44)
    · exact (by
        simp only [r45, r132]
        exact I.e45)
    · exact (by
        simp only [r46, r133]
        exact I.e46)
    · exact (by
        simp only [r47, r134]
        exact I.e47)
    · exact (by
        simp only [r48, r135]
        exact I.e48)
    · exact (by
        simp only [r50, r137]
        exact I.e50)
    · exact (by
        simp only [r51, r138]
        exact I.e51)
    · exact (by
        simp only [r52, r139]
        exact I.e52)
    · exact (by
        simp only [r54, r145]
        exact I.e54)
    · exact (by
        simp only [r55, r146]
        exact I.e55)
    · exact (by
        simp only [r56, r147]
        exact I.e56)
    · exact (by
        simp only [r64, r150]
        exact I.e64)
    · exact (by
        simp only [r65, r151]
        exact I.e65)
    · exact (by
        simp only [r66, r152]
        exact I.e66)
    · exact (by
        simp only [r67, r153]
        exact I.e67)
    · exact (by
        simp only [r68, r154]
        exact I.e68)
    · exact (by
        simp only [r69, r155]
        exact I.e69)
    · exact (by
        simp only [r71, r156]
        exact I.e71)
    · exact (by
        simp only [r72, r157]
        exact I.e72)
    · exact (by
        simp only [r73, r158]
        exact I.e73)
    · exact (by
        simp only [r74, r125]
        exact I.e74)
    · exact (by
        simp only [r82, r140]
        exact I.e82)
    · exact (by
        simp only [r83, r141]
        exact I.e83)
    · exact (by
        simp only [r84, r143]
        exact I.e84)
    · exact (by
        simp only [r85, r144]
        exact I.e85)
    · exact (by
        simp only [r86, r142]
        exact I.e86)
    · exact (by
        simp only [r88, r168]
        exact I.e88)
    · exact (by
        simp only [r89, r169]
        exact I.e89)
    · exact (by
        simp only [r90, r170]
        exact I.e90)
    · exact (by
        simp only [r91, r171]
        exact I.e91)
    · exact (by
        simp only [r92, r167]
        exact I.e92)
    · exact (by
        simp only [r98, r174]
        exact I.e98)
    · exact (by
        simp only [r99, r175]
        exact I.e99)
    · exact (by
        simp only [f0_0, f116_1])
    · exact (by
        simp only [f7_4, f116_14]
        exact I.f7_4)
    · exact (by
        simp only [f12_4, f116_15]
        exact I.f12_4)
    · exact (by
        simp only [f1_1, f116_16]
        exact I.f1_1)
    · exact (by
        simp only [f41_12, f116_45]
        exact I.f41_12)
    · exact (by
        simp only [f53_3, f116_48]
        exact I.f53_3)
    · exact (by
        simp only [f81_2, f116_46]
        exact I.f81_2)
    · exact (by
        simp only [f81_6, f116_47]
        exact I.f81_6)
    · exact (by
        simp only [f4_7, f116_65]
        exact I.f4_7)
    · exact (by
        simp only [f70_3, f116_66]
        exact I.f70_3)
    · exact (by
        simp only [f97_2, f116_88]
        exact I.f97_2)
    · exact (by
        simp only [f7_0]
        exact I.k7)
    · exact (by
        simp only [f12_0]
        exact I.k12)
    · exact (by
        unfold RW
        simp only [f116_45, f116_48, f116_14, f116_15, r129, r130, r131, r132, r135, r137, r138, r139, r146]
        exact I.W)
    · exact (by
        unfold RS
        simp only [f116_65, f116_66, f116_45, r150, r151, r152, r153, r154, r155, r157]
        exact I.S)
    · exact TX_eq I.T f116_15 r124 r128
    · exact CX_eq I.X f12_4 r37 (fun p h0 h1 => funext fun j => u (17 + p) j (by omega))
    · exact (by
        have := I.now
        simp only [f116_1]
        omega)
    · exact (by
        simp only [f116_14, r118]
        exact I.il)
    · exact (by
        simp only [f116_1, f116_48, r147]
        exact MN_now I.m147 hx.1)
    · exact (by
        simp only [f116_1, f116_45, r134]
        exact MN_now I.m134 hx.1)
    · exact (by
        simp only [f116_1, f116_65, r155]
        exact MN_now I.m155 hx.1)
    · exact (by
        simp only [f116_1, f116_66, r158]
        exact MN_now I.m158 hx.1)
    · exact (by
        simp only [f116_1, f116_45, r49, r136]
        exact fun b b0 b1 => by have := I.iu b b0 b1; omega)
    · exact (by
        simp only [f41_13, f116_45, r136]
        exact I.un)
    · exact (by
        simp only [f116_45, f116_48, r145]
        exact I.ma)
    · exact (by
        simp only [f116_16, r2, r127]
        exact I.tp)
    · exact (by
        simp only [f116_45, f116_46, r140, r141]
        exact I.bn)
    · exact (by
        simp only [f116_45, f116_47, r142, r143, r144]
        exact I.po)
    · exact (by
        simp only [f116_45, f116_46, f116_47, r132, r133, r140, r141, r142, r144]
        exact I.co)
    · exact (by
        simp only [f116_45, r137]
        exact I.en)
    · exact (by
        simp only [r125]
        exact I.ta)
    · exact (by
        simp only [r167]
        exact I.ofn)
    · exact (by
        simp only [r167]
        exact I.ofc)
    · exact (by
        simp only [r168, r169, r170, r171]
        exact I.ofk)
    · exact (by
        simp only [f116_15, r121]
        exact I.tw)
    · exact (by
        simp only [f116_45, r135, r137]
        exact I.gr)
    · exact (by
        simp only [f116_65, r134, r150, r155]
        exact I.sd)
    · exact (by
        simp only [f116_88, r175]
        exact I.wo)
    · exact (by
        simp only [r76, r160]
        exact L.e76)
    · exact (by
        simp only [r77, r162]
        exact L.e77)
    · exact (by
        simp only [r78, r161]
        exact L.e78)
    · exact (by
        simp only [r79, r163]
        exact L.e79)
    · exact (by
        simp only [f4_15, f116_67]
        exact L.f4_15)
    · exact (by
        simp only [f4_16, f116_68]
        exact L.f4_16)
    · exact (by
        simp only [f116_67]
        exact L.li)
    · exact (by
        simp only [r160]
        exact L.bk)
  exact key _ rfl

set_option maxHeartbeats 2000000 in
theorem LI_members {h : AH} {cs : Int → List (Int × List Int)} {w a f : Int} (I : CI h cs) (L : CLN h) (hn : h 116 14 < 40) (ha : 0 ≤ a ∧ a ≤ 255) : LI (hset (hset (hset (hset (hset (hset (hset (hset (hset (hset (hset h 8 (h 116 14) w) 9 (h 116 14) f) 10 (h 116 14) (h 116 1)) 7 4 (h 116 14 + 1)) 11 (h 116 14) a) 116 0 0) 117 (h 116 14) w) 118 (h 116 14) a) 119 (h 116 14) f) 120 (h 116 14) (h 116 1)) 116 14 (h 116 14 + 1)) := by
  have key : ∀ N : AH, N = (hset (hset (hset (hset (hset (hset (hset (hset (hset (hset (hset h 8 (h 116 14) w) 9 (h 116 14) f) 10 (h 116 14) (h 116 1)) 7 4 (h 116 14 + 1)) 11 (h 116 14) a) 116 0 0) 117 (h 116 14) w) 118 (h 116 14) a) 119 (h 116 14) f) 120 (h 116 14) (h 116 1)) 116 14 (h 116 14 + 1)) → LI N := fun N hN => by
    have u : ∀ c j, ¬ ((c = 116 ∧ j = 14) ∨ c = 120 ∨ c = 119 ∨ c = 118 ∨ c = 117 ∨ (c = 116 ∧ j = 0) ∨ c = 11 ∨ (c = 7 ∧ j = 4) ∨ c = 10 ∨ c = 9 ∨ c = 8) → N c j = h c j := fun c j q => by
      rw [hN, hset_ne _ (by omega), hset_ne _ (by omega), hset_ne _ (by omega), hset_ne _ (by omega), hset_ne _ (by omega), hset_ne _ (by omega), hset_ne _ (by omega), hset_ne _ (by omega), hset_ne _ (by omega), hset_ne _ (by omega), hset_ne _ (by omega)]
    have r2 : N 2 = h 2 := funext fun j => u 2 j (by omega)
    have r8 : N 8 = (fset (h 8) (h 116 14) w) := by rw [hN, hset_r (by decide), hset_r (by decide), hset_r (by decide), hset_r (by decide), hset_r (by decide), hset_r (by decide), hset_r (by decide), hset_r (by decide), hset_r (by decide), hset_r (by decide), hset_f]
    have r9 : N 9 = (fset (h 9) (h 116 14) f) := by rw [hN, hset_r (by decide), hset_r (by decide), hset_r (by decide), hset_r (by decide), hset_r (by decide), hset_r (by decide), hset_r (by decide), hset_r (by decide), hset_r (by decide), hset_f, hset_r (by decide)]
    have r10 : N 10 = (fset (h 10) (h 116 14) (h 116 1)) := by rw [hN, hset_r (by decide), hset_r (by decide), hset_r (by decide), hset_r (by decide), hset_r (by decide), hset_r (by decide), hset_r (by decide), hset_r (by decide), hset_f, hset_r (by decide), hset_r (by decide)]
    have r11 : N 11 = (fset (h 11) (h 116 14) a) := by rw [hN, hset_r (by decide), hset_r (by decide), hset_r (by decide), hset_r (by decide), hset_r (by decide), hset_r (by decide), hset_f, hset_r (by decide), hset_r (by decide), hset_r (by decide), hset_r (by decide)]
    have r13 : N 13 = h 13 := funext fun j => u 13 j (by omega)
    have r14 : N 14 = h 14 := funext fun j => u 14 j (by omega)
    have r15 : N 15 = h 15 := funext fun j => u 15 j (by omega)
    have r37 : N 37 = h 37 := funext fun j => u 37 j (by omega)
    have r42 : N 42 = h 42 := funext fun j => u 42 j (by omega)
    have r43 : N 43 = h 43 := funext fun j => u 43 j (by omega)
    have r44 : N 44 = h 44 := funext fun j => u 44 j (by omega)
    have r45 : N 45 = h 45 := funext fun j => u 45 j (by omega)
    have r46 : N 46 = h 46 := funext fun j => u 46 j (by omega)
    have r47 : N 47 = h 47 := funext fun j => u 47 j (by omega)
    have r48 : N 48 = h 48 := funext fun j => u 48 j (by omega)
    have r49 : N 49 = h 49 := funext fun j => u 49 j (by omega)
    have r50 : N 50 = h 50 := funext fun j => u 50 j (by omega)
    have r51 : N 51 = h 51 := funext fun j => u 51 j (by omega)
    have r52 : N 52 = h 52 := funext fun j => u 52 j (by omega)
    have r54 : N 54 = h 54 := funext fun j => u 54 j (by omega)
    have r55 : N 55 = h 55 := funext fun j => u 55 j (by omega)
    have r56 : N 56 = h 56 := funext fun j => u 56 j (by omega)
    have r64 : N 64 = h 64 := funext fun j => u 64 j (by omega)
    have r65 : N 65 = h 65 := funext fun j => u 65 j (by omega)
    have r66 : N 66 = h 66 := funext fun j => u 66 j (by omega)
    have r67 : N 67 = h 67 := funext fun j => u 67 j (by omega)
    have r68 : N 68 = h 68 := funext fun j => u 68 j (by omega)
    have r69 : N 69 = h 69 := funext fun j => u 69 j (by omega)
    have r71 : N 71 = h 71 := funext fun j => u 71 j (by omega)
    have r72 : N 72 = h 72 := funext fun j => u 72 j (by omega)
    have r73 : N 73 = h 73 := funext fun j => u 73 j (by omega)
    have r74 : N 74 = h 74 := funext fun j => u 74 j (by omega)
    have r82 : N 82 = h 82 := funext fun j => u 82 j (by omega)
    have r83 : N 83 = h 83 := funext fun j => u 83 j (by omega)
    have r84 : N 84 = h 84 := funext fun j => u 84 j (by omega)
    have r85 : N 85 = h 85 := funext fun j => u 85 j (by omega)
    have r86 : N 86 = h 86 := funext fun j => u 86 j (by omega)
    have r88 : N 88 = h 88 := funext fun j => u 88 j (by omega)
    have r89 : N 89 = h 89 := funext fun j => u 89 j (by omega)
    have r90 : N 90 = h 90 := funext fun j => u 90 j (by omega)
    have r91 : N 91 = h 91 := funext fun j => u 91 j (by omega)
    have r92 : N 92 = h 92 := funext fun j => u 92 j (by omega)
    have r98 : N 98 = h 98 := funext fun j => u 98 j (by omega)
    have r99 : N 99 = h 99 := funext fun j => u 99 j (by omega)
    have r117 : N 117 = (fset (h 117) (h 116 14) w) := by rw [hN, hset_r (by decide), hset_r (by decide), hset_r (by decide), hset_r (by decide), hset_f, hset_r (by decide), hset_r (by decide), hset_r (by decide), hset_r (by decide), hset_r (by decide), hset_r (by decide)]
    have r118 : N 118 = (fset (h 118) (h 116 14) a) := by rw [hN, hset_r (by decide), hset_r (by decide), hset_r (by decide), hset_f, hset_r (by decide), hset_r (by decide), hset_r (by decide), hset_r (by decide), hset_r (by decide), hset_r (by decide), hset_r (by decide)]
    have r119 : N 119 = (fset (h 119) (h 116 14) f) := by rw [hN, hset_r (by decide), hset_r (by decide), hset_f, hset_r (by decide), hset_r (by decide), hset_r (by decide), hset_r (by decide), hset_r (by decide), hset_r (by decide), hset_r (by decide), hset_r (by decide)]
    have r120 : N 120 = (fset (h 120) (h 116 14) (h 116 1)) := by rw [hN, hset_r (by decide), hset_f, hset_r (by decide), hset_r (by decide), hset_r (by decide), hset_r (by decide), hset_r (by decide), hset_r (by decide), hset_r (by decide), hset_r (by decide), hset_r (by decide)]
    have r121 : N 121 = h 121 := funext fun j => u 121 j (by omega)
    have r122 : N 122 = h 122 := funext fun j => u 122 j (by omega)
    have r123 : N 123 = h 123 := funext fun j => u 123 j (by omega)
    have r124 : N 124 = h 124 := funext fun j => u 124 j (by omega)
    have r125 : N 125 = h 125 := funext fun j => u 125 j (by omega)
    have r127 : N 127 = h 127 := funext fun j => u 127 j (by omega)
    have r128 : N 128 = h 128 := funext fun j => u 128 j (by omega)
    have r129 : N 129 = h 129 := funext fun j => u 129 j (by omega)
    have r130 : N 130 = h 130 := funext fun j => u 130 j (by omega)
    have r131 : N 131 = h 131 := funext fun j => u 131 j (by omega)
    have r132 : N 132 = h 132 := funext fun j => u 132 j (by omega)
    have r133 : N 133 = h 133 := funext fun j => u 133 j (by omega)
    have r134 : N 134 = h 134 := funext fun j => u 134 j (by omega)
    have r135 : N 135 = h 135 := funext fun j => u 135 j (by omega)
    have r136 : N 136 = h 136 := funext fun j => u 136 j (by omega)
    have r137 : N 137 = h 137 := funext fun j => u 137 j (by omega)
    have r138 : N 138 = h 138 := funext fun j => u 138 j (by omega)
    have r139 : N 139 = h 139 := funext fun j => u 139 j (by omega)
    have r140 : N 140 = h 140 := funext fun j => u 140 j (by omega)
    have r141 : N 141 = h 141 := funext fun j => u 141 j (by omega)
    have r142 : N 142 = h 142 := funext fun j => u 142 j (by omega)
    have r143 : N 143 = h 143 := funext fun j => u 143 j (by omega)
    have r144 : N 144 = h 144 := funext fun j => u 144 j (by omega)
    have r145 : N 145 = h 145 := funext fun j => u 145 j (by omega)
    have r146 : N 146 = h 146 := funext fun j => u 146 j (by omega)
    have r147 : N 147 = h 147 := funext fun j => u 147 j (by omega)
    have r150 : N 150 = h 150 := funext fun j => u 150 j (by omega)
    have r151 : N 151 = h 151 := funext fun j => u 151 j (by omega)
    have r152 : N 152 = h 152 := funext fun j => u 152 j (by omega)
    have r153 : N 153 = h 153 := funext fun j => u 153 j (by omega)
    have r154 : N 154 = h 154 := funext fun j => u 154 j (by omega)
    have r155 : N 155 = h 155 := funext fun j => u 155 j (by omega)
    have r156 : N 156 = h 156 := funext fun j => u 156 j (by omega)
    have r157 : N 157 = h 157 := funext fun j => u 157 j (by omega)
    have r158 : N 158 = h 158 := funext fun j => u 158 j (by omega)
    have r167 : N 167 = h 167 := funext fun j => u 167 j (by omega)
    have r168 : N 168 = h 168 := funext fun j => u 168 j (by omega)
    have r169 : N 169 = h 169 := funext fun j => u 169 j (by omega)
    have r170 : N 170 = h 170 := funext fun j => u 170 j (by omega)
    have r171 : N 171 = h 171 := funext fun j => u 171 j (by omega)
    have r174 : N 174 = h 174 := funext fun j => u 174 j (by omega)
    have r175 : N 175 = h 175 := funext fun j => u 175 j (by omega)
    have r76 : N 76 = h 76 := funext fun j => u 76 j (by omega)
    have r77 : N 77 = h 77 := funext fun j => u 77 j (by omega)
    have r78 : N 78 = h 78 := funext fun j => u 78 j (by omega)
    have r79 : N 79 = h 79 := funext fun j => u 79 j (by omega)
    have r160 : N 160 = h 160 := funext fun j => u 160 j (by omega)
    have r161 : N 161 = h 161 := funext fun j => u 161 j (by omega)
    have r162 : N 162 = h 162 := funext fun j => u 162 j (by omega)
    have r163 : N 163 = h 163 := funext fun j => u 163 j (by omega)
    have f0_0 : N 0 0 = h 0 0 := u 0 0 (by omega)
    have f1_1 : N 1 1 = h 1 1 := u 1 1 (by omega)
    have f4_7 : N 4 7 = h 4 7 := u 4 7 (by omega)
    have f7_0 : N 7 0 = h 7 0 := u 7 0 (by omega)
    have f7_4 : N 7 4 = (h 116 14 + 1) := (congrFun (congrFun hN 7) 4).trans ((hset_c (by decide)).trans ((hset_c (by decide)).trans ((hset_c (by decide)).trans ((hset_c (by decide)).trans ((hset_c (by decide)).trans ((hset_c (by decide)).trans ((hset_c (by decide)).trans (hset_same _ _ _ _))))))))
    have f12_0 : N 12 0 = h 12 0 := u 12 0 (by omega)
    have f12_4 : N 12 4 = h 12 4 := u 12 4 (by omega)
    have f41_12 : N 41 12 = h 41 12 := u 41 12 (by omega)
    have f41_13 : N 41 13 = h 41 13 := u 41 13 (by omega)
    have f53_3 : N 53 3 = h 53 3 := u 53 3 (by omega)
    have f70_3 : N 70 3 = h 70 3 := u 70 3 (by omega)
    have f81_2 : N 81 2 = h 81 2 := u 81 2 (by omega)
    have f81_6 : N 81 6 = h 81 6 := u 81 6 (by omega)
    have f97_2 : N 97 2 = h 97 2 := u 97 2 (by omega)
    have f116_1 : N 116 1 = h 116 1 := u 116 1 (by omega)
    have f116_14 : N 116 14 = (h 116 14 + 1) := (congrFun (congrFun hN 116) 14).trans (hset_same _ _ _ _)
    have f116_15 : N 116 15 = h 116 15 := u 116 15 (by omega)
    have f116_16 : N 116 16 = h 116 16 := u 116 16 (by omega)
    have f116_45 : N 116 45 = h 116 45 := u 116 45 (by omega)
    have f116_46 : N 116 46 = h 116 46 := u 116 46 (by omega)
    have f116_47 : N 116 47 = h 116 47 := u 116 47 (by omega)
    have f116_48 : N 116 48 = h 116 48 := u 116 48 (by omega)
    have f116_65 : N 116 65 = h 116 65 := u 116 65 (by omega)
    have f116_66 : N 116 66 = h 116 66 := u 116 66 (by omega)
    have f116_88 : N 116 88 = h 116 88 := u 116 88 (by omega)
    have f4_15 : N 4 15 = h 4 15 := u 4 15 (by omega)
    have f4_16 : N 4 16 = h 4 16 := u 4 16 (by omega)
    have f116_67 : N 116 67 = h 116 67 := u 116 67 (by omega)
    have f116_68 : N 116 68 = h 116 68 := u 116 68 (by omega)
    refine ⟨cs, ⟨?_, ?_, ?_, ?_, ?_, ?_, ?_, ?_, ?_, ?_, ?_, ?_, ?_, ?_, ?_, ?_, ?_, ?_, ?_, ?_, ?_, ?_, ?_, ?_, ?_, ?_, ?_, ?_, ?_, ?_, ?_, ?_, ?_, ?_, ?_, ?_, ?_, ?_, ?_, ?_, ?_, ?_, ?_, ?_, ?_, ?_, ?_, ?_, ?_, ?_, ?_, ?_, ?_, ?_, ?_, ?_, ?_, ?_, ?_, ?_, ?_, ?_, ?_, ?_, ?_, ?_, ?_, ?_, ?_, ?_, ?_, ?_, ?_, ?_, ?_, ?_, ?_, ?_, ?_, ?_, ?_⟩, ⟨?_, ?_, ?_, ?_, ?_, ?_, ?_, ?_⟩⟩
    · exact (by
        simp only [r8, r117]
        rw [I.e8])
    · exact (by
        simp only [r9, r119]
        rw [I.e9])
    · exact (by
        simp only [r10, r120]
        rw [I.e10])
    · exact (by
        simp only [r11, r118]
        rw [I.e11])
    · exact (by
        simp only [r13, r121]
        exact I.e13)
    · exact (by
        simp only [r14, r122]
        exact I.e14)
    · exact (by
        simp only [r15, r123]
        exact I.e15)
    · exact (by
        simp only [r42, r129]
        exact I.e42)
    · exact (by
        simp only [r43, r130]
        exact I.e43)
    · exact (by
        simp only [r44, r131]
        exact I.e44)
    · exact (by
        simp only [r45, r132]
        exact I.e45)
    · exact (by
        simp only [r46, r133]
        exact I.e46)
    · exact (by
        simp only [r47, r134]
        exact I.e47)
    · exact (by
        simp only [r48, r135]
        exact I.e48)
    · exact (by
        simp only [r50, r137]
        exact I.e50)
    · exact (by
        simp only [r51, r138]
        exact I.e51)
    · exact (by
        simp only [r52, r139]
        exact I.e52)
    · exact (by
        simp only [r54, r145]
        exact I.e54)
    · exact (by
        simp only [r55, r146]
        exact I.e55)
    · exact (by
        simp only [r56, r147]
        exact I.e56)
    · exact (by
        simp only [r64, r150]
        exact I.e64)
    · exact (by
        simp only [r65, r151]
        exact I.e65)
    · exact (by
        simp only [r66, r152]
        exact I.e66)
    · exact (by
        simp only [r67, r153]
        exact I.e67)
    · exact (by
        simp only [r68, r154]
        exact I.e68)
    · exact (by
        simp only [r69, r155]
        exact I.e69)
    · exact (by
        simp only [r71, r156]
        exact I.e71)
    · exact (by
        simp only [r72, r157]
        exact I.e72)
    · exact (by
        simp only [r73, r158]
        exact I.e73)
    · exact (by
        simp only [r74, r125]
        exact I.e74)
    · exact (by
        simp only [r82, r140]
        exact I.e82)
    · exact (by
        simp only [r83, r141]
        exact I.e83)
    · exact (by
        simp only [r84, r143]
        exact I.e84)
    · exact (by
        simp only [r85, r144]
        exact I.e85)
    · exact (by
        simp only [r86, r142]
        exact I.e86)
    · exact (by
        simp only [r88, r168]
        exact I.e88)
    · exact (by
        simp only [r89, r169]
        exact I.e89)
    · exact (by
        simp only [r90, r170]
        exact I.e90)
    · exact (by
        simp only [r91, r171]
        exact I.e91)
    · exact (by
        simp only [r92, r167]
        exact I.e92)
    · exact (by
        simp only [r98, r174]
        exact I.e98)
    · exact (by
        simp only [r99, r175]
        exact I.e99)
    · exact (by
        simp only [f0_0, f116_1]
        exact I.f0_0)
    · exact (by
        simp only [f7_4, f116_14])
    · exact (by
        simp only [f12_4, f116_15]
        exact I.f12_4)
    · exact (by
        simp only [f1_1, f116_16]
        exact I.f1_1)
    · exact (by
        simp only [f41_12, f116_45]
        exact I.f41_12)
    · exact (by
        simp only [f53_3, f116_48]
        exact I.f53_3)
    · exact (by
        simp only [f81_2, f116_46]
        exact I.f81_2)
    · exact (by
        simp only [f81_6, f116_47]
        exact I.f81_6)
    · exact (by
        simp only [f4_7, f116_65]
        exact I.f4_7)
    · exact (by
        simp only [f70_3, f116_66]
        exact I.f70_3)
    · exact (by
        simp only [f97_2, f116_88]
        exact I.f97_2)
    · exact (by
        simp only [f7_0]
        exact I.k7)
    · exact (by
        simp only [f12_0]
        exact I.k12)
    · exact (by
        unfold RW
        simp only [f116_45, f116_48, f116_14, f116_15, r129, r130, r131, r132, r135, r137, r138, r139, r146]
        refine ⟨I.W.nb, I.W.nm, ?_, I.W.nt, I.W.la, I.W.he, I.W.pr, I.W.ma, I.W.ps, I.W.en, I.W.eo, I.W.em, I.W.mp⟩
        · have := I.W.nw
          omega)
    · exact (by
        unfold RS
        simp only [f116_65, f116_66, f116_45, r150, r151, r152, r153, r154, r155, r157]
        exact I.S)
    · exact TX_eq I.T f116_15 r124 r128
    · exact CX_eq I.X f12_4 r37 (fun p h0 h1 => funext fun j => u (17 + p) j (by omega))
    · exact (by
        simp only [f116_1]
        exact I.now)
    · exact (by
        simp only [f116_14, r118]
        exact fs_all (P := fun y => 0 ≤ y ∧ y < 256) I.il (by omega))
    · exact (by
        simp only [f116_1, f116_48, r147]
        exact I.m147)
    · exact (by
        simp only [f116_1, f116_45, r134]
        exact I.m134)
    · exact (by
        simp only [f116_1, f116_65, r155]
        exact I.m155)
    · exact (by
        simp only [f116_1, f116_66, r158]
        exact I.m158)
    · exact (by
        simp only [f116_1, f116_45, r49, r136]
        exact I.iu)
    · exact (by
        simp only [f41_13, f116_45, r136]
        exact I.un)
    · exact (by
        simp only [f116_45, f116_48, r145]
        exact I.ma)
    · exact (by
        simp only [f116_16, r2, r127]
        exact I.tp)
    · exact (by
        simp only [f116_45, f116_46, r140, r141]
        exact I.bn)
    · exact (by
        simp only [f116_45, f116_47, r142, r143, r144]
        exact I.po)
    · exact (by
        simp only [f116_45, f116_46, f116_47, r132, r133, r140, r141, r142, r144]
        exact I.co)
    · exact (by
        simp only [f116_45, r137]
        exact I.en)
    · exact (by
        simp only [r125]
        exact I.ta)
    · exact (by
        simp only [r167]
        exact I.ofn)
    · exact (by
        simp only [r167]
        exact I.ofc)
    · exact (by
        simp only [r168, r169, r170, r171]
        exact I.ofk)
    · exact (by
        simp only [f116_15, r121]
        exact I.tw)
    · exact (by
        simp only [f116_45, r135, r137]
        exact I.gr)
    · exact (by
        simp only [f116_65, r134, r150, r155]
        exact I.sd)
    · exact (by
        simp only [f116_88, r175]
        exact I.wo)
    · exact (by
        simp only [r76, r160]
        exact L.e76)
    · exact (by
        simp only [r77, r162]
        exact L.e77)
    · exact (by
        simp only [r78, r161]
        exact L.e78)
    · exact (by
        simp only [r79, r163]
        exact L.e79)
    · exact (by
        simp only [f4_15, f116_67]
        exact L.f4_15)
    · exact (by
        simp only [f4_16, f116_68]
        exact L.f4_16)
    · exact (by
        simp only [f116_67]
        exact L.li)
    · exact (by
        simp only [r160]
        exact L.bk)
  exact key _ rfl

set_option maxHeartbeats 2000000 in
theorem LI_tariff {h : AH} {cs : Int → List (Int × List Int)} {a b c : Int} (I : CI h cs) (L : CLN h) (ha : 0 ≤ a ∧ a ≤ 7) (hb : 0 ≤ b ∧ b ≤ 99) (hc : 0 ≤ c ∧ c ≤ 1000) : LI (hset (hset (hset h 74 (a * 100 + b) c) 116 0 0) 125 (100 * a + b) c) := by
  have key : ∀ N : AH, N = (hset (hset (hset h 74 (a * 100 + b) c) 116 0 0) 125 (100 * a + b) c) → LI N := fun N hN => by
    have u : ∀ c j, ¬ (c = 125 ∨ (c = 116 ∧ j = 0) ∨ c = 74) → N c j = h c j := fun c j q => by
      rw [hN, hset_ne _ (by omega), hset_ne _ (by omega), hset_ne _ (by omega)]
    have r2 : N 2 = h 2 := funext fun j => u 2 j (by omega)
    have r8 : N 8 = h 8 := funext fun j => u 8 j (by omega)
    have r9 : N 9 = h 9 := funext fun j => u 9 j (by omega)
    have r10 : N 10 = h 10 := funext fun j => u 10 j (by omega)
    have r11 : N 11 = h 11 := funext fun j => u 11 j (by omega)
    have r13 : N 13 = h 13 := funext fun j => u 13 j (by omega)
    have r14 : N 14 = h 14 := funext fun j => u 14 j (by omega)
    have r15 : N 15 = h 15 := funext fun j => u 15 j (by omega)
    have r37 : N 37 = h 37 := funext fun j => u 37 j (by omega)
    have r42 : N 42 = h 42 := funext fun j => u 42 j (by omega)
    have r43 : N 43 = h 43 := funext fun j => u 43 j (by omega)
    have r44 : N 44 = h 44 := funext fun j => u 44 j (by omega)
    have r45 : N 45 = h 45 := funext fun j => u 45 j (by omega)
    have r46 : N 46 = h 46 := funext fun j => u 46 j (by omega)
    have r47 : N 47 = h 47 := funext fun j => u 47 j (by omega)
    have r48 : N 48 = h 48 := funext fun j => u 48 j (by omega)
    have r49 : N 49 = h 49 := funext fun j => u 49 j (by omega)
    have r50 : N 50 = h 50 := funext fun j => u 50 j (by omega)
    have r51 : N 51 = h 51 := funext fun j => u 51 j (by omega)
    have r52 : N 52 = h 52 := funext fun j => u 52 j (by omega)
    have r54 : N 54 = h 54 := funext fun j => u 54 j (by omega)
    have r55 : N 55 = h 55 := funext fun j => u 55 j (by omega)
    have r56 : N 56 = h 56 := funext fun j => u 56 j (by omega)
    have r64 : N 64 = h 64 := funext fun j => u 64 j (by omega)
    have r65 : N 65 = h 65 := funext fun j => u 65 j (by omega)
    have r66 : N 66 = h 66 := funext fun j => u 66 j (by omega)
    have r67 : N 67 = h 67 := funext fun j => u 67 j (by omega)
    have r68 : N 68 = h 68 := funext fun j => u 68 j (by omega)
    have r69 : N 69 = h 69 := funext fun j => u 69 j (by omega)
    have r71 : N 71 = h 71 := funext fun j => u 71 j (by omega)
    have r72 : N 72 = h 72 := funext fun j => u 72 j (by omega)
    have r73 : N 73 = h 73 := funext fun j => u 73 j (by omega)
    have r74 : N 74 = (fset (h 74) (a * 100 + b) c) := by rw [hN, hset_r (by decide), hset_r (by decide), hset_f]
    have r82 : N 82 = h 82 := funext fun j => u 82 j (by omega)
    have r83 : N 83 = h 83 := funext fun j => u 83 j (by omega)
    have r84 : N 84 = h 84 := funext fun j => u 84 j (by omega)
    have r85 : N 85 = h 85 := funext fun j => u 85 j (by omega)
    have r86 : N 86 = h 86 := funext fun j => u 86 j (by omega)
    have r88 : N 88 = h 88 := funext fun j => u 88 j (by omega)
    have r89 : N 89 = h 89 := funext fun j => u 89 j (by omega)
    have r90 : N 90 = h 90 := funext fun j => u 90 j (by omega)
    have r91 : N 91 = h 91 := funext fun j => u 91 j (by omega)
    have r92 : N 92 = h 92 := funext fun j => u 92 j (by omega)
    have r98 : N 98 = h 98 := funext fun j => u 98 j (by omega)
    have r99 : N 99 = h 99 := funext fun j => u 99 j (by omega)
    have r117 : N 117 = h 117 := funext fun j => u 117 j (by omega)
    have r118 : N 118 = h 118 := funext fun j => u 118 j (by omega)
    have r119 : N 119 = h 119 := funext fun j => u 119 j (by omega)
    have r120 : N 120 = h 120 := funext fun j => u 120 j (by omega)
    have r121 : N 121 = h 121 := funext fun j => u 121 j (by omega)
    have r122 : N 122 = h 122 := funext fun j => u 122 j (by omega)
    have r123 : N 123 = h 123 := funext fun j => u 123 j (by omega)
    have r124 : N 124 = h 124 := funext fun j => u 124 j (by omega)
    have r125 : N 125 = (fset (h 125) (100 * a + b) c) := by rw [hN, hset_f, hset_r (by decide), hset_r (by decide)]
    have r127 : N 127 = h 127 := funext fun j => u 127 j (by omega)
    have r128 : N 128 = h 128 := funext fun j => u 128 j (by omega)
    have r129 : N 129 = h 129 := funext fun j => u 129 j (by omega)
    have r130 : N 130 = h 130 := funext fun j => u 130 j (by omega)
    have r131 : N 131 = h 131 := funext fun j => u 131 j (by omega)
    have r132 : N 132 = h 132 := funext fun j => u 132 j (by omega)
    have r133 : N 133 = h 133 := funext fun j => u 133 j (by omega)
    have r134 : N 134 = h 134 := funext fun j => u 134 j (by omega)
    have r135 : N 135 = h 135 := funext fun j => u 135 j (by omega)
    have r136 : N 136 = h 136 := funext fun j => u 136 j (by omega)
    have r137 : N 137 = h 137 := funext fun j => u 137 j (by omega)
    have r138 : N 138 = h 138 := funext fun j => u 138 j (by omega)
    have r139 : N 139 = h 139 := funext fun j => u 139 j (by omega)
    have r140 : N 140 = h 140 := funext fun j => u 140 j (by omega)
    have r141 : N 141 = h 141 := funext fun j => u 141 j (by omega)
    have r142 : N 142 = h 142 := funext fun j => u 142 j (by omega)
    have r143 : N 143 = h 143 := funext fun j => u 143 j (by omega)
    have r144 : N 144 = h 144 := funext fun j => u 144 j (by omega)
    have r145 : N 145 = h 145 := funext fun j => u 145 j (by omega)
    have r146 : N 146 = h 146 := funext fun j => u 146 j (by omega)
    have r147 : N 147 = h 147 := funext fun j => u 147 j (by omega)
    have r150 : N 150 = h 150 := funext fun j => u 150 j (by omega)
    have r151 : N 151 = h 151 := funext fun j => u 151 j (by omega)
    have r152 : N 152 = h 152 := funext fun j => u 152 j (by omega)
    have r153 : N 153 = h 153 := funext fun j => u 153 j (by omega)
    have r154 : N 154 = h 154 := funext fun j => u 154 j (by omega)
    have r155 : N 155 = h 155 := funext fun j => u 155 j (by omega)
    have r156 : N 156 = h 156 := funext fun j => u 156 j (by omega)
    have r157 : N 157 = h 157 := funext fun j => u 157 j (by omega)
    have r158 : N 158 = h 158 := funext fun j => u 158 j (by omega)
    have r167 : N 167 = h 167 := funext fun j => u 167 j (by omega)
    have r168 : N 168 = h 168 := funext fun j => u 168 j (by omega)
    have r169 : N 169 = h 169 := funext fun j => u 169 j (by omega)
    have r170 : N 170 = h 170 := funext fun j => u 170 j (by omega)
    have r171 : N 171 = h 171 := funext fun j => u 171 j (by omega)
    have r174 : N 174 = h 174 := funext fun j => u 174 j (by omega)
    have r175 : N 175 = h 175 := funext fun j => u 175 j (by omega)
    have r76 : N 76 = h 76 := funext fun j => u 76 j (by omega)
    have r77 : N 77 = h 77 := funext fun j => u 77 j (by omega)
    have r78 : N 78 = h 78 := funext fun j => u 78 j (by omega)
    have r79 : N 79 = h 79 := funext fun j => u 79 j (by omega)
    have r160 : N 160 = h 160 := funext fun j => u 160 j (by omega)
    have r161 : N 161 = h 161 := funext fun j => u 161 j (by omega)
    have r162 : N 162 = h 162 := funext fun j => u 162 j (by omega)
    have r163 : N 163 = h 163 := funext fun j => u 163 j (by omega)
    have f0_0 : N 0 0 = h 0 0 := u 0 0 (by omega)
    have f1_1 : N 1 1 = h 1 1 := u 1 1 (by omega)
    have f4_7 : N 4 7 = h 4 7 := u 4 7 (by omega)
    have f7_0 : N 7 0 = h 7 0 := u 7 0 (by omega)
    have f7_4 : N 7 4 = h 7 4 := u 7 4 (by omega)
    have f12_0 : N 12 0 = h 12 0 := u 12 0 (by omega)
    have f12_4 : N 12 4 = h 12 4 := u 12 4 (by omega)
    have f41_12 : N 41 12 = h 41 12 := u 41 12 (by omega)
    have f41_13 : N 41 13 = h 41 13 := u 41 13 (by omega)
    have f53_3 : N 53 3 = h 53 3 := u 53 3 (by omega)
    have f70_3 : N 70 3 = h 70 3 := u 70 3 (by omega)
    have f81_2 : N 81 2 = h 81 2 := u 81 2 (by omega)
    have f81_6 : N 81 6 = h 81 6 := u 81 6 (by omega)
    have f97_2 : N 97 2 = h 97 2 := u 97 2 (by omega)
    have f116_1 : N 116 1 = h 116 1 := u 116 1 (by omega)
    have f116_14 : N 116 14 = h 116 14 := u 116 14 (by omega)
    have f116_15 : N 116 15 = h 116 15 := u 116 15 (by omega)
    have f116_16 : N 116 16 = h 116 16 := u 116 16 (by omega)
    have f116_45 : N 116 45 = h 116 45 := u 116 45 (by omega)
    have f116_46 : N 116 46 = h 116 46 := u 116 46 (by omega)
    have f116_47 : N 116 47 = h 116 47 := u 116 47 (by omega)
    have f116_48 : N 116 48 = h 116 48 := u 116 48 (by omega)
    have f116_65 : N 116 65 = h 116 65 := u 116 65 (by omega)
    have f116_66 : N 116 66 = h 116 66 := u 116 66 (by omega)
    have f116_88 : N 116 88 = h 116 88 := u 116 88 (by omega)
    have f4_15 : N 4 15 = h 4 15 := u 4 15 (by omega)
    have f4_16 : N 4 16 = h 4 16 := u 4 16 (by omega)
    have f116_67 : N 116 67 = h 116 67 := u 116 67 (by omega)
    have f116_68 : N 116 68 = h 116 68 := u 116 68 (by omega)
    refine ⟨cs, ⟨?_, ?_, ?_, ?_, ?_, ?_, ?_, ?_, ?_, ?_, ?_, ?_, ?_, ?_, ?_, ?_, ?_, ?_, ?_, ?_, ?_, ?_, ?_, ?_, ?_, ?_, ?_, ?_, ?_, ?_, ?_, ?_, ?_, ?_, ?_, ?_, ?_, ?_, ?_, ?_, ?_, ?_, ?_, ?_, ?_, ?_, ?_, ?_, ?_, ?_, ?_, ?_, ?_, ?_, ?_, ?_, ?_, ?_, ?_, ?_, ?_, ?_, ?_, ?_, ?_, ?_, ?_, ?_, ?_, ?_, ?_, ?_, ?_, ?_, ?_, ?_, ?_, ?_, ?_, ?_, ?_⟩, ⟨?_, ?_, ?_, ?_, ?_, ?_, ?_, ?_⟩⟩
    · exact (by
        simp only [r8, r117]
        exact I.e8)
    · exact (by
        simp only [r9, r119]
        exact I.e9)
    · exact (by
        simp only [r10, r120]
        exact I.e10)
    · exact (by
        simp only [r11, r118]
        exact I.e11)
    · exact (by
        simp only [r13, r121]
        exact I.e13)
    · exact (by
        simp only [r14, r122]
        exact I.e14)
    · exact (by
        simp only [r15, r123]
        exact I.e15)
    · exact (by
        simp only [r42, r129]
        exact I.e42)
    · exact (by
        simp only [r43, r130]
        exact I.e43)
    · exact (by
        simp only [r44, r131]
        exact I.e44)
    · exact (by
        simp only [r45, r132]
        exact I.e45)
    · exact (by
        simp only [r46, r133]
        exact I.e46)
    · exact (by
        simp only [r47, r134]
        exact I.e47)
    · exact (by
        simp only [r48, r135]
        exact I.e48)
    · exact (by
        simp only [r50, r137]
        exact I.e50)
    · exact (by
        simp only [r51, r138]
        exact I.e51)
    · exact (by
        simp only [r52, r139]
        exact I.e52)
    · exact (by
        simp only [r54, r145]
        exact I.e54)
    · exact (by
        simp only [r55, r146]
        exact I.e55)
    · exact (by
        simp only [r56, r147]
        exact I.e56)
    · exact (by
        simp only [r64, r150]
        exact I.e64)
    · exact (by
        simp only [r65, r151]
        exact I.e65)
    · exact (by
        simp only [r66, r152]
        exact I.e66)
    · exact (by
        simp only [r67, r153]
        exact I.e67)
    · exact (by
        simp only [r68, r154]
        exact I.e68)
    · exact (by
        simp only [r69, r155]
        exact I.e69)
    · exact (by
        simp only [r71, r156]
        exact I.e71)
    · exact (by
        simp only [r72, r157]
        exact I.e72)
    · exact (by
        simp only [r73, r158]
        exact I.e73)
    · exact (by
        simp only [r74, r125]
        rw [I.e74, Int.mul_comm a 100])
    · exact (by
        simp only [r82, r140]
        exact I.e82)
    · exact (by
        simp only [r83, r141]
        exact I.e83)
    · exact (by
        simp only [r84, r143]
        exact I.e84)
    · exact (by
        simp only [r85, r144]
        exact I.e85)
    · exact (by
        simp only [r86, r142]
        exact I.e86)
    · exact (by
        simp only [r88, r168]
        exact I.e88)
    · exact (by
        simp only [r89, r169]
        exact I.e89)
    · exact (by
        simp only [r90, r170]
        exact I.e90)
    · exact (by
        simp only [r91, r171]
        exact I.e91)
    · exact (by
        simp only [r92, r167]
        exact I.e92)
    · exact (by
        simp only [r98, r174]
        exact I.e98)
    · exact (by
        simp only [r99, r175]
        exact I.e99)
    · exact (by
        simp only [f0_0, f116_1]
        exact I.f0_0)
    · exact (by
        simp only [f7_4, f116_14]
        exact I.f7_4)
    · exact (by
        simp only [f12_4, f116_15]
        exact I.f12_4)
    · exact (by
        simp only [f1_1, f116_16]
        exact I.f1_1)
    · exact (by
        simp only [f41_12, f116_45]
        exact I.f41_12)
    · exact (by
        simp only [f53_3, f116_48]
        exact I.f53_3)
    · exact (by
        simp only [f81_2, f116_46]
        exact I.f81_2)
    · exact (by
        simp only [f81_6, f116_47]
        exact I.f81_6)
    · exact (by
        simp only [f4_7, f116_65]
        exact I.f4_7)
    · exact (by
        simp only [f70_3, f116_66]
        exact I.f70_3)
    · exact (by
        simp only [f97_2, f116_88]
        exact I.f97_2)
    · exact (by
        simp only [f7_0]
        exact I.k7)
    · exact (by
        simp only [f12_0]
        exact I.k12)
    · exact (by
        unfold RW
        simp only [f116_45, f116_48, f116_14, f116_15, r129, r130, r131, r132, r135, r137, r138, r139, r146]
        exact I.W)
    · exact (by
        unfold RS
        simp only [f116_65, f116_66, f116_45, r150, r151, r152, r153, r154, r155, r157]
        exact I.S)
    · exact TX_eq I.T f116_15 r124 r128
    · exact CX_eq I.X f12_4 r37 (fun p h0 h1 => funext fun j => u (17 + p) j (by omega))
    · exact (by
        simp only [f116_1]
        exact I.now)
    · exact (by
        simp only [f116_14, r118]
        exact I.il)
    · exact (by
        simp only [f116_1, f116_48, r147]
        exact I.m147)
    · exact (by
        simp only [f116_1, f116_45, r134]
        exact I.m134)
    · exact (by
        simp only [f116_1, f116_65, r155]
        exact I.m155)
    · exact (by
        simp only [f116_1, f116_66, r158]
        exact I.m158)
    · exact (by
        simp only [f116_1, f116_45, r49, r136]
        exact I.iu)
    · exact (by
        simp only [f41_13, f116_45, r136]
        exact I.un)
    · exact (by
        simp only [f116_45, f116_48, r145]
        exact I.ma)
    · exact (by
        simp only [f116_16, r2, r127]
        exact I.tp)
    · exact (by
        simp only [f116_45, f116_46, r140, r141]
        exact I.bn)
    · exact (by
        simp only [f116_45, f116_47, r142, r143, r144]
        exact I.po)
    · exact (by
        simp only [f116_45, f116_46, f116_47, r132, r133, r140, r141, r142, r144]
        exact I.co)
    · exact (by
        simp only [f116_45, r137]
        exact I.en)
    · exact (by
        simp only [r125]
        exact fun i i0 i1 => by
          by_cases z : i = 100 * a + b
          · rw [z, fset_same]; omega
          · rw [fset_ne z]; exact I.ta i i0 i1)
    · exact (by
        simp only [r167]
        exact I.ofn)
    · exact (by
        simp only [r167]
        exact I.ofc)
    · exact (by
        simp only [r168, r169, r170, r171]
        exact I.ofk)
    · exact (by
        simp only [f116_15, r121]
        exact I.tw)
    · exact (by
        simp only [f116_45, r135, r137]
        exact I.gr)
    · exact (by
        simp only [f116_65, r134, r150, r155]
        exact I.sd)
    · exact (by
        simp only [f116_88, r175]
        exact I.wo)
    · exact (by
        simp only [r76, r160]
        exact L.e76)
    · exact (by
        simp only [r77, r162]
        exact L.e77)
    · exact (by
        simp only [r78, r161]
        exact L.e78)
    · exact (by
        simp only [r79, r163]
        exact L.e79)
    · exact (by
        simp only [f4_15, f116_67]
        exact L.f4_15)
    · exact (by
        simp only [f4_16, f116_68]
        exact L.f4_16)
    · exact (by
        simp only [f116_67]
        exact L.li)
    · exact (by
        simp only [r160]
        exact L.bk)
  exact key _ rfl

set_option maxHeartbeats 2000000 in
theorem LI_end {h : AH} {cs : Int → List (Int × List Int)} {p : Int} (I : CI h cs) (L : CLN h) (hp : 0 ≤ p ∧ p ≤ h 116 16) : LI (hset (hset (hset h 1 1 p) 116 0 0) 116 16 p) := by
  have key : ∀ N : AH, N = (hset (hset (hset h 1 1 p) 116 0 0) 116 16 p) → LI N := fun N hN => by
    have u : ∀ c j, ¬ ((c = 116 ∧ j = 16) ∨ (c = 116 ∧ j = 0) ∨ (c = 1 ∧ j = 1)) → N c j = h c j := fun c j q => by
      rw [hN, hset_ne _ (by omega), hset_ne _ (by omega), hset_ne _ (by omega)]
    have r2 : N 2 = h 2 := funext fun j => u 2 j (by omega)
    have r8 : N 8 = h 8 := funext fun j => u 8 j (by omega)
    have r9 : N 9 = h 9 := funext fun j => u 9 j (by omega)
    have r10 : N 10 = h 10 := funext fun j => u 10 j (by omega)
    have r11 : N 11 = h 11 := funext fun j => u 11 j (by omega)
    have r13 : N 13 = h 13 := funext fun j => u 13 j (by omega)
    have r14 : N 14 = h 14 := funext fun j => u 14 j (by omega)
    have r15 : N 15 = h 15 := funext fun j => u 15 j (by omega)
    have r37 : N 37 = h 37 := funext fun j => u 37 j (by omega)
    have r42 : N 42 = h 42 := funext fun j => u 42 j (by omega)
    have r43 : N 43 = h 43 := funext fun j => u 43 j (by omega)
    have r44 : N 44 = h 44 := funext fun j => u 44 j (by omega)
    have r45 : N 45 = h 45 := funext fun j => u 45 j (by omega)
    have r46 : N 46 = h 46 := funext fun j => u 46 j (by omega)
    have r47 : N 47 = h 47 := funext fun j => u 47 j (by omega)
    have r48 : N 48 = h 48 := funext fun j => u 48 j (by omega)
    have r49 : N 49 = h 49 := funext fun j => u 49 j (by omega)
    have r50 : N 50 = h 50 := funext fun j => u 50 j (by omega)
    have r51 : N 51 = h 51 := funext fun j => u 51 j (by omega)
    have r52 : N 52 = h 52 := funext fun j => u 52 j (by omega)
    have r54 : N 54 = h 54 := funext fun j => u 54 j (by omega)
    have r55 : N 55 = h 55 := funext fun j => u 55 j (by omega)
    have r56 : N 56 = h 56 := funext fun j => u 56 j (by omega)
    have r64 : N 64 = h 64 := funext fun j => u 64 j (by omega)
    have r65 : N 65 = h 65 := funext fun j => u 65 j (by omega)
    have r66 : N 66 = h 66 := funext fun j => u 66 j (by omega)
    have r67 : N 67 = h 67 := funext fun j => u 67 j (by omega)
    have r68 : N 68 = h 68 := funext fun j => u 68 j (by omega)
    have r69 : N 69 = h 69 := funext fun j => u 69 j (by omega)
    have r71 : N 71 = h 71 := funext fun j => u 71 j (by omega)
    have r72 : N 72 = h 72 := funext fun j => u 72 j (by omega)
    have r73 : N 73 = h 73 := funext fun j => u 73 j (by omega)
    have r74 : N 74 = h 74 := funext fun j => u 74 j (by omega)
    have r82 : N 82 = h 82 := funext fun j => u 82 j (by omega)
    have r83 : N 83 = h 83 := funext fun j => u 83 j (by omega)
    have r84 : N 84 = h 84 := funext fun j => u 84 j (by omega)
    have r85 : N 85 = h 85 := funext fun j => u 85 j (by omega)
    have r86 : N 86 = h 86 := funext fun j => u 86 j (by omega)
    have r88 : N 88 = h 88 := funext fun j => u 88 j (by omega)
    have r89 : N 89 = h 89 := funext fun j => u 89 j (by omega)
    have r90 : N 90 = h 90 := funext fun j => u 90 j (by omega)
    have r91 : N 91 = h 91 := funext fun j => u 91 j (by omega)
    have r92 : N 92 = h 92 := funext fun j => u 92 j (by omega)
    have r98 : N 98 = h 98 := funext fun j => u 98 j (by omega)
    have r99 : N 99 = h 99 := funext fun j => u 99 j (by omega)
    have r117 : N 117 = h 117 := funext fun j => u 117 j (by omega)
    have r118 : N 118 = h 118 := funext fun j => u 118 j (by omega)
    have r119 : N 119 = h 119 := funext fun j => u 119 j (by omega)
    have r120 : N 120 = h 120 := funext fun j => u 120 j (by omega)
    have r121 : N 121 = h 121 := funext fun j => u 121 j (by omega)
    have r122 : N 122 = h 122 := funext fun j => u 122 j (by omega)
    have r123 : N 123 = h 123 := funext fun j => u 123 j (by omega)
    have r124 : N 124 = h 124 := funext fun j => u 124 j (by omega)
    have r125 : N 125 = h 125 := funext fun j => u 125 j (by omega)
    have r127 : N 127 = h 127 := funext fun j => u 127 j (by omega)
    have r128 : N 128 = h 128 := funext fun j => u 128 j (by omega)
    have r129 : N 129 = h 129 := funext fun j => u 129 j (by omega)
    have r130 : N 130 = h 130 := funext fun j => u 130 j (by omega)
    have r131 : N 131 = h 131 := funext fun j => u 131 j (by omega)
    have r132 : N 132 = h 132 := funext fun j => u 132 j (by omega)
    have r133 : N 133 = h 133 := funext fun j => u 133 j (by omega)
    have r134 : N 134 = h 134 := funext fun j => u 134 j (by omega)
    have r135 : N 135 = h 135 := funext fun j => u 135 j (by omega)
    have r136 : N 136 = h 136 := funext fun j => u 136 j (by omega)
    have r137 : N 137 = h 137 := funext fun j => u 137 j (by omega)
    have r138 : N 138 = h 138 := funext fun j => u 138 j (by omega)
    have r139 : N 139 = h 139 := funext fun j => u 139 j (by omega)
    have r140 : N 140 = h 140 := funext fun j => u 140 j (by omega)
    have r141 : N 141 = h 141 := funext fun j => u 141 j (by omega)
    have r142 : N 142 = h 142 := funext fun j => u 142 j (by omega)
    have r143 : N 143 = h 143 := funext fun j => u 143 j (by omega)
    have r144 : N 144 = h 144 := funext fun j => u 144 j (by omega)
    have r145 : N 145 = h 145 := funext fun j => u 145 j (by omega)
    have r146 : N 146 = h 146 := funext fun j => u 146 j (by omega)
    have r147 : N 147 = h 147 := funext fun j => u 147 j (by omega)
    have r150 : N 150 = h 150 := funext fun j => u 150 j (by omega)
    have r151 : N 151 = h 151 := funext fun j => u 151 j (by omega)
    have r152 : N 152 = h 152 := funext fun j => u 152 j (by omega)
    have r153 : N 153 = h 153 := funext fun j => u 153 j (by omega)
    have r154 : N 154 = h 154 := funext fun j => u 154 j (by omega)
    have r155 : N 155 = h 155 := funext fun j => u 155 j (by omega)
    have r156 : N 156 = h 156 := funext fun j => u 156 j (by omega)
    have r157 : N 157 = h 157 := funext fun j => u 157 j (by omega)
    have r158 : N 158 = h 158 := funext fun j => u 158 j (by omega)
    have r167 : N 167 = h 167 := funext fun j => u 167 j (by omega)
    have r168 : N 168 = h 168 := funext fun j => u 168 j (by omega)
    have r169 : N 169 = h 169 := funext fun j => u 169 j (by omega)
    have r170 : N 170 = h 170 := funext fun j => u 170 j (by omega)
    have r171 : N 171 = h 171 := funext fun j => u 171 j (by omega)
    have r174 : N 174 = h 174 := funext fun j => u 174 j (by omega)
    have r175 : N 175 = h 175 := funext fun j => u 175 j (by omega)
    have r76 : N 76 = h 76 := funext fun j => u 76 j (by omega)
    have r77 : N 77 = h 77 := funext fun j => u 77 j (by omega)
    have r78 : N 78 = h 78 := funext fun j => u 78 j (by omega)
    have r79 : N 79 = h 79 := funext fun j => u 79 j (by omega)
    have r160 : N 160 = h 160 := funext fun j => u 160 j (by omega)
    have r161 : N 161 = h 161 := funext fun j => u 161 j (by omega)
    have r162 : N 162 = h 162 := funext fun j => u 162 j (by omega)
    have r163 : N 163 = h 163 := funext fun j => u 163 j (by omega)
    have f0_0 : N 0 0 = h 0 0 := u 0 0 (by omega)
    have f1_1 : N 1 1 = p := (congrFun (congrFun hN 1) 1).trans ((hset_c (by decide)).trans ((hset_c (by decide)).trans (hset_same _ _ _ _)))
    have f4_7 : N 4 7 = h 4 7 := u 4 7 (by omega)
    have f7_0 : N 7 0 = h 7 0 := u 7 0 (by omega)
    have f7_4 : N 7 4 = h 7 4 := u 7 4 (by omega)
    have f12_0 : N 12 0 = h 12 0 := u 12 0 (by omega)
    have f12_4 : N 12 4 = h 12 4 := u 12 4 (by omega)
    have f41_12 : N 41 12 = h 41 12 := u 41 12 (by omega)
    have f41_13 : N 41 13 = h 41 13 := u 41 13 (by omega)
    have f53_3 : N 53 3 = h 53 3 := u 53 3 (by omega)
    have f70_3 : N 70 3 = h 70 3 := u 70 3 (by omega)
    have f81_2 : N 81 2 = h 81 2 := u 81 2 (by omega)
    have f81_6 : N 81 6 = h 81 6 := u 81 6 (by omega)
    have f97_2 : N 97 2 = h 97 2 := u 97 2 (by omega)
    have f116_1 : N 116 1 = h 116 1 := u 116 1 (by omega)
    have f116_14 : N 116 14 = h 116 14 := u 116 14 (by omega)
    have f116_15 : N 116 15 = h 116 15 := u 116 15 (by omega)
    have f116_16 : N 116 16 = p := (congrFun (congrFun hN 116) 16).trans (hset_same _ _ _ _)
    have f116_45 : N 116 45 = h 116 45 := u 116 45 (by omega)
    have f116_46 : N 116 46 = h 116 46 := u 116 46 (by omega)
    have f116_47 : N 116 47 = h 116 47 := u 116 47 (by omega)
    have f116_48 : N 116 48 = h 116 48 := u 116 48 (by omega)
    have f116_65 : N 116 65 = h 116 65 := u 116 65 (by omega)
    have f116_66 : N 116 66 = h 116 66 := u 116 66 (by omega)
    have f116_88 : N 116 88 = h 116 88 := u 116 88 (by omega)
    have f4_15 : N 4 15 = h 4 15 := u 4 15 (by omega)
    have f4_16 : N 4 16 = h 4 16 := u 4 16 (by omega)
    have f116_67 : N 116 67 = h 116 67 := u 116 67 (by omega)
    have f116_68 : N 116 68 = h 116 68 := u 116 68 (by omega)
    refine ⟨cs, ⟨?_, ?_, ?_, ?_, ?_, ?_, ?_, ?_, ?_, ?_, ?_, ?_, ?_, ?_, ?_, ?_, ?_, ?_, ?_, ?_, ?_, ?_, ?_, ?_, ?_, ?_, ?_, ?_, ?_, ?_, ?_, ?_, ?_, ?_, ?_, ?_, ?_, ?_, ?_, ?_, ?_, ?_, ?_, ?_, ?_, ?_, ?_, ?_, ?_, ?_, ?_, ?_, ?_, ?_, ?_, ?_, ?_, ?_, ?_, ?_, ?_, ?_, ?_, ?_, ?_, ?_, ?_, ?_, ?_, ?_, ?_, ?_, ?_, ?_, ?_, ?_, ?_, ?_, ?_, ?_, ?_⟩, ⟨?_, ?_, ?_, ?_, ?_, ?_, ?_, ?_⟩⟩
    · exact (by
        simp only [r8, r117]
        exact I.e8)
    · exact (by
        simp only [r9, r119]
        exact I.e9)
    · exact (by
        simp only [r10, r120]
        exact I.e10)
    · exact (by
        simp only [r11, r118]
        exact I.e11)
    · exact (by
        simp only [r13, r121]
        exact I.e13)
    · exact (by
        simp only [r14, r122]
        exact I.e14)
    · exact (by
        simp only [r15, r123]
        exact I.e15)
    · exact (by
        simp only [r42, r129]
        exact I.e42)
    · exact (by
        simp only [r43, r130]
        exact I.e43)
    · exact (by
        simp only [r44, r131]
        exact I.e44)
    · exact (by
        simp only [r45, r132]
        exact I.e45)
    · exact (by
        simp only [r46, r133]
        exact I.e46)
    · exact (by
        simp only [r47, r134]
        exact I.e47)
    · exact (by
        simp only [r48, r135]
        exact I.e48)
    · exact (by
        simp only [r50, r137]
        exact I.e50)
    · exact (by
        simp only [r51, r138]
        exact I.e51)
    · exact (by
        simp only [r52, r139]
        exact I.e52)
    · exact (by
        simp only [r54, r145]
        exact I.e54)
    · exact (by
        simp only [r55, r146]
        exact I.e55)
    · exact (by
        simp only [r56, r147]
        exact I.e56)
    · exact (by
        simp only [r64, r150]
        exact I.e64)
    · exact (by
        simp only [r65, r151]
        exact I.e65)
    · exact (by
        simp only [r66, r152]
        exact I.e66)
    · exact (by
        simp only [r67, r153]
        exact I.e67)
    · exact (by
        simp only [r68, r154]
        exact I.e68)
    · exact (by
        simp only [r69, r155]
        exact I.e69)
    · exact (by
        simp only [r71, r156]
        exact I.e71)
    · exact (by
        simp only [r72, r157]
        exact I.e72)
    · exact (by
        simp only [r73, r158]
        exact I.e73)
    · exact (by
        simp only [r74, r125]
        exact I.e74)
    · exact (by
        simp only [r82, r140]
        exact I.e82)
    · exact (by
        simp only [r83, r141]
        exact I.e83)
    · exact (by
        simp only [r84, r143]
        exact I.e84)
    · exact (by
        simp only [r85, r144]
        exact I.e85)
    · exact (by
        simp only [r86, r142]
        exact I.e86)
    · exact (by
        simp only [r88, r168]
        exact I.e88)
    · exact (by
        simp only [r89, r169]
        exact I.e89)
    · exact (by
        simp only [r90, r170]
        exact I.e90)
    · exact (by
        simp only [r91, r171]
        exact I.e91)
    · exact (by
        simp only [r92, r167]
        exact I.e92)
    · exact (by
        simp only [r98, r174]
        exact I.e98)
    · exact (by
        simp only [r99, r175]
        exact I.e99)
    · exact (by
        simp only [f0_0, f116_1]
        exact I.f0_0)
    · exact (by
        simp only [f7_4, f116_14]
        exact I.f7_4)
    · exact (by
        simp only [f12_4, f116_15]
        exact I.f12_4)
    · exact (by
        simp only [f1_1, f116_16])
    · exact (by
        simp only [f41_12, f116_45]
        exact I.f41_12)
    · exact (by
        simp only [f53_3, f116_48]
        exact I.f53_3)
    · exact (by
        simp only [f81_2, f116_46]
        exact I.f81_2)
    · exact (by
        simp only [f81_6, f116_47]
        exact I.f81_6)
    · exact (by
        simp only [f4_7, f116_65]
        exact I.f4_7)
    · exact (by
        simp only [f70_3, f116_66]
        exact I.f70_3)
    · exact (by
        simp only [f97_2, f116_88]
        exact I.f97_2)
    · exact (by
        simp only [f7_0]
        exact I.k7)
    · exact (by
        simp only [f12_0]
        exact I.k12)
    · exact (by
        unfold RW
        simp only [f116_45, f116_48, f116_14, f116_15, r129, r130, r131, r132, r135, r137, r138, r139, r146]
        exact I.W)
    · exact (by
        unfold RS
        simp only [f116_65, f116_66, f116_45, r150, r151, r152, r153, r154, r155, r157]
        exact I.S)
    · exact TX_eq I.T f116_15 r124 r128
    · exact CX_eq I.X f12_4 r37 (fun p h0 h1 => funext fun j => u (17 + p) j (by omega))
    · exact (by
        simp only [f116_1]
        exact I.now)
    · exact (by
        simp only [f116_14, r118]
        exact I.il)
    · exact (by
        simp only [f116_1, f116_48, r147]
        exact I.m147)
    · exact (by
        simp only [f116_1, f116_45, r134]
        exact I.m134)
    · exact (by
        simp only [f116_1, f116_65, r155]
        exact I.m155)
    · exact (by
        simp only [f116_1, f116_66, r158]
        exact I.m158)
    · exact (by
        simp only [f116_1, f116_45, r49, r136]
        exact I.iu)
    · exact (by
        simp only [f41_13, f116_45, r136]
        exact I.un)
    · exact (by
        simp only [f116_45, f116_48, r145]
        exact I.ma)
    · exact (by
        have := I.tp
        simp only [f116_16, r2, r127]
        exact ⟨this.1, this.2.1, by omega, by omega⟩)
    · exact (by
        simp only [f116_45, f116_46, r140, r141]
        exact I.bn)
    · exact (by
        simp only [f116_45, f116_47, r142, r143, r144]
        exact I.po)
    · exact (by
        simp only [f116_45, f116_46, f116_47, r132, r133, r140, r141, r142, r144]
        exact I.co)
    · exact (by
        simp only [f116_45, r137]
        exact I.en)
    · exact (by
        simp only [r125]
        exact I.ta)
    · exact (by
        simp only [r167]
        exact I.ofn)
    · exact (by
        simp only [r167]
        exact I.ofc)
    · exact (by
        simp only [r168, r169, r170, r171]
        exact I.ofk)
    · exact (by
        simp only [f116_15, r121]
        exact I.tw)
    · exact (by
        simp only [f116_45, r135, r137]
        exact I.gr)
    · exact (by
        simp only [f116_65, r134, r150, r155]
        exact I.sd)
    · exact (by
        simp only [f116_88, r175]
        exact I.wo)
    · exact (by
        simp only [r76, r160]
        exact L.e76)
    · exact (by
        simp only [r77, r162]
        exact L.e77)
    · exact (by
        simp only [r78, r161]
        exact L.e78)
    · exact (by
        simp only [r79, r163]
        exact L.e79)
    · exact (by
        simp only [f4_15, f116_67]
        exact L.f4_15)
    · exact (by
        simp only [f4_16, f116_68]
        exact L.f4_16)
    · exact (by
        simp only [f116_67]
        exact L.li)
    · exact (by
        simp only [r160]
        exact L.bk)
  exact key _ rfl

set_option maxHeartbeats 2000000 in
theorem LI_grown {h : AH} {cs : Int → List (Int × List Int)} {a b c e : Int} (I : CI h cs) (L : CLN h) (hn : h 116 45 < 100) (ha : 0 ≤ a ∧ a ≤ 7) (hb : 0 ≤ b ∧ b ≤ 99) (hc : 1 ≤ c ∧ c ≤ 10000) (he : 1 ≤ e ∧ e ≤ 10000) : LI (hset (hset (hset (hset (hset (hset (hset (hset (hset (hset (hset (hset (hset (hset (hset (hset (hset (hset (hset (hset h 42 (h 116 45) a) 43 (h 116 45) b) 44 (h 116 45) c) 45 (h 116 45) e) 46 (h 116 45) e) 47 (h 116 45) (h 116 1)) 48 (h 116 45) (-1)) 49 (h 116 45) (-1)) 50 (h 116 45) 0) 41 12 (h 116 45 + 1)) 116 0 0) 129 (h 116 45) a) 130 (h 116 45) b) 131 (h 116 45) c) 132 (h 116 45) e) 133 (h 116 45) e) 134 (h 116 45) (h 116 1)) 135 (h 116 45) (-1)) 136 (h 116 45) 9999) 116 45 (h 116 45 + 1)) := by
  have key : ∀ N : AH, N = (hset (hset (hset (hset (hset (hset (hset (hset (hset (hset (hset (hset (hset (hset (hset (hset (hset (hset (hset (hset h 42 (h 116 45) a) 43 (h 116 45) b) 44 (h 116 45) c) 45 (h 116 45) e) 46 (h 116 45) e) 47 (h 116 45) (h 116 1)) 48 (h 116 45) (-1)) 49 (h 116 45) (-1)) 50 (h 116 45) 0) 41 12 (h 116 45 + 1)) 116 0 0) 129 (h 116 45) a) 130 (h 116 45) b) 131 (h 116 45) c) 132 (h 116 45) e) 133 (h 116 45) e) 134 (h 116 45) (h 116 1)) 135 (h 116 45) (-1)) 136 (h 116 45) 9999) 116 45 (h 116 45 + 1)) → LI N := fun N hN => by
    have en0 := I.en (h 116 45) (Int.le_refl _)
    have nb := I.W.nb
    have u : ∀ c j, ¬ ((c = 116 ∧ j = 45) ∨ c = 136 ∨ c = 135 ∨ c = 134 ∨ c = 133 ∨ c = 132 ∨ c = 131 ∨ c = 130 ∨ c = 129 ∨ (c = 116 ∧ j = 0) ∨ (c = 41 ∧ j = 12) ∨ c = 50 ∨ c = 49 ∨ c = 48 ∨ c = 47 ∨ c = 46 ∨ c = 45 ∨ c = 44 ∨ c = 43 ∨ c = 42) → N c j = h c j := fun c j q => by
      rw [hN, hset_ne _ (by omega), hset_ne _ (by omega), hset_ne _ (by omega), hset_ne _ (by omega), hset_ne _ (by omega), hset_ne _ (by omega), hset_ne _ (by omega), hset_ne _ (by omega), hset_ne _ (by omega), hset_ne _ (by omega), hset_ne _ (by omega), hset_ne _ (by omega), hset_ne _ (by omega), hset_ne _ (by omega), hset_ne _ (by omega), hset_ne _ (by omega), hset_ne _ (by omega), hset_ne _ (by omega), hset_ne _ (by omega), hset_ne _ (by omega)]
    have r2 : N 2 = h 2 := funext fun j => u 2 j (by omega)
    have r8 : N 8 = h 8 := funext fun j => u 8 j (by omega)
    have r9 : N 9 = h 9 := funext fun j => u 9 j (by omega)
    have r10 : N 10 = h 10 := funext fun j => u 10 j (by omega)
    have r11 : N 11 = h 11 := funext fun j => u 11 j (by omega)
    have r13 : N 13 = h 13 := funext fun j => u 13 j (by omega)
    have r14 : N 14 = h 14 := funext fun j => u 14 j (by omega)
    have r15 : N 15 = h 15 := funext fun j => u 15 j (by omega)
    have r37 : N 37 = h 37 := funext fun j => u 37 j (by omega)
    have r42 : N 42 = (fset (h 42) (h 116 45) a) := by rw [hN, hset_r (by decide), hset_r (by decide), hset_r (by decide), hset_r (by decide), hset_r (by decide), hset_r (by decide), hset_r (by decide), hset_r (by decide), hset_r (by decide), hset_r (by decide), hset_r (by decide), hset_r (by decide), hset_r (by decide), hset_r (by decide), hset_r (by decide), hset_r (by decide), hset_r (by decide), hset_r (by decide), hset_r (by decide), hset_f]
    have r43 : N 43 = (fset (h 43) (h 116 45) b) := by rw [hN, hset_r (by decide), hset_r (by decide), hset_r (by decide), hset_r (by decide), hset_r (by decide), hset_r (by decide), hset_r (by decide), hset_r (by decide), hset_r (by decide), hset_r (by decide), hset_r (by decide), hset_r (by decide), hset_r (by decide), hset_r (by decide), hset_r (by decide), hset_r (by decide), hset_r (by decide), hset_r (by decide), hset_f, hset_r (by decide)]
    have r44 : N 44 = (fset (h 44) (h 116 45) c) := by rw [hN, hset_r (by decide), hset_r (by decide), hset_r (by decide), hset_r (by decide), hset_r (by decide), hset_r (by decide), hset_r (by decide), hset_r (by decide), hset_r (by decide), hset_r (by decide), hset_r (by decide), hset_r (by decide), hset_r (by decide), hset_r (by decide), hset_r (by decide), hset_r (by decide), hset_r (by decide), hset_f, hset_r (by decide), hset_r (by decide)]
    have r45 : N 45 = (fset (h 45) (h 116 45) e) := by rw [hN, hset_r (by decide), hset_r (by decide), hset_r (by decide), hset_r (by decide), hset_r (by decide), hset_r (by decide), hset_r (by decide), hset_r (by decide), hset_r (by decide), hset_r (by decide), hset_r (by decide), hset_r (by decide), hset_r (by decide), hset_r (by decide), hset_r (by decide), hset_r (by decide), hset_f, hset_r (by decide), hset_r (by decide), hset_r (by decide)]
    have r46 : N 46 = (fset (h 46) (h 116 45) e) := by rw [hN, hset_r (by decide), hset_r (by decide), hset_r (by decide), hset_r (by decide), hset_r (by decide), hset_r (by decide), hset_r (by decide), hset_r (by decide), hset_r (by decide), hset_r (by decide), hset_r (by decide), hset_r (by decide), hset_r (by decide), hset_r (by decide), hset_r (by decide), hset_f, hset_r (by decide), hset_r (by decide), hset_r (by decide), hset_r (by decide)]
    have r47 : N 47 = (fset (h 47) (h 116 45) (h 116 1)) := by rw [hN, hset_r (by decide), hset_r (by decide), hset_r (by decide), hset_r (by decide), hset_r (by decide), hset_r (by decide), hset_r (by decide), hset_r (by decide), hset_r (by decide), hset_r (by decide), hset_r (by decide), hset_r (by decide), hset_r (by decide), hset_r (by decide), hset_f, hset_r (by decide), hset_r (by decide), hset_r (by decide), hset_r (by decide), hset_r (by decide)]
    have r48 : N 48 = (fset (h 48) (h 116 45) (-1)) := by rw [hN, hset_r (by decide), hset_r (by decide), hset_r (by decide), hset_r (by decide), hset_r (by decide), hset_r (by decide), hset_r (by decide), hset_r (by decide), hset_r (by decide), hset_r (by decide), hset_r (by decide), hset_r (by decide), hset_r (by decide), hset_f, hset_r (by decide), hset_r (by decide), hset_r (by decide), hset_r (by decide), hset_r (by decide), hset_r (by decide)]
    have r49 : N 49 = (fset (h 49) (h 116 45) (-1)) := by rw [hN, hset_r (by decide), hset_r (by decide), hset_r (by decide), hset_r (by decide), hset_r (by decide), hset_r (by decide), hset_r (by decide), hset_r (by decide), hset_r (by decide), hset_r (by decide), hset_r (by decide), hset_r (by decide), hset_f, hset_r (by decide), hset_r (by decide), hset_r (by decide), hset_r (by decide), hset_r (by decide), hset_r (by decide), hset_r (by decide)]
    have r50 : N 50 = (fset (h 50) (h 116 45) 0) := by rw [hN, hset_r (by decide), hset_r (by decide), hset_r (by decide), hset_r (by decide), hset_r (by decide), hset_r (by decide), hset_r (by decide), hset_r (by decide), hset_r (by decide), hset_r (by decide), hset_r (by decide), hset_f, hset_r (by decide), hset_r (by decide), hset_r (by decide), hset_r (by decide), hset_r (by decide), hset_r (by decide), hset_r (by decide), hset_r (by decide)]
    have r51 : N 51 = h 51 := funext fun j => u 51 j (by omega)
    have r52 : N 52 = h 52 := funext fun j => u 52 j (by omega)
    have r54 : N 54 = h 54 := funext fun j => u 54 j (by omega)
    have r55 : N 55 = h 55 := funext fun j => u 55 j (by omega)
    have r56 : N 56 = h 56 := funext fun j => u 56 j (by omega)
    have r64 : N 64 = h 64 := funext fun j => u 64 j (by omega)
    have r65 : N 65 = h 65 := funext fun j => u 65 j (by omega)
    have r66 : N 66 = h 66 := funext fun j => u 66 j (by omega)
    have r67 : N 67 = h 67 := funext fun j => u 67 j (by omega)
    have r68 : N 68 = h 68 := funext fun j => u 68 j (by omega)
    have r69 : N 69 = h 69 := funext fun j => u 69 j (by omega)
    have r71 : N 71 = h 71 := funext fun j => u 71 j (by omega)
    have r72 : N 72 = h 72 := funext fun j => u 72 j (by omega)
    have r73 : N 73 = h 73 := funext fun j => u 73 j (by omega)
    have r74 : N 74 = h 74 := funext fun j => u 74 j (by omega)
    have r82 : N 82 = h 82 := funext fun j => u 82 j (by omega)
    have r83 : N 83 = h 83 := funext fun j => u 83 j (by omega)
    have r84 : N 84 = h 84 := funext fun j => u 84 j (by omega)
    have r85 : N 85 = h 85 := funext fun j => u 85 j (by omega)
    have r86 : N 86 = h 86 := funext fun j => u 86 j (by omega)
    have r88 : N 88 = h 88 := funext fun j => u 88 j (by omega)
    have r89 : N 89 = h 89 := funext fun j => u 89 j (by omega)
    have r90 : N 90 = h 90 := funext fun j => u 90 j (by omega)
    have r91 : N 91 = h 91 := funext fun j => u 91 j (by omega)
    have r92 : N 92 = h 92 := funext fun j => u 92 j (by omega)
    have r98 : N 98 = h 98 := funext fun j => u 98 j (by omega)
    have r99 : N 99 = h 99 := funext fun j => u 99 j (by omega)
    have r117 : N 117 = h 117 := funext fun j => u 117 j (by omega)
    have r118 : N 118 = h 118 := funext fun j => u 118 j (by omega)
    have r119 : N 119 = h 119 := funext fun j => u 119 j (by omega)
    have r120 : N 120 = h 120 := funext fun j => u 120 j (by omega)
    have r121 : N 121 = h 121 := funext fun j => u 121 j (by omega)
    have r122 : N 122 = h 122 := funext fun j => u 122 j (by omega)
    have r123 : N 123 = h 123 := funext fun j => u 123 j (by omega)
    have r124 : N 124 = h 124 := funext fun j => u 124 j (by omega)
    have r125 : N 125 = h 125 := funext fun j => u 125 j (by omega)
    have r127 : N 127 = h 127 := funext fun j => u 127 j (by omega)
    have r128 : N 128 = h 128 := funext fun j => u 128 j (by omega)
    have r129 : N 129 = (fset (h 129) (h 116 45) a) := by rw [hN, hset_r (by decide), hset_r (by decide), hset_r (by decide), hset_r (by decide), hset_r (by decide), hset_r (by decide), hset_r (by decide), hset_r (by decide), hset_f, hset_r (by decide), hset_r (by decide), hset_r (by decide), hset_r (by decide), hset_r (by decide), hset_r (by decide), hset_r (by decide), hset_r (by decide), hset_r (by decide), hset_r (by decide), hset_r (by decide)]
    have r130 : N 130 = (fset (h 130) (h 116 45) b) := by rw [hN, hset_r (by decide), hset_r (by decide), hset_r (by decide), hset_r (by decide), hset_r (by decide), hset_r (by decide), hset_r (by decide), hset_f, hset_r (by decide), hset_r (by decide), hset_r (by decide), hset_r (by decide), hset_r (by decide), hset_r (by decide), hset_r (by decide), hset_r (by decide), hset_r (by decide), hset_r (by decide), hset_r (by decide), hset_r (by decide)]
    have r131 : N 131 = (fset (h 131) (h 116 45) c) := by rw [hN, hset_r (by decide), hset_r (by decide), hset_r (by decide), hset_r (by decide), hset_r (by decide), hset_r (by decide), hset_f, hset_r (by decide), hset_r (by decide), hset_r (by decide), hset_r (by decide), hset_r (by decide), hset_r (by decide), hset_r (by decide), hset_r (by decide), hset_r (by decide), hset_r (by decide), hset_r (by decide), hset_r (by decide), hset_r (by decide)]
    have r132 : N 132 = (fset (h 132) (h 116 45) e) := by rw [hN, hset_r (by decide), hset_r (by decide), hset_r (by decide), hset_r (by decide), hset_r (by decide), hset_f, hset_r (by decide), hset_r (by decide), hset_r (by decide), hset_r (by decide), hset_r (by decide), hset_r (by decide), hset_r (by decide), hset_r (by decide), hset_r (by decide), hset_r (by decide), hset_r (by decide), hset_r (by decide), hset_r (by decide), hset_r (by decide)]
    have r133 : N 133 = (fset (h 133) (h 116 45) e) := by rw [hN, hset_r (by decide), hset_r (by decide), hset_r (by decide), hset_r (by decide), hset_f, hset_r (by decide), hset_r (by decide), hset_r (by decide), hset_r (by decide), hset_r (by decide), hset_r (by decide), hset_r (by decide), hset_r (by decide), hset_r (by decide), hset_r (by decide), hset_r (by decide), hset_r (by decide), hset_r (by decide), hset_r (by decide), hset_r (by decide)]
    have r134 : N 134 = (fset (h 134) (h 116 45) (h 116 1)) := by rw [hN, hset_r (by decide), hset_r (by decide), hset_r (by decide), hset_f, hset_r (by decide), hset_r (by decide), hset_r (by decide), hset_r (by decide), hset_r (by decide), hset_r (by decide), hset_r (by decide), hset_r (by decide), hset_r (by decide), hset_r (by decide), hset_r (by decide), hset_r (by decide), hset_r (by decide), hset_r (by decide), hset_r (by decide), hset_r (by decide)]
    have r135 : N 135 = (fset (h 135) (h 116 45) (-1)) := by rw [hN, hset_r (by decide), hset_r (by decide), hset_f, hset_r (by decide), hset_r (by decide), hset_r (by decide), hset_r (by decide), hset_r (by decide), hset_r (by decide), hset_r (by decide), hset_r (by decide), hset_r (by decide), hset_r (by decide), hset_r (by decide), hset_r (by decide), hset_r (by decide), hset_r (by decide), hset_r (by decide), hset_r (by decide), hset_r (by decide)]
    have r136 : N 136 = (fset (h 136) (h 116 45) 9999) := by rw [hN, hset_r (by decide), hset_f, hset_r (by decide), hset_r (by decide), hset_r (by decide), hset_r (by decide), hset_r (by decide), hset_r (by decide), hset_r (by decide), hset_r (by decide), hset_r (by decide), hset_r (by decide), hset_r (by decide), hset_r (by decide), hset_r (by decide), hset_r (by decide), hset_r (by decide), hset_r (by decide), hset_r (by decide), hset_r (by decide)]
    have r137 : N 137 = h 137 := funext fun j => u 137 j (by omega)
    have r138 : N 138 = h 138 := funext fun j => u 138 j (by omega)
    have r139 : N 139 = h 139 := funext fun j => u 139 j (by omega)
    have r140 : N 140 = h 140 := funext fun j => u 140 j (by omega)
    have r141 : N 141 = h 141 := funext fun j => u 141 j (by omega)
    have r142 : N 142 = h 142 := funext fun j => u 142 j (by omega)
    have r143 : N 143 = h 143 := funext fun j => u 143 j (by omega)
    have r144 : N 144 = h 144 := funext fun j => u 144 j (by omega)
    have r145 : N 145 = h 145 := funext fun j => u 145 j (by omega)
    have r146 : N 146 = h 146 := funext fun j => u 146 j (by omega)
    have r147 : N 147 = h 147 := funext fun j => u 147 j (by omega)
    have r150 : N 150 = h 150 := funext fun j => u 150 j (by omega)
    have r151 : N 151 = h 151 := funext fun j => u 151 j (by omega)
    have r152 : N 152 = h 152 := funext fun j => u 152 j (by omega)
    have r153 : N 153 = h 153 := funext fun j => u 153 j (by omega)
    have r154 : N 154 = h 154 := funext fun j => u 154 j (by omega)
    have r155 : N 155 = h 155 := funext fun j => u 155 j (by omega)
    have r156 : N 156 = h 156 := funext fun j => u 156 j (by omega)
    have r157 : N 157 = h 157 := funext fun j => u 157 j (by omega)
    have r158 : N 158 = h 158 := funext fun j => u 158 j (by omega)
    have r167 : N 167 = h 167 := funext fun j => u 167 j (by omega)
    have r168 : N 168 = h 168 := funext fun j => u 168 j (by omega)
    have r169 : N 169 = h 169 := funext fun j => u 169 j (by omega)
    have r170 : N 170 = h 170 := funext fun j => u 170 j (by omega)
    have r171 : N 171 = h 171 := funext fun j => u 171 j (by omega)
    have r174 : N 174 = h 174 := funext fun j => u 174 j (by omega)
    have r175 : N 175 = h 175 := funext fun j => u 175 j (by omega)
    have r76 : N 76 = h 76 := funext fun j => u 76 j (by omega)
    have r77 : N 77 = h 77 := funext fun j => u 77 j (by omega)
    have r78 : N 78 = h 78 := funext fun j => u 78 j (by omega)
    have r79 : N 79 = h 79 := funext fun j => u 79 j (by omega)
    have r160 : N 160 = h 160 := funext fun j => u 160 j (by omega)
    have r161 : N 161 = h 161 := funext fun j => u 161 j (by omega)
    have r162 : N 162 = h 162 := funext fun j => u 162 j (by omega)
    have r163 : N 163 = h 163 := funext fun j => u 163 j (by omega)
    have f0_0 : N 0 0 = h 0 0 := u 0 0 (by omega)
    have f1_1 : N 1 1 = h 1 1 := u 1 1 (by omega)
    have f4_7 : N 4 7 = h 4 7 := u 4 7 (by omega)
    have f7_0 : N 7 0 = h 7 0 := u 7 0 (by omega)
    have f7_4 : N 7 4 = h 7 4 := u 7 4 (by omega)
    have f12_0 : N 12 0 = h 12 0 := u 12 0 (by omega)
    have f12_4 : N 12 4 = h 12 4 := u 12 4 (by omega)
    have f41_12 : N 41 12 = (h 116 45 + 1) := (congrFun (congrFun hN 41) 12).trans ((hset_c (by decide)).trans ((hset_c (by decide)).trans ((hset_c (by decide)).trans ((hset_c (by decide)).trans ((hset_c (by decide)).trans ((hset_c (by decide)).trans ((hset_c (by decide)).trans ((hset_c (by decide)).trans ((hset_c (by decide)).trans ((hset_c (by decide)).trans (hset_same _ _ _ _)))))))))))
    have f41_13 : N 41 13 = h 41 13 := u 41 13 (by omega)
    have f53_3 : N 53 3 = h 53 3 := u 53 3 (by omega)
    have f70_3 : N 70 3 = h 70 3 := u 70 3 (by omega)
    have f81_2 : N 81 2 = h 81 2 := u 81 2 (by omega)
    have f81_6 : N 81 6 = h 81 6 := u 81 6 (by omega)
    have f97_2 : N 97 2 = h 97 2 := u 97 2 (by omega)
    have f116_1 : N 116 1 = h 116 1 := u 116 1 (by omega)
    have f116_14 : N 116 14 = h 116 14 := u 116 14 (by omega)
    have f116_15 : N 116 15 = h 116 15 := u 116 15 (by omega)
    have f116_16 : N 116 16 = h 116 16 := u 116 16 (by omega)
    have f116_45 : N 116 45 = (h 116 45 + 1) := (congrFun (congrFun hN 116) 45).trans (hset_same _ _ _ _)
    have f116_46 : N 116 46 = h 116 46 := u 116 46 (by omega)
    have f116_47 : N 116 47 = h 116 47 := u 116 47 (by omega)
    have f116_48 : N 116 48 = h 116 48 := u 116 48 (by omega)
    have f116_65 : N 116 65 = h 116 65 := u 116 65 (by omega)
    have f116_66 : N 116 66 = h 116 66 := u 116 66 (by omega)
    have f116_88 : N 116 88 = h 116 88 := u 116 88 (by omega)
    have f4_15 : N 4 15 = h 4 15 := u 4 15 (by omega)
    have f4_16 : N 4 16 = h 4 16 := u 4 16 (by omega)
    have f116_67 : N 116 67 = h 116 67 := u 116 67 (by omega)
    have f116_68 : N 116 68 = h 116 68 := u 116 68 (by omega)
    refine ⟨cs, ⟨?_, ?_, ?_, ?_, ?_, ?_, ?_, ?_, ?_, ?_, ?_, ?_, ?_, ?_, ?_, ?_, ?_, ?_, ?_, ?_, ?_, ?_, ?_, ?_, ?_, ?_, ?_, ?_, ?_, ?_, ?_, ?_, ?_, ?_, ?_, ?_, ?_, ?_, ?_, ?_, ?_, ?_, ?_, ?_, ?_, ?_, ?_, ?_, ?_, ?_, ?_, ?_, ?_, ?_, ?_, ?_, ?_, ?_, ?_, ?_, ?_, ?_, ?_, ?_, ?_, ?_, ?_, ?_, ?_, ?_, ?_, ?_, ?_, ?_, ?_, ?_, ?_, ?_, ?_, ?_, ?_⟩, ⟨?_, ?_, ?_, ?_, ?_, ?_, ?_, ?_⟩⟩
    · exact (by
        simp only [r8, r117]
        exact I.e8)
    · exact (by
        simp only [r9, r119]
        exact I.e9)
    · exact (by
        simp only [r10, r120]
        exact I.e10)
    · exact (by
        simp only [r11, r118]
        exact I.e11)
    · exact (by
        simp only [r13, r121]
        exact I.e13)
    · exact (by
        simp only [r14, r122]
        exact I.e14)
    · exact (by
        simp only [r15, r123]
        exact I.e15)
    · exact (by
        simp only [r42, r129]
        rw [I.e42])
    · exact (by
        simp only [r43, r130]
        rw [I.e43])
    · exact (by
        simp only [r44, r131]
        rw [I.e44])
    · exact (by
        simp only [r45, r132]
        rw [I.e45])
    · exact (by
        simp only [r46, r133]
        rw [I.e46])
    · exact (by
        simp only [r47, r134]
        rw [I.e47])
    · exact (by
        simp only [r48, r135]
        rw [I.e48])
    · exact (by
        simp only [r50, r137]
        rw [I.e50, fset_id en0])
    · exact (by
        simp only [r51, r138]
        exact I.e51)
    · exact (by
        simp only [r52, r139]
        exact I.e52)
    · exact (by
        simp only [r54, r145]
        exact I.e54)
    · exact (by
        simp only [r55, r146]
        exact I.e55)
    · exact (by
        simp only [r56, r147]
        exact I.e56)
    · exact (by
        simp only [r64, r150]
        exact I.e64)
    · exact (by
        simp only [r65, r151]
        exact I.e65)
    · exact (by
        simp only [r66, r152]
        exact I.e66)
    · exact (by
        simp only [r67, r153]
        exact I.e67)
    · exact (by
        simp only [r68, r154]
        exact I.e68)
    · exact (by
        simp only [r69, r155]
        exact I.e69)
    · exact (by
        simp only [r71, r156]
        exact I.e71)
    · exact (by
        simp only [r72, r157]
        exact I.e72)
    · exact (by
        simp only [r73, r158]
        exact I.e73)
    · exact (by
        simp only [r74, r125]
        exact I.e74)
    · exact (by
        simp only [r82, r140]
        exact I.e82)
    · exact (by
        simp only [r83, r141]
        exact I.e83)
    · exact (by
        simp only [r84, r143]
        exact I.e84)
    · exact (by
        simp only [r85, r144]
        exact I.e85)
    · exact (by
        simp only [r86, r142]
        exact I.e86)
    · exact (by
        simp only [r88, r168]
        exact I.e88)
    · exact (by
        simp only [r89, r169]
        exact I.e89)
    · exact (by
        simp only [r90, r170]
        exact I.e90)
    · exact (by
        simp only [r91, r171]
        exact I.e91)
    · exact (by
        simp only [r92, r167]
        exact I.e92)
    · exact (by
        simp only [r98, r174]
        exact I.e98)
    · exact (by
        simp only [r99, r175]
        exact I.e99)
    · exact (by
        simp only [f0_0, f116_1]
        exact I.f0_0)
    · exact (by
        simp only [f7_4, f116_14]
        exact I.f7_4)
    · exact (by
        simp only [f12_4, f116_15]
        exact I.f12_4)
    · exact (by
        simp only [f1_1, f116_16]
        exact I.f1_1)
    · exact (by
        simp only [f41_12, f116_45])
    · exact (by
        simp only [f53_3, f116_48]
        exact I.f53_3)
    · exact (by
        simp only [f81_2, f116_46]
        exact I.f81_2)
    · exact (by
        simp only [f81_6, f116_47]
        exact I.f81_6)
    · exact (by
        simp only [f4_7, f116_65]
        exact I.f4_7)
    · exact (by
        simp only [f70_3, f116_66]
        exact I.f70_3)
    · exact (by
        simp only [f97_2, f116_88]
        exact I.f97_2)
    · exact (by
        simp only [f7_0]
        exact I.k7)
    · exact (by
        simp only [f12_0]
        exact I.k12)
    · exact (by
        unfold RW
        simp only [f116_45, f116_48, f116_14, f116_15, r129, r130, r131, r132, r135, r137, r138, r139, r146]
        refine ⟨?_, I.W.nm, I.W.nw, I.W.nt, ?_, ?_, ?_, ?_, ?_, ?_, ?_, ?_, I.W.mp⟩
        · omega
        · exact fs_all (P := fun y => 0 ≤ y ∧ y < 8) I.W.la (by omega)
        · exact fs_all (P := fun y => 0 ≤ y ∧ y < 100) I.W.he (by omega)
        · exact fs_all (P := fun y => 1 ≤ y ∧ y ≤ 10000) I.W.pr (by omega)
        · exact fs_all (P := fun y => 1 ≤ y ∧ y ≤ 10000) I.W.ma (by omega)
        · exact fs_all (P := fun y => -1 ≤ y ∧ y < 10) I.W.ps (by omega)
        · exact fun b9 b0 b1 => by
            by_cases z : b9 = h 116 45
            · rw [z, en0]; omega
            · exact I.W.en b9 b0 (by omega)
        · exact fun b9 b0 b1 k k0 k1 => by
            by_cases z : b9 = h 116 45
            · rw [z, en0] at k1; omega
            · exact I.W.eo b9 b0 (by omega) k k0 k1
        · exact fun b9 b0 b1 k k0 k1 => by
            by_cases z : b9 = h 116 45
            · rw [z, en0] at k1; omega
            · exact I.W.em b9 b0 (by omega) k k0 k1)
    · exact (by
        unfold RS
        simp only [f116_65, f116_66, f116_45, r150, r151, r152, r153, r154, r155, r157]
        refine ⟨I.S.1, I.S.2.1, ?_, I.S.2.2.2⟩
        · exact fun s s0 s1 => by
            have q := I.S.2.2.1 s s0 s1
            exact ⟨⟨q.1.1, by omega⟩, q.2⟩)
    · exact TX_eq I.T f116_15 r124 r128
    · exact CX_eq I.X f12_4 r37 (fun p h0 h1 => funext fun j => u (17 + p) j (by omega))
    · exact (by
        simp only [f116_1]
        exact I.now)
    · exact (by
        simp only [f116_14, r118]
        exact I.il)
    · exact (by
        simp only [f116_1, f116_48, r147]
        exact I.m147)
    · exact (by
        simp only [f116_1, f116_45, r134]
        exact MN_add I.m134 I.now.1)
    · exact (by
        simp only [f116_1, f116_65, r155]
        exact I.m155)
    · exact (by
        simp only [f116_1, f116_66, r158]
        exact I.m158)
    · exact (by
        simp only [f116_1, f116_45, r49, r136]
        exact fun b9 b0 b1 => by
          by_cases z : b9 = h 116 45
          · rw [z, fset_same, fset_same]; omega
          · rw [fset_ne z, fset_ne z]; exact I.iu b9 b0 (by omega))
    · exact (by
        simp only [f41_13, f116_45, r136]
        rw [sm_s nb.1, sm_congr (g := undF (h 136)) (fun i i0 i1 => by unfold undF; rw [fset_ne (by omega)]), show undF (fset (h 136) (h 116 45) 9999) (h 116 45) = 0 by unfold undF; rw [fset_same]; rfl, Int.add_zero]
        exact I.un)
    · exact (by
        simp only [f116_45, f116_48, r145]
        exact fun k k0 k1 => by have := I.ma k k0 k1; omega)
    · exact (by
        simp only [f116_16, r2, r127]
        exact I.tp)
    · exact (by
        simp only [f116_45, f116_46, r140, r141]
        exact ⟨I.bn.1, fun k k0 k1 => by have := I.bn.2 k k0 k1; omega⟩)
    · exact (by
        simp only [f116_45, f116_47, r142, r143, r144]
        exact ⟨I.po.1, fun k k0 k1 => by have := I.po.2 k k0 k1; omega⟩)
    · exact (by
        simp only [f116_45, f116_46, f116_47, r132, r133, r140, r141, r142, r144]
        exact fun b9 b0 b1 => by
          by_cases z : b9 = h 116 45
          · rw [z, fset_same, fset_same, on_0 I.bn.1.1 (fun i i0 i1 => by have := I.bn.2 i i0 i1; omega), on_0 I.po.1.1 (fun i i0 i1 => by have := I.po.2 i i0 i1; omega)]; omega
          · rw [fset_ne z, fset_ne z]; exact I.co b9 b0 (by omega))
    · exact (by
        simp only [f116_45, r137]
        exact fun i hi => I.en i (by omega))
    · exact (by
        simp only [r125]
        exact I.ta)
    · exact (by
        simp only [r167]
        exact I.ofn)
    · exact (by
        simp only [r167]
        exact I.ofc)
    · exact (by
        simp only [r168, r169, r170, r171]
        exact I.ofk)
    · exact (by
        simp only [f116_15, r121]
        exact I.tw)
    · exact (by
        simp only [f116_45, r135, r137]
        exact fun b9 b0 b1 q => by
          by_cases z : b9 = h 116 45
          · rw [z]; exact en0
          · rw [fset_ne z] at q; exact I.gr b9 b0 (by omega) q)
    · exact (by
        simp only [f116_65, r134, r150, r155]
        exact fun s s0 s1 => by
          have q := I.S.2.2.1 s s0 s1
          rw [fset_ne (by omega)]
          exact I.sd s s0 s1)
    · exact (by
        simp only [f116_88, r175]
        exact I.wo)
    · exact (by
        simp only [r76, r160]
        exact L.e76)
    · exact (by
        simp only [r77, r162]
        exact L.e77)
    · exact (by
        simp only [r78, r161]
        exact L.e78)
    · exact (by
        simp only [r79, r163]
        exact L.e79)
    · exact (by
        simp only [f4_15, f116_67]
        exact L.f4_15)
    · exact (by
        simp only [f4_16, f116_68]
        exact L.f4_16)
    · exact (by
        simp only [f116_67]
        exact L.li)
    · exact (by
        simp only [r160]
        exact L.bk)
  exact key _ rfl

set_option maxHeartbeats 2000000 in
theorem LI_lay {h : AH} {cs : Int → List (Int × List Int)} {p q : Int} (I : CI h cs) (L : CLN h) (hp : 0 ≤ p ∧ p < h 116 45) (hq : 1 ≤ q ∧ q ≤ h 133 p) (hk : h 116 46 < 6) : LI (hset (hset (hset (hset (hset (hset (hset (hset (hset h 46 p (h 133 p - q)) 82 (h 116 46) p) 83 (h 116 46) q) 81 2 (h 116 46 + 1)) 116 0 0) 133 p (h 133 p - q)) 140 (h 116 46) p) 141 (h 116 46) q) 116 46 (h 116 46 + 1)) := by
  have key : ∀ N : AH, N = (hset (hset (hset (hset (hset (hset (hset (hset (hset h 46 p (h 133 p - q)) 82 (h 116 46) p) 83 (h 116 46) q) 81 2 (h 116 46 + 1)) 116 0 0) 133 p (h 133 p - q)) 140 (h 116 46) p) 141 (h 116 46) q) 116 46 (h 116 46 + 1)) → LI N := fun N hN => by
    have cp := I.co p hp.1 hp.2
    have mp := I.W.ma p hp.1 hp.2
    have bn := I.bn.1
    have po := I.po.1
    have bs := on_nn (of := h 140) (many := h 141) (b := p) bn.1 (fun i i0 i1 => by have := I.bn.2 i i0 i1; omega)
    have ps := on_nn (of := h 144) (many := h 142) (b := p) po.1 (fun i i0 i1 => by have := I.po.2 i i0 i1; omega)
    have u : ∀ c j, ¬ ((c = 116 ∧ j = 46) ∨ c = 141 ∨ c = 140 ∨ c = 133 ∨ (c = 116 ∧ j = 0) ∨ (c = 81 ∧ j = 2) ∨ c = 83 ∨ c = 82 ∨ c = 46) → N c j = h c j := fun c j q => by
      rw [hN, hset_ne _ (by omega), hset_ne _ (by omega), hset_ne _ (by omega), hset_ne _ (by omega), hset_ne _ (by omega), hset_ne _ (by omega), hset_ne _ (by omega), hset_ne _ (by omega), hset_ne _ (by omega)]
    have r2 : N 2 = h 2 := funext fun j => u 2 j (by omega)
    have r8 : N 8 = h 8 := funext fun j => u 8 j (by omega)
    have r9 : N 9 = h 9 := funext fun j => u 9 j (by omega)
    have r10 : N 10 = h 10 := funext fun j => u 10 j (by omega)
    have r11 : N 11 = h 11 := funext fun j => u 11 j (by omega)
    have r13 : N 13 = h 13 := funext fun j => u 13 j (by omega)
    have r14 : N 14 = h 14 := funext fun j => u 14 j (by omega)
    have r15 : N 15 = h 15 := funext fun j => u 15 j (by omega)
    have r37 : N 37 = h 37 := funext fun j => u 37 j (by omega)
    have r42 : N 42 = h 42 := funext fun j => u 42 j (by omega)
    have r43 : N 43 = h 43 := funext fun j => u 43 j (by omega)
    have r44 : N 44 = h 44 := funext fun j => u 44 j (by omega)
    have r45 : N 45 = h 45 := funext fun j => u 45 j (by omega)
    have r46 : N 46 = (fset (h 46) p (h 133 p - q)) := by rw [hN, hset_r (by decide), hset_r (by decide), hset_r (by decide), hset_r (by decide), hset_r (by decide), hset_r (by decide), hset_r (by decide), hset_r (by decide), hset_f]
    have r47 : N 47 = h 47 := funext fun j => u 47 j (by omega)
    have r48 : N 48 = h 48 := funext fun j => u 48 j (by omega)
    have r49 : N 49 = h 49 := funext fun j => u 49 j (by omega)
    have r50 : N 50 = h 50 := funext fun j => u 50 j (by omega)
    have r51 : N 51 = h 51 := funext fun j => u 51 j (by omega)
    have r52 : N 52 = h 52 := funext fun j => u 52 j (by omega)
    have r54 : N 54 = h 54 := funext fun j => u 54 j (by omega)
    have r55 : N 55 = h 55 := funext fun j => u 55 j (by omega)
    have r56 : N 56 = h 56 := funext fun j => u 56 j (by omega)
    have r64 : N 64 = h 64 := funext fun j => u 64 j (by omega)
    have r65 : N 65 = h 65 := funext fun j => u 65 j (by omega)
    have r66 : N 66 = h 66 := funext fun j => u 66 j (by omega)
    have r67 : N 67 = h 67 := funext fun j => u 67 j (by omega)
    have r68 : N 68 = h 68 := funext fun j => u 68 j (by omega)
    have r69 : N 69 = h 69 := funext fun j => u 69 j (by omega)
    have r71 : N 71 = h 71 := funext fun j => u 71 j (by omega)
    have r72 : N 72 = h 72 := funext fun j => u 72 j (by omega)
    have r73 : N 73 = h 73 := funext fun j => u 73 j (by omega)
    have r74 : N 74 = h 74 := funext fun j => u 74 j (by omega)
    have r82 : N 82 = (fset (h 82) (h 116 46) p) := by rw [hN, hset_r (by decide), hset_r (by decide), hset_r (by decide), hset_r (by decide), hset_r (by decide), hset_r (by decide), hset_r (by decide), hset_f, hset_r (by decide)]
    have r83 : N 83 = (fset (h 83) (h 116 46) q) := by rw [hN, hset_r (by decide), hset_r (by decide), hset_r (by decide), hset_r (by decide), hset_r (by decide), hset_r (by decide), hset_f, hset_r (by decide), hset_r (by decide)]
    have r84 : N 84 = h 84 := funext fun j => u 84 j (by omega)
    have r85 : N 85 = h 85 := funext fun j => u 85 j (by omega)
    have r86 : N 86 = h 86 := funext fun j => u 86 j (by omega)
    have r88 : N 88 = h 88 := funext fun j => u 88 j (by omega)
    have r89 : N 89 = h 89 := funext fun j => u 89 j (by omega)
    have r90 : N 90 = h 90 := funext fun j => u 90 j (by omega)
    have r91 : N 91 = h 91 := funext fun j => u 91 j (by omega)
    have r92 : N 92 = h 92 := funext fun j => u 92 j (by omega)
    have r98 : N 98 = h 98 := funext fun j => u 98 j (by omega)
    have r99 : N 99 = h 99 := funext fun j => u 99 j (by omega)
    have r117 : N 117 = h 117 := funext fun j => u 117 j (by omega)
    have r118 : N 118 = h 118 := funext fun j => u 118 j (by omega)
    have r119 : N 119 = h 119 := funext fun j => u 119 j (by omega)
    have r120 : N 120 = h 120 := funext fun j => u 120 j (by omega)
    have r121 : N 121 = h 121 := funext fun j => u 121 j (by omega)
    have r122 : N 122 = h 122 := funext fun j => u 122 j (by omega)
    have r123 : N 123 = h 123 := funext fun j => u 123 j (by omega)
    have r124 : N 124 = h 124 := funext fun j => u 124 j (by omega)
    have r125 : N 125 = h 125 := funext fun j => u 125 j (by omega)
    have r127 : N 127 = h 127 := funext fun j => u 127 j (by omega)
    have r128 : N 128 = h 128 := funext fun j => u 128 j (by omega)
    have r129 : N 129 = h 129 := funext fun j => u 129 j (by omega)
    have r130 : N 130 = h 130 := funext fun j => u 130 j (by omega)
    have r131 : N 131 = h 131 := funext fun j => u 131 j (by omega)
    have r132 : N 132 = h 132 := funext fun j => u 132 j (by omega)
    have r133 : N 133 = (fset (h 133) p (h 133 p - q)) := by rw [hN, hset_r (by decide), hset_r (by decide), hset_r (by decide), hset_f, hset_r (by decide), hset_r (by decide), hset_r (by decide), hset_r (by decide), hset_r (by decide)]
    have r134 : N 134 = h 134 := funext fun j => u 134 j (by omega)
    have r135 : N 135 = h 135 := funext fun j => u 135 j (by omega)
    have r136 : N 136 = h 136 := funext fun j => u 136 j (by omega)
    have r137 : N 137 = h 137 := funext fun j => u 137 j (by omega)
    have r138 : N 138 = h 138 := funext fun j => u 138 j (by omega)
    have r139 : N 139 = h 139 := funext fun j => u 139 j (by omega)
    have r140 : N 140 = (fset (h 140) (h 116 46) p) := by rw [hN, hset_r (by decide), hset_r (by decide), hset_f, hset_r (by decide), hset_r (by decide), hset_r (by decide), hset_r (by decide), hset_r (by decide), hset_r (by decide)]
    have r141 : N 141 = (fset (h 141) (h 116 46) q) := by rw [hN, hset_r (by decide), hset_f, hset_r (by decide), hset_r (by decide), hset_r (by decide), hset_r (by decide), hset_r (by decide), hset_r (by decide), hset_r (by decide)]
    have r142 : N 142 = h 142 := funext fun j => u 142 j (by omega)
    have r143 : N 143 = h 143 := funext fun j => u 143 j (by omega)
    have r144 : N 144 = h 144 := funext fun j => u 144 j (by omega)
    have r145 : N 145 = h 145 := funext fun j => u 145 j (by omega)
    have r146 : N 146 = h 146 := funext fun j => u 146 j (by omega)
    have r147 : N 147 = h 147 := funext fun j => u 147 j (by omega)
    have r150 : N 150 = h 150 := funext fun j => u 150 j (by omega)
    have r151 : N 151 = h 151 := funext fun j => u 151 j (by omega)
    have r152 : N 152 = h 152 := funext fun j => u 152 j (by omega)
    have r153 : N 153 = h 153 := funext fun j => u 153 j (by omega)
    have r154 : N 154 = h 154 := funext fun j => u 154 j (by omega)
    have r155 : N 155 = h 155 := funext fun j => u 155 j (by omega)
    have r156 : N 156 = h 156 := funext fun j => u 156 j (by omega)
    have r157 : N 157 = h 157 := funext fun j => u 157 j (by omega)
    have r158 : N 158 = h 158 := funext fun j => u 158 j (by omega)
    have r167 : N 167 = h 167 := funext fun j => u 167 j (by omega)
    have r168 : N 168 = h 168 := funext fun j => u 168 j (by omega)
    have r169 : N 169 = h 169 := funext fun j => u 169 j (by omega)
    have r170 : N 170 = h 170 := funext fun j => u 170 j (by omega)
    have r171 : N 171 = h 171 := funext fun j => u 171 j (by omega)
    have r174 : N 174 = h 174 := funext fun j => u 174 j (by omega)
    have r175 : N 175 = h 175 := funext fun j => u 175 j (by omega)
    have r76 : N 76 = h 76 := funext fun j => u 76 j (by omega)
    have r77 : N 77 = h 77 := funext fun j => u 77 j (by omega)
    have r78 : N 78 = h 78 := funext fun j => u 78 j (by omega)
    have r79 : N 79 = h 79 := funext fun j => u 79 j (by omega)
    have r160 : N 160 = h 160 := funext fun j => u 160 j (by omega)
    have r161 : N 161 = h 161 := funext fun j => u 161 j (by omega)
    have r162 : N 162 = h 162 := funext fun j => u 162 j (by omega)
    have r163 : N 163 = h 163 := funext fun j => u 163 j (by omega)
    have f0_0 : N 0 0 = h 0 0 := u 0 0 (by omega)
    have f1_1 : N 1 1 = h 1 1 := u 1 1 (by omega)
    have f4_7 : N 4 7 = h 4 7 := u 4 7 (by omega)
    have f7_0 : N 7 0 = h 7 0 := u 7 0 (by omega)
    have f7_4 : N 7 4 = h 7 4 := u 7 4 (by omega)
    have f12_0 : N 12 0 = h 12 0 := u 12 0 (by omega)
    have f12_4 : N 12 4 = h 12 4 := u 12 4 (by omega)
    have f41_12 : N 41 12 = h 41 12 := u 41 12 (by omega)
    have f41_13 : N 41 13 = h 41 13 := u 41 13 (by omega)
    have f53_3 : N 53 3 = h 53 3 := u 53 3 (by omega)
    have f70_3 : N 70 3 = h 70 3 := u 70 3 (by omega)
    have f81_2 : N 81 2 = (h 116 46 + 1) := (congrFun (congrFun hN 81) 2).trans ((hset_c (by decide)).trans ((hset_c (by decide)).trans ((hset_c (by decide)).trans ((hset_c (by decide)).trans ((hset_c (by decide)).trans (hset_same _ _ _ _))))))
    have f81_6 : N 81 6 = h 81 6 := u 81 6 (by omega)
    have f97_2 : N 97 2 = h 97 2 := u 97 2 (by omega)
    have f116_1 : N 116 1 = h 116 1 := u 116 1 (by omega)
    have f116_14 : N 116 14 = h 116 14 := u 116 14 (by omega)
    have f116_15 : N 116 15 = h 116 15 := u 116 15 (by omega)
    have f116_16 : N 116 16 = h 116 16 := u 116 16 (by omega)
    have f116_45 : N 116 45 = h 116 45 := u 116 45 (by omega)
    have f116_46 : N 116 46 = (h 116 46 + 1) := (congrFun (congrFun hN 116) 46).trans (hset_same _ _ _ _)
    have f116_47 : N 116 47 = h 116 47 := u 116 47 (by omega)
    have f116_48 : N 116 48 = h 116 48 := u 116 48 (by omega)
    have f116_65 : N 116 65 = h 116 65 := u 116 65 (by omega)
    have f116_66 : N 116 66 = h 116 66 := u 116 66 (by omega)
    have f116_88 : N 116 88 = h 116 88 := u 116 88 (by omega)
    have f4_15 : N 4 15 = h 4 15 := u 4 15 (by omega)
    have f4_16 : N 4 16 = h 4 16 := u 4 16 (by omega)
    have f116_67 : N 116 67 = h 116 67 := u 116 67 (by omega)
    have f116_68 : N 116 68 = h 116 68 := u 116 68 (by omega)
    refine ⟨cs, ⟨?_, ?_, ?_, ?_, ?_, ?_, ?_, ?_, ?_, ?_, ?_, ?_, ?_, ?_, ?_, ?_, ?_, ?_, ?_, ?_, ?_, ?_, ?_, ?_, ?_, ?_, ?_, ?_, ?_, ?_, ?_, ?_, ?_, ?_, ?_, ?_, ?_, ?_, ?_, ?_, ?_, ?_, ?_, ?_, ?_, ?_, ?_, ?_, ?_, ?_, ?_, ?_, ?_, ?_, ?_, ?_, ?_, ?_, ?_, ?_, ?_, ?_, ?_, ?_, ?_, ?_, ?_, ?_, ?_, ?_, ?_, ?_, ?_, ?_, ?_, ?_, ?_, ?_, ?_, ?_, ?_⟩, ⟨?_, ?_, ?_, ?_, ?_, ?_, ?_, ?_⟩⟩
    · exact (by
        simp only [r8, r117]
        exact I.e8)
    · exact (by
        simp only [r9, r119]
        exact I.e9)
    · exact (by
        simp only [r10, r120]
        exact I.e10)
    · exact (by
        simp only [r11, r118]
        exact I.e11)
    · exact (by
        simp only [r13, r121]
        exact I.e13)
    · exact (by
        simp only [r14, r122]
        exact I.e14)
    · exact (by
        simp only [r15, r123]
        exact I.e15)
    · exact (by
        simp only [r42, r129]
        exact I.e42)
    · exact (by
        simp only [r43, r130]
        exact I.e43)
    · exact (by
        simp only [r44, r131]
        exact I.e44)
    · exact (by
        simp only [r45, r132]
        exact I.e45)
    · exact (by
        simp only [r46, r133]
        rw [I.e46])
    · exact (by
        simp only [r47, r134]
        exact I.e47)
    · exact (by
        simp only [r48, r135]
        exact I.e48)
    · exact (by
        simp only [r50, r137]
        exact I.e50)
    · exact (by
        simp only [r51, r138]
        exact I.e51)
    · exact (by
        simp only [r52, r139]
        exact I.e52)
    · exact (by
        simp only [r54, r145]
        exact I.e54)
    · exact (by
        simp only [r55, r146]
        exact I.e55)
    · exact (by
        simp only [r56, r147]
        exact I.e56)
    · exact (by
        simp only [r64, r150]
        exact I.e64)
    · exact (by
        simp only [r65, r151]
        exact I.e65)
    · exact (by
        simp only [r66, r152]
        exact I.e66)
    · exact (by
        simp only [r67, r153]
        exact I.e67)
    · exact (by
        simp only [r68, r154]
        exact I.e68)
    · exact (by
        simp only [r69, r155]
        exact I.e69)
    · exact (by
        simp only [r71, r156]
        exact I.e71)
    · exact (by
        simp only [r72, r157]
        exact I.e72)
    · exact (by
        simp only [r73, r158]
        exact I.e73)
    · exact (by
        simp only [r74, r125]
        exact I.e74)
    · exact (by
        simp only [r82, r140]
        rw [I.e82])
    · exact (by
        simp only [r83, r141]
        rw [I.e83])
    · exact (by
        simp only [r84, r143]
        exact I.e84)
    · exact (by
        simp only [r85, r144]
        exact I.e85)
    · exact (by
        simp only [r86, r142]
        exact I.e86)
    · exact (by
        simp only [r88, r168]
        exact I.e88)
    · exact (by
        simp only [r89, r169]
        exact I.e89)
    · exact (by
        simp only [r90, r170]
        exact I.e90)
    · exact (by
        simp only [r91, r171]
        exact I.e91)
    · exact (by
        simp only [r92, r167]
        exact I.e92)
    · exact (by
        simp only [r98, r174]
        exact I.e98)
    · exact (by
        simp only [r99, r175]
        exact I.e99)
    · exact (by
        simp only [f0_0, f116_1]
        exact I.f0_0)
    · exact (by
        simp only [f7_4, f116_14]
        exact I.f7_4)
    · exact (by
        simp only [f12_4, f116_15]
        exact I.f12_4)
    · exact (by
        simp only [f1_1, f116_16]
        exact I.f1_1)
    · exact (by
        simp only [f41_12, f116_45]
        exact I.f41_12)
    · exact (by
        simp only [f53_3, f116_48]
        exact I.f53_3)
    · exact (by
        simp only [f81_2, f116_46])
    · exact (by
        simp only [f81_6, f116_47]
        exact I.f81_6)
    · exact (by
        simp only [f4_7, f116_65]
        exact I.f4_7)
    · exact (by
        simp only [f70_3, f116_66]
        exact I.f70_3)
    · exact (by
        simp only [f97_2, f116_88]
        exact I.f97_2)
    · exact (by
        simp only [f7_0]
        exact I.k7)
    · exact (by
        simp only [f12_0]
        exact I.k12)
    · exact (by
        unfold RW
        simp only [f116_45, f116_48, f116_14, f116_15, r129, r130, r131, r132, r135, r137, r138, r139, r146]
        exact I.W)
    · exact (by
        unfold RS
        simp only [f116_65, f116_66, f116_45, r150, r151, r152, r153, r154, r155, r157]
        exact I.S)
    · exact TX_eq I.T f116_15 r124 r128
    · exact CX_eq I.X f12_4 r37 (fun p h0 h1 => funext fun j => u (17 + p) j (by omega))
    · exact (by
        simp only [f116_1]
        exact I.now)
    · exact (by
        simp only [f116_14, r118]
        exact I.il)
    · exact (by
        simp only [f116_1, f116_48, r147]
        exact I.m147)
    · exact (by
        simp only [f116_1, f116_45, r134]
        exact I.m134)
    · exact (by
        simp only [f116_1, f116_65, r155]
        exact I.m155)
    · exact (by
        simp only [f116_1, f116_66, r158]
        exact I.m158)
    · exact (by
        simp only [f116_1, f116_45, r49, r136]
        exact I.iu)
    · exact (by
        simp only [f41_13, f116_45, r136]
        exact I.un)
    · exact (by
        simp only [f116_45, f116_48, r145]
        exact I.ma)
    · exact (by
        simp only [f116_16, r2, r127]
        exact I.tp)
    · exact (by
        simp only [f116_45, f116_46, r140, r141]
        refine ⟨by omega, fun i i0 i1 => ?_⟩
        by_cases z : i = h 116 46
        · rw [z, fset_same, fset_same]; omega
        · rw [fset_ne z, fset_ne z]; exact I.bn.2 i i0 (by omega))
    · exact (by
        simp only [f116_45, f116_47, r142, r143, r144]
        exact I.po)
    · exact (by
        simp only [f116_45, f116_46, f116_47, r132, r133, r140, r141, r142, r144]
        exact fun b9 b0 b1 => by
          have cb := I.co b9 b0 b1
          rw [on_add bn.1]
          by_cases z : b9 = p
          · rw [z] at cb
            rw [z, fset_same, if_pos rfl]; omega
          · rw [fset_ne z, if_neg (fun y => z y.symm)]; omega)
    · exact (by
        simp only [f116_45, r137]
        exact I.en)
    · exact (by
        simp only [r125]
        exact I.ta)
    · exact (by
        simp only [r167]
        exact I.ofn)
    · exact (by
        simp only [r167]
        exact I.ofc)
    · exact (by
        simp only [r168, r169, r170, r171]
        exact I.ofk)
    · exact (by
        simp only [f116_15, r121]
        exact I.tw)
    · exact (by
        simp only [f116_45, r135, r137]
        exact I.gr)
    · exact (by
        simp only [f116_65, r134, r150, r155]
        exact I.sd)
    · exact (by
        simp only [f116_88, r175]
        exact I.wo)
    · exact (by
        simp only [r76, r160]
        exact L.e76)
    · exact (by
        simp only [r77, r162]
        exact L.e77)
    · exact (by
        simp only [r78, r161]
        exact L.e78)
    · exact (by
        simp only [r79, r163]
        exact L.e79)
    · exact (by
        simp only [f4_15, f116_67]
        exact L.f4_15)
    · exact (by
        simp only [f4_16, f116_68]
        exact L.f4_16)
    · exact (by
        simp only [f116_67]
        exact L.li)
    · exact (by
        simp only [r160]
        exact L.bk)
  exact key _ rfl

set_option maxHeartbeats 2000000 in
theorem LI_pour {h : AH} {cs : Int → List (Int × List Int)} {a p q : Int} (I : CI h cs) (L : CLN h) (ha : 0 ≤ a ∧ a ≤ 5) (hp : 0 ≤ p ∧ p < h 116 45) (hq : 1 ≤ q ∧ q ≤ h 133 p) (hk : h 116 47 < 100) : LI (hset (hset (hset (hset (hset (hset (hset (hset (hset (hset (hset h 46 p (h 133 p - q)) 84 (h 116 47) a) 85 (h 116 47) p) 86 (h 116 47) q) 81 6 (h 116 47 + 1)) 116 0 0) 133 p (h 133 p - q)) 143 (h 116 47) a) 144 (h 116 47) p) 142 (h 116 47) q) 116 47 (h 116 47 + 1)) := by
  have key : ∀ N : AH, N = (hset (hset (hset (hset (hset (hset (hset (hset (hset (hset (hset h 46 p (h 133 p - q)) 84 (h 116 47) a) 85 (h 116 47) p) 86 (h 116 47) q) 81 6 (h 116 47 + 1)) 116 0 0) 133 p (h 133 p - q)) 143 (h 116 47) a) 144 (h 116 47) p) 142 (h 116 47) q) 116 47 (h 116 47 + 1)) → LI N := fun N hN => by
    have cp := I.co p hp.1 hp.2
    have mp := I.W.ma p hp.1 hp.2
    have bn := I.bn.1
    have po := I.po.1
    have bs := on_nn (of := h 140) (many := h 141) (b := p) bn.1 (fun i i0 i1 => by have := I.bn.2 i i0 i1; omega)
    have ps := on_nn (of := h 144) (many := h 142) (b := p) po.1 (fun i i0 i1 => by have := I.po.2 i i0 i1; omega)
    have u : ∀ c j, ¬ ((c = 116 ∧ j = 47) ∨ c = 142 ∨ c = 144 ∨ c = 143 ∨ c = 133 ∨ (c = 116 ∧ j = 0) ∨ (c = 81 ∧ j = 6) ∨ c = 86 ∨ c = 85 ∨ c = 84 ∨ c = 46) → N c j = h c j := fun c j q => by
      rw [hN, hset_ne _ (by omega), hset_ne _ (by omega), hset_ne _ (by omega), hset_ne _ (by omega), hset_ne _ (by omega), hset_ne _ (by omega), hset_ne _ (by omega), hset_ne _ (by omega), hset_ne _ (by omega), hset_ne _ (by omega), hset_ne _ (by omega)]
    have r2 : N 2 = h 2 := funext fun j => u 2 j (by omega)
    have r8 : N 8 = h 8 := funext fun j => u 8 j (by omega)
    have r9 : N 9 = h 9 := funext fun j => u 9 j (by omega)
    have r10 : N 10 = h 10 := funext fun j => u 10 j (by omega)
    have r11 : N 11 = h 11 := funext fun j => u 11 j (by omega)
    have r13 : N 13 = h 13 := funext fun j => u 13 j (by omega)
    have r14 : N 14 = h 14 := funext fun j => u 14 j (by omega)
    have r15 : N 15 = h 15 := funext fun j => u 15 j (by omega)
    have r37 : N 37 = h 37 := funext fun j => u 37 j (by omega)
    have r42 : N 42 = h 42 := funext fun j => u 42 j (by omega)
    have r43 : N 43 = h 43 := funext fun j => u 43 j (by omega)
    have r44 : N 44 = h 44 := funext fun j => u 44 j (by omega)
    have r45 : N 45 = h 45 := funext fun j => u 45 j (by omega)
    have r46 : N 46 = (fset (h 46) p (h 133 p - q)) := by rw [hN, hset_r (by decide), hset_r (by decide), hset_r (by decide), hset_r (by decide), hset_r (by decide), hset_r (by decide), hset_r (by decide), hset_r (by decide), hset_r (by decide), hset_r (by decide), hset_f]
    have r47 : N 47 = h 47 := funext fun j => u 47 j (by omega)
    have r48 : N 48 = h 48 := funext fun j => u 48 j (by omega)
    have r49 : N 49 = h 49 := funext fun j => u 49 j (by omega)
    have r50 : N 50 = h 50 := funext fun j => u 50 j (by omega)
    have r51 : N 51 = h 51 := funext fun j => u 51 j (by omega)
    have r52 : N 52 = h 52 := funext fun j => u 52 j (by omega)
    have r54 : N 54 = h 54 := funext fun j => u 54 j (by omega)
    have r55 : N 55 = h 55 := funext fun j => u 55 j (by omega)
    have r56 : N 56 = h 56 := funext fun j => u 56 j (by omega)
    have r64 : N 64 = h 64 := funext fun j => u 64 j (by omega)
    have r65 : N 65 = h 65 := funext fun j => u 65 j (by omega)
    have r66 : N 66 = h 66 := funext fun j => u 66 j (by omega)
    have r67 : N 67 = h 67 := funext fun j => u 67 j (by omega)
    have r68 : N 68 = h 68 := funext fun j => u 68 j (by omega)
    have r69 : N 69 = h 69 := funext fun j => u 69 j (by omega)
    have r71 : N 71 = h 71 := funext fun j => u 71 j (by omega)
    have r72 : N 72 = h 72 := funext fun j => u 72 j (by omega)
    have r73 : N 73 = h 73 := funext fun j => u 73 j (by omega)
    have r74 : N 74 = h 74 := funext fun j => u 74 j (by omega)
    have r82 : N 82 = h 82 := funext fun j => u 82 j (by omega)
    have r83 : N 83 = h 83 := funext fun j => u 83 j (by omega)
    have r84 : N 84 = (fset (h 84) (h 116 47) a) := by rw [hN, hset_r (by decide), hset_r (by decide), hset_r (by decide), hset_r (by decide), hset_r (by decide), hset_r (by decide), hset_r (by decide), hset_r (by decide), hset_r (by decide), hset_f, hset_r (by decide)]
    have r85 : N 85 = (fset (h 85) (h 116 47) p) := by rw [hN, hset_r (by decide), hset_r (by decide), hset_r (by decide), hset_r (by decide), hset_r (by decide), hset_r (by decide), hset_r (by decide), hset_r (by decide), hset_f, hset_r (by decide), hset_r (by decide)]
    have r86 : N 86 = (fset (h 86) (h 116 47) q) := by rw [hN, hset_r (by decide), hset_r (by decide), hset_r (by decide), hset_r (by decide), hset_r (by decide), hset_r (by decide), hset_r (by decide), hset_f, hset_r (by decide), hset_r (by decide), hset_r (by decide)]
    have r88 : N 88 = h 88 := funext fun j => u 88 j (by omega)
    have r89 : N 89 = h 89 := funext fun j => u 89 j (by omega)
    have r90 : N 90 = h 90 := funext fun j => u 90 j (by omega)
    have r91 : N 91 = h 91 := funext fun j => u 91 j (by omega)
    have r92 : N 92 = h 92 := funext fun j => u 92 j (by omega)
    have r98 : N 98 = h 98 := funext fun j => u 98 j (by omega)
    have r99 : N 99 = h 99 := funext fun j => u 99 j (by omega)
    have r117 : N 117 = h 117 := funext fun j => u 117 j (by omega)
    have r118 : N 118 = h 118 := funext fun j => u 118 j (by omega)
    have r119 : N 119 = h 119 := funext fun j => u 119 j (by omega)
    have r120 : N 120 = h 120 := funext fun j => u 120 j (by omega)
    have r121 : N 121 = h 121 := funext fun j => u 121 j (by omega)
    have r122 : N 122 = h 122 := funext fun j => u 122 j (by omega)
    have r123 : N 123 = h 123 := funext fun j => u 123 j (by omega)
    have r124 : N 124 = h 124 := funext fun j => u 124 j (by omega)
    have r125 : N 125 = h 125 := funext fun j => u 125 j (by omega)
    have r127 : N 127 = h 127 := funext fun j => u 127 j (by omega)
    have r128 : N 128 = h 128 := funext fun j => u 128 j (by omega)
    have r129 : N 129 = h 129 := funext fun j => u 129 j (by omega)
    have r130 : N 130 = h 130 := funext fun j => u 130 j (by omega)
    have r131 : N 131 = h 131 := funext fun j => u 131 j (by omega)
    have r132 : N 132 = h 132 := funext fun j => u 132 j (by omega)
    have r133 : N 133 = (fset (h 133) p (h 133 p - q)) := by rw [hN, hset_r (by decide), hset_r (by decide), hset_r (by decide), hset_r (by decide), hset_f, hset_r (by decide), hset_r (by decide), hset_r (by decide), hset_r (by decide), hset_r (by decide), hset_r (by decide)]
    have r134 : N 134 = h 134 := funext fun j => u 134 j (by omega)
    have r135 : N 135 = h 135 := funext fun j => u 135 j (by omega)
    have r136 : N 136 = h 136 := funext fun j => u 136 j (by omega)
    have r137 : N 137 = h 137 := funext fun j => u 137 j (by omega)
    have r138 : N 138 = h 138 := funext fun j => u 138 j (by omega)
    have r139 : N 139 = h 139 := funext fun j => u 139 j (by omega)
    have r140 : N 140 = h 140 := funext fun j => u 140 j (by omega)
    have r141 : N 141 = h 141 := funext fun j => u 141 j (by omega)
    have r142 : N 142 = (fset (h 142) (h 116 47) q) := by rw [hN, hset_r (by decide), hset_f, hset_r (by decide), hset_r (by decide), hset_r (by decide), hset_r (by decide), hset_r (by decide), hset_r (by decide), hset_r (by decide), hset_r (by decide), hset_r (by decide)]
    have r143 : N 143 = (fset (h 143) (h 116 47) a) := by rw [hN, hset_r (by decide), hset_r (by decide), hset_r (by decide), hset_f, hset_r (by decide), hset_r (by decide), hset_r (by decide), hset_r (by decide), hset_r (by decide), hset_r (by decide), hset_r (by decide)]
    have r144 : N 144 = (fset (h 144) (h 116 47) p) := by rw [hN, hset_r (by decide), hset_r (by decide), hset_f, hset_r (by decide), hset_r (by decide), hset_r (by decide), hset_r (by decide), hset_r (by decide), hset_r (by decide), hset_r (by decide), hset_r (by decide)]
    have r145 : N 145 = h 145 := funext fun j => u 145 j (by omega)
    have r146 : N 146 = h 146 := funext fun j => u 146 j (by omega)
    have r147 : N 147 = h 147 := funext fun j => u 147 j (by omega)
    have r150 : N 150 = h 150 := funext fun j => u 150 j (by omega)
    have r151 : N 151 = h 151 := funext fun j => u 151 j (by omega)
    have r152 : N 152 = h 152 := funext fun j => u 152 j (by omega)
    have r153 : N 153 = h 153 := funext fun j => u 153 j (by omega)
    have r154 : N 154 = h 154 := funext fun j => u 154 j (by omega)
    have r155 : N 155 = h 155 := funext fun j => u 155 j (by omega)
    have r156 : N 156 = h 156 := funext fun j => u 156 j (by omega)
    have r157 : N 157 = h 157 := funext fun j => u 157 j (by omega)
    have r158 : N 158 = h 158 := funext fun j => u 158 j (by omega)
    have r167 : N 167 = h 167 := funext fun j => u 167 j (by omega)
    have r168 : N 168 = h 168 := funext fun j => u 168 j (by omega)
    have r169 : N 169 = h 169 := funext fun j => u 169 j (by omega)
    have r170 : N 170 = h 170 := funext fun j => u 170 j (by omega)
    have r171 : N 171 = h 171 := funext fun j => u 171 j (by omega)
    have r174 : N 174 = h 174 := funext fun j => u 174 j (by omega)
    have r175 : N 175 = h 175 := funext fun j => u 175 j (by omega)
    have r76 : N 76 = h 76 := funext fun j => u 76 j (by omega)
    have r77 : N 77 = h 77 := funext fun j => u 77 j (by omega)
    have r78 : N 78 = h 78 := funext fun j => u 78 j (by omega)
    have r79 : N 79 = h 79 := funext fun j => u 79 j (by omega)
    have r160 : N 160 = h 160 := funext fun j => u 160 j (by omega)
    have r161 : N 161 = h 161 := funext fun j => u 161 j (by omega)
    have r162 : N 162 = h 162 := funext fun j => u 162 j (by omega)
    have r163 : N 163 = h 163 := funext fun j => u 163 j (by omega)
    have f0_0 : N 0 0 = h 0 0 := u 0 0 (by omega)
    have f1_1 : N 1 1 = h 1 1 := u 1 1 (by omega)
    have f4_7 : N 4 7 = h 4 7 := u 4 7 (by omega)
    have f7_0 : N 7 0 = h 7 0 := u 7 0 (by omega)
    have f7_4 : N 7 4 = h 7 4 := u 7 4 (by omega)
    have f12_0 : N 12 0 = h 12 0 := u 12 0 (by omega)
    have f12_4 : N 12 4 = h 12 4 := u 12 4 (by omega)
    have f41_12 : N 41 12 = h 41 12 := u 41 12 (by omega)
    have f41_13 : N 41 13 = h 41 13 := u 41 13 (by omega)
    have f53_3 : N 53 3 = h 53 3 := u 53 3 (by omega)
    have f70_3 : N 70 3 = h 70 3 := u 70 3 (by omega)
    have f81_2 : N 81 2 = h 81 2 := u 81 2 (by omega)
    have f81_6 : N 81 6 = (h 116 47 + 1) := (congrFun (congrFun hN 81) 6).trans ((hset_c (by decide)).trans ((hset_c (by decide)).trans ((hset_c (by decide)).trans ((hset_c (by decide)).trans ((hset_c (by decide)).trans ((hset_c (by decide)).trans (hset_same _ _ _ _)))))))
    have f97_2 : N 97 2 = h 97 2 := u 97 2 (by omega)
    have f116_1 : N 116 1 = h 116 1 := u 116 1 (by omega)
    have f116_14 : N 116 14 = h 116 14 := u 116 14 (by omega)
    have f116_15 : N 116 15 = h 116 15 := u 116 15 (by omega)
    have f116_16 : N 116 16 = h 116 16 := u 116 16 (by omega)
    have f116_45 : N 116 45 = h 116 45 := u 116 45 (by omega)
    have f116_46 : N 116 46 = h 116 46 := u 116 46 (by omega)
    have f116_47 : N 116 47 = (h 116 47 + 1) := (congrFun (congrFun hN 116) 47).trans (hset_same _ _ _ _)
    have f116_48 : N 116 48 = h 116 48 := u 116 48 (by omega)
    have f116_65 : N 116 65 = h 116 65 := u 116 65 (by omega)
    have f116_66 : N 116 66 = h 116 66 := u 116 66 (by omega)
    have f116_88 : N 116 88 = h 116 88 := u 116 88 (by omega)
    have f4_15 : N 4 15 = h 4 15 := u 4 15 (by omega)
    have f4_16 : N 4 16 = h 4 16 := u 4 16 (by omega)
    have f116_67 : N 116 67 = h 116 67 := u 116 67 (by omega)
    have f116_68 : N 116 68 = h 116 68 := u 116 68 (by omega)
    refine ⟨cs, ⟨?_, ?_, ?_, ?_, ?_, ?_, ?_, ?_, ?_, ?_, ?_, ?_, ?_, ?_, ?_, ?_, ?_, ?_, ?_, ?_, ?_, ?_, ?_, ?_, ?_, ?_, ?_, ?_, ?_, ?_, ?_, ?_, ?_, ?_, ?_, ?_, ?_, ?_, ?_, ?_, ?_, ?_, ?_, ?_, ?_, ?_, ?_, ?_, ?_, ?_, ?_, ?_, ?_, ?_, ?_, ?_, ?_, ?_, ?_, ?_, ?_, ?_, ?_, ?_, ?_, ?_, ?_, ?_, ?_, ?_, ?_, ?_, ?_, ?_, ?_, ?_, ?_, ?_, ?_, ?_, ?_⟩, ⟨?_, ?_, ?_, ?_, ?_, ?_, ?_, ?_⟩⟩
    · exact (by
        simp only [r8, r117]
        exact I.e8)
    · exact (by
        simp only [r9, r119]
        exact I.e9)
    · exact (by
        simp only [r10, r120]
        exact I.e10)
    · exact (by
        simp only [r11, r118]
        exact I.e11)
    · exact (by
        simp only [r13, r121]
        exact I.e13)
    · exact (by
        simp only [r14, r122]
        exact I.e14)
    · exact (by
        simp only [r15, r123]
        exact I.e15)
    · exact (by
        simp only [r42, r129]
        exact I.e42)
    · exact (by
        simp only [r43, r130]
        exact I.e43)
    · exact (by
        simp only [r44, r131]
        exact I.e44)
    · exact (by
        simp only [r45, r132]
        exact I.e45)
    · exact (by
        simp only [r46, r133]
        rw [I.e46])
    · exact (by
        simp only [r47, r134]
        exact I.e47)
    · exact (by
        simp only [r48, r135]
        exact I.e48)
    · exact (by
        simp only [r50, r137]
        exact I.e50)
    · exact (by
        simp only [r51, r138]
        exact I.e51)
    · exact (by
        simp only [r52, r139]
        exact I.e52)
    · exact (by
        simp only [r54, r145]
        exact I.e54)
    · exact (by
        simp only [r55, r146]
        exact I.e55)
    · exact (by
        simp only [r56, r147]
        exact I.e56)
    · exact (by
        simp only [r64, r150]
        exact I.e64)
    · exact (by
        simp only [r65, r151]
        exact I.e65)
    · exact (by
        simp only [r66, r152]
        exact I.e66)
    · exact (by
        simp only [r67, r153]
        exact I.e67)
    · exact (by
        simp only [r68, r154]
        exact I.e68)
    · exact (by
        simp only [r69, r155]
        exact I.e69)
    · exact (by
        simp only [r71, r156]
        exact I.e71)
    · exact (by
        simp only [r72, r157]
        exact I.e72)
    · exact (by
        simp only [r73, r158]
        exact I.e73)
    · exact (by
        simp only [r74, r125]
        exact I.e74)
    · exact (by
        simp only [r82, r140]
        exact I.e82)
    · exact (by
        simp only [r83, r141]
        exact I.e83)
    · exact (by
        simp only [r84, r143]
        rw [I.e84])
    · exact (by
        simp only [r85, r144]
        rw [I.e85])
    · exact (by
        simp only [r86, r142]
        rw [I.e86])
    · exact (by
        simp only [r88, r168]
        exact I.e88)
    · exact (by
        simp only [r89, r169]
        exact I.e89)
    · exact (by
        simp only [r90, r170]
        exact I.e90)
    · exact (by
        simp only [r91, r171]
        exact I.e91)
    · exact (by
        simp only [r92, r167]
        exact I.e92)
    · exact (by
        simp only [r98, r174]
        exact I.e98)
    · exact (by
        simp only [r99, r175]
        exact I.e99)
    · exact (by
        simp only [f0_0, f116_1]
        exact I.f0_0)
    · exact (by
        simp only [f7_4, f116_14]
        exact I.f7_4)
    · exact (by
        simp only [f12_4, f116_15]
        exact I.f12_4)
    · exact (by
        simp only [f1_1, f116_16]
        exact I.f1_1)
    · exact (by
        simp only [f41_12, f116_45]
        exact I.f41_12)
    · exact (by
        simp only [f53_3, f116_48]
        exact I.f53_3)
    · exact (by
        simp only [f81_2, f116_46]
        exact I.f81_2)
    · exact (by
        simp only [f81_6, f116_47])
    · exact (by
        simp only [f4_7, f116_65]
        exact I.f4_7)
    · exact (by
        simp only [f70_3, f116_66]
        exact I.f70_3)
    · exact (by
        simp only [f97_2, f116_88]
        exact I.f97_2)
    · exact (by
        simp only [f7_0]
        exact I.k7)
    · exact (by
        simp only [f12_0]
        exact I.k12)
    · exact (by
        unfold RW
        simp only [f116_45, f116_48, f116_14, f116_15, r129, r130, r131, r132, r135, r137, r138, r139, r146]
        exact I.W)
    · exact (by
        unfold RS
        simp only [f116_65, f116_66, f116_45, r150, r151, r152, r153, r154, r155, r157]
        exact I.S)
    · exact TX_eq I.T f116_15 r124 r128
    · exact CX_eq I.X f12_4 r37 (fun p h0 h1 => funext fun j => u (17 + p) j (by omega))
    · exact (by
        simp only [f116_1]
        exact I.now)
    · exact (by
        simp only [f116_14, r118]
        exact I.il)
    · exact (by
        simp only [f116_1, f116_48, r147]
        exact I.m147)
    · exact (by
        simp only [f116_1, f116_45, r134]
        exact I.m134)
    · exact (by
        simp only [f116_1, f116_65, r155]
        exact I.m155)
    · exact (by
        simp only [f116_1, f116_66, r158]
        exact I.m158)
    · exact (by
        simp only [f116_1, f116_45, r49, r136]
        exact I.iu)
    · exact (by
        simp only [f41_13, f116_45, r136]
        exact I.un)
    · exact (by
        simp only [f116_45, f116_48, r145]
        exact I.ma)
    · exact (by
        simp only [f116_16, r2, r127]
        exact I.tp)
    · exact (by
        simp only [f116_45, f116_46, r140, r141]
        exact I.bn)
    · exact (by
        simp only [f116_45, f116_47, r142, r143, r144]
        refine ⟨by omega, fun i i0 i1 => ?_⟩
        by_cases z : i = h 116 47
        · rw [z, fset_same, fset_same, fset_same]; omega
        · rw [fset_ne z, fset_ne z, fset_ne z]; exact I.po.2 i i0 (by omega))
    · exact (by
        simp only [f116_45, f116_46, f116_47, r132, r133, r140, r141, r142, r144]
        exact fun b9 b0 b1 => by
          have cb := I.co b9 b0 b1
          rw [on_add po.1]
          by_cases z : b9 = p
          · rw [z] at cb
            rw [z, fset_same, if_pos rfl]; omega
          · rw [fset_ne z, if_neg (fun y => z y.symm)]; omega)
    · exact (by
        simp only [f116_45, r137]
        exact I.en)
    · exact (by
        simp only [r125]
        exact I.ta)
    · exact (by
        simp only [r167]
        exact I.ofn)
    · exact (by
        simp only [r167]
        exact I.ofc)
    · exact (by
        simp only [r168, r169, r170, r171]
        exact I.ofk)
    · exact (by
        simp only [f116_15, r121]
        exact I.tw)
    · exact (by
        simp only [f116_45, r135, r137]
        exact I.gr)
    · exact (by
        simp only [f116_65, r134, r150, r155]
        exact I.sd)
    · exact (by
        simp only [f116_88, r175]
        exact I.wo)
    · exact (by
        simp only [r76, r160]
        exact L.e76)
    · exact (by
        simp only [r77, r162]
        exact L.e77)
    · exact (by
        simp only [r78, r161]
        exact L.e78)
    · exact (by
        simp only [r79, r163]
        exact L.e79)
    · exact (by
        simp only [f4_15, f116_67]
        exact L.f4_15)
    · exact (by
        simp only [f4_16, f116_68]
        exact L.f4_16)
    · exact (by
        simp only [f116_67]
        exact L.li)
    · exact (by
        simp only [r160]
        exact L.bk)
  exact key _ rfl

set_option maxHeartbeats 2000000 in
theorem LI_ship {h : AH} {cs : Int → List (Int × List Int)} {p q a b c : Int} (I : CI h cs) (L : CLN h) (hp : 0 ≤ p ∧ p < h 116 45) (hq : 1 ≤ q ∧ q ≤ h 133 p) (ha : 0 ≤ a ∧ a ≤ 7) (hb : -1 ≤ b ∧ b ≤ 3) (hc : 0 ≤ c ∧ c ≤ 400) (hk : h 116 65 < 100) : LI (hset (hset (hset (hset (hset (hset (hset (hset (hset (hset (hset (hset (hset (hset (hset (hset (hset h 46 p (h 133 p - q)) 64 (h 116 65) p) 65 (h 116 65) q) 66 (h 116 65) a) 67 (h 116 65) b) 68 (h 116 65) c) 69 (h 116 65) (h 116 1)) 4 7 (h 116 65 + 1)) 116 0 0) 133 p (h 133 p - q)) 150 (h 116 65) p) 151 (h 116 65) q) 152 (h 116 65) a) 153 (h 116 65) b) 154 (h 116 65) c) 155 (h 116 65) (h 116 1)) 116 65 (h 116 65 + 1)) := by
  have key : ∀ N : AH, N = (hset (hset (hset (hset (hset (hset (hset (hset (hset (hset (hset (hset (hset (hset (hset (hset (hset h 46 p (h 133 p - q)) 64 (h 116 65) p) 65 (h 116 65) q) 66 (h 116 65) a) 67 (h 116 65) b) 68 (h 116 65) c) 69 (h 116 65) (h 116 1)) 4 7 (h 116 65 + 1)) 116 0 0) 133 p (h 133 p - q)) 150 (h 116 65) p) 151 (h 116 65) q) 152 (h 116 65) a) 153 (h 116 65) b) 154 (h 116 65) c) 155 (h 116 65) (h 116 1)) 116 65 (h 116 65 + 1)) → LI N := fun N hN => by
    have cp := I.co p hp.1 hp.2
    have mp := I.W.ma p hp.1 hp.2
    have bn := I.bn.1
    have po := I.po.1
    have bs := on_nn (of := h 140) (many := h 141) (b := p) bn.1 (fun i i0 i1 => by have := I.bn.2 i i0 i1; omega)
    have ps := on_nn (of := h 144) (many := h 142) (b := p) po.1 (fun i i0 i1 => by have := I.po.2 i i0 i1; omega)
    have ns := I.S.1
    have nw9 := I.now
    have u : ∀ c j, ¬ ((c = 116 ∧ j = 65) ∨ c = 155 ∨ c = 154 ∨ c = 153 ∨ c = 152 ∨ c = 151 ∨ c = 150 ∨ c = 133 ∨ (c = 116 ∧ j = 0) ∨ (c = 4 ∧ j = 7) ∨ c = 69 ∨ c = 68 ∨ c = 67 ∨ c = 66 ∨ c = 65 ∨ c = 64 ∨ c = 46) → N c j = h c j := fun c j q => by
      rw [hN, hset_ne _ (by omega), hset_ne _ (by omega), hset_ne _ (by omega), hset_ne _ (by omega), hset_ne _ (by omega), hset_ne _ (by omega), hset_ne _ (by omega), hset_ne _ (by omega), hset_ne _ (by omega), hset_ne _ (by omega), hset_ne _ (by omega), hset_ne _ (by omega), hset_ne _ (by omega), hset_ne _ (by omega), hset_ne _ (by omega), hset_ne _ (by omega), hset_ne _ (by omega)]
    have r2 : N 2 = h 2 := funext fun j => u 2 j (by omega)
    have r8 : N 8 = h 8 := funext fun j => u 8 j (by omega)
    have r9 : N 9 = h 9 := funext fun j => u 9 j (by omega)
    have r10 : N 10 = h 10 := funext fun j => u 10 j (by omega)
    have r11 : N 11 = h 11 := funext fun j => u 11 j (by omega)
    have r13 : N 13 = h 13 := funext fun j => u 13 j (by omega)
    have r14 : N 14 = h 14 := funext fun j => u 14 j (by omega)
    have r15 : N 15 = h 15 := funext fun j => u 15 j (by omega)
    have r37 : N 37 = h 37 := funext fun j => u 37 j (by omega)
    have r42 : N 42 = h 42 := funext fun j => u 42 j (by omega)
    have r43 : N 43 = h 43 := funext fun j => u 43 j (by omega)
    have r44 : N 44 = h 44 := funext fun j => u 44 j (by omega)
    have r45 : N 45 = h 45 := funext fun j => u 45 j (by omega)
    have r46 : N 46 = (fset (h 46) p (h 133 p - q)) := by rw [hN, hset_r (by decide), hset_r (by decide), hset_r (by decide), hset_r (by decide), hset_r (by decide), hset_r (by decide), hset_r (by decide), hset_r (by decide), hset_r (by decide), hset_r (by decide), hset_r (by decide), hset_r (by decide), hset_r (by decide), hset_r (by decide), hset_r (by decide), hset_r (by decide), hset_f]
    have r47 : N 47 = h 47 := funext fun j => u 47 j (by omega)
    have r48 : N 48 = h 48 := funext fun j => u 48 j (by omega)
    have r49 : N 49 = h 49 := funext fun j => u 49 j (by omega)
    have r50 : N 50 = h 50 := funext fun j => u 50 j (by omega)
    have r51 : N 51 = h 51 := funext fun j => u 51 j (by omega)
    have r52 : N 52 = h 52 := funext fun j => u 52 j (by omega)
    have r54 : N 54 = h 54 := funext fun j => u 54 j (by omega)
    have r55 : N 55 = h 55 := funext fun j => u 55 j (by omega)
    have r56 : N 56 = h 56 := funext fun j => u 56 j (by omega)
    have r64 : N 64 = (fset (h 64) (h 116 65) p) := by rw [hN, hset_r (by decide), hset_r (by decide), hset_r (by decide), hset_r (by decide), hset_r (by decide), hset_r (by decide), hset_r (by decide), hset_r (by decide), hset_r (by decide), hset_r (by decide), hset_r (by decide), hset_r (by decide), hset_r (by decide), hset_r (by decide), hset_r (by decide), hset_f, hset_r (by decide)]
    have r65 : N 65 = (fset (h 65) (h 116 65) q) := by rw [hN, hset_r (by decide), hset_r (by decide), hset_r (by decide), hset_r (by decide), hset_r (by decide), hset_r (by decide), hset_r (by decide), hset_r (by decide), hset_r (by decide), hset_r (by decide), hset_r (by decide), hset_r (by decide), hset_r (by decide), hset_r (by decide), hset_f, hset_r (by decide), hset_r (by decide)]
    have r66 : N 66 = (fset (h 66) (h 116 65) a) := by rw [hN, hset_r (by decide), hset_r (by decide), hset_r (by decide), hset_r (by decide), hset_r (by decide), hset_r (by decide), hset_r (by decide), hset_r (by decide), hset_r (by decide), hset_r (by decide), hset_r (by decide), hset_r (by decide), hset_r (by decide), hset_f, hset_r (by decide), hset_r (by decide), hset_r (by decide)]
    have r67 : N 67 = (fset (h 67) (h 116 65) b) := by rw [hN, hset_r (by decide), hset_r (by decide), hset_r (by decide), hset_r (by decide), hset_r (by decide), hset_r (by decide), hset_r (by decide), hset_r (by decide), hset_r (by decide), hset_r (by decide), hset_r (by decide), hset_r (by decide), hset_f, hset_r (by decide), hset_r (by decide), hset_r (by decide), hset_r (by decide)]
    have r68 : N 68 = (fset (h 68) (h 116 65) c) := by rw [hN, hset_r (by decide), hset_r (by decide), hset_r (by decide), hset_r (by decide), hset_r (by decide), hset_r (by decide), hset_r (by decide), hset_r (by decide), hset_r (by decide), hset_r (by decide), hset_r (by decide), hset_f, hset_r (by decide), hset_r (by decide), hset_r (by decide), hset_r (by decide), hset_r (by decide)]
    have r69 : N 69 = (fset (h 69) (h 116 65) (h 116 1)) := by rw [hN, hset_r (by decide), hset_r (by decide), hset_r (by decide), hset_r (by decide), hset_r (by decide), hset_r (by decide), hset_r (by decide), hset_r (by decide), hset_r (by decide), hset_r (by decide), hset_f, hset_r (by decide), hset_r (by decide), hset_r (by decide), hset_r (by decide), hset_r (by decide), hset_r (by decide)]
    have r71 : N 71 = h 71 := funext fun j => u 71 j (by omega)
    have r72 : N 72 = h 72 := funext fun j => u 72 j (by omega)
    have r73 : N 73 = h 73 := funext fun j => u 73 j (by omega)
    have r74 : N 74 = h 74 := funext fun j => u 74 j (by omega)
    have r82 : N 82 = h 82 := funext fun j => u 82 j (by omega)
    have r83 : N 83 = h 83 := funext fun j => u 83 j (by omega)
    have r84 : N 84 = h 84 := funext fun j => u 84 j (by omega)
    have r85 : N 85 = h 85 := funext fun j => u 85 j (by omega)
    have r86 : N 86 = h 86 := funext fun j => u 86 j (by omega)
    have r88 : N 88 = h 88 := funext fun j => u 88 j (by omega)
    have r89 : N 89 = h 89 := funext fun j => u 89 j (by omega)
    have r90 : N 90 = h 90 := funext fun j => u 90 j (by omega)
    have r91 : N 91 = h 91 := funext fun j => u 91 j (by omega)
    have r92 : N 92 = h 92 := funext fun j => u 92 j (by omega)
    have r98 : N 98 = h 98 := funext fun j => u 98 j (by omega)
    have r99 : N 99 = h 99 := funext fun j => u 99 j (by omega)
    have r117 : N 117 = h 117 := funext fun j => u 117 j (by omega)
    have r118 : N 118 = h 118 := funext fun j => u 118 j (by omega)
    have r119 : N 119 = h 119 := funext fun j => u 119 j (by omega)
    have r120 : N 120 = h 120 := funext fun j => u 120 j (by omega)
    have r121 : N 121 = h 121 := funext fun j => u 121 j (by omega)
    have r122 : N 122 = h 122 := funext fun j => u 122 j (by omega)
    have r123 : N 123 = h 123 := funext fun j => u 123 j (by omega)
    have r124 : N 124 = h 124 := funext fun j => u 124 j (by omega)
    have r125 : N 125 = h 125 := funext fun j => u 125 j (by omega)
    have r127 : N 127 = h 127 := funext fun j => u 127 j (by omega)
    have r128 : N 128 = h 128 := funext fun j => u 128 j (by omega)
    have r129 : N 129 = h 129 := funext fun j => u 129 j (by omega)
    have r130 : N 130 = h 130 := funext fun j => u 130 j (by omega)
    have r131 : N 131 = h 131 := funext fun j => u 131 j (by omega)
    have r132 : N 132 = h 132 := funext fun j => u 132 j (by omega)
    have r133 : N 133 = (fset (h 133) p (h 133 p - q)) := by rw [hN, hset_r (by decide), hset_r (by decide), hset_r (by decide), hset_r (by decide), hset_r (by decide), hset_r (by decide), hset_r (by decide), hset_f, hset_r (by decide), hset_r (by decide), hset_r (by decide), hset_r (by decide), hset_r (by decide), hset_r (by decide), hset_r (by decide), hset_r (by decide), hset_r (by decide)]
    have r134 : N 134 = h 134 := funext fun j => u 134 j (by omega)
    have r135 : N 135 = h 135 := funext fun j => u 135 j (by omega)
    have r136 : N 136 = h 136 := funext fun j => u 136 j (by omega)
    have r137 : N 137 = h 137 := funext fun j => u 137 j (by omega)
    have r138 : N 138 = h 138 := funext fun j => u 138 j (by omega)
    have r139 : N 139 = h 139 := funext fun j => u 139 j (by omega)
    have r140 : N 140 = h 140 := funext fun j => u 140 j (by omega)
    have r141 : N 141 = h 141 := funext fun j => u 141 j (by omega)
    have r142 : N 142 = h 142 := funext fun j => u 142 j (by omega)
    have r143 : N 143 = h 143 := funext fun j => u 143 j (by omega)
    have r144 : N 144 = h 144 := funext fun j => u 144 j (by omega)
    have r145 : N 145 = h 145 := funext fun j => u 145 j (by omega)
    have r146 : N 146 = h 146 := funext fun j => u 146 j (by omega)
    have r147 : N 147 = h 147 := funext fun j => u 147 j (by omega)
    have r150 : N 150 = (fset (h 150) (h 116 65) p) := by rw [hN, hset_r (by decide), hset_r (by decide), hset_r (by decide), hset_r (by decide), hset_r (by decide), hset_r (by decide), hset_f, hset_r (by decide), hset_r (by decide), hset_r (by decide), hset_r (by decide), hset_r (by decide), hset_r (by decide), hset_r (by decide), hset_r (by decide), hset_r (by decide), hset_r (by decide)]
    have r151 : N 151 = (fset (h 151) (h 116 65) q) := by rw [hN, hset_r (by decide), hset_r (by decide), hset_r (by decide), hset_r (by decide), hset_r (by decide), hset_f, hset_r (by decide), hset_r (by decide), hset_r (by decide), hset_r (by decide), hset_r (by decide), hset_r (by decide), hset_r (by decide), hset_r (by decide), hset_r (by decide), hset_r (by decide), hset_r (by decide)]
    have r152 : N 152 = (fset (h 152) (h 116 65) a) := by rw [hN, hset_r (by decide), hset_r (by decide), hset_r (by decide), hset_r (by decide), hset_f, hset_r (by decide), hset_r (by decide), hset_r (by decide), hset_r (by decide), hset_r (by decide), hset_r (by decide), hset_r (by decide), hset_r (by decide), hset_r (by decide), hset_r (by decide), hset_r (by decide), hset_r (by decide)]
    have r153 : N 153 = (fset (h 153) (h 116 65) b) := by rw [hN, hset_r (by decide), hset_r (by decide), hset_r (by decide), hset_f, hset_r (by decide), hset_r (by decide), hset_r (by decide), hset_r (by decide), hset_r (by decide), hset_r (by decide), hset_r (by decide), hset_r (by decide), hset_r (by decide), hset_r (by decide), hset_r (by decide), hset_r (by decide), hset_r (by decide)]
    have r154 : N 154 = (fset (h 154) (h 116 65) c) := by rw [hN, hset_r (by decide), hset_r (by decide), hset_f, hset_r (by decide), hset_r (by decide), hset_r (by decide), hset_r (by decide), hset_r (by decide), hset_r (by decide), hset_r (by decide), hset_r (by decide), hset_r (by decide), hset_r (by decide), hset_r (by decide), hset_r (by decide), hset_r (by decide), hset_r (by decide)]
    have r155 : N 155 = (fset (h 155) (h 116 65) (h 116 1)) := by rw [hN, hset_r (by decide), hset_f, hset_r (by decide), hset_r (by decide), hset_r (by decide), hset_r (by decide), hset_r (by decide), hset_r (by decide), hset_r (by decide), hset_r (by decide), hset_r (by decide), hset_r (by decide), hset_r (by decide), hset_r (by decide), hset_r (by decide), hset_r (by decide), hset_r (by decide)]
    have r156 : N 156 = h 156 := funext fun j => u 156 j (by omega)
    have r157 : N 157 = h 157 := funext fun j => u 157 j (by omega)
    have r158 : N 158 = h 158 := funext fun j => u 158 j (by omega)
    have r167 : N 167 = h 167 := funext fun j => u 167 j (by omega)
    have r168 : N 168 = h 168 := funext fun j => u 168 j (by omega)
    have r169 : N 169 = h 169 := funext fun j => u 169 j (by omega)
    have r170 : N 170 = h 170 := funext fun j => u 170 j (by omega)
    have r171 : N 171 = h 171 := funext fun j => u 171 j (by omega)
    have r174 : N 174 = h 174 := funext fun j => u 174 j (by omega)
    have r175 : N 175 = h 175 := funext fun j => u 175 j (by omega)
    have r76 : N 76 = h 76 := funext fun j => u 76 j (by omega)
    have r77 : N 77 = h 77 := funext fun j => u 77 j (by omega)
    have r78 : N 78 = h 78 := funext fun j => u 78 j (by omega)
    have r79 : N 79 = h 79 := funext fun j => u 79 j (by omega)
    have r160 : N 160 = h 160 := funext fun j => u 160 j (by omega)
    have r161 : N 161 = h 161 := funext fun j => u 161 j (by omega)
    have r162 : N 162 = h 162 := funext fun j => u 162 j (by omega)
    have r163 : N 163 = h 163 := funext fun j => u 163 j (by omega)
    have f0_0 : N 0 0 = h 0 0 := u 0 0 (by omega)
    have f1_1 : N 1 1 = h 1 1 := u 1 1 (by omega)
    have f4_7 : N 4 7 = (h 116 65 + 1) := (congrFun (congrFun hN 4) 7).trans ((hset_c (by decide)).trans ((hset_c (by decide)).trans ((hset_c (by decide)).trans ((hset_c (by decide)).trans ((hset_c (by decide)).trans ((hset_c (by decide)).trans ((hset_c (by decide)).trans ((hset_c (by decide)).trans ((hset_c (by decide)).trans (hset_same _ _ _ _))))))))))
    have f7_0 : N 7 0 = h 7 0 := u 7 0 (by omega)
    have f7_4 : N 7 4 = h 7 4 := u 7 4 (by omega)
    have f12_0 : N 12 0 = h 12 0 := u 12 0 (by omega)
    have f12_4 : N 12 4 = h 12 4 := u 12 4 (by omega)
    have f41_12 : N 41 12 = h 41 12 := u 41 12 (by omega)
    have f41_13 : N 41 13 = h 41 13 := u 41 13 (by omega)
    have f53_3 : N 53 3 = h 53 3 := u 53 3 (by omega)
    have f70_3 : N 70 3 = h 70 3 := u 70 3 (by omega)
    have f81_2 : N 81 2 = h 81 2 := u 81 2 (by omega)
    have f81_6 : N 81 6 = h 81 6 := u 81 6 (by omega)
    have f97_2 : N 97 2 = h 97 2 := u 97 2 (by omega)
    have f116_1 : N 116 1 = h 116 1 := u 116 1 (by omega)
    have f116_14 : N 116 14 = h 116 14 := u 116 14 (by omega)
    have f116_15 : N 116 15 = h 116 15 := u 116 15 (by omega)
    have f116_16 : N 116 16 = h 116 16 := u 116 16 (by omega)
    have f116_45 : N 116 45 = h 116 45 := u 116 45 (by omega)
    have f116_46 : N 116 46 = h 116 46 := u 116 46 (by omega)
    have f116_47 : N 116 47 = h 116 47 := u 116 47 (by omega)
    have f116_48 : N 116 48 = h 116 48 := u 116 48 (by omega)
    have f116_65 : N 116 65 = (h 116 65 + 1) := (congrFun (congrFun hN 116) 65).trans (hset_same _ _ _ _)
    have f116_66 : N 116 66 = h 116 66 := u 116 66 (by omega)
    have f116_88 : N 116 88 = h 116 88 := u 116 88 (by omega)
    have f4_15 : N 4 15 = h 4 15 := u 4 15 (by omega)
    have f4_16 : N 4 16 = h 4 16 := u 4 16 (by omega)
    have f116_67 : N 116 67 = h 116 67 := u 116 67 (by omega)
    have f116_68 : N 116 68 = h 116 68 := u 116 68 (by omega)
    refine ⟨cs, ⟨?_, ?_, ?_, ?_, ?_, ?_, ?_, ?_, ?_, ?_, ?_, ?_, ?_, ?_, ?_, ?_, ?_, ?_, ?_, ?_, ?_, ?_, ?_, ?_, ?_, ?_, ?_, ?_, ?_, ?_, ?_, ?_, ?_, ?_, ?_, ?_, ?_, ?_, ?_, ?_, ?_, ?_, ?_, ?_, ?_, ?_, ?_, ?_, ?_, ?_, ?_, ?_, ?_, ?_, ?_, ?_, ?_, ?_, ?_, ?_, ?_, ?_, ?_, ?_, ?_, ?_, ?_, ?_, ?_, ?_, ?_, ?_, ?_, ?_, ?_, ?_, ?_, ?_, ?_, ?_, ?_⟩, ⟨?_, ?_, ?_, ?_, ?_, ?_, ?_, ?_⟩⟩
    · exact (by
        simp only [r8, r117]
        exact I.e8)
    · exact (by
        simp only [r9, r119]
        exact I.e9)
    · exact (by
        simp only [r10, r120]
        exact I.e10)
    · exact (by
        simp only [r11, r118]
        exact I.e11)
    · exact (by
        simp only [r13, r121]
        exact I.e13)
    · exact (by
        simp only [r14, r122]
        exact I.e14)
    · exact (by
        simp only [r15, r123]
        exact I.e15)
    · exact (by
        simp only [r42, r129]
        exact I.e42)
    · exact (by
        simp only [r43, r130]
        exact I.e43)
    · exact (by
        simp only [r44, r131]
        exact I.e44)
    · exact (by
        simp only [r45, r132]
        exact I.e45)
    · exact (by
        simp only [r46, r133]
        rw [I.e46])
    · exact (by
        simp only [r47, r134]
        exact I.e47)
    · exact (by
        simp only [r48, r135]
        exact I.e48)
    · exact (by
        simp only [r50, r137]
        exact I.e50)
    · exact (by
        simp only [r51, r138]
        exact I.e51)
    · exact (by
        simp only [r52, r139]
        exact I.e52)
    · exact (by
        simp only [r54, r145]
        exact I.e54)
    · exact (by
        simp only [r55, r146]
        exact I.e55)
    · exact (by
        simp only [r56, r147]
        exact I.e56)
    · exact (by
        simp only [r64, r150]
        rw [I.e64])
    · exact (by
        simp only [r65, r151]
        rw [I.e65])
    · exact (by
        simp only [r66, r152]
        rw [I.e66])
    · exact (by
        simp only [r67, r153]
        rw [I.e67])
    · exact (by
        simp only [r68, r154]
        rw [I.e68])
    · exact (by
        simp only [r69, r155]
        rw [I.e69])
    · exact (by
        simp only [r71, r156]
        exact I.e71)
    · exact (by
        simp only [r72, r157]
        exact I.e72)
    · exact (by
        simp only [r73, r158]
        exact I.e73)
    · exact (by
        simp only [r74, r125]
        exact I.e74)
    · exact (by
        simp only [r82, r140]
        exact I.e82)
    · exact (by
        simp only [r83, r141]
        exact I.e83)
    · exact (by
        simp only [r84, r143]
        exact I.e84)
    · exact (by
        simp only [r85, r144]
        exact I.e85)
    · exact (by
        simp only [r86, r142]
        exact I.e86)
    · exact (by
        simp only [r88, r168]
        exact I.e88)
    · exact (by
        simp only [r89, r169]
        exact I.e89)
    · exact (by
        simp only [r90, r170]
        exact I.e90)
    · exact (by
        simp only [r91, r171]
        exact I.e91)
    · exact (by
        simp only [r92, r167]
        exact I.e92)
    · exact (by
        simp only [r98, r174]
        exact I.e98)
    · exact (by
        simp only [r99, r175]
        exact I.e99)
    · exact (by
        simp only [f0_0, f116_1]
        exact I.f0_0)
    · exact (by
        simp only [f7_4, f116_14]
        exact I.f7_4)
    · exact (by
        simp only [f12_4, f116_15]
        exact I.f12_4)
    · exact (by
        simp only [f1_1, f116_16]
        exact I.f1_1)
    · exact (by
        simp only [f41_12, f116_45]
        exact I.f41_12)
    · exact (by
        simp only [f53_3, f116_48]
        exact I.f53_3)
    · exact (by
        simp only [f81_2, f116_46]
        exact I.f81_2)
    · exact (by
        simp only [f81_6, f116_47]
        exact I.f81_6)
    · exact (by
        simp only [f4_7, f116_65])
    · exact (by
        simp only [f70_3, f116_66]
        exact I.f70_3)
    · exact (by
        simp only [f97_2, f116_88]
        exact I.f97_2)
    · exact (by
        simp only [f7_0]
        exact I.k7)
    · exact (by
        simp only [f12_0]
        exact I.k12)
    · exact (by
        unfold RW
        simp only [f116_45, f116_48, f116_14, f116_15, r129, r130, r131, r132, r135, r137, r138, r139, r146]
        exact I.W)
    · exact (by
        unfold RS
        simp only [f116_65, f116_66, f116_45, r150, r151, r152, r153, r154, r155, r157]
        refine ⟨?_, I.S.2.1, ?_, I.S.2.2.2⟩
        · omega
        · exact fun s s0 s1 => by
            by_cases z : s = h 116 65
            · rw [z, fset_same, fset_same, fset_same, fset_same, fset_same, fset_same]; omega
            · rw [fset_ne z, fset_ne z, fset_ne z, fset_ne z, fset_ne z, fset_ne z]; exact I.S.2.2.1 s s0 (by omega))
    · exact TX_eq I.T f116_15 r124 r128
    · exact CX_eq I.X f12_4 r37 (fun p h0 h1 => funext fun j => u (17 + p) j (by omega))
    · exact (by
        simp only [f116_1]
        exact I.now)
    · exact (by
        simp only [f116_14, r118]
        exact I.il)
    · exact (by
        simp only [f116_1, f116_48, r147]
        exact I.m147)
    · exact (by
        simp only [f116_1, f116_45, r134]
        exact I.m134)
    · exact (by
        simp only [f116_1, f116_65, r155]
        exact MN_add I.m155 I.now.1)
    · exact (by
        simp only [f116_1, f116_66, r158]
        exact I.m158)
    · exact (by
        simp only [f116_1, f116_45, r49, r136]
        exact I.iu)
    · exact (by
        simp only [f41_13, f116_45, r136]
        exact I.un)
    · exact (by
        simp only [f116_45, f116_48, r145]
        exact I.ma)
    · exact (by
        simp only [f116_16, r2, r127]
        exact I.tp)
    · exact (by
        simp only [f116_45, f116_46, r140, r141]
        exact I.bn)
    · exact (by
        simp only [f116_45, f116_47, r142, r143, r144]
        exact I.po)
    · exact (by
        simp only [f116_45, f116_46, f116_47, r132, r133, r140, r141, r142, r144]
        exact fun b9 b0 b1 => by
          have cb := I.co b9 b0 b1
          
          by_cases z : b9 = p
          · rw [z] at cb
            rw [z, fset_same]; omega
          · rw [fset_ne z]; omega)
    · exact (by
        simp only [f116_45, r137]
        exact I.en)
    · exact (by
        simp only [r125]
        exact I.ta)
    · exact (by
        simp only [r167]
        exact I.ofn)
    · exact (by
        simp only [r167]
        exact I.ofc)
    · exact (by
        simp only [r168, r169, r170, r171]
        exact I.ofk)
    · exact (by
        simp only [f116_15, r121]
        exact I.tw)
    · exact (by
        simp only [f116_45, r135, r137]
        exact I.gr)
    · exact (by
        simp only [f116_65, r134, r150, r155]
        exact fun s s0 s1 => by
          by_cases z : s = h 116 65
          · rw [z, fset_same, fset_same]; exact (I.m134.2 p hp.1 hp.2).2
          · rw [fset_ne z, fset_ne z]; exact I.sd s s0 (by omega))
    · exact (by
        simp only [f116_88, r175]
        exact I.wo)
    · exact (by
        simp only [r76, r160]
        exact L.e76)
    · exact (by
        simp only [r77, r162]
        exact L.e77)
    · exact (by
        simp only [r78, r161]
        exact L.e78)
    · exact (by
        simp only [r79, r163]
        exact L.e79)
    · exact (by
        simp only [f4_15, f116_67]
        exact L.f4_15)
    · exact (by
        simp only [f4_16, f116_68]
        exact L.f4_16)
    · exact (by
        simp only [f116_67]
        exact L.li)
    · exact (by
        simp only [r160]
        exact L.bk)
  exact key _ rfl

set_option maxHeartbeats 2000000 in
theorem LI_mend {h : AH} {cs : Int → List (Int × List Int)} {p x : Int} (I : CI h cs) (L : CLN h) (hp : 0 ≤ p ∧ p < h 116 45) (hx : 1 ≤ x ∧ x ≤ 10000) (hk : h 116 48 < 100) : LI (hset (hset (hset (hset (hset (hset (hset (hset (hset h 54 (h 116 48) p) 55 (h 116 48) x) 56 (h 116 48) (h 116 1)) 53 3 (h 116 48 + 1)) 116 0 0) 145 (h 116 48) p) 146 (h 116 48) x) 147 (h 116 48) (h 116 1)) 116 48 (h 116 48 + 1)) := by
  have key : ∀ N : AH, N = (hset (hset (hset (hset (hset (hset (hset (hset (hset h 54 (h 116 48) p) 55 (h 116 48) x) 56 (h 116 48) (h 116 1)) 53 3 (h 116 48 + 1)) 116 0 0) 145 (h 116 48) p) 146 (h 116 48) x) 147 (h 116 48) (h 116 1)) 116 48 (h 116 48 + 1)) → LI N := fun N hN => by
    have u : ∀ c j, ¬ ((c = 116 ∧ j = 48) ∨ c = 147 ∨ c = 146 ∨ c = 145 ∨ (c = 116 ∧ j = 0) ∨ (c = 53 ∧ j = 3) ∨ c = 56 ∨ c = 55 ∨ c = 54) → N c j = h c j := fun c j q => by
      rw [hN, hset_ne _ (by omega), hset_ne _ (by omega), hset_ne _ (by omega), hset_ne _ (by omega), hset_ne _ (by omega), hset_ne _ (by omega), hset_ne _ (by omega), hset_ne _ (by omega), hset_ne _ (by omega)]
    have r2 : N 2 = h 2 := funext fun j => u 2 j (by omega)
    have r8 : N 8 = h 8 := funext fun j => u 8 j (by omega)
    have r9 : N 9 = h 9 := funext fun j => u 9 j (by omega)
    have r10 : N 10 = h 10 := funext fun j => u 10 j (by omega)
    have r11 : N 11 = h 11 := funext fun j => u 11 j (by omega)
    have r13 : N 13 = h 13 := funext fun j => u 13 j (by omega)
    have r14 : N 14 = h 14 := funext fun j => u 14 j (by omega)
    have r15 : N 15 = h 15 := funext fun j => u 15 j (by omega)
    have r37 : N 37 = h 37 := funext fun j => u 37 j (by omega)
    have r42 : N 42 = h 42 := funext fun j => u 42 j (by omega)
    have r43 : N 43 = h 43 := funext fun j => u 43 j (by omega)
    have r44 : N 44 = h 44 := funext fun j => u 44 j (by omega)
    have r45 : N 45 = h 45 := funext fun j => u 45 j (by omega)
    have r46 : N 46 = h 46 := funext fun j => u 46 j (by omega)
    have r47 : N 47 = h 47 := funext fun j => u 47 j (by omega)
    have r48 : N 48 = h 48 := funext fun j => u 48 j (by omega)
    have r49 : N 49 = h 49 := funext fun j => u 49 j (by omega)
    have r50 : N 50 = h 50 := funext fun j => u 50 j (by omega)
    have r51 : N 51 = h 51 := funext fun j => u 51 j (by omega)
    have r52 : N 52 = h 52 := funext fun j => u 52 j (by omega)
    have r54 : N 54 = (fset (h 54) (h 116 48) p) := by rw [hN, hset_r (by decide), hset_r (by decide), hset_r (by decide), hset_r (by decide), hset_r (by decide), hset_r (by decide), hset_r (by decide), hset_r (by decide), hset_f]
    have r55 : N 55 = (fset (h 55) (h 116 48) x) := by rw [hN, hset_r (by decide), hset_r (by decide), hset_r (by decide), hset_r (by decide), hset_r (by decide), hset_r (by decide), hset_r (by decide), hset_f, hset_r (by decide)]
    have r56 : N 56 = (fset (h 56) (h 116 48) (h 116 1)) := by rw [hN, hset_r (by decide), hset_r (by decide), hset_r (by decide), hset_r (by decide), hset_r (by decide), hset_r (by decide), hset_f, hset_r (by decide), hset_r (by decide)]
    have r64 : N 64 = h 64 := funext fun j => u 64 j (by omega)
    have r65 : N 65 = h 65 := funext fun j => u 65 j (by omega)
    have r66 : N 66 = h 66 := funext fun j => u 66 j (by omega)
    have r67 : N 67 = h 67 := funext fun j => u 67 j (by omega)
    have r68 : N 68 = h 68 := funext fun j => u 68 j (by omega)
    have r69 : N 69 = h 69 := funext fun j => u 69 j (by omega)
    have r71 : N 71 = h 71 := funext fun j => u 71 j (by omega)
    have r72 : N 72 = h 72 := funext fun j => u 72 j (by omega)
    have r73 : N 73 = h 73 := funext fun j => u 73 j (by omega)
    have r74 : N 74 = h 74 := funext fun j => u 74 j (by omega)
    have r82 : N 82 = h 82 := funext fun j => u 82 j (by omega)
    have r83 : N 83 = h 83 := funext fun j => u 83 j (by omega)
    have r84 : N 84 = h 84 := funext fun j => u 84 j (by omega)
    have r85 : N 85 = h 85 := funext fun j => u 85 j (by omega)
    have r86 : N 86 = h 86 := funext fun j => u 86 j (by omega)
    have r88 : N 88 = h 88 := funext fun j => u 88 j (by omega)
    have r89 : N 89 = h 89 := funext fun j => u 89 j (by omega)
    have r90 : N 90 = h 90 := funext fun j => u 90 j (by omega)
    have r91 : N 91 = h 91 := funext fun j => u 91 j (by omega)
    have r92 : N 92 = h 92 := funext fun j => u 92 j (by omega)
    have r98 : N 98 = h 98 := funext fun j => u 98 j (by omega)
    have r99 : N 99 = h 99 := funext fun j => u 99 j (by omega)
    have r117 : N 117 = h 117 := funext fun j => u 117 j (by omega)
    have r118 : N 118 = h 118 := funext fun j => u 118 j (by omega)
    have r119 : N 119 = h 119 := funext fun j => u 119 j (by omega)
    have r120 : N 120 = h 120 := funext fun j => u 120 j (by omega)
    have r121 : N 121 = h 121 := funext fun j => u 121 j (by omega)
    have r122 : N 122 = h 122 := funext fun j => u 122 j (by omega)
    have r123 : N 123 = h 123 := funext fun j => u 123 j (by omega)
    have r124 : N 124 = h 124 := funext fun j => u 124 j (by omega)
    have r125 : N 125 = h 125 := funext fun j => u 125 j (by omega)
    have r127 : N 127 = h 127 := funext fun j => u 127 j (by omega)
    have r128 : N 128 = h 128 := funext fun j => u 128 j (by omega)
    have r129 : N 129 = h 129 := funext fun j => u 129 j (by omega)
    have r130 : N 130 = h 130 := funext fun j => u 130 j (by omega)
    have r131 : N 131 = h 131 := funext fun j => u 131 j (by omega)
    have r132 : N 132 = h 132 := funext fun j => u 132 j (by omega)
    have r133 : N 133 = h 133 := funext fun j => u 133 j (by omega)
    have r134 : N 134 = h 134 := funext fun j => u 134 j (by omega)
    have r135 : N 135 = h 135 := funext fun j => u 135 j (by omega)
    have r136 : N 136 = h 136 := funext fun j => u 136 j (by omega)
    have r137 : N 137 = h 137 := funext fun j => u 137 j (by omega)
    have r138 : N 138 = h 138 := funext fun j => u 138 j (by omega)
    have r139 : N 139 = h 139 := funext fun j => u 139 j (by omega)
    have r140 : N 140 = h 140 := funext fun j => u 140 j (by omega)
    have r141 : N 141 = h 141 := funext fun j => u 141 j (by omega)
    have r142 : N 142 = h 142 := funext fun j => u 142 j (by omega)
    have r143 : N 143 = h 143 := funext fun j => u 143 j (by omega)
    have r144 : N 144 = h 144 := funext fun j => u 144 j (by omega)
    have r145 : N 145 = (fset (h 145) (h 116 48) p) := by rw [hN, hset_r (by decide), hset_r (by decide), hset_r (by decide), hset_f, hset_r (by decide), hset_r (by decide), hset_r (by decide), hset_r (by decide), hset_r (by decide)]
    have r146 : N 146 = (fset (h 146) (h 116 48) x) := by rw [hN, hset_r (by decide), hset_r (by decide), hset_f, hset_r (by decide), hset_r (by decide), hset_r (by decide), hset_r (by decide), hset_r (by decide), hset_r (by decide)]
    have r147 : N 147 = (fset (h 147) (h 116 48) (h 116 1)) := by rw [hN, hset_r (by decide), hset_f, hset_r (by decide), hset_r (by decide), hset_r (by decide), hset_r (by decide), hset_r (by decide), hset_r (by decide), hset_r (by decide)]
    have r150 : N 150 = h 150 := funext fun j => u 150 j (by omega)
    have r151 : N 151 = h 151 := funext fun j => u 151 j (by omega)
    have r152 : N 152 = h 152 := funext fun j => u 152 j (by omega)
    have r153 : N 153 = h 153 := funext fun j => u 153 j (by omega)
    have r154 : N 154 = h 154 := funext fun j => u 154 j (by omega)
    have r155 : N 155 = h 155 := funext fun j => u 155 j (by omega)
    have r156 : N 156 = h 156 := funext fun j => u 156 j (by omega)
    have r157 : N 157 = h 157 := funext fun j => u 157 j (by omega)
    have r158 : N 158 = h 158 := funext fun j => u 158 j (by omega)
    have r167 : N 167 = h 167 := funext fun j => u 167 j (by omega)
    have r168 : N 168 = h 168 := funext fun j => u 168 j (by omega)
    have r169 : N 169 = h 169 := funext fun j => u 169 j (by omega)
    have r170 : N 170 = h 170 := funext fun j => u 170 j (by omega)
    have r171 : N 171 = h 171 := funext fun j => u 171 j (by omega)
    have r174 : N 174 = h 174 := funext fun j => u 174 j (by omega)
    have r175 : N 175 = h 175 := funext fun j => u 175 j (by omega)
    have r76 : N 76 = h 76 := funext fun j => u 76 j (by omega)
    have r77 : N 77 = h 77 := funext fun j => u 77 j (by omega)
    have r78 : N 78 = h 78 := funext fun j => u 78 j (by omega)
    have r79 : N 79 = h 79 := funext fun j => u 79 j (by omega)
    have r160 : N 160 = h 160 := funext fun j => u 160 j (by omega)
    have r161 : N 161 = h 161 := funext fun j => u 161 j (by omega)
    have r162 : N 162 = h 162 := funext fun j => u 162 j (by omega)
    have r163 : N 163 = h 163 := funext fun j => u 163 j (by omega)
    have f0_0 : N 0 0 = h 0 0 := u 0 0 (by omega)
    have f1_1 : N 1 1 = h 1 1 := u 1 1 (by omega)
    have f4_7 : N 4 7 = h 4 7 := u 4 7 (by omega)
    have f7_0 : N 7 0 = h 7 0 := u 7 0 (by omega)
    have f7_4 : N 7 4 = h 7 4 := u 7 4 (by omega)
    have f12_0 : N 12 0 = h 12 0 := u 12 0 (by omega)
    have f12_4 : N 12 4 = h 12 4 := u 12 4 (by omega)
    have f41_12 : N 41 12 = h 41 12 := u 41 12 (by omega)
    have f41_13 : N 41 13 = h 41 13 := u 41 13 (by omega)
    have f53_3 : N 53 3 = (h 116 48 + 1) := (congrFun (congrFun hN 53) 3).trans ((hset_c (by decide)).trans ((hset_c (by decide)).trans ((hset_c (by decide)).trans ((hset_c (by decide)).trans ((hset_c (by decide)).trans (hset_same _ _ _ _))))))
    have f70_3 : N 70 3 = h 70 3 := u 70 3 (by omega)
    have f81_2 : N 81 2 = h 81 2 := u 81 2 (by omega)
    have f81_6 : N 81 6 = h 81 6 := u 81 6 (by omega)
    have f97_2 : N 97 2 = h 97 2 := u 97 2 (by omega)
    have f116_1 : N 116 1 = h 116 1 := u 116 1 (by omega)
    have f116_14 : N 116 14 = h 116 14 := u 116 14 (by omega)
    have f116_15 : N 116 15 = h 116 15 := u 116 15 (by omega)
    have f116_16 : N 116 16 = h 116 16 := u 116 16 (by omega)
    have f116_45 : N 116 45 = h 116 45 := u 116 45 (by omega)
    have f116_46 : N 116 46 = h 116 46 := u 116 46 (by omega)
    have f116_47 : N 116 47 = h 116 47 := u 116 47 (by omega)
    have f116_48 : N 116 48 = (h 116 48 + 1) := (congrFun (congrFun hN 116) 48).trans (hset_same _ _ _ _)
    have f116_65 : N 116 65 = h 116 65 := u 116 65 (by omega)
    have f116_66 : N 116 66 = h 116 66 := u 116 66 (by omega)
    have f116_88 : N 116 88 = h 116 88 := u 116 88 (by omega)
    have f4_15 : N 4 15 = h 4 15 := u 4 15 (by omega)
    have f4_16 : N 4 16 = h 4 16 := u 4 16 (by omega)
    have f116_67 : N 116 67 = h 116 67 := u 116 67 (by omega)
    have f116_68 : N 116 68 = h 116 68 := u 116 68 (by omega)
    refine ⟨cs, ⟨?_, ?_, ?_, ?_, ?_, ?_, ?_, ?_, ?_, ?_, ?_, ?_, ?_, ?_, ?_, ?_, ?_, ?_, ?_, ?_, ?_, ?_, ?_, ?_, ?_, ?_, ?_, ?_, ?_, ?_, ?_, ?_, ?_, ?_, ?_, ?_, ?_, ?_, ?_, ?_, ?_, ?_, ?_, ?_, ?_, ?_, ?_, ?_, ?_, ?_, ?_, ?_, ?_, ?_, ?_, ?_, ?_, ?_, ?_, ?_, ?_, ?_, ?_, ?_, ?_, ?_, ?_, ?_, ?_, ?_, ?_, ?_, ?_, ?_, ?_, ?_, ?_, ?_, ?_, ?_, ?_⟩, ⟨?_, ?_, ?_, ?_, ?_, ?_, ?_, ?_⟩⟩
    · exact (by
        simp only [r8, r117]
        exact I.e8)
    · exact (by
        simp only [r9, r119]
        exact I.e9)
    · exact (by
        simp only [r10, r120]
        exact I.e10)
    · exact (by
        simp only [r11, r118]
        exact I.e11)
    · exact (by
        simp only [r13, r121]
        exact I.e13)
    · exact (by
        simp only [r14, r122]
        exact I.e14)
    · exact (by
        simp only [r15, r123]
        exact I.e15)
    · exact (by
        simp only [r42, r129]
        exact I.e42)
    · exact (by
        simp only [r43, r130]
        exact I.e43)
    · exact (by
        simp only [r44, r131]
        exact I.e44)
    · exact (by
        simp only [r45, r132]
        exact I.e45)
    · exact (by
        simp only [r46, r133]
        exact I.e46)
    · exact (by
        simp only [r47, r134]
        exact I.e47)
    · exact (by
        simp only [r48, r135]
        exact I.e48)
    · exact (by
        simp only [r50, r137]
        exact I.e50)
    · exact (by
        simp only [r51, r138]
        exact I.e51)
    · exact (by
        simp only [r52, r139]
        exact I.e52)
    · exact (by
        simp only [r54, r145]
        rw [I.e54])
    · exact (by
        simp only [r55, r146]
        rw [I.e55])
    · exact (by
        simp only [r56, r147]
        rw [I.e56])
    · exact (by
        simp only [r64, r150]
        exact I.e64)
    · exact (by
        simp only [r65, r151]
        exact I.e65)
    · exact (by
        simp only [r66, r152]
        exact I.e66)
    · exact (by
        simp only [r67, r153]
        exact I.e67)
    · exact (by
        simp only [r68, r154]
        exact I.e68)
    · exact (by
        simp only [r69, r155]
        exact I.e69)
    · exact (by
        simp only [r71, r156]
        exact I.e71)
    · exact (by
        simp only [r72, r157]
        exact I.e72)
    · exact (by
        simp only [r73, r158]
        exact I.e73)
    · exact (by
        simp only [r74, r125]
        exact I.e74)
    · exact (by
        simp only [r82, r140]
        exact I.e82)
    · exact (by
        simp only [r83, r141]
        exact I.e83)
    · exact (by
        simp only [r84, r143]
        exact I.e84)
    · exact (by
        simp only [r85, r144]
        exact I.e85)
    · exact (by
        simp only [r86, r142]
        exact I.e86)
    · exact (by
        simp only [r88, r168]
        exact I.e88)
    · exact (by
        simp only [r89, r169]
        exact I.e89)
    · exact (by
        simp only [r90, r170]
        exact I.e90)
    · exact (by
        simp only [r91, r171]
        exact I.e91)
    · exact (by
        simp only [r92, r167]
        exact I.e92)
    · exact (by
        simp only [r98, r174]
        exact I.e98)
    · exact (by
        simp only [r99, r175]
        exact I.e99)
    · exact (by
        simp only [f0_0, f116_1]
        exact I.f0_0)
    · exact (by
        simp only [f7_4, f116_14]
        exact I.f7_4)
    · exact (by
        simp only [f12_4, f116_15]
        exact I.f12_4)
    · exact (by
        simp only [f1_1, f116_16]
        exact I.f1_1)
    · exact (by
        simp only [f41_12, f116_45]
        exact I.f41_12)
    · exact (by
        simp only [f53_3, f116_48])
    · exact (by
        simp only [f81_2, f116_46]
        exact I.f81_2)
    · exact (by
        simp only [f81_6, f116_47]
        exact I.f81_6)
    · exact (by
        simp only [f4_7, f116_65]
        exact I.f4_7)
    · exact (by
        simp only [f70_3, f116_66]
        exact I.f70_3)
    · exact (by
        simp only [f97_2, f116_88]
        exact I.f97_2)
    · exact (by
        simp only [f7_0]
        exact I.k7)
    · exact (by
        simp only [f12_0]
        exact I.k12)
    · exact (by
        unfold RW
        simp only [f116_45, f116_48, f116_14, f116_15, r129, r130, r131, r132, r135, r137, r138, r139, r146]
        refine ⟨I.W.nb, ?_, I.W.nw, I.W.nt, I.W.la, I.W.he, I.W.pr, I.W.ma, I.W.ps, I.W.en, I.W.eo, I.W.em, ?_⟩
        · have := I.W.nm
          omega
        · exact fs_all (P := fun y => 1 ≤ y ∧ y ≤ 10000) I.W.mp hx)
    · exact (by
        unfold RS
        simp only [f116_65, f116_66, f116_45, r150, r151, r152, r153, r154, r155, r157]
        exact I.S)
    · exact TX_eq I.T f116_15 r124 r128
    · exact CX_eq I.X f12_4 r37 (fun p h0 h1 => funext fun j => u (17 + p) j (by omega))
    · exact (by
        simp only [f116_1]
        exact I.now)
    · exact (by
        simp only [f116_14, r118]
        exact I.il)
    · exact (by
        simp only [f116_1, f116_48, r147]
        exact MN_add I.m147 I.now.1)
    · exact (by
        simp only [f116_1, f116_45, r134]
        exact I.m134)
    · exact (by
        simp only [f116_1, f116_65, r155]
        exact I.m155)
    · exact (by
        simp only [f116_1, f116_66, r158]
        exact I.m158)
    · exact (by
        simp only [f116_1, f116_45, r49, r136]
        exact I.iu)
    · exact (by
        simp only [f41_13, f116_45, r136]
        exact I.un)
    · exact (by
        simp only [f116_45, f116_48, r145]
        exact fs_all (P := fun y => 0 ≤ y ∧ y < h 116 45) I.ma hp)
    · exact (by
        simp only [f116_16, r2, r127]
        exact I.tp)
    · exact (by
        simp only [f116_45, f116_46, r140, r141]
        exact I.bn)
    · exact (by
        simp only [f116_45, f116_47, r142, r143, r144]
        exact I.po)
    · exact (by
        simp only [f116_45, f116_46, f116_47, r132, r133, r140, r141, r142, r144]
        exact I.co)
    · exact (by
        simp only [f116_45, r137]
        exact I.en)
    · exact (by
        simp only [r125]
        exact I.ta)
    · exact (by
        simp only [r167]
        exact I.ofn)
    · exact (by
        simp only [r167]
        exact I.ofc)
    · exact (by
        simp only [r168, r169, r170, r171]
        exact I.ofk)
    · exact (by
        simp only [f116_15, r121]
        exact I.tw)
    · exact (by
        simp only [f116_45, r135, r137]
        exact I.gr)
    · exact (by
        simp only [f116_65, r134, r150, r155]
        exact I.sd)
    · exact (by
        simp only [f116_88, r175]
        exact I.wo)
    · exact (by
        simp only [r76, r160]
        exact L.e76)
    · exact (by
        simp only [r77, r162]
        exact L.e77)
    · exact (by
        simp only [r78, r161]
        exact L.e78)
    · exact (by
        simp only [r79, r163]
        exact L.e79)
    · exact (by
        simp only [f4_15, f116_67]
        exact L.f4_15)
    · exact (by
        simp only [f4_16, f116_68]
        exact L.f4_16)
    · exact (by
        simp only [f116_67]
        exact L.li)
    · exact (by
        simp only [r160]
        exact L.bk)
  exact key _ rfl

set_option maxHeartbeats 2000000 in
theorem LI_paper {h : AH} {cs : Int → List (Int × List Int)} {p x : Int} (I : CI h cs) (L : CLN h) (hp : 0 ≤ p ∧ p < h 116 65) (hx : 0 ≤ x ∧ x ≤ 2000) (hk : h 116 66 < 100) : LI (hset (hset (hset (hset (hset (hset (hset (hset (hset h 71 (h 116 66) p) 72 (h 116 66) x) 73 (h 116 66) (h 116 1)) 70 3 (h 116 66 + 1)) 116 0 0) 156 (h 116 66) p) 157 (h 116 66) x) 158 (h 116 66) (h 116 1)) 116 66 (h 116 66 + 1)) := by
  have key : ∀ N : AH, N = (hset (hset (hset (hset (hset (hset (hset (hset (hset h 71 (h 116 66) p) 72 (h 116 66) x) 73 (h 116 66) (h 116 1)) 70 3 (h 116 66 + 1)) 116 0 0) 156 (h 116 66) p) 157 (h 116 66) x) 158 (h 116 66) (h 116 1)) 116 66 (h 116 66 + 1)) → LI N := fun N hN => by
    have u : ∀ c j, ¬ ((c = 116 ∧ j = 66) ∨ c = 158 ∨ c = 157 ∨ c = 156 ∨ (c = 116 ∧ j = 0) ∨ (c = 70 ∧ j = 3) ∨ c = 73 ∨ c = 72 ∨ c = 71) → N c j = h c j := fun c j q => by
      rw [hN, hset_ne _ (by omega), hset_ne _ (by omega), hset_ne _ (by omega), hset_ne _ (by omega), hset_ne _ (by omega), hset_ne _ (by omega), hset_ne _ (by omega), hset_ne _ (by omega), hset_ne _ (by omega)]
    have r2 : N 2 = h 2 := funext fun j => u 2 j (by omega)
    have r8 : N 8 = h 8 := funext fun j => u 8 j (by omega)
    have r9 : N 9 = h 9 := funext fun j => u 9 j (by omega)
    have r10 : N 10 = h 10 := funext fun j => u 10 j (by omega)
    have r11 : N 11 = h 11 := funext fun j => u 11 j (by omega)
    have r13 : N 13 = h 13 := funext fun j => u 13 j (by omega)
    have r14 : N 14 = h 14 := funext fun j => u 14 j (by omega)
    have r15 : N 15 = h 15 := funext fun j => u 15 j (by omega)
    have r37 : N 37 = h 37 := funext fun j => u 37 j (by omega)
    have r42 : N 42 = h 42 := funext fun j => u 42 j (by omega)
    have r43 : N 43 = h 43 := funext fun j => u 43 j (by omega)
    have r44 : N 44 = h 44 := funext fun j => u 44 j (by omega)
    have r45 : N 45 = h 45 := funext fun j => u 45 j (by omega)
    have r46 : N 46 = h 46 := funext fun j => u 46 j (by omega)
    have r47 : N 47 = h 47 := funext fun j => u 47 j (by omega)
    have r48 : N 48 = h 48 := funext fun j => u 48 j (by omega)
    have r49 : N 49 = h 49 := funext fun j => u 49 j (by omega)
    have r50 : N 50 = h 50 := funext fun j => u 50 j (by omega)
    have r51 : N 51 = h 51 := funext fun j => u 51 j (by omega)
    have r52 : N 52 = h 52 := funext fun j => u 52 j (by omega)
    have r54 : N 54 = h 54 := funext fun j => u 54 j (by omega)
    have r55 : N 55 = h 55 := funext fun j => u 55 j (by omega)
    have r56 : N 56 = h 56 := funext fun j => u 56 j (by omega)
    have r64 : N 64 = h 64 := funext fun j => u 64 j (by omega)
    have r65 : N 65 = h 65 := funext fun j => u 65 j (by omega)
    have r66 : N 66 = h 66 := funext fun j => u 66 j (by omega)
    have r67 : N 67 = h 67 := funext fun j => u 67 j (by omega)
    have r68 : N 68 = h 68 := funext fun j => u 68 j (by omega)
    have r69 : N 69 = h 69 := funext fun j => u 69 j (by omega)
    have r71 : N 71 = (fset (h 71) (h 116 66) p) := by rw [hN, hset_r (by decide), hset_r (by decide), hset_r (by decide), hset_r (by decide), hset_r (by decide), hset_r (by decide), hset_r (by decide), hset_r (by decide), hset_f]
    have r72 : N 72 = (fset (h 72) (h 116 66) x) := by rw [hN, hset_r (by decide), hset_r (by decide), hset_r (by decide), hset_r (by decide), hset_r (by decide), hset_r (by decide), hset_r (by decide), hset_f, hset_r (by decide)]
    have r73 : N 73 = (fset (h 73) (h 116 66) (h 116 1)) := by rw [hN, hset_r (by decide), hset_r (by decide), hset_r (by decide), hset_r (by decide), hset_r (by decide), hset_r (by decide), hset_f, hset_r (by decide), hset_r (by decide)]
    have r74 : N 74 = h 74 := funext fun j => u 74 j (by omega)
    have r82 : N 82 = h 82 := funext fun j => u 82 j (by omega)
    have r83 : N 83 = h 83 := funext fun j => u 83 j (by omega)
    have r84 : N 84 = h 84 := funext fun j => u 84 j (by omega)
    have r85 : N 85 = h 85 := funext fun j => u 85 j (by omega)
    have r86 : N 86 = h 86 := funext fun j => u 86 j (by omega)
    have r88 : N 88 = h 88 := funext fun j => u 88 j (by omega)
    have r89 : N 89 = h 89 := funext fun j => u 89 j (by omega)
    have r90 : N 90 = h 90 := funext fun j => u 90 j (by omega)
    have r91 : N 91 = h 91 := funext fun j => u 91 j (by omega)
    have r92 : N 92 = h 92 := funext fun j => u 92 j (by omega)
    have r98 : N 98 = h 98 := funext fun j => u 98 j (by omega)
    have r99 : N 99 = h 99 := funext fun j => u 99 j (by omega)
    have r117 : N 117 = h 117 := funext fun j => u 117 j (by omega)
    have r118 : N 118 = h 118 := funext fun j => u 118 j (by omega)
    have r119 : N 119 = h 119 := funext fun j => u 119 j (by omega)
    have r120 : N 120 = h 120 := funext fun j => u 120 j (by omega)
    have r121 : N 121 = h 121 := funext fun j => u 121 j (by omega)
    have r122 : N 122 = h 122 := funext fun j => u 122 j (by omega)
    have r123 : N 123 = h 123 := funext fun j => u 123 j (by omega)
    have r124 : N 124 = h 124 := funext fun j => u 124 j (by omega)
    have r125 : N 125 = h 125 := funext fun j => u 125 j (by omega)
    have r127 : N 127 = h 127 := funext fun j => u 127 j (by omega)
    have r128 : N 128 = h 128 := funext fun j => u 128 j (by omega)
    have r129 : N 129 = h 129 := funext fun j => u 129 j (by omega)
    have r130 : N 130 = h 130 := funext fun j => u 130 j (by omega)
    have r131 : N 131 = h 131 := funext fun j => u 131 j (by omega)
    have r132 : N 132 = h 132 := funext fun j => u 132 j (by omega)
    have r133 : N 133 = h 133 := funext fun j => u 133 j (by omega)
    have r134 : N 134 = h 134 := funext fun j => u 134 j (by omega)
    have r135 : N 135 = h 135 := funext fun j => u 135 j (by omega)
    have r136 : N 136 = h 136 := funext fun j => u 136 j (by omega)
    have r137 : N 137 = h 137 := funext fun j => u 137 j (by omega)
    have r138 : N 138 = h 138 := funext fun j => u 138 j (by omega)
    have r139 : N 139 = h 139 := funext fun j => u 139 j (by omega)
    have r140 : N 140 = h 140 := funext fun j => u 140 j (by omega)
    have r141 : N 141 = h 141 := funext fun j => u 141 j (by omega)
    have r142 : N 142 = h 142 := funext fun j => u 142 j (by omega)
    have r143 : N 143 = h 143 := funext fun j => u 143 j (by omega)
    have r144 : N 144 = h 144 := funext fun j => u 144 j (by omega)
    have r145 : N 145 = h 145 := funext fun j => u 145 j (by omega)
    have r146 : N 146 = h 146 := funext fun j => u 146 j (by omega)
    have r147 : N 147 = h 147 := funext fun j => u 147 j (by omega)
    have r150 : N 150 = h 150 := funext fun j => u 150 j (by omega)
    have r151 : N 151 = h 151 := funext fun j => u 151 j (by omega)
    have r152 : N 152 = h 152 := funext fun j => u 152 j (by omega)
    have r153 : N 153 = h 153 := funext fun j => u 153 j (by omega)
    have r154 : N 154 = h 154 := funext fun j => u 154 j (by omega)
    have r155 : N 155 = h 155 := funext fun j => u 155 j (by omega)
    have r156 : N 156 = (fset (h 156) (h 116 66) p) := by rw [hN, hset_r (by decide), hset_r (by decide), hset_r (by decide), hset_f, hset_r (by decide), hset_r (by decide), hset_r (by decide), hset_r (by decide), hset_r (by decide)]
    have r157 : N 157 = (fset (h 157) (h 116 66) x) := by rw [hN, hset_r (by decide), hset_r (by decide), hset_f, hset_r (by decide), hset_r (by decide), hset_r (by decide), hset_r (by decide), hset_r (by decide), hset_r (by decide)]
    have r158 : N 158 = (fset (h 158) (h 116 66) (h 116 1)) := by rw [hN, hset_r (by decide), hset_f, hset_r (by decide), hset_r (by decide), hset_r (by decide), hset_r (by decide), hset_r (by decide), hset_r (by decide), hset_r (by decide)]
    have r167 : N 167 = h 167 := funext fun j => u 167 j (by omega)
    have r168 : N 168 = h 168 := funext fun j => u 168 j (by omega)
    have r169 : N 169 = h 169 := funext fun j => u 169 j (by omega)
    have r170 : N 170 = h 170 := funext fun j => u 170 j (by omega)
    have r171 : N 171 = h 171 := funext fun j => u 171 j (by omega)
    have r174 : N 174 = h 174 := funext fun j => u 174 j (by omega)
    have r175 : N 175 = h 175 := funext fun j => u 175 j (by omega)
    have r76 : N 76 = h 76 := funext fun j => u 76 j (by omega)
    have r77 : N 77 = h 77 := funext fun j => u 77 j (by omega)
    have r78 : N 78 = h 78 := funext fun j => u 78 j (by omega)
    have r79 : N 79 = h 79 := funext fun j => u 79 j (by omega)
    have r160 : N 160 = h 160 := funext fun j => u 160 j (by omega)
    have r161 : N 161 = h 161 := funext fun j => u 161 j (by omega)
    have r162 : N 162 = h 162 := funext fun j => u 162 j (by omega)
    have r163 : N 163 = h 163 := funext fun j => u 163 j (by omega)
    have f0_0 : N 0 0 = h 0 0 := u 0 0 (by omega)
    have f1_1 : N 1 1 = h 1 1 := u 1 1 (by omega)
    have f4_7 : N 4 7 = h 4 7 := u 4 7 (by omega)
    have f7_0 : N 7 0 = h 7 0 := u 7 0 (by omega)
    have f7_4 : N 7 4 = h 7 4 := u 7 4 (by omega)
    have f12_0 : N 12 0 = h 12 0 := u 12 0 (by omega)
    have f12_4 : N 12 4 = h 12 4 := u 12 4 (by omega)
    have f41_12 : N 41 12 = h 41 12 := u 41 12 (by omega)
    have f41_13 : N 41 13 = h 41 13 := u 41 13 (by omega)
    have f53_3 : N 53 3 = h 53 3 := u 53 3 (by omega)
    have f70_3 : N 70 3 = (h 116 66 + 1) := (congrFun (congrFun hN 70) 3).trans ((hset_c (by decide)).trans ((hset_c (by decide)).trans ((hset_c (by decide)).trans ((hset_c (by decide)).trans ((hset_c (by decide)).trans (hset_same _ _ _ _))))))
    have f81_2 : N 81 2 = h 81 2 := u 81 2 (by omega)
    have f81_6 : N 81 6 = h 81 6 := u 81 6 (by omega)
    have f97_2 : N 97 2 = h 97 2 := u 97 2 (by omega)
    have f116_1 : N 116 1 = h 116 1 := u 116 1 (by omega)
    have f116_14 : N 116 14 = h 116 14 := u 116 14 (by omega)
    have f116_15 : N 116 15 = h 116 15 := u 116 15 (by omega)
    have f116_16 : N 116 16 = h 116 16 := u 116 16 (by omega)
    have f116_45 : N 116 45 = h 116 45 := u 116 45 (by omega)
    have f116_46 : N 116 46 = h 116 46 := u 116 46 (by omega)
    have f116_47 : N 116 47 = h 116 47 := u 116 47 (by omega)
    have f116_48 : N 116 48 = h 116 48 := u 116 48 (by omega)
    have f116_65 : N 116 65 = h 116 65 := u 116 65 (by omega)
    have f116_66 : N 116 66 = (h 116 66 + 1) := (congrFun (congrFun hN 116) 66).trans (hset_same _ _ _ _)
    have f116_88 : N 116 88 = h 116 88 := u 116 88 (by omega)
    have f4_15 : N 4 15 = h 4 15 := u 4 15 (by omega)
    have f4_16 : N 4 16 = h 4 16 := u 4 16 (by omega)
    have f116_67 : N 116 67 = h 116 67 := u 116 67 (by omega)
    have f116_68 : N 116 68 = h 116 68 := u 116 68 (by omega)
    refine ⟨cs, ⟨?_, ?_, ?_, ?_, ?_, ?_, ?_, ?_, ?_, ?_, ?_, ?_, ?_, ?_, ?_, ?_, ?_, ?_, ?_, ?_, ?_, ?_, ?_, ?_, ?_, ?_, ?_, ?_, ?_, ?_, ?_, ?_, ?_, ?_, ?_, ?_, ?_, ?_, ?_, ?_, ?_, ?_, ?_, ?_, ?_, ?_, ?_, ?_, ?_, ?_, ?_, ?_, ?_, ?_, ?_, ?_, ?_, ?_, ?_, ?_, ?_, ?_, ?_, ?_, ?_, ?_, ?_, ?_, ?_, ?_, ?_, ?_, ?_, ?_, ?_, ?_, ?_, ?_, ?_, ?_, ?_⟩, ⟨?_, ?_, ?_, ?_, ?_, ?_, ?_, ?_⟩⟩
    · exact (by
        simp only [r8, r117]
        exact I.e8)
    · exact (by
        simp only [r9, r119]
        exact I.e9)
    · exact (by
        simp only [r10, r120]
        exact I.e10)
    · exact (by
        simp only [r11, r118]
        exact I.e11)
    · exact (by
        simp only [r13, r121]
        exact I.e13)
    · exact (by
        simp only [r14, r122]
        exact I.e14)
    · exact (by
        simp only [r15, r123]
        exact I.e15)
    · exact (by
        simp only [r42, r129]
        exact I.e42)
    · exact (by
        simp only [r43, r130]
        exact I.e43)
    · exact (by
        simp only [r44, r131]
        exact I.e44)
    · exact (by
        simp only [r45, r132]
        exact I.e45)
    · exact (by
        simp only [r46, r133]
        exact I.e46)
    · exact (by
        simp only [r47, r134]
        exact I.e47)
    · exact (by
        simp only [r48, r135]
        exact I.e48)
    · exact (by
        simp only [r50, r137]
        exact I.e50)
    · exact (by
        simp only [r51, r138]
        exact I.e51)
    · exact (by
        simp only [r52, r139]
        exact I.e52)
    · exact (by
        simp only [r54, r145]
        exact I.e54)
    · exact (by
        simp only [r55, r146]
        exact I.e55)
    · exact (by
        simp only [r56, r147]
        exact I.e56)
    · exact (by
        simp only [r64, r150]
        exact I.e64)
    · exact (by
        simp only [r65, r151]
        exact I.e65)
    · exact (by
        simp only [r66, r152]
        exact I.e66)
    · exact (by
        simp only [r67, r153]
        exact I.e67)
    · exact (by
        simp only [r68, r154]
        exact I.e68)
    · exact (by
        simp only [r69, r155]
        exact I.e69)
    · exact (by
        simp only [r71, r156]
        rw [I.e71])
    · exact (by
        simp only [r72, r157]
        rw [I.e72])
    · exact (by
        simp only [r73, r158]
        rw [I.e73])
    · exact (by
        simp only [r74, r125]
        exact I.e74)
    · exact (by
        simp only [r82, r140]
        exact I.e82)
    · exact (by
        simp only [r83, r141]
        exact I.e83)
    · exact (by
        simp only [r84, r143]
        exact I.e84)
    · exact (by
        simp only [r85, r144]
        exact I.e85)
    · exact (by
        simp only [r86, r142]
        exact I.e86)
    · exact (by
        simp only [r88, r168]
        exact I.e88)
    · exact (by
        simp only [r89, r169]
        exact I.e89)
    · exact (by
        simp only [r90, r170]
        exact I.e90)
    · exact (by
        simp only [r91, r171]
        exact I.e91)
    · exact (by
        simp only [r92, r167]
        exact I.e92)
    · exact (by
        simp only [r98, r174]
        exact I.e98)
    · exact (by
        simp only [r99, r175]
        exact I.e99)
    · exact (by
        simp only [f0_0, f116_1]
        exact I.f0_0)
    · exact (by
        simp only [f7_4, f116_14]
        exact I.f7_4)
    · exact (by
        simp only [f12_4, f116_15]
        exact I.f12_4)
    · exact (by
        simp only [f1_1, f116_16]
        exact I.f1_1)
    · exact (by
        simp only [f41_12, f116_45]
        exact I.f41_12)
    · exact (by
        simp only [f53_3, f116_48]
        exact I.f53_3)
    · exact (by
        simp only [f81_2, f116_46]
        exact I.f81_2)
    · exact (by
        simp only [f81_6, f116_47]
        exact I.f81_6)
    · exact (by
        simp only [f4_7, f116_65]
        exact I.f4_7)
    · exact (by
        simp only [f70_3, f116_66])
    · exact (by
        simp only [f97_2, f116_88]
        exact I.f97_2)
    · exact (by
        simp only [f7_0]
        exact I.k7)
    · exact (by
        simp only [f12_0]
        exact I.k12)
    · exact (by
        unfold RW
        simp only [f116_45, f116_48, f116_14, f116_15, r129, r130, r131, r132, r135, r137, r138, r139, r146]
        exact I.W)
    · exact (by
        unfold RS
        simp only [f116_65, f116_66, f116_45, r150, r151, r152, r153, r154, r155, r157]
        refine ⟨I.S.1, ?_, I.S.2.2.1, ?_⟩
        · have := I.S.2.1
          omega
        · exact fs_all (P := fun y => 0 ≤ y ∧ y ≤ 2000) I.S.2.2.2 hx)
    · exact TX_eq I.T f116_15 r124 r128
    · exact CX_eq I.X f12_4 r37 (fun p h0 h1 => funext fun j => u (17 + p) j (by omega))
    · exact (by
        simp only [f116_1]
        exact I.now)
    · exact (by
        simp only [f116_14, r118]
        exact I.il)
    · exact (by
        simp only [f116_1, f116_48, r147]
        exact I.m147)
    · exact (by
        simp only [f116_1, f116_45, r134]
        exact I.m134)
    · exact (by
        simp only [f116_1, f116_65, r155]
        exact I.m155)
    · exact (by
        simp only [f116_1, f116_66, r158]
        exact MN_add I.m158 I.now.1)
    · exact (by
        simp only [f116_1, f116_45, r49, r136]
        exact I.iu)
    · exact (by
        simp only [f41_13, f116_45, r136]
        exact I.un)
    · exact (by
        simp only [f116_45, f116_48, r145]
        exact I.ma)
    · exact (by
        simp only [f116_16, r2, r127]
        exact I.tp)
    · exact (by
        simp only [f116_45, f116_46, r140, r141]
        exact I.bn)
    · exact (by
        simp only [f116_45, f116_47, r142, r143, r144]
        exact I.po)
    · exact (by
        simp only [f116_45, f116_46, f116_47, r132, r133, r140, r141, r142, r144]
        exact I.co)
    · exact (by
        simp only [f116_45, r137]
        exact I.en)
    · exact (by
        simp only [r125]
        exact I.ta)
    · exact (by
        simp only [r167]
        exact I.ofn)
    · exact (by
        simp only [r167]
        exact I.ofc)
    · exact (by
        simp only [r168, r169, r170, r171]
        exact I.ofk)
    · exact (by
        simp only [f116_15, r121]
        exact I.tw)
    · exact (by
        simp only [f116_45, r135, r137]
        exact I.gr)
    · exact (by
        simp only [f116_65, r134, r150, r155]
        exact I.sd)
    · exact (by
        simp only [f116_88, r175]
        exact I.wo)
    · exact (by
        simp only [r76, r160]
        exact L.e76)
    · exact (by
        simp only [r77, r162]
        exact L.e77)
    · exact (by
        simp only [r78, r161]
        exact L.e78)
    · exact (by
        simp only [r79, r163]
        exact L.e79)
    · exact (by
        simp only [f4_15, f116_67]
        exact L.f4_15)
    · exact (by
        simp only [f4_16, f116_68]
        exact L.f4_16)
    · exact (by
        simp only [f116_67]
        exact L.li)
    · exact (by
        simp only [r160]
        exact L.bk)
  exact key _ rfl

set_option maxHeartbeats 2000000 in
theorem LI_undo {h : AH} {cs : Int → List (Int × List Int)} {p : Int} (I : CI h cs) (L : CLN h) (hp : 0 ≤ p ∧ p < h 116 45) (hu : h 136 p = 9999) : LI (hset (hset (hset (hset h 49 p (h 116 1)) 41 13 (h 41 13 + 1)) 116 0 0) 136 p (h 116 1)) := by
  have key : ∀ N : AH, N = (hset (hset (hset (hset h 49 p (h 116 1)) 41 13 (h 41 13 + 1)) 116 0 0) 136 p (h 116 1)) → LI N := fun N hN => by
    have u : ∀ c j, ¬ (c = 136 ∨ (c = 116 ∧ j = 0) ∨ (c = 41 ∧ j = 13) ∨ c = 49) → N c j = h c j := fun c j q => by
      rw [hN, hset_ne _ (by omega), hset_ne _ (by omega), hset_ne _ (by omega), hset_ne _ (by omega)]
    have r2 : N 2 = h 2 := funext fun j => u 2 j (by omega)
    have r8 : N 8 = h 8 := funext fun j => u 8 j (by omega)
    have r9 : N 9 = h 9 := funext fun j => u 9 j (by omega)
    have r10 : N 10 = h 10 := funext fun j => u 10 j (by omega)
    have r11 : N 11 = h 11 := funext fun j => u 11 j (by omega)
    have r13 : N 13 = h 13 := funext fun j => u 13 j (by omega)
    have r14 : N 14 = h 14 := funext fun j => u 14 j (by omega)
    have r15 : N 15 = h 15 := funext fun j => u 15 j (by omega)
    have r37 : N 37 = h 37 := funext fun j => u 37 j (by omega)
    have r42 : N 42 = h 42 := funext fun j => u 42 j (by omega)
    have r43 : N 43 = h 43 := funext fun j => u 43 j (by omega)
    have r44 : N 44 = h 44 := funext fun j => u 44 j (by omega)
    have r45 : N 45 = h 45 := funext fun j => u 45 j (by omega)
    have r46 : N 46 = h 46 := funext fun j => u 46 j (by omega)
    have r47 : N 47 = h 47 := funext fun j => u 47 j (by omega)
    have r48 : N 48 = h 48 := funext fun j => u 48 j (by omega)
    have r49 : N 49 = (fset (h 49) p (h 116 1)) := by rw [hN, hset_r (by decide), hset_r (by decide), hset_r (by decide), hset_f]
    have r50 : N 50 = h 50 := funext fun j => u 50 j (by omega)
    have r51 : N 51 = h 51 := funext fun j => u 51 j (by omega)
    have r52 : N 52 = h 52 := funext fun j => u 52 j (by omega)
    have r54 : N 54 = h 54 := funext fun j => u 54 j (by omega)
    have r55 : N 55 = h 55 := funext fun j => u 55 j (by omega)
    have r56 : N 56 = h 56 := funext fun j => u 56 j (by omega)
    have r64 : N 64 = h 64 := funext fun j => u 64 j (by omega)
    have r65 : N 65 = h 65 := funext fun j => u 65 j (by omega)
    have r66 : N 66 = h 66 := funext fun j => u 66 j (by omega)
    have r67 : N 67 = h 67 := funext fun j => u 67 j (by omega)
    have r68 : N 68 = h 68 := funext fun j => u 68 j (by omega)
    have r69 : N 69 = h 69 := funext fun j => u 69 j (by omega)
    have r71 : N 71 = h 71 := funext fun j => u 71 j (by omega)
    have r72 : N 72 = h 72 := funext fun j => u 72 j (by omega)
    have r73 : N 73 = h 73 := funext fun j => u 73 j (by omega)
    have r74 : N 74 = h 74 := funext fun j => u 74 j (by omega)
    have r82 : N 82 = h 82 := funext fun j => u 82 j (by omega)
    have r83 : N 83 = h 83 := funext fun j => u 83 j (by omega)
    have r84 : N 84 = h 84 := funext fun j => u 84 j (by omega)
    have r85 : N 85 = h 85 := funext fun j => u 85 j (by omega)
    have r86 : N 86 = h 86 := funext fun j => u 86 j (by omega)
    have r88 : N 88 = h 88 := funext fun j => u 88 j (by omega)
    have r89 : N 89 = h 89 := funext fun j => u 89 j (by omega)
    have r90 : N 90 = h 90 := funext fun j => u 90 j (by omega)
    have r91 : N 91 = h 91 := funext fun j => u 91 j (by omega)
    have r92 : N 92 = h 92 := funext fun j => u 92 j (by omega)
    have r98 : N 98 = h 98 := funext fun j => u 98 j (by omega)
    have r99 : N 99 = h 99 := funext fun j => u 99 j (by omega)
    have r117 : N 117 = h 117 := funext fun j => u 117 j (by omega)
    have r118 : N 118 = h 118 := funext fun j => u 118 j (by omega)
    have r119 : N 119 = h 119 := funext fun j => u 119 j (by omega)
    have r120 : N 120 = h 120 := funext fun j => u 120 j (by omega)
    have r121 : N 121 = h 121 := funext fun j => u 121 j (by omega)
    have r122 : N 122 = h 122 := funext fun j => u 122 j (by omega)
    have r123 : N 123 = h 123 := funext fun j => u 123 j (by omega)
    have r124 : N 124 = h 124 := funext fun j => u 124 j (by omega)
    have r125 : N 125 = h 125 := funext fun j => u 125 j (by omega)
    have r127 : N 127 = h 127 := funext fun j => u 127 j (by omega)
    have r128 : N 128 = h 128 := funext fun j => u 128 j (by omega)
    have r129 : N 129 = h 129 := funext fun j => u 129 j (by omega)
    have r130 : N 130 = h 130 := funext fun j => u 130 j (by omega)
    have r131 : N 131 = h 131 := funext fun j => u 131 j (by omega)
    have r132 : N 132 = h 132 := funext fun j => u 132 j (by omega)
    have r133 : N 133 = h 133 := funext fun j => u 133 j (by omega)
    have r134 : N 134 = h 134 := funext fun j => u 134 j (by omega)
    have r135 : N 135 = h 135 := funext fun j => u 135 j (by omega)
    have r136 : N 136 = (fset (h 136) p (h 116 1)) := by rw [hN, hset_f, hset_r (by decide), hset_r (by decide), hset_r (by decide)]
    have r137 : N 137 = h 137 := funext fun j => u 137 j (by omega)
    have r138 : N 138 = h 138 := funext fun j => u 138 j (by omega)
    have r139 : N 139 = h 139 := funext fun j => u 139 j (by omega)
    have r140 : N 140 = h 140 := funext fun j => u 140 j (by omega)
    have r141 : N 141 = h 141 := funext fun j => u 141 j (by omega)
    have r142 : N 142 = h 142 := funext fun j => u 142 j (by omega)
    have r143 : N 143 = h 143 := funext fun j => u 143 j (by omega)
    have r144 : N 144 = h 144 := funext fun j => u 144 j (by omega)
    have r145 : N 145 = h 145 := funext fun j => u 145 j (by omega)
    have r146 : N 146 = h 146 := funext fun j => u 146 j (by omega)
    have r147 : N 147 = h 147 := funext fun j => u 147 j (by omega)
    have r150 : N 150 = h 150 := funext fun j => u 150 j (by omega)
    have r151 : N 151 = h 151 := funext fun j => u 151 j (by omega)
    have r152 : N 152 = h 152 := funext fun j => u 152 j (by omega)
    have r153 : N 153 = h 153 := funext fun j => u 153 j (by omega)
    have r154 : N 154 = h 154 := funext fun j => u 154 j (by omega)
    have r155 : N 155 = h 155 := funext fun j => u 155 j (by omega)
    have r156 : N 156 = h 156 := funext fun j => u 156 j (by omega)
    have r157 : N 157 = h 157 := funext fun j => u 157 j (by omega)
    have r158 : N 158 = h 158 := funext fun j => u 158 j (by omega)
    have r167 : N 167 = h 167 := funext fun j => u 167 j (by omega)
    have r168 : N 168 = h 168 := funext fun j => u 168 j (by omega)
    have r169 : N 169 = h 169 := funext fun j => u 169 j (by omega)
    have r170 : N 170 = h 170 := funext fun j => u 170 j (by omega)
    have r171 : N 171 = h 171 := funext fun j => u 171 j (by omega)
    have r174 : N 174 = h 174 := funext fun j => u 174 j (by omega)
    have r175 : N 175 = h 175 := funext fun j => u 175 j (by omega)
    have r76 : N 76 = h 76 := funext fun j => u 76 j (by omega)
    have r77 : N 77 = h 77 := funext fun j => u 77 j (by omega)
    have r78 : N 78 = h 78 := funext fun j => u 78 j (by omega)
    have r79 : N 79 = h 79 := funext fun j => u 79 j (by omega)
    have r160 : N 160 = h 160 := funext fun j => u 160 j (by omega)
    have r161 : N 161 = h 161 := funext fun j => u 161 j (by omega)
    have r162 : N 162 = h 162 := funext fun j => u 162 j (by omega)
    have r163 : N 163 = h 163 := funext fun j => u 163 j (by omega)
    have f0_0 : N 0 0 = h 0 0 := u 0 0 (by omega)
    have f1_1 : N 1 1 = h 1 1 := u 1 1 (by omega)
    have f4_7 : N 4 7 = h 4 7 := u 4 7 (by omega)
    have f7_0 : N 7 0 = h 7 0 := u 7 0 (by omega)
    have f7_4 : N 7 4 = h 7 4 := u 7 4 (by omega)
    have f12_0 : N 12 0 = h 12 0 := u 12 0 (by omega)
    have f12_4 : N 12 4 = h 12 4 := u 12 4 (by omega)
    have f41_12 : N 41 12 = h 41 12 := u 41 12 (by omega)
    have f41_13 : N 41 13 = (h 41 13 + 1) := (congrFun (congrFun hN 41) 13).trans ((hset_c (by decide)).trans ((hset_c (by decide)).trans (hset_same _ _ _ _)))
    have f53_3 : N 53 3 = h 53 3 := u 53 3 (by omega)
    have f70_3 : N 70 3 = h 70 3 := u 70 3 (by omega)
    have f81_2 : N 81 2 = h 81 2 := u 81 2 (by omega)
    have f81_6 : N 81 6 = h 81 6 := u 81 6 (by omega)
    have f97_2 : N 97 2 = h 97 2 := u 97 2 (by omega)
    have f116_1 : N 116 1 = h 116 1 := u 116 1 (by omega)
    have f116_14 : N 116 14 = h 116 14 := u 116 14 (by omega)
    have f116_15 : N 116 15 = h 116 15 := u 116 15 (by omega)
    have f116_16 : N 116 16 = h 116 16 := u 116 16 (by omega)
    have f116_45 : N 116 45 = h 116 45 := u 116 45 (by omega)
    have f116_46 : N 116 46 = h 116 46 := u 116 46 (by omega)
    have f116_47 : N 116 47 = h 116 47 := u 116 47 (by omega)
    have f116_48 : N 116 48 = h 116 48 := u 116 48 (by omega)
    have f116_65 : N 116 65 = h 116 65 := u 116 65 (by omega)
    have f116_66 : N 116 66 = h 116 66 := u 116 66 (by omega)
    have f116_88 : N 116 88 = h 116 88 := u 116 88 (by omega)
    have f4_15 : N 4 15 = h 4 15 := u 4 15 (by omega)
    have f4_16 : N 4 16 = h 4 16 := u 4 16 (by omega)
    have f116_67 : N 116 67 = h 116 67 := u 116 67 (by omega)
    have f116_68 : N 116 68 = h 116 68 := u 116 68 (by omega)
    refine ⟨cs, ⟨?_, ?_, ?_, ?_, ?_, ?_, ?_, ?_, ?_, ?_, ?_, ?_, ?_, ?_, ?_, ?_, ?_, ?_, ?_, ?_, ?_, ?_, ?_, ?_, ?_, ?_, ?_, ?_, ?_, ?_, ?_, ?_, ?_, ?_, ?_, ?_, ?_, ?_, ?_, ?_, ?_, ?_, ?_, ?_, ?_, ?_, ?_, ?_, ?_, ?_, ?_, ?_, ?_, ?_, ?_, ?_, ?_, ?_, ?_, ?_, ?_, ?_, ?_, ?_, ?_, ?_, ?_, ?_, ?_, ?_, ?_, ?_, ?_, ?_, ?_, ?_, ?_, ?_, ?_, ?_, ?_⟩, ⟨?_, ?_, ?_, ?_, ?_, ?_, ?_, ?_⟩⟩
    · exact (by
        simp only [r8, r117]
        exact I.e8)
    · exact (by
        simp only [r9, r119]
        exact I.e9)
    · exact (by
        simp only [r10, r120]
        exact I.e10)
    · exact (by
        simp only [r11, r118]
        exact I.e11)
    · exact (by
        simp only [r13, r121]
        exact I.e13)
    · exact (by
        simp only [r14, r122]
        exact I.e14)
    · exact (by
        simp only [r15, r123]
        exact I.e15)
    · exact (by
        simp only [r42, r129]
        exact I.e42)
    · exact (by
        simp only [r43, r130]
        exact I.e43)
    · exact (by
        simp only [r44, r131]
        exact I.e44)
    · exact (by
        simp only [r45, r132]
        exact I.e45)
    · exact (by
        simp only [r46, r133]
        exact I.e46)
    · exact (by
        simp only [r47, r134]
        exact I.e47)
    · exact (by
        simp only [r48, r135]
        exact I.e48)
    · exact (by
        simp only [r50, r137]
        exact I.e50)
    · exact (by
        simp only [r51, r138]
        exact I.e51)
    · exact (by
        simp only [r52, r139]
        exact I.e52)
    · exact (by
        simp only [r54, r145]
        exact I.e54)
    · exact (by
        simp only [r55, r146]
        exact I.e55)
    · exact (by
        simp only [r56, r147]
        exact I.e56)
    · exact (by
        simp only [r64, r150]
        exact I.e64)
    · exact (by
        simp only [r65, r151]
        exact I.e65)
    · exact (by
        simp only [r66, r152]
        exact I.e66)
    · exact (by
        simp only [r67, r153]
        exact I.e67)
    · exact (by
        simp only [r68, r154]
        exact I.e68)
    · exact (by
        simp only [r69, r155]
        exact I.e69)
    · exact (by
        simp only [r71, r156]
        exact I.e71)
    · exact (by
        simp only [r72, r157]
        exact I.e72)
    · exact (by
        simp only [r73, r158]
        exact I.e73)
    · exact (by
        simp only [r74, r125]
        exact I.e74)
    · exact (by
        simp only [r82, r140]
        exact I.e82)
    · exact (by
        simp only [r83, r141]
        exact I.e83)
    · exact (by
        simp only [r84, r143]
        exact I.e84)
    · exact (by
        simp only [r85, r144]
        exact I.e85)
    · exact (by
        simp only [r86, r142]
        exact I.e86)
    · exact (by
        simp only [r88, r168]
        exact I.e88)
    · exact (by
        simp only [r89, r169]
        exact I.e89)
    · exact (by
        simp only [r90, r170]
        exact I.e90)
    · exact (by
        simp only [r91, r171]
        exact I.e91)
    · exact (by
        simp only [r92, r167]
        exact I.e92)
    · exact (by
        simp only [r98, r174]
        exact I.e98)
    · exact (by
        simp only [r99, r175]
        exact I.e99)
    · exact (by
        simp only [f0_0, f116_1]
        exact I.f0_0)
    · exact (by
        simp only [f7_4, f116_14]
        exact I.f7_4)
    · exact (by
        simp only [f12_4, f116_15]
        exact I.f12_4)
    · exact (by
        simp only [f1_1, f116_16]
        exact I.f1_1)
    · exact (by
        simp only [f41_12, f116_45]
        exact I.f41_12)
    · exact (by
        simp only [f53_3, f116_48]
        exact I.f53_3)
    · exact (by
        simp only [f81_2, f116_46]
        exact I.f81_2)
    · exact (by
        simp only [f81_6, f116_47]
        exact I.f81_6)
    · exact (by
        simp only [f4_7, f116_65]
        exact I.f4_7)
    · exact (by
        simp only [f70_3, f116_66]
        exact I.f70_3)
    · exact (by
        simp only [f97_2, f116_88]
        exact I.f97_2)
    · exact (by
        simp only [f7_0]
        exact I.k7)
    · exact (by
        simp only [f12_0]
        exact I.k12)
    · exact (by
        unfold RW
        simp only [f116_45, f116_48, f116_14, f116_15, r129, r130, r131, r132, r135, r137, r138, r139, r146]
        exact I.W)
    · exact (by
        unfold RS
        simp only [f116_65, f116_66, f116_45, r150, r151, r152, r153, r154, r155, r157]
        exact I.S)
    · exact TX_eq I.T f116_15 r124 r128
    · exact CX_eq I.X f12_4 r37 (fun p h0 h1 => funext fun j => u (17 + p) j (by omega))
    · exact (by
        simp only [f116_1]
        exact I.now)
    · exact (by
        simp only [f116_14, r118]
        exact I.il)
    · exact (by
        simp only [f116_1, f116_48, r147]
        exact I.m147)
    · exact (by
        simp only [f116_1, f116_45, r134]
        exact I.m134)
    · exact (by
        simp only [f116_1, f116_65, r155]
        exact I.m155)
    · exact (by
        simp only [f116_1, f116_66, r158]
        exact I.m158)
    · exact (by
        simp only [f116_1, f116_45, r49, r136]
        exact fun b9 b0 b1 => by
          by_cases z : b9 = p
          · rw [z, fset_same, fset_same]; have := I.now; omega
          · rw [fset_ne z, fset_ne z]; exact I.iu b9 b0 b1)
    · exact (by
        simp only [f41_13, f116_45, r136]
        rw [un_set hp.1 hp.2 hu (by have := I.now; omega), I.un])
    · exact (by
        simp only [f116_45, f116_48, r145]
        exact I.ma)
    · exact (by
        simp only [f116_16, r2, r127]
        exact I.tp)
    · exact (by
        simp only [f116_45, f116_46, r140, r141]
        exact I.bn)
    · exact (by
        simp only [f116_45, f116_47, r142, r143, r144]
        exact I.po)
    · exact (by
        simp only [f116_45, f116_46, f116_47, r132, r133, r140, r141, r142, r144]
        exact I.co)
    · exact (by
        simp only [f116_45, r137]
        exact I.en)
    · exact (by
        simp only [r125]
        exact I.ta)
    · exact (by
        simp only [r167]
        exact I.ofn)
    · exact (by
        simp only [r167]
        exact I.ofc)
    · exact (by
        simp only [r168, r169, r170, r171]
        exact I.ofk)
    · exact (by
        simp only [f116_15, r121]
        exact I.tw)
    · exact (by
        simp only [f116_45, r135, r137]
        exact I.gr)
    · exact (by
        simp only [f116_65, r134, r150, r155]
        exact I.sd)
    · exact (by
        simp only [f116_88, r175]
        exact I.wo)
    · exact (by
        simp only [r76, r160]
        exact L.e76)
    · exact (by
        simp only [r77, r162]
        exact L.e77)
    · exact (by
        simp only [r78, r161]
        exact L.e78)
    · exact (by
        simp only [r79, r163]
        exact L.e79)
    · exact (by
        simp only [f4_15, f116_67]
        exact L.f4_15)
    · exact (by
        simp only [f4_16, f116_68]
        exact L.f4_16)
    · exact (by
        simp only [f116_67]
        exact L.li)
    · exact (by
        simp only [r160]
        exact L.bk)
  exact key _ rfl

set_option maxHeartbeats 2000000 in
theorem LI_word {h : AH} {cs : Int → List (Int × List Int)} {p x : Int} (I : CI h cs) (L : CLN h) (hx : 1 ≤ x ∧ x ≤ 10000) (hk : h 116 88 < 60) : LI (hset (hset (hset (hset (hset (hset (hset h 98 (h 116 88) p) 99 (h 116 88) x) 97 2 (h 116 88 + 1)) 116 0 0) 174 (h 116 88) p) 175 (h 116 88) x) 116 88 (h 116 88 + 1)) := by
  have key : ∀ N : AH, N = (hset (hset (hset (hset (hset (hset (hset h 98 (h 116 88) p) 99 (h 116 88) x) 97 2 (h 116 88 + 1)) 116 0 0) 174 (h 116 88) p) 175 (h 116 88) x) 116 88 (h 116 88 + 1)) → LI N := fun N hN => by
    have u : ∀ c j, ¬ ((c = 116 ∧ j = 88) ∨ c = 175 ∨ c = 174 ∨ (c = 116 ∧ j = 0) ∨ (c = 97 ∧ j = 2) ∨ c = 99 ∨ c = 98) → N c j = h c j := fun c j q => by
      rw [hN, hset_ne _ (by omega), hset_ne _ (by omega), hset_ne _ (by omega), hset_ne _ (by omega), hset_ne _ (by omega), hset_ne _ (by omega), hset_ne _ (by omega)]
    have r2 : N 2 = h 2 := funext fun j => u 2 j (by omega)
    have r8 : N 8 = h 8 := funext fun j => u 8 j (by omega)
    have r9 : N 9 = h 9 := funext fun j => u 9 j (by omega)
    have r10 : N 10 = h 10 := funext fun j => u 10 j (by omega)
    have r11 : N 11 = h 11 := funext fun j => u 11 j (by omega)
    have r13 : N 13 = h 13 := funext fun j => u 13 j (by omega)
    have r14 : N 14 = h 14 := funext fun j => u 14 j (by omega)
    have r15 : N 15 = h 15 := funext fun j => u 15 j (by omega)
    have r37 : N 37 = h 37 := funext fun j => u 37 j (by omega)
    have r42 : N 42 = h 42 := funext fun j => u 42 j (by omega)
    have r43 : N 43 = h 43 := funext fun j => u 43 j (by omega)
    have r44 : N 44 = h 44 := funext fun j => u 44 j (by omega)
    have r45 : N 45 = h 45 := funext fun j => u 45 j (by omega)
    have r46 : N 46 = h 46 := funext fun j => u 46 j (by omega)
    have r47 : N 47 = h 47 := funext fun j => u 47 j (by omega)
    have r48 : N 48 = h 48 := funext fun j => u 48 j (by omega)
    have r49 : N 49 = h 49 := funext fun j => u 49 j (by omega)
    have r50 : N 50 = h 50 := funext fun j => u 50 j (by omega)
    have r51 : N 51 = h 51 := funext fun j => u 51 j (by omega)
    have r52 : N 52 = h 52 := funext fun j => u 52 j (by omega)
    have r54 : N 54 = h 54 := funext fun j => u 54 j (by omega)
    have r55 : N 55 = h 55 := funext fun j => u 55 j (by omega)
    have r56 : N 56 = h 56 := funext fun j => u 56 j (by omega)
    have r64 : N 64 = h 64 := funext fun j => u 64 j (by omega)
    have r65 : N 65 = h 65 := funext fun j => u 65 j (by omega)
    have r66 : N 66 = h 66 := funext fun j => u 66 j (by omega)
    have r67 : N 67 = h 67 := funext fun j => u 67 j (by omega)
    have r68 : N 68 = h 68 := funext fun j => u 68 j (by omega)
    have r69 : N 69 = h 69 := funext fun j => u 69 j (by omega)
    have r71 : N 71 = h 71 := funext fun j => u 71 j (by omega)
    have r72 : N 72 = h 72 := funext fun j => u 72 j (by omega)
    have r73 : N 73 = h 73 := funext fun j => u 73 j (by omega)
    have r74 : N 74 = h 74 := funext fun j => u 74 j (by omega)
    have r82 : N 82 = h 82 := funext fun j => u 82 j (by omega)
    have r83 : N 83 = h 83 := funext fun j => u 83 j (by omega)
    have r84 : N 84 = h 84 := funext fun j => u 84 j (by omega)
    have r85 : N 85 = h 85 := funext fun j => u 85 j (by omega)
    have r86 : N 86 = h 86 := funext fun j => u 86 j (by omega)
    have r88 : N 88 = h 88 := funext fun j => u 88 j (by omega)
    have r89 : N 89 = h 89 := funext fun j => u 89 j (by omega)
    have r90 : N 90 = h 90 := funext fun j => u 90 j (by omega)
    have r91 : N 91 = h 91 := funext fun j => u 91 j (by omega)
    have r92 : N 92 = h 92 := funext fun j => u 92 j (by omega)
    have r98 : N 98 = (fset (h 98) (h 116 88) p) := by rw [hN, hset_r (by decide), hset_r (by decide), hset_r (by decide), hset_r (by decide), hset_r (by decide), hset_r (by decide), hset_f]
    have r99 : N 99 = (fset (h 99) (h 116 88) x) := by rw [hN, hset_r (by decide), hset_r (by decide), hset_r (by decide), hset_r (by decide), hset_r (by decide), hset_f, hset_r (by decide)]
    have r117 : N 117 = h 117 := funext fun j => u 117 j (by omega)
    have r118 : N 118 = h 118 := funext fun j => u 118 j (by omega)
    have r119 : N 119 = h 119 := funext fun j => u 119 j (by omega)
    have r120 : N 120 = h 120 := funext fun j => u 120 j (by omega)
    have r121 : N 121 = h 121 := funext fun j => u 121 j (by omega)
    have r122 : N 122 = h 122 := funext fun j => u 122 j (by omega)
    have r123 : N 123 = h 123 := funext fun j => u 123 j (by omega)
    have r124 : N 124 = h 124 := funext fun j => u 124 j (by omega)
    have r125 : N 125 = h 125 := funext fun j => u 125 j (by omega)
    have r127 : N 127 = h 127 := funext fun j => u 127 j (by omega)
    have r128 : N 128 = h 128 := funext fun j => u 128 j (by omega)
    have r129 : N 129 = h 129 := funext fun j => u 129 j (by omega)
    have r130 : N 130 = h 130 := funext fun j => u 130 j (by omega)
    have r131 : N 131 = h 131 := funext fun j => u 131 j (by omega)
    have r132 : N 132 = h 132 := funext fun j => u 132 j (by omega)
    have r133 : N 133 = h 133 := funext fun j => u 133 j (by omega)
    have r134 : N 134 = h 134 := funext fun j => u 134 j (by omega)
    have r135 : N 135 = h 135 := funext fun j => u 135 j (by omega)
    have r136 : N 136 = h 136 := funext fun j => u 136 j (by omega)
    have r137 : N 137 = h 137 := funext fun j => u 137 j (by omega)
    have r138 : N 138 = h 138 := funext fun j => u 138 j (by omega)
    have r139 : N 139 = h 139 := funext fun j => u 139 j (by omega)
    have r140 : N 140 = h 140 := funext fun j => u 140 j (by omega)
    have r141 : N 141 = h 141 := funext fun j => u 141 j (by omega)
    have r142 : N 142 = h 142 := funext fun j => u 142 j (by omega)
    have r143 : N 143 = h 143 := funext fun j => u 143 j (by omega)
    have r144 : N 144 = h 144 := funext fun j => u 144 j (by omega)
    have r145 : N 145 = h 145 := funext fun j => u 145 j (by omega)
    have r146 : N 146 = h 146 := funext fun j => u 146 j (by omega)
    have r147 : N 147 = h 147 := funext fun j => u 147 j (by omega)
    have r150 : N 150 = h 150 := funext fun j => u 150 j (by omega)
    have r151 : N 151 = h 151 := funext fun j => u 151 j (by omega)
    have r152 : N 152 = h 152 := funext fun j => u 152 j (by omega)
    have r153 : N 153 = h 153 := funext fun j => u 153 j (by omega)
    have r154 : N 154 = h 154 := funext fun j => u 154 j (by omega)
    have r155 : N 155 = h 155 := funext fun j => u 155 j (by omega)
    have r156 : N 156 = h 156 := funext fun j => u 156 j (by omega)
    have r157 : N 157 = h 157 := funext fun j => u 157 j (by omega)
    have r158 : N 158 = h 158 := funext fun j => u 158 j (by omega)
    have r167 : N 167 = h 167 := funext fun j => u 167 j (by omega)
    have r168 : N 168 = h 168 := funext fun j => u 168 j (by omega)
    have r169 : N 169 = h 169 := funext fun j => u 169 j (by omega)
    have r170 : N 170 = h 170 := funext fun j => u 170 j (by omega)
    have r171 : N 171 = h 171 := funext fun j => u 171 j (by omega)
    have r174 : N 174 = (fset (h 174) (h 116 88) p) := by rw [hN, hset_r (by decide), hset_r (by decide), hset_f, hset_r (by decide), hset_r (by decide), hset_r (by decide), hset_r (by decide)]
    have r175 : N 175 = (fset (h 175) (h 116 88) x) := by rw [hN, hset_r (by decide), hset_f, hset_r (by decide), hset_r (by decide), hset_r (by decide), hset_r (by decide), hset_r (by decide)]
    have r76 : N 76 = h 76 := funext fun j => u 76 j (by omega)
    have r77 : N 77 = h 77 := funext fun j => u 77 j (by omega)
    have r78 : N 78 = h 78 := funext fun j => u 78 j (by omega)
    have r79 : N 79 = h 79 := funext fun j => u 79 j (by omega)
    have r160 : N 160 = h 160 := funext fun j => u 160 j (by omega)
    have r161 : N 161 = h 161 := funext fun j => u 161 j (by omega)
    have r162 : N 162 = h 162 := funext fun j => u 162 j (by omega)
    have r163 : N 163 = h 163 := funext fun j => u 163 j (by omega)
    have f0_0 : N 0 0 = h 0 0 := u 0 0 (by omega)
    have f1_1 : N 1 1 = h 1 1 := u 1 1 (by omega)
    have f4_7 : N 4 7 = h 4 7 := u 4 7 (by omega)
    have f7_0 : N 7 0 = h 7 0 := u 7 0 (by omega)
    have f7_4 : N 7 4 = h 7 4 := u 7 4 (by omega)
    have f12_0 : N 12 0 = h 12 0 := u 12 0 (by omega)
    have f12_4 : N 12 4 = h 12 4 := u 12 4 (by omega)
    have f41_12 : N 41 12 = h 41 12 := u 41 12 (by omega)
    have f41_13 : N 41 13 = h 41 13 := u 41 13 (by omega)
    have f53_3 : N 53 3 = h 53 3 := u 53 3 (by omega)
    have f70_3 : N 70 3 = h 70 3 := u 70 3 (by omega)
    have f81_2 : N 81 2 = h 81 2 := u 81 2 (by omega)
    have f81_6 : N 81 6 = h 81 6 := u 81 6 (by omega)
    have f97_2 : N 97 2 = (h 116 88 + 1) := (congrFun (congrFun hN 97) 2).trans ((hset_c (by decide)).trans ((hset_c (by decide)).trans ((hset_c (by decide)).trans ((hset_c (by decide)).trans (hset_same _ _ _ _)))))
    have f116_1 : N 116 1 = h 116 1 := u 116 1 (by omega)
    have f116_14 : N 116 14 = h 116 14 := u 116 14 (by omega)
    have f116_15 : N 116 15 = h 116 15 := u 116 15 (by omega)
    have f116_16 : N 116 16 = h 116 16 := u 116 16 (by omega)
    have f116_45 : N 116 45 = h 116 45 := u 116 45 (by omega)
    have f116_46 : N 116 46 = h 116 46 := u 116 46 (by omega)
    have f116_47 : N 116 47 = h 116 47 := u 116 47 (by omega)
    have f116_48 : N 116 48 = h 116 48 := u 116 48 (by omega)
    have f116_65 : N 116 65 = h 116 65 := u 116 65 (by omega)
    have f116_66 : N 116 66 = h 116 66 := u 116 66 (by omega)
    have f116_88 : N 116 88 = (h 116 88 + 1) := (congrFun (congrFun hN 116) 88).trans (hset_same _ _ _ _)
    have f4_15 : N 4 15 = h 4 15 := u 4 15 (by omega)
    have f4_16 : N 4 16 = h 4 16 := u 4 16 (by omega)
    have f116_67 : N 116 67 = h 116 67 := u 116 67 (by omega)
    have f116_68 : N 116 68 = h 116 68 := u 116 68 (by omega)
    refine ⟨cs, ⟨?_, ?_, ?_, ?_, ?_, ?_, ?_, ?_, ?_, ?_, ?_, ?_, ?_, ?_, ?_, ?_, ?_, ?_, ?_, ?_, ?_, ?_, ?_, ?_, ?_, ?_, ?_, ?_, ?_, ?_, ?_, ?_, ?_, ?_, ?_, ?_, ?_, ?_, ?_, ?_, ?_, ?_, ?_, ?_, ?_, ?_, ?_, ?_, ?_, ?_, ?_, ?_, ?_, ?_, ?_, ?_, ?_, ?_, ?_, ?_, ?_, ?_, ?_, ?_, ?_, ?_, ?_, ?_, ?_, ?_, ?_, ?_, ?_, ?_, ?_, ?_, ?_, ?_, ?_, ?_, ?_⟩, ⟨?_, ?_, ?_, ?_, ?_, ?_, ?_, ?_⟩⟩
    · exact (by
        simp only [r8, r117]
        exact I.e8)
    · exact (by
        simp only [r9, r119]
        exact I.e9)
    · exact (by
        simp only [r10, r120]
        exact I.e10)
    · exact (by
        simp only [r11, r118]
        exact I.e11)
    · exact (by
        simp only [r13, r121]
        exact I.e13)
    · exact (by
        simp only [r14, r122]
        exact I.e14)
    · exact (by
        simp only [r15, r123]
        exact I.e15)
    · exact (by
        simp only [r42, r129]
        exact I.e42)
    · exact (by
        simp only [r43, r130]
        exact I.e43)
    · exact (by
        simp only [r44, r131]
        exact I.e44)
    · exact (by
        simp only [r45, r132]
        exact I.e45)
    · exact (by
        simp only [r46, r133]
        exact I.e46)
    · exact (by
        simp only [r47, r134]
        exact I.e47)
    · exact (by
        simp only [r48, r135]
        exact I.e48)
    · exact (by
        simp only [r50, r137]
        exact I.e50)
    · exact (by
        simp only [r51, r138]
        exact I.e51)
    · exact (by
        simp only [r52, r139]
        exact I.e52)
    · exact (by
        simp only [r54, r145]
        exact I.e54)
    · exact (by
        simp only [r55, r146]
        exact I.e55)
    · exact (by
        simp only [r56, r147]
        exact I.e56)
    · exact (by
        simp only [r64, r150]
        exact I.e64)
    · exact (by
        simp only [r65, r151]
        exact I.e65)
    · exact (by
        simp only [r66, r152]
        exact I.e66)
    · exact (by
        simp only [r67, r153]
        exact I.e67)
    · exact (by
        simp only [r68, r154]
        exact I.e68)
    · exact (by
        simp only [r69, r155]
        exact I.e69)
    · exact (by
        simp only [r71, r156]
        exact I.e71)
    · exact (by
        simp only [r72, r157]
        exact I.e72)
    · exact (by
        simp only [r73, r158]
        exact I.e73)
    · exact (by
        simp only [r74, r125]
        exact I.e74)
    · exact (by
        simp only [r82, r140]
        exact I.e82)
    · exact (by
        simp only [r83, r141]
        exact I.e83)
    · exact (by
        simp only [r84, r143]
        exact I.e84)
    · exact (by
        simp only [r85, r144]
        exact I.e85)
    · exact (by
        simp only [r86, r142]
        exact I.e86)
    · exact (by
        simp only [r88, r168]
        exact I.e88)
    · exact (by
        simp only [r89, r169]
        exact I.e89)
    · exact (by
        simp only [r90, r170]
        exact I.e90)
    · exact (by
        simp only [r91, r171]
        exact I.e91)
    · exact (by
        simp only [r92, r167]
        exact I.e92)
    · exact (by
        simp only [r98, r174]
        rw [I.e98])
    · exact (by
        simp only [r99, r175]
        rw [I.e99])
    · exact (by
        simp only [f0_0, f116_1]
        exact I.f0_0)
    · exact (by
        simp only [f7_4, f116_14]
        exact I.f7_4)
    · exact (by
        simp only [f12_4, f116_15]
        exact I.f12_4)
    · exact (by
        simp only [f1_1, f116_16]
        exact I.f1_1)
    · exact (by
        simp only [f41_12, f116_45]
        exact I.f41_12)
    · exact (by
        simp only [f53_3, f116_48]
        exact I.f53_3)
    · exact (by
        simp only [f81_2, f116_46]
        exact I.f81_2)
    · exact (by
        simp only [f81_6, f116_47]
        exact I.f81_6)
    · exact (by
        simp only [f4_7, f116_65]
        exact I.f4_7)
    · exact (by
        simp only [f70_3, f116_66]
        exact I.f70_3)
    · exact (by
        simp only [f97_2, f116_88])
    · exact (by
        simp only [f7_0]
        exact I.k7)
    · exact (by
        simp only [f12_0]
        exact I.k12)
    · exact (by
        unfold RW
        simp only [f116_45, f116_48, f116_14, f116_15, r129, r130, r131, r132, r135, r137, r138, r139, r146]
        exact I.W)
    · exact (by
        unfold RS
        simp only [f116_65, f116_66, f116_45, r150, r151, r152, r153, r154, r155, r157]
        exact I.S)
    · exact TX_eq I.T f116_15 r124 r128
    · exact CX_eq I.X f12_4 r37 (fun p h0 h1 => funext fun j => u (17 + p) j (by omega))
    · exact (by
        simp only [f116_1]
        exact I.now)
    · exact (by
        simp only [f116_14, r118]
        exact I.il)
    · exact (by
        simp only [f116_1, f116_48, r147]
        exact I.m147)
    · exact (by
        simp only [f116_1, f116_45, r134]
        exact I.m134)
    · exact (by
        simp only [f116_1, f116_65, r155]
        exact I.m155)
    · exact (by
        simp only [f116_1, f116_66, r158]
        exact I.m158)
    · exact (by
        simp only [f116_1, f116_45, r49, r136]
        exact I.iu)
    · exact (by
        simp only [f41_13, f116_45, r136]
        exact I.un)
    · exact (by
        simp only [f116_45, f116_48, r145]
        exact I.ma)
    · exact (by
        simp only [f116_16, r2, r127]
        exact I.tp)
    · exact (by
        simp only [f116_45, f116_46, r140, r141]
        exact I.bn)
    · exact (by
        simp only [f116_45, f116_47, r142, r143, r144]
        exact I.po)
    · exact (by
        simp only [f116_45, f116_46, f116_47, r132, r133, r140, r141, r142, r144]
        exact I.co)
    · exact (by
        simp only [f116_45, r137]
        exact I.en)
    · exact (by
        simp only [r125]
        exact I.ta)
    · exact (by
        simp only [r167]
        exact I.ofn)
    · exact (by
        simp only [r167]
        exact I.ofc)
    · exact (by
        simp only [r168, r169, r170, r171]
        exact I.ofk)
    · exact (by
        simp only [f116_15, r121]
        exact I.tw)
    · exact (by
        simp only [f116_45, r135, r137]
        exact I.gr)
    · exact (by
        simp only [f116_65, r134, r150, r155]
        exact I.sd)
    · exact (by
        have := I.wo.1
        simp only [f116_88, r175]
        exact ⟨by omega, fs_all (P := fun y => 1 ≤ y ∧ y ≤ 10000) I.wo.2 hx⟩)
    · exact (by
        simp only [r76, r160]
        exact L.e76)
    · exact (by
        simp only [r77, r162]
        exact L.e77)
    · exact (by
        simp only [r78, r161]
        exact L.e78)
    · exact (by
        simp only [r79, r163]
        exact L.e79)
    · exact (by
        simp only [f4_15, f116_67]
        exact L.f4_15)
    · exact (by
        simp only [f4_16, f116_68]
        exact L.f4_16)
    · exact (by
        simp only [f116_67]
        exact L.li)
    · exact (by
        simp only [r160]
        exact L.bk)
  exact key _ rfl

