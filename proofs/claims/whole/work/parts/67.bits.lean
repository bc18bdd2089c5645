/-! ===== bits ===== -/
theorem fin_i {n : Nat} {P : Int → Prop} (h : ∀ m : Fin n, P (m.val : Int)) {x : Int} (h0 : 0 ≤ x) (h1 : x < n) : P x := by
  obtain ⟨m, rfl⟩ := Int.eq_ofNat_of_zero_le h0
  exact h ⟨m, by omega⟩
theorem bit_1 {m l : Int} (h : 0 ≤ m ∧ m < 256) (h2 : 0 ≤ l ∧ l < 8) : iand (iushr m l) 1 = iand (ishr m l) 1 ∧ (iand (ishr m l) 1 = 0 ∨ iand (ishr m l) 1 = 1) := by
  have key : ∀ m : Fin 256, ∀ l : Fin 8, iand (iushr (m.val : Int) (l.val : Int)) 1 = iand (ishr (m.val : Int) (l.val : Int)) 1 ∧ (iand (ishr (m.val : Int) (l.val : Int)) 1 = 0 ∨ iand (ishr (m.val : Int) (l.val : Int)) 1 = 1) := by decide +kernel
  exact fin_i (P := fun m => iand (iushr m l) 1 = iand (ishr m l) 1 ∧ (iand (ishr m l) 1 = 0 ∨ iand (ishr m l) 1 = 1)) (fun m => fin_i (n := 8) (P := fun l => iand (iushr (m.val : Int) l) 1 = iand (ishr (m.val : Int) l) 1 ∧ (iand (ishr (m.val : Int) l) 1 = 0 ∨ iand (ishr (m.val : Int) l) 1 = 1)) (fun l => key m l) h2.1 h2.2) h.1 h.2
theorem bit_2 {m a b : Int} (h : 0 ≤ m ∧ m < 256) (h2 : 0 ≤ a ∧ a < 8) (h3 : 0 ≤ b ∧ b < 8) : (iand (iand (iushr m a) (iushr m b)) 1 ≠ 0 ↔ (iand (ishr m a) 1 = 1 ∧ iand (ishr m b) 1 = 1)) := by
  have key : ∀ m : Fin 256, ∀ a : Fin 8, ∀ b : Fin 8, (iand (iand (iushr (m.val : Int) (a.val : Int)) (iushr (m.val : Int) (b.val : Int))) 1 ≠ 0 ↔ (iand (ishr (m.val : Int) (a.val : Int)) 1 = 1 ∧ iand (ishr (m.val : Int) (b.val : Int)) 1 = 1)) := by decide +kernel
  exact fin_i (P := fun m => (iand (iand (iushr m a) (iushr m b)) 1 ≠ 0 ↔ (iand (ishr m a) 1 = 1 ∧ iand (ishr m b) 1 = 1))) (fun m => fin_i (n := 8) (P := fun a => (iand (iand (iushr (m.val : Int) a) (iushr (m.val : Int) b)) 1 ≠ 0 ↔ (iand (ishr (m.val : Int) a) 1 = 1 ∧ iand (ishr (m.val : Int) b) 1 = 1))) (fun a => fin_i (n := 8) (P := fun b => (iand (iand (iushr (m.val : Int) (a.val : Int)) (iushr (m.val : Int) b)) 1 ≠ 0 ↔ (iand (ishr (m.val : Int) (a.val : Int)) 1 = 1 ∧ iand (ishr (m.val : Int) b) 1 = 1))) (fun b => key m a b) h3.1 h3.2) h2.1 h2.2) h.1 h.2
theorem i32_c {x : Int} : ∃ n : Nat, n < 4294967296 ∧ (Int32.ofInt x).toBitVec.toNat = n ∧ (Int32.ofInt x).toInt = if n < 2147483648 then (n : Int) else (n : Int) - 4294967296 := by
  refine ⟨(Int32.ofInt x).toBitVec.toNat, (Int32.ofInt x).toBitVec.isLt, rfl, ?_⟩
  show (Int32.ofInt x).toBitVec.toInt = _
  rw [BitVec.toInt_eq_toNat_cond]
  split <;> split <;> omega
theorem iand_255 {x : Int} : iand x 255 = (Int32.ofInt x).toInt % 256 := by
  obtain ⟨n, h1, h2, h3⟩ := @i32_c x
  unfold iand
  rw [pk_and (Int32.ofInt x) (m := Int32.ofInt 255) 8 (by decide), nI_toInt (by omega), h2, h3]
  split <;> omega
theorem i32_ti {X : Int32} : Int32.ofInt X.toInt = X := Int32.ofInt_toInt X
theorem byt_r {x : Int} : 0 ≤ iand x 255 ∧ iand x 255 < 256 := by rw [iand_255]; omega
theorem i2b_s8 {x : Int} : i2b x = s8 (iand x 255) := by
  rw [iand_255]
  unfold i2b s8
  rw [Int8.toInt_toInt32, Int32.toInt_toInt8]
  generalize (Int32.ofInt x).toInt = y
  show (if y % 256 < 128 then y % 256 else y % 256 - 256) = _
  split <;> rfl
theorem ushr_255 {p k : Int} (h : k = 24 ∨ k = 16 ∨ k = 8 ∨ k = 0) : iand (iushr p k) 255 = iand (ishr p k) 255 := by
  obtain ⟨n, h1, h2, h3⟩ := @i32_c p
  have key : ∀ (e : Nat), ((Int32.ofInt k &&& 31).toBitVec.smod 32).toNat = e → (((Int32.ofInt k).toUInt32 &&& Int32.toUInt32 31).toBitVec % 32).toNat = e → (e = 24 ∨ e = 16 ∨ e = 8 ∨ e = 0) → iand (iushr p k) 255 = iand (ishr p k) 255 := by
    intro e e1 e2 e3
    have a1 : iand (ishr p k) 255 = ((Int32.ofInt p).toInt >>> e) % 256 := by
      rw [iand_255]
      unfold ishr
      rw [i32_ti, pk_shr _ _ e e1]
    have a2 : iand (iushr p k) 255 = ((n / 2 ^ e % 256 : Nat) : Int) := by
      unfold iand
      rw [pk_and _ (m := Int32.ofInt 255) 8 (by decide), nI_toInt (by have : (Int32.ofInt (iushr p k)).toBitVec.toNat % 2 ^ 8 < 256 := Nat.mod_lt _ (by decide); omega)]
      unfold iushr
      rw [i32_ti, pk_ushr _ _ e e2, h2]
    rw [a1, a2, h3, Int.shiftRight_eq_div_pow]
    rcases e3 with rfl | rfl | rfl | rfl <;> split <;> omega
  rcases h with rfl | rfl | rfl | rfl
  · exact key 24 (by decide) (by decide) (by decide)
  · exact key 16 (by decide) (by decide) (by decide)
  · exact key 8 (by decide) (by decide) (by decide)
  · exact key 0 (by decide) (by decide) (by decide)
