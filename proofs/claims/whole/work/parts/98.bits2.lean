/-! ===== words: bits (written by wip/whole/p70.py) ===== -/
/-- the bits of x, as the library counts them -/
def bcI (x : Int) : Int := (iand (iadd (iadd (iand (iadd (iadd (iand (isub x (iand (iushr x 1) 1431655765)) 858993459) (iand (iushr (isub x (iand (iushr x 1) 1431655765)) 2) 858993459)) (iushr (iadd (iand (isub x (iand (iushr x 1) 1431655765)) 858993459) (iand (iushr (isub x (iand (iushr x 1) 1431655765)) 2) 858993459)) 4)) 252645135) (iushr (iand (iadd (iadd (iand (isub x (iand (iushr x 1) 1431655765)) 858993459) (iand (iushr (isub x (iand (iushr x 1) 1431655765)) 2) 858993459)) (iushr (iadd (iand (isub x (iand (iushr x 1) 1431655765)) 858993459) (iand (iushr (isub x (iand (iushr x 1) 1431655765)) 2) 858993459)) 4)) 252645135) 8)) (iushr (iadd (iand (iadd (iadd (iand (isub x (iand (iushr x 1) 1431655765)) 858993459) (iand (iushr (isub x (iand (iushr x 1) 1431655765)) 2) 858993459)) (iushr (iadd (iand (isub x (iand (iushr x 1) 1431655765)) 858993459) (iand (iushr (isub x (iand (iushr x 1) 1431655765)) 2) 858993459)) 4)) 252645135) (iushr (iand (iadd (iadd (iand (isub x (iand (iushr x 1) 1431655765)) 858993459) (iand (iushr (isub x (iand (iushr x 1) 1431655765)) 2) 858993459)) (iushr (iadd (iand (isub x (iand (iushr x 1) 1431655765)) 858993459) (iand (iushr (isub x (iand (iushr x 1) 1431655765)) 2) 858993459)) 4)) 252645135) 8)) 16)) 63)
set_option maxHeartbeats 4000000 in
set_option maxRecDepth 100000 in
theorem s_bitc {l : Launch} {G : GG} {d : Nat} {h : AH} {Q : Option AV → List Kd → AH → Prop} {x : Int} (hd : 1 ≤ d) (hq : Q (some (0, bcI x)) K0 h) : Sp l G mJ6_bitCount_0f7a4 d 0 0 K0 [(0, x)] h Q := by
  refine sp_of (L := [(0, x)]) pl_J6 (Nat.le_of_ble_eq_true rfl) (tg_c (by decide) tg_0) rfl ?_
  refine v_iload_n dJ6_bitCount_0f7a4_0 rfl ?_
  refine v_iload_n dJ6_bitCount_0f7a4_1 rfl ?_
  refine v_iconst dJ6_bitCount_0f7a4_2 (c32 rfl) ?_
  refine v_iushr dJ6_bitCount_0f7a4_3 ?_
  refine v_ldcw (n := 1431655765) dJ6_bitCount_0f7a4_4 k_2066 (c32 rfl) (by decide) ?_
  refine v_iand dJ6_bitCount_0f7a4_7 ?_
  refine v_isub dJ6_bitCount_0f7a4_8 ?_
  refine v_istore_n_0 dJ6_bitCount_0f7a4_9 (by decide) rfl ?_
  refine v_iload_n dJ6_bitCount_0f7a4_10 rfl ?_
  refine v_ldcw (n := 858993459) dJ6_bitCount_0f7a4_11 k_2067 (c32 rfl) (by decide) ?_
  refine v_iand dJ6_bitCount_0f7a4_14 ?_
  refine v_iload_n dJ6_bitCount_0f7a4_15 rfl ?_
  refine v_iconst dJ6_bitCount_0f7a4_16 (c32 rfl) ?_
  refine v_iushr dJ6_bitCount_0f7a4_17 ?_
  refine v_ldcw (n := 858993459) dJ6_bitCount_0f7a4_18 k_2067 (c32 rfl) (by decide) ?_
  refine v_iand dJ6_bitCount_0f7a4_21 ?_
  refine v_iadd dJ6_bitCount_0f7a4_22 ?_
  refine v_istore_n_0 dJ6_bitCount_0f7a4_23 (by decide) rfl ?_
  refine v_iload_n dJ6_bitCount_0f7a4_24 rfl ?_
  refine v_iload_n dJ6_bitCount_0f7a4_25 rfl ?_
  refine v_iconst dJ6_bitCount_0f7a4_26 (c32 rfl) ?_
  refine v_iushr dJ6_bitCount_0f7a4_27 ?_
  refine v_iadd dJ6_bitCount_0f7a4_28 ?_
  refine v_ldcw (n := 252645135) dJ6_bitCount_0f7a4_29 k_2068 (c32 rfl) (by decide) ?_
  refine v_iand dJ6_bitCount_0f7a4_32 ?_
  refine v_istore_n_0 dJ6_bitCount_0f7a4_33 (by decide) rfl ?_
  refine v_iload_n dJ6_bitCount_0f7a4_34 rfl ?_
  refine v_iload_n dJ6_bitCount_0f7a4_35 rfl ?_
  refine v_bipush dJ6_bitCount_0f7a4_36 (c32 rfl) (by decide) ?_
  refine v_iushr dJ6_bitCount_0f7a4_38 ?_
  refine v_iadd dJ6_bitCount_0f7a4_39 ?_
  refine v_istore_n_0 dJ6_bitCount_0f7a4_40 (by decide) rfl ?_
  refine v_iload_n dJ6_bitCount_0f7a4_41 rfl ?_
  refine v_iload_n dJ6_bitCount_0f7a4_42 rfl ?_
  refine v_bipush dJ6_bitCount_0f7a4_43 (c32 rfl) (by decide) ?_
  refine v_iushr dJ6_bitCount_0f7a4_45 ?_
  refine v_iadd dJ6_bitCount_0f7a4_46 ?_
  refine v_istore_n_0 dJ6_bitCount_0f7a4_47 (by decide) rfl ?_
  refine v_iload_n dJ6_bitCount_0f7a4_48 rfl ?_
  refine v_bipush dJ6_bitCount_0f7a4_49 (c32 rfl) (by decide) ?_
  refine v_iand dJ6_bitCount_0f7a4_51 ?_
  refine v_ireti dJ6_bitCount_0f7a4_52 rfl (Nat.le_refl _) (Nat.le_refl _) ?_
  exact hq

theorem bt_12 : ∀ a b : Fin 64, ∀ i : Fin 12, iand (ishr ((64 * a.val + b.val : Nat) : Int) (i.val : Int)) 1 = if (64 * a.val + b.val).testBit i.val then 1 else 0 := by decide +kernel
theorem bt_n {m i : Nat} (hm : m < 4096) (hi : i < 12) : iand (ishr (m : Int) (i : Int)) 1 = if m.testBit i then 1 else 0 := by
  have := bt_12 ⟨m / 64, by omega⟩ ⟨m % 64, by omega⟩ ⟨i, hi⟩
  simp only [show 64 * (m / 64) + m % 64 = m by omega] at this
  exact this
theorem bp_12 : ∀ a b : Fin 64, ∀ i : Fin 12, (iand ((64 * a.val + b.val : Nat) : Int) ((2 ^ i.val : Nat) : Int) ≠ 0) ↔ (64 * a.val + b.val).testBit i.val = true := by decide +kernel
theorem bp_n {m i : Nat} (hm : m < 4096) (hi : i < 12) : (iand (m : Int) ((2 ^ i : Nat) : Int) ≠ 0) ↔ m.testBit i = true := by
  have := bp_12 ⟨m / 64, by omega⟩ ⟨m % 64, by omega⟩ ⟨i, hi⟩
  simp only [show 64 * (m / 64) + m % 64 = m by omega] at this
  exact this
/-- the lowest bit of x, from i on -/
def loB (x : Nat) : Nat → Nat → Nat
  | 0, i => i
  | f + 1, i => if x.testBit i then i else loB x f (i + 1)
theorem lo_12 : ∀ a b : Fin 64, 64 * a.val + b.val ≠ 0 → loB (64 * a.val + b.val) 12 0 < 12 ∧ (64 * a.val + b.val).testBit (loB (64 * a.val + b.val) 12 0) = true ∧ (∀ j : Fin 12, j.val < loB (64 * a.val + b.val) 12 0 → (64 * a.val + b.val).testBit j.val = false) ∧ iand ((64 * a.val + b.val : Nat) : Int) (ineg ((64 * a.val + b.val : Nat) : Int)) = ((2 ^ (loB (64 * a.val + b.val) 12 0) : Nat) : Int) := by decide +kernel
theorem lo_n {x : Nat} (hx : x < 4096) (h0 : x ≠ 0) : ∃ i, i < 12 ∧ x.testBit i = true ∧ (∀ j, j < i → x.testBit j = false) ∧ iand (x : Int) (ineg (x : Int)) = ((2 ^ i : Nat) : Int) := by
  have := lo_12 ⟨x / 64, by omega⟩ ⟨x % 64, by omega⟩
  simp only [show 64 * (x / 64) + x % 64 = x by omega] at this
  have q := this h0
  exact ⟨_, q.1, q.2.1, fun j hj => q.2.2.1 ⟨j, by omega⟩ hj, q.2.2.2⟩
theorem bc_12 : ∀ n : Fin 13, ∀ a b : Fin 64, 64 * a.val + b.val < 2 ^ n.val → bcI ((64 * a.val + b.val : Nat) : Int) = (wCn n.val (fun i => (64 * a.val + b.val).testBit i) n.val : Int) := by decide +kernel
theorem bc_n {n m : Nat} (hn : n ≤ 12) (hm : m < 2 ^ n) : bcI (m : Int) = (wCn n (fun i => m.testBit i) n : Int) := by
  have h2 : 2 ^ n ≤ 2 ^ 12 := Nat.pow_le_pow_right (by decide) hn
  have := bc_12 ⟨n, by omega⟩ ⟨m / 64, by omega⟩ ⟨m % 64, by omega⟩
  simp only [show 64 * (m / 64) + m % 64 = m by omega] at this
  exact this hm
theorem ixor_n {a b : Nat} (ha : a < 4096) (hb : b < 4096) : ixor (a : Int) (b : Int) = ((a ^^^ b : Nat) : Int) := by
  have hx : a ^^^ b < 2 ^ 12 := Nat.xor_lt_two_pow (by omega) (by omega)
  have e : (Int32.ofInt (a : Int) ^^^ Int32.ofInt (b : Int)).toBitVec = BitVec.ofNat 32 (a ^^^ b) := by
    rw [Int32.toBitVec_xor]
    show BitVec.ofInt 32 (a : Int) ^^^ BitVec.ofInt 32 (b : Int) = _
    rw [BitVec.ofInt_natCast, BitVec.ofInt_natCast]
    apply BitVec.eq_of_toNat_eq
    rw [BitVec.toNat_xor, BitVec.toNat_ofNat, BitVec.toNat_ofNat, BitVec.toNat_ofNat, Nat.mod_eq_of_lt (by omega), Nat.mod_eq_of_lt (by omega), Nat.mod_eq_of_lt (by omega)]
  unfold ixor
  show (Int32.ofInt (a : Int) ^^^ Int32.ofInt (b : Int)).toBitVec.toInt = _
  rw [e, BitVec.toInt_eq_toNat_of_lt (by rw [BitVec.toNat_ofNat, Nat.mod_eq_of_lt (by omega)]; omega), BitVec.toNat_ofNat, Nat.mod_eq_of_lt (by omega)]

