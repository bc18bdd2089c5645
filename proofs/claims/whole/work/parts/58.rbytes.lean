/-! ===== the reference: bytes of an int (written by wip/whole/p35.py) ===== -/
def bY (p k : Int) : Int := if iand (ishr p k) 255 = 0 then 0 else 1
/-- how many bytes of p aren't 0 -/
def bI (p : Int) : Int := bY p 24 + bY p 16 + bY p 8 + bY p 0
theorem bY_0 {p k : Int} (h : iand (ishr p k) 255 = 0) : bY p k = 0 := if_pos h
theorem bY_1 {p k : Int} (h : iand (ishr p k) 255 ≠ 0) : bY p k = 1 := if_neg h

set_option maxHeartbeats 4000000 in
set_option maxRecDepth 100000 in
theorem s_bytesIn {l : Launch} {G : GG} {d : Nat} {h : AH} {Q : Option AV → List Kd → AH → Prop} {p0 : Int} (hd : 1 ≤ d) (hq : Q (some (0, bI p0)) K0 h) : Sp l G mX12_bytesIn d 0 0 K0 [(0, p0)] h Q := by
  refine sp_of (L := [(0, p0), (9, 0), (9, 0)]) pl_X12 (Nat.le_of_ble_eq_true rfl) (tg_c (by decide) tg_0) rfl ?_
  refine v_iconst dX12_bytesIn_0 (c32 rfl) ?_
  refine v_istore_n_1 dX12_bytesIn_1 (by decide) rfl ?_
  refine v_bipush dX12_bytesIn_2 (c32 rfl) (by decide) ?_
  refine v_istore_n_2 dX12_bytesIn_4 (by decide) rfl ?_
  refine v_iload_n dX12_bytesIn_5 rfl ?_
  refine v_if_lt_f (tgt := 33) dX12_bytesIn_6 (by decide) (by decide) ?_
  refine v_iload_n dX12_bytesIn_9 rfl ?_
  refine v_iload_n dX12_bytesIn_10 rfl ?_
  refine v_iload_n dX12_bytesIn_11 rfl ?_
  refine v_ishr dX12_bytesIn_12 ?_
  refine v_sipush dX12_bytesIn_13 (c32 rfl) (by decide) ?_
  refine v_iand dX12_bytesIn_16 ?_
  refine v_if_eq (tgt := 24) dX12_bytesIn_17 (by decide) (fun c17_1 => ?_) (fun c17_1 => ?_)
  · refine v_iconst dX12_bytesIn_24 (c32 rfl) ?_
    refine v_iaddE dX12_bytesIn_25 (by omega) ?_
    refine v_istore_n_1 dX12_bytesIn_26 (by decide) rfl ?_
    refine v_iinc_2 dX12_bytesIn_27 (by decide) rfl ?_
    rw [show iadd 24 (-8) = 16 from by decide]
    refine v_goto (tgt := 5) dX12_bytesIn_30 (by decide) ?_
    refine v_iload_n dX12_bytesIn_5 rfl ?_
    refine v_if_lt_f (tgt := 33) dX12_bytesIn_6 (by decide) (by decide) ?_
    refine v_iload_n dX12_bytesIn_9 rfl ?_
    refine v_iload_n dX12_bytesIn_10 rfl ?_
    refine v_iload_n dX12_bytesIn_11 rfl ?_
    refine v_ishr dX12_bytesIn_12 ?_
    refine v_sipush dX12_bytesIn_13 (c32 rfl) (by decide) ?_
    refine v_iand dX12_bytesIn_16 ?_
    refine v_if_eq (tgt := 24) dX12_bytesIn_17 (by decide) (fun c17_2 => ?_) (fun c17_2 => ?_)
    · refine v_iconst dX12_bytesIn_24 (c32 rfl) ?_
      refine v_iaddE dX12_bytesIn_25 (by omega) ?_
      refine v_istore_n_1 dX12_bytesIn_26 (by decide) rfl ?_
      refine v_iinc_2 dX12_bytesIn_27 (by decide) rfl ?_
      rw [show iadd 16 (-8) = 8 from by decide]
      refine v_goto (tgt := 5) dX12_bytesIn_30 (by decide) ?_
      refine v_iload_n dX12_bytesIn_5 rfl ?_
      refine v_if_lt_f (tgt := 33) dX12_bytesIn_6 (by decide) (by decide) ?_
      refine v_iload_n dX12_bytesIn_9 rfl ?_
      refine v_iload_n dX12_bytesIn_10 rfl ?_
      refine v_iload_n dX12_bytesIn_11 rfl ?_
      refine v_ishr dX12_bytesIn_12 ?_
      refine v_sipush dX12_bytesIn_13 (c32 rfl) (by decide) ?_
      refine v_iand dX12_bytesIn_16 ?_
      refine v_if_eq (tgt := 24) dX12_bytesIn_17 (by decide) (fun c17_3 => ?_) (fun c17_3 => ?_)
      · refine v_iconst dX12_bytesIn_24 (c32 rfl) ?_
        refine v_iaddE dX12_bytesIn_25 (by omega) ?_
        refine v_istore_n_1 dX12_bytesIn_26 (by decide) rfl ?_
        refine v_iinc_2 dX12_bytesIn_27 (by decide) rfl ?_
        rw [show iadd 8 (-8) = 0 from by decide]
        refine v_goto (tgt := 5) dX12_bytesIn_30 (by decide) ?_
        refine v_iload_n dX12_bytesIn_5 rfl ?_
        refine v_if_lt_f (tgt := 33) dX12_bytesIn_6 (by decide) (by decide) ?_
        refine v_iload_n dX12_bytesIn_9 rfl ?_
        refine v_iload_n dX12_bytesIn_10 rfl ?_
        refine v_iload_n dX12_bytesIn_11 rfl ?_
        refine v_ishr dX12_bytesIn_12 ?_
        refine v_sipush dX12_bytesIn_13 (c32 rfl) (by decide) ?_
        refine v_iand dX12_bytesIn_16 ?_
        refine v_if_eq (tgt := 24) dX12_bytesIn_17 (by decide) (fun c17_4 => ?_) (fun c17_4 => ?_)
        · refine v_iconst dX12_bytesIn_24 (c32 rfl) ?_
          refine v_iaddE dX12_bytesIn_25 (by omega) ?_
          refine v_istore_n_1 dX12_bytesIn_26 (by decide) rfl ?_
          refine v_iinc_2 dX12_bytesIn_27 (by decide) rfl ?_
          rw [show iadd 0 (-8) = -8 from by decide]
          refine v_goto (tgt := 5) dX12_bytesIn_30 (by decide) ?_
          refine v_iload_n dX12_bytesIn_5 rfl ?_
          refine v_if_lt_t (tgt := 33) dX12_bytesIn_6 (by decide) (by decide) ?_
          refine v_iload_n dX12_bytesIn_33 rfl ?_
          refine v_ireti dX12_bytesIn_34 rfl (Nat.le_refl _) (Nat.le_refl _) ?_
          have e9 : bI p0 = ((((0 + 0) + 0) + 0) + 0) := by unfold bI; rw [bY_0 c17_1, bY_0 c17_2, bY_0 c17_3, bY_0 c17_4]; omega
          rw [e9] at hq
          exact hq
        · refine v_iconst dX12_bytesIn_20 (c32 rfl) ?_
          refine v_goto (tgt := 25) dX12_bytesIn_21 (by decide) ?_
          refine v_iaddE dX12_bytesIn_25 (by omega) ?_
          refine v_istore_n_1 dX12_bytesIn_26 (by decide) rfl ?_
          refine v_iinc_2 dX12_bytesIn_27 (by decide) rfl ?_
          rw [show iadd 0 (-8) = -8 from by decide]
          refine v_goto (tgt := 5) dX12_bytesIn_30 (by decide) ?_
          refine v_iload_n dX12_bytesIn_5 rfl ?_
          refine v_if_lt_t (tgt := 33) dX12_bytesIn_6 (by decide) (by decide) ?_
          refine v_iload_n dX12_bytesIn_33 rfl ?_
          refine v_ireti dX12_bytesIn_34 rfl (Nat.le_refl _) (Nat.le_refl _) ?_
          have e9 : bI p0 = ((((0 + 0) + 0) + 0) + 1) := by unfold bI; rw [bY_0 c17_1, bY_0 c17_2, bY_0 c17_3, bY_1 c17_4]; omega
          rw [e9] at hq
          exact hq
      · refine v_iconst dX12_bytesIn_20 (c32 rfl) ?_
        refine v_goto (tgt := 25) dX12_bytesIn_21 (by decide) ?_
        refine v_iaddE dX12_bytesIn_25 (by omega) ?_
        refine v_istore_n_1 dX12_bytesIn_26 (by decide) rfl ?_
        refine v_iinc_2 dX12_bytesIn_27 (by decide) rfl ?_
        rw [show iadd 8 (-8) = 0 from by decide]
        refine v_goto (tgt := 5) dX12_bytesIn_30 (by decide) ?_
        refine v_iload_n dX12_bytesIn_5 rfl ?_
        refine v_if_lt_f (tgt := 33) dX12_bytesIn_6 (by decide) (by decide) ?_
        refine v_iload_n dX12_bytesIn_9 rfl ?_
        refine v_iload_n dX12_bytesIn_10 rfl ?_
        refine v_iload_n dX12_bytesIn_11 rfl ?_
        refine v_ishr dX12_bytesIn_12 ?_
        refine v_sipush dX12_bytesIn_13 (c32 rfl) (by decide) ?_
        refine v_iand dX12_bytesIn_16 ?_
        refine v_if_eq (tgt := 24) dX12_bytesIn_17 (by decide) (fun c17_5 => ?_) (fun c17_5 => ?_)
        · refine v_iconst dX12_bytesIn_24 (c32 rfl) ?_
          refine v_iaddE dX12_bytesIn_25 (by omega) ?_
          refine v_istore_n_1 dX12_bytesIn_26 (by decide) rfl ?_
          refine v_iinc_2 dX12_bytesIn_27 (by decide) rfl ?_
          rw [show iadd 0 (-8) = -8 from by decide]
          refine v_goto (tgt := 5) dX12_bytesIn_30 (by decide) ?_
          refine v_iload_n dX12_bytesIn_5 rfl ?_
          refine v_if_lt_t (tgt := 33) dX12_bytesIn_6 (by decide) (by decide) ?_
          refine v_iload_n dX12_bytesIn_33 rfl ?_
          refine v_ireti dX12_bytesIn_34 rfl (Nat.le_refl _) (Nat.le_refl _) ?_
          have e9 : bI p0 = ((((0 + 0) + 0) + 1) + 0) := by unfold bI; rw [bY_0 c17_1, bY_0 c17_2, bY_1 c17_3, bY_0 c17_5]; omega
          rw [e9] at hq
          exact hq
        · refine v_iconst dX12_bytesIn_20 (c32 rfl) ?_
          refine v_goto (tgt := 25) dX12_bytesIn_21 (by decide) ?_
          refine v_iaddE dX12_bytesIn_25 (by omega) ?_
          refine v_istore_n_1 dX12_bytesIn_26 (by decide) rfl ?_
          refine v_iinc_2 dX12_bytesIn_27 (by decide) rfl ?_
          rw [show iadd 0 (-8) = -8 from by decide]
          refine v_goto (tgt := 5) dX12_bytesIn_30 (by decide) ?_
          refine v_iload_n dX12_bytesIn_5 rfl ?_
          refine v_if_lt_t (tgt := 33) dX12_bytesIn_6 (by decide) (by decide) ?_
          refine v_iload_n dX12_bytesIn_33 rfl ?_
          refine v_ireti dX12_bytesIn_34 rfl (Nat.le_refl _) (Nat.le_refl _) ?_
          have e9 : bI p0 = ((((0 + 0) + 0) + 1) + 1) := by unfold bI; rw [bY_0 c17_1, bY_0 c17_2, bY_1 c17_3, bY_1 c17_5]; omega
          rw [e9] at hq
          exact hq
    · refine v_iconst dX12_bytesIn_20 (c32 rfl) ?_
      refine v_goto (tgt := 25) dX12_bytesIn_21 (by decide) ?_
      refine v_iaddE dX12_bytesIn_25 (by omega) ?_
      refine v_istore_n_1 dX12_bytesIn_26 (by decide) rfl ?_
      refine v_iinc_2 dX12_bytesIn_27 (by decide) rfl ?_
      rw [show iadd 16 (-8) = 8 from by decide]
      refine v_goto (tgt := 5) dX12_bytesIn_30 (by decide) ?_
      refine v_iload_n dX12_bytesIn_5 rfl ?_
      refine v_if_lt_f (tgt := 33) dX12_bytesIn_6 (by decide) (by decide) ?_
      refine v_iload_n dX12_bytesIn_9 rfl ?_
      refine v_iload_n dX12_bytesIn_10 rfl ?_
      refine v_iload_n dX12_bytesIn_11 rfl ?_
      refine v_ishr dX12_bytesIn_12 ?_
      refine v_sipush dX12_bytesIn_13 (c32 rfl) (by decide) ?_
      refine v_iand dX12_bytesIn_16 ?_
      refine v_if_eq (tgt := 24) dX12_bytesIn_17 (by decide) (fun c17_6 => ?_) (fun c17_6 => ?_)
      · refine v_iconst dX12_bytesIn_24 (c32 rfl) ?_
        refine v_iaddE dX12_bytesIn_25 (by omega) ?_
        refine v_istore_n_1 dX12_bytesIn_26 (by decide) rfl ?_
        refine v_iinc_2 dX12_bytesIn_27 (by decide) rfl ?_
        rw [show iadd 8 (-8) = 0 from by decide]
        refine v_goto (tgt := 5) dX12_bytesIn_30 (by decide) ?_
        refine v_iload_n dX12_bytesIn_5 rfl ?_
        refine v_if_lt_f (tgt := 33) dX12_bytesIn_6 (by decide) (by decide) ?_
        refine v_iload_n dX12_bytesIn_9 rfl ?_
        refine v_iload_n dX12_bytesIn_10 rfl ?_
        refine v_iload_n dX12_bytesIn_11 rfl ?_
        refine v_ishr dX12_bytesIn_12 ?_
        refine v_sipush dX12_bytesIn_13 (c32 rfl) (by decide) ?_
        refine v_iand dX12_bytesIn_16 ?_
        refine v_if_eq (tgt := 24) dX12_bytesIn_17 (by decide) (fun c17_7 => ?_) (fun c17_7 => ?_)
        · refine v_iconst dX12_bytesIn_24 (c32 rfl) ?_
          refine v_iaddE dX12_bytesIn_25 (by omega) ?_
          refine v_istore_n_1 dX12_bytesIn_26 (by decide) rfl ?_
          refine v_iinc_2 dX12_bytesIn_27 (by decide) rfl ?_
          rw [show iadd 0 (-8) = -8 from by decide]
          refine v_goto (tgt := 5) dX12_bytesIn_30 (by decide) ?_
          refine v_iload_n dX12_bytesIn_5 rfl ?_
          refine v_if_lt_t (tgt := 33) dX12_bytesIn_6 (by decide) (by decide) ?_
          refine v_iload_n dX12_bytesIn_33 rfl ?_
          refine v_ireti dX12_bytesIn_34 rfl (Nat.le_refl _) (Nat.le_refl _) ?_
          have e9 : bI p0 = ((((0 + 0) + 1) + 0) + 0) := by unfold bI; rw [bY_0 c17_1, bY_1 c17_2, bY_0 c17_6, bY_0 c17_7]; omega
          rw [e9] at hq
          exact hq
        · refine v_iconst dX12_bytesIn_20 (c32 rfl) ?_
          refine v_goto (tgt := 25) dX12_bytesIn_21 (by decide) ?_
          refine v_iaddE dX12_bytesIn_25 (by omega) ?_
          refine v_istore_n_1 dX12_bytesIn_26 (by decide) rfl ?_
          refine v_iinc_2 dX12_bytesIn_27 (by decide) rfl ?_
          rw [show iadd 0 (-8) = -8 from by decide]
          refine v_goto (tgt := 5) dX12_bytesIn_30 (by decide) ?_
          refine v_iload_n dX12_bytesIn_5 rfl ?_
          refine v_if_lt_t (tgt := 33) dX12_bytesIn_6 (by decide) (by decide) ?_
          refine v_iload_n dX12_bytesIn_33 rfl ?_
          refine v_ireti dX12_bytesIn_34 rfl (Nat.le_refl _) (Nat.le_refl _) ?_
          have e9 : bI p0 = ((((0 + 0) + 1) + 0) + 1) := by unfold bI; rw [bY_0 c17_1, bY_1 c17_2, bY_0 c17_6, bY_1 c17_7]; omega
          rw [e9] at hq
          exact hq
      · refine v_iconst dX12_bytesIn_20 (c32 rfl) ?_
        refine v_goto (tgt := 25) dX12_bytesIn_21 (by decide) ?_
        refine v_iaddE dX12_bytesIn_25 (by omega) ?_
        refine v_istore_n_1 dX12_bytesIn_26 (by decide) rfl ?_
        refine v_iinc_2 dX12_bytesIn_27 (by decide) rfl ?_
        rw [show iadd 8 (-8) = 0 from by decide]
        refine v_goto (tgt := 5) dX12_bytesIn_30 (by decide) ?_
        refine v_iload_n dX12_bytesIn_5 rfl ?_
        refine v_if_lt_f (tgt := 33) dX12_bytesIn_6 (by decide) (by decide) ?_
        refine v_iload_n dX12_bytesIn_9 rfl ?_
        refine v_iload_n dX12_bytesIn_10 rfl ?_
        refine v_iload_n dX12_bytesIn_11 rfl ?_
        refine v_ishr dX12_bytesIn_12 ?_
        refine v_sipush dX12_bytesIn_13 (c32 rfl) (by decide) ?_
        refine v_iand dX12_bytesIn_16 ?_
        refine v_if_eq (tgt := 24) dX12_bytesIn_17 (by decide) (fun c17_8 => ?_) (fun c17_8 => ?_)
        · refine v_iconst dX12_bytesIn_24 (c32 rfl) ?_
          refine v_iaddE dX12_bytesIn_25 (by omega) ?_
          refine v_istore_n_1 dX12_bytesIn_26 (by decide) rfl ?_
          refine v_iinc_2 dX12_bytesIn_27 (by decide) rfl ?_
          rw [show iadd 0 (-8) = -8 from by decide]
          refine v_goto (tgt := 5) dX12_bytesIn_30 (by decide) ?_
          refine v_iload_n dX12_bytesIn_5 rfl ?_
          refine v_if_lt_t (tgt := 33) dX12_bytesIn_6 (by decide) (by decide) ?_
          refine v_iload_n dX12_bytesIn_33 rfl ?_
          refine v_ireti dX12_bytesIn_34 rfl (Nat.le_refl _) (Nat.le_refl _) ?_
          have e9 : bI p0 = ((((0 + 0) + 1) + 1) + 0) := by unfold bI; rw [bY_0 c17_1, bY_1 c17_2, bY_1 c17_6, bY_0 c17_8]; omega
          rw [e9] at hq
          exact hq
        · refine v_iconst dX12_bytesIn_20 (c32 rfl) ?_
          refine v_goto (tgt := 25) dX12_bytesIn_21 (by decide) ?_
          refine v_iaddE dX12_bytesIn_25 (by omega) ?_
          refine v_istore_n_1 dX12_bytesIn_26 (by decide) rfl ?_
          refine v_iinc_2 dX12_bytesIn_27 (by decide) rfl ?_
          rw [show iadd 0 (-8) = -8 from by decide]
          refine v_goto (tgt := 5) dX12_bytesIn_30 (by decide) ?_
          refine v_iload_n dX12_bytesIn_5 rfl ?_
          refine v_if_lt_t (tgt := 33) dX12_bytesIn_6 (by decide) (by decide) ?_
          refine v_iload_n dX12_bytesIn_33 rfl ?_
          refine v_ireti dX12_bytesIn_34 rfl (Nat.le_refl _) (Nat.le_refl _) ?_
          have e9 : bI p0 = ((((0 + 0) + 1) + 1) + 1) := by unfold bI; rw [bY_0 c17_1, bY_1 c17_2, bY_1 c17_6, bY_1 c17_8]; omega
          rw [e9] at hq
          exact hq
  · refine v_iconst dX12_bytesIn_20 (c32 rfl) ?_
    refine v_goto (tgt := 25) dX12_bytesIn_21 (by decide) ?_
    refine v_iaddE dX12_bytesIn_25 (by omega) ?_
    refine v_istore_n_1 dX12_bytesIn_26 (by decide) rfl ?_
    refine v_iinc_2 dX12_bytesIn_27 (by decide) rfl ?_
    rw [show iadd 24 (-8) = 16 from by decide]
    refine v_goto (tgt := 5) dX12_bytesIn_30 (by decide) ?_
    refine v_iload_n dX12_bytesIn_5 rfl ?_
    refine v_if_lt_f (tgt := 33) dX12_bytesIn_6 (by decide) (by decide) ?_
    refine v_iload_n dX12_bytesIn_9 rfl ?_
    refine v_iload_n dX12_bytesIn_10 rfl ?_
    refine v_iload_n dX12_bytesIn_11 rfl ?_
    refine v_ishr dX12_bytesIn_12 ?_
    refine v_sipush dX12_bytesIn_13 (c32 rfl) (by decide) ?_
    refine v_iand dX12_bytesIn_16 ?_
    refine v_if_eq (tgt := 24) dX12_bytesIn_17 (by decide) (fun c17_9 => ?_) (fun c17_9 => ?_)
    · refine v_iconst dX12_bytesIn_24 (c32 rfl) ?_
      refine v_iaddE dX12_bytesIn_25 (by omega) ?_
      refine v_istore_n_1 dX12_bytesIn_26 (by decide) rfl ?_
      refine v_iinc_2 dX12_bytesIn_27 (by decide) rfl ?_
      rw [show iadd 16 (-8) = 8 from by decide]
      refine v_goto (tgt := 5) dX12_bytesIn_30 (by decide) ?_
      refine v_iload_n dX12_bytesIn_5 rfl ?_
      refine v_if_lt_f (tgt := 33) dX12_bytesIn_6 (by decide) (by decide) ?_
      refine v_iload_n dX12_bytesIn_9 rfl ?_
      refine v_iload_n dX12_bytesIn_10 rfl ?_
      refine v_iload_n dX12_bytesIn_11 rfl ?_
      refine v_ishr dX12_bytesIn_12 ?_
      refine v_sipush dX12_bytesIn_13 (c32 rfl) (by decide) ?_
      refine v_iand dX12_bytesIn_16 ?_
      refine v_if_eq (tgt := 24) dX12_bytesIn_17 (by decide) (fun c17_10 => ?_) (fun c17_10 => ?_)
      · refine v_iconst dX12_bytesIn_24 (c32 rfl) ?_
        refine v_iaddE dX12_bytesIn_25 (by omega) ?_
        refine v_istore_n_1 dX12_bytesIn_26 (by decide) rfl ?_
        refine v_iinc_2 dX12_bytesIn_27 (by decide) rfl ?_
        rw [show iadd 8 (-8) = 0 from by decide]
        refine v_goto (tgt := 5) dX12_bytesIn_30 (by decide) ?_
        refine v_iload_n dX12_bytesIn_5 rfl ?_
        refine v_if_lt_f (tgt := 33) dX12_bytesIn_6 (by decide) (by decide) ?_
        refine v_iload_n dX12_bytesIn_9 rfl ?_
        refine v_iload_n dX12_bytesIn_10 rfl ?_
        refine v_iload_n dX12_bytesIn_11 rfl ?_
        refine v_ishr dX12_bytesIn_12 ?_
        refine v_sipush dX12_bytesIn_13 (c32 rfl) (by decide) ?_
        refine v_iand dX12_bytesIn_16 ?_
        refine v_if_eq (tgt := 24) dX12_bytesIn_17 (by decide) (fun c17_11 => ?_) (fun c17_11 => ?_)
        · refine v_iconst dX12_bytesIn_24 (c32 rfl) ?_
          refine v_iaddE dX12_bytesIn_25 (by omega) ?_
          refine v_istore_n_1 dX12_bytesIn_26 (by decide) rfl ?_
          refine v_iinc_2 dX12_bytesIn_27 (by decide) rfl ?_
          rw [show iadd 0 (-8) = -8 from by decide]
          refine v_goto (tgt := 5) dX12_bytesIn_30 (by decide) ?_
          refine v_iload_n dX12_bytesIn_5 rfl ?_
          refine v_if_lt_t (tgt := 33) dX12_bytesIn_6 (by decide) (by decide) ?_
          refine v_iload_n dX12_bytesIn_33 rfl ?_
          refine v_ireti dX12_bytesIn_34 rfl (Nat.le_refl _) (Nat.le_refl _) ?_
          have e9 : bI p0 = ((((0 + 1) + 0) + 0) + 0) := by unfold bI; rw [bY_1 c17_1, bY_0 c17_9, bY_0 c17_10, bY_0 c17_11]; omega
          rw [e9] at hq
          exact hq
        · refine v_iconst dX12_bytesIn_20 (c32 rfl) ?_
          refine v_goto (tgt := 25) dX12_bytesIn_21 (by decide) ?_
          refine v_iaddE dX12_bytesIn_25 (by omega) ?_
          refine v_istore_n_1 dX12_bytesIn_26 (by decide) rfl ?_
          refine v_iinc_2 dX12_bytesIn_27 (by decide) rfl ?_
          rw [show iadd 0 (-8) = -8 from by decide]
          refine v_goto (tgt := 5) dX12_bytesIn_30 (by decide) ?_
          refine v_iload_n dX12_bytesIn_5 rfl ?_
          refine v_if_lt_t (tgt := 33) dX12_bytesIn_6 (by decide) (by decide) ?_
          refine v_iload_n dX12_bytesIn_33 rfl ?_
          refine v_ireti dX12_bytesIn_34 rfl (Nat.le_refl _) (Nat.le_refl _) ?_
          have e9 : bI p0 = ((((0 + 1) + 0) + 0) + 1) := by unfold bI; rw [bY_1 c17_1, bY_0 c17_9, bY_0 c17_10, bY_1 c17_11]; omega
          rw [e9] at hq
          exact hq
      · refine v_iconst dX12_bytesIn_20 (c32 rfl) ?_
        refine v_goto (tgt := 25) dX12_bytesIn_21 (by decide) ?_
        refine v_iaddE dX12_bytesIn_25 (by omega) ?_
        refine v_istore_n_1 dX12_bytesIn_26 (by decide) rfl ?_
        refine v_iinc_2 dX12_bytesIn_27 (by decide) rfl ?_
        rw [show iadd 8 (-8) = 0 from by decide]
        refine v_goto (tgt := 5) dX12_bytesIn_30 (by decide) ?_
        refine v_iload_n dX12_bytesIn_5 rfl ?_
        refine v_if_lt_f (tgt := 33) dX12_bytesIn_6 (by decide) (by decide) ?_
        refine v_iload_n dX12_bytesIn_9 rfl ?_
        refine v_iload_n dX12_bytesIn_10 rfl ?_
        refine v_iload_n dX12_bytesIn_11 rfl ?_
        refine v_ishr dX12_bytesIn_12 ?_
        refine v_sipush dX12_bytesIn_13 (c32 rfl) (by decide) ?_
        refine v_iand dX12_bytesIn_16 ?_
        refine v_if_eq (tgt := 24) dX12_bytesIn_17 (by decide) (fun c17_12 => ?_) (fun c17_12 => ?_)
        · refine v_iconst dX12_bytesIn_24 (c32 rfl) ?_
          refine v_iaddE dX12_bytesIn_25 (by omega) ?_
          refine v_istore_n_1 dX12_bytesIn_26 (by decide) rfl ?_
          refine v_iinc_2 dX12_bytesIn_27 (by decide) rfl ?_
          rw [show iadd 0 (-8) = -8 from by decide]
          refine v_goto (tgt := 5) dX12_bytesIn_30 (by decide) ?_
          refine v_iload_n dX12_bytesIn_5 rfl ?_
          refine v_if_lt_t (tgt := 33) dX12_bytesIn_6 (by decide) (by decide) ?_
          refine v_iload_n dX12_bytesIn_33 rfl ?_
          refine v_ireti dX12_bytesIn_34 rfl (Nat.le_refl _) (Nat.le_refl _) ?_
          have e9 : bI p0 = ((((0 + 1) + 0) + 1) + 0) := by unfold bI; rw [bY_1 c17_1, bY_0 c17_9, bY_1 c17_10, bY_0 c17_12]; omega
          rw [e9] at hq
          exact hq
        · refine v_iconst dX12_bytesIn_20 (c32 rfl) ?_
          refine v_goto (tgt := 25) dX12_bytesIn_21 (by decide) ?_
          refine v_iaddE dX12_bytesIn_25 (by omega) ?_
          refine v_istore_n_1 dX12_bytesIn_26 (by decide) rfl ?_
          refine v_iinc_2 dX12_bytesIn_27 (by decide) rfl ?_
          rw [show iadd 0 (-8) = -8 from by decide]
          refine v_goto (tgt := 5) dX12_bytesIn_30 (by decide) ?_
          refine v_iload_n dX12_bytesIn_5 rfl ?_
          refine v_if_lt_t (tgt := 33) dX12_bytesIn_6 (by decide) (by decide) ?_
          refine v_iload_n dX12_bytesIn_33 rfl ?_
          refine v_ireti dX12_bytesIn_34 rfl (Nat.le_refl _) (Nat.le_refl _) ?_
          have e9 : bI p0 = ((((0 + 1) + 0) + 1) + 1) := by unfold bI; rw [bY_1 c17_1, bY_0 c17_9, bY_1 c17_10, bY_1 c17_12]; omega
          rw [e9] at hq
          exact hq
    · refine v_iconst dX12_bytesIn_20 (c32 rfl) ?_
      refine v_goto (tgt := 25) dX12_bytesIn_21 (by decide) ?_
      refine v_iaddE dX12_bytesIn_25 (by omega) ?_
      refine v_istore_n_1 dX12_bytesIn_26 (by decide) rfl ?_
      refine v_iinc_2 dX12_bytesIn_27 (by decide) rfl ?_
      rw [show iadd 16 (-8) = 8 from by decide]
      refine v_goto (tgt := 5) dX12_bytesIn_30 (by decide) ?_
      refine v_iload_n dX12_bytesIn_5 rfl ?_
      refine v_if_lt_f (tgt := 33) dX12_bytesIn_6 (by decide) (by decide) ?_
      refine v_iload_n dX12_bytesIn_9 rfl ?_
      refine v_iload_n dX12_bytesIn_10 rfl ?_
      refine v_iload_n dX12_bytesIn_11 rfl ?_
      refine v_ishr dX12_bytesIn_12 ?_
      refine v_sipush dX12_bytesIn_13 (c32 rfl) (by decide) ?_
      refine v_iand dX12_bytesIn_16 ?_
      refine v_if_eq (tgt := 24) dX12_bytesIn_17 (by decide) (fun c17_13 => ?_) (fun c17_13 => ?_)
      · refine v_iconst dX12_bytesIn_24 (c32 rfl) ?_
        refine v_iaddE dX12_bytesIn_25 (by omega) ?_
        refine v_istore_n_1 dX12_bytesIn_26 (by decide) rfl ?_
        refine v_iinc_2 dX12_bytesIn_27 (by decide) rfl ?_
        rw [show iadd 8 (-8) = 0 from by decide]
        refine v_goto (tgt := 5) dX12_bytesIn_30 (by decide) ?_
        refine v_iload_n dX12_bytesIn_5 rfl ?_
        refine v_if_lt_f (tgt := 33) dX12_bytesIn_6 (by decide) (by decide) ?_
        refine v_iload_n dX12_bytesIn_9 rfl ?_
        refine v_iload_n dX12_bytesIn_10 rfl ?_
        refine v_iload_n dX12_bytesIn_11 rfl ?_
        refine v_ishr dX12_bytesIn_12 ?_
        refine v_sipush dX12_bytesIn_13 (c32 rfl) (by decide) ?_
        refine v_iand dX12_bytesIn_16 ?_
        refine v_if_eq (tgt := 24) dX12_bytesIn_17 (by decide) (fun c17_14 => ?_) (fun c17_14 => ?_)
        · refine v_iconst dX12_bytesIn_24 (c32 rfl) ?_
          refine v_iaddE dX12_bytesIn_25 (by omega) ?_
          refine v_istore_n_1 dX12_bytesIn_26 (by decide) rfl ?_
          refine v_iinc_2 dX12_bytesIn_27 (by decide) rfl ?_
          rw [show iadd 0 (-8) = -8 from by decide]
          refine v_goto (tgt := 5) dX12_bytesIn_30 (by decide) ?_
          refine v_iload_n dX12_bytesIn_5 rfl ?_
          refine v_if_lt_t (tgt := 33) dX12_bytesIn_6 (by decide) (by decide) ?_
          refine v_iload_n dX12_bytesIn_33 rfl ?_
          refine v_ireti dX12_bytesIn_34 rfl (Nat.le_refl _) (Nat.le_refl _) ?_
          have e9 : bI p0 = ((((0 + 1) + 1) + 0) + 0) := by unfold bI; rw [bY_1 c17_1, bY_1 c17_9, bY_0 c17_13, bY_0 c17_14]; omega
          rw [e9] at hq
          exact hq
        · refine v_iconst dX12_bytesIn_20 (c32 rfl) ?_
          refine v_goto (tgt := 25) dX12_bytesIn_21 (by decide) ?_
          refine v_iaddE dX12_bytesIn_25 (by omega) ?_
          refine v_istore_n_1 dX12_bytesIn_26 (by decide) rfl ?_
          refine v_iinc_2 dX12_bytesIn_27 (by decide) rfl ?_
          rw [show iadd 0 (-8) = -8 from by decide]
          refine v_goto (tgt := 5) dX12_bytesIn_30 (by decide) ?_
          refine v_iload_n dX12_bytesIn_5 rfl ?_
          refine v_if_lt_t (tgt := 33) dX12_bytesIn_6 (by decide) (by decide) ?_
          refine v_iload_n dX12_bytesIn_33 rfl ?_
          refine v_ireti dX12_bytesIn_34 rfl (Nat.le_refl _) (Nat.le_refl _) ?_
          have e9 : bI p0 = ((((0 + 1) + 1) + 0) + 1) := by unfold bI; rw [bY_1 c17_1, bY_1 c17_9, bY_0 c17_13, bY_1 c17_14]; omega
          rw [e9] at hq
          exact hq
      · refine v_iconst dX12_bytesIn_20 (c32 rfl) ?_
        refine v_goto (tgt := 25) dX12_bytesIn_21 (by decide) ?_
        refine v_iaddE dX12_bytesIn_25 (by omega) ?_
        refine v_istore_n_1 dX12_bytesIn_26 (by decide) rfl ?_
        refine v_iinc_2 dX12_bytesIn_27 (by decide) rfl ?_
        rw [show iadd 8 (-8) = 0 from by decide]
        refine v_goto (tgt := 5) dX12_bytesIn_30 (by decide) ?_
        refine v_iload_n dX12_bytesIn_5 rfl ?_
        refine v_if_lt_f (tgt := 33) dX12_bytesIn_6 (by decide) (by decide) ?_
        refine v_iload_n dX12_bytesIn_9 rfl ?_
        refine v_iload_n dX12_bytesIn_10 rfl ?_
        refine v_iload_n dX12_bytesIn_11 rfl ?_
        refine v_ishr dX12_bytesIn_12 ?_
        refine v_sipush dX12_bytesIn_13 (c32 rfl) (by decide) ?_
        refine v_iand dX12_bytesIn_16 ?_
        refine v_if_eq (tgt := 24) dX12_bytesIn_17 (by decide) (fun c17_15 => ?_) (fun c17_15 => ?_)
        · refine v_iconst dX12_bytesIn_24 (c32 rfl) ?_
          refine v_iaddE dX12_bytesIn_25 (by omega) ?_
          refine v_istore_n_1 dX12_bytesIn_26 (by decide) rfl ?_
          refine v_iinc_2 dX12_bytesIn_27 (by decide) rfl ?_
          rw [show iadd 0 (-8) = -8 from by decide]
          refine v_goto (tgt := 5) dX12_bytesIn_30 (by decide) ?_
          refine v_iload_n dX12_bytesIn_5 rfl ?_
          refine v_if_lt_t (tgt := 33) dX12_bytesIn_6 (by decide) (by decide) ?_
          refine v_iload_n dX12_bytesIn_33 rfl ?_
          refine v_ireti dX12_bytesIn_34 rfl (Nat.le_refl _) (Nat.le_refl _) ?_
          have e9 : bI p0 = ((((0 + 1) + 1) + 1) + 0) := by unfold bI; rw [bY_1 c17_1, bY_1 c17_9, bY_1 c17_13, bY_0 c17_15]; omega
          rw [e9] at hq
          exact hq
        · refine v_iconst dX12_bytesIn_20 (c32 rfl) ?_
          refine v_goto (tgt := 25) dX12_bytesIn_21 (by decide) ?_
          refine v_iaddE dX12_bytesIn_25 (by omega) ?_
          refine v_istore_n_1 dX12_bytesIn_26 (by decide) rfl ?_
          refine v_iinc_2 dX12_bytesIn_27 (by decide) rfl ?_
          rw [show iadd 0 (-8) = -8 from by decide]
          refine v_goto (tgt := 5) dX12_bytesIn_30 (by decide) ?_
          refine v_iload_n dX12_bytesIn_5 rfl ?_
          refine v_if_lt_t (tgt := 33) dX12_bytesIn_6 (by decide) (by decide) ?_
          refine v_iload_n dX12_bytesIn_33 rfl ?_
          refine v_ireti dX12_bytesIn_34 rfl (Nat.le_refl _) (Nat.le_refl _) ?_
          have e9 : bI p0 = ((((0 + 1) + 1) + 1) + 1) := by unfold bI; rw [bY_1 c17_1, bY_1 c17_9, bY_1 c17_13, bY_1 c17_15]; omega
          rw [e9] at hq
          exact hq

