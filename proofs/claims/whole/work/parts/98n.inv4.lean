/-! ===== the other changes: made, a protocol, lines (written by wip/whole/p80.py, ci.py) ===== -/
def csN (n : Int) (c : List (Int × List Int)) (cs : Int → List (Int × List Int)) : Int → List (Int × List Int) := fun p => if p = n then c else cs p
theorem csN_1 {n : Int} {c : List (Int × List Int)} {cs : Int → List (Int × List Int)} : csN n c cs n = c := if_pos rfl
theorem csN_2 {n p : Int} {c : List (Int × List Int)} {cs : Int → List (Int × List Int)} (z : ¬ p = n) : csN n c cs p = cs p := if_neg z
set_option maxHeartbeats 2000000 in
theorem LI_made {h : AH} {cs : Int → List (Int × List Int)} {a b pr c e : Int} (I : CI h cs) (L : CLN h) (hn : h 116 45 < 100) (ha : 0 ≤ a ∧ a ≤ 7) (hb : 0 ≤ b ∧ b ≤ 99) (hc : 1 ≤ c ∧ c ≤ 10000) (he : 1 ≤ e ∧ e ≤ 10000) (hpr : 0 ≤ pr ∧ pr ≤ 9) : LI (ov1 (ov1 (hset (hset (hset (hset (hset (hset (hset (hset (hset (hset (hset (hset (ov1 (ov1 (ov1 (hset (hset (hset (hset (hset (hset (hset (hset (hset (hset (hset (hset h 42 (h 116 45) a) 43 (h 116 45) b) 44 (h 116 45) c) 45 (h 116 45) e) 46 (h 116 45) e) 47 (h 116 45) (h 116 1)) 48 (h 116 45) (-1)) 49 (h 116 45) (-1)) 50 (h 116 45) 0) 41 12 ((h 116 45) + 1)) 48 (h 116 45) pr) 81 2 0) 50 (fset (fset (h 50) (h 116 45) 0) (h 116 45) (h 116 46))) 51 (cpR (h 138) (h 116 45) (h 140) (h 116 46))) 52 (cpR (h 139) (h 116 45) (h 141) (h 116 46))) 116 0 0) 129 (h 116 45) a) 130 (h 116 45) b) 131 (h 116 45) c) 132 (h 116 45) e) 133 (h 116 45) e) 134 (h 116 45) (h 116 1)) 135 (h 116 45) pr) 136 (h 116 45) 9999) 116 45 ((h 116 45) + 1)) 137 (h 116 45) (h 116 46)) 116 46 0) 138 (cpR (h 138) (h 116 45) (h 140) (h 116 46))) 139 (cpR (h 139) (h 116 45) (h 141) (h 116 46))) := by
  have key : ∀ N : AH, N = (ov1 (ov1 (hset (hset (hset (hset (hset (hset (hset (hset (hset (hset (hset (hset (ov1 (ov1 (ov1 (hset (hset (hset (hset (hset (hset (hset (hset (hset (hset (hset (hset h 42 (h 116 45) a) 43 (h 116 45) b) 44 (h 116 45) c) 45 (h 116 45) e) 46 (h 116 45) e) 47 (h 116 45) (h 116 1)) 48 (h 116 45) (-1)) 49 (h 116 45) (-1)) 50 (h 116 45) 0) 41 12 ((h 116 45) + 1)) 48 (h 116 45) pr) 81 2 0) 50 (fset (fset (h 50) (h 116 45) 0) (h 116 45) (h 116 46))) 51 (cpR (h 138) (h 116 45) (h 140) (h 116 46))) 52 (cpR (h 139) (h 116 45) (h 141) (h 116 46))) 116 0 0) 129 (h 116 45) a) 130 (h 116 45) b) 131 (h 116 45) c) 132 (h 116 45) e) 133 (h 116 45) e) 134 (h 116 45) (h 116 1)) 135 (h 116 45) pr) 136 (h 116 45) 9999) 116 45 ((h 116 45) + 1)) 137 (h 116 45) (h 116 46)) 116 46 0) 138 (cpR (h 138) (h 116 45) (h 140) (h 116 46))) 139 (cpR (h 139) (h 116 45) (h 141) (h 116 46))) → LI N := fun N hN => by
    have en0 := I.en (h 116 45) (Int.le_refl _)
    have nb := I.W.nb
    have bn := I.bn.1
    have u : ∀ c j, ¬ (c = 139 ∨ c = 138 ∨ (c = 116 ∧ j = 46) ∨ c = 137 ∨ (c = 116 ∧ j = 45) ∨ c = 136 ∨ c = 135 ∨ c = 134 ∨ c = 133 ∨ c = 132 ∨ c = 131 ∨ c = 130 ∨ c = 129 ∨ (c = 116 ∧ j = 0) ∨ c = 52 ∨ c = 51 ∨ c = 50 ∨ (c = 81 ∧ j = 2) ∨ c = 48 ∨ (c = 41 ∧ j = 12) ∨ c = 49 ∨ c = 47 ∨ c = 46 ∨ c = 45 ∨ c = 44 ∨ c = 43 ∨ c = 42) → N c j = h c j := fun c j q => by
      rw [hN, ov1_c (by omega), ov1_c (by omega), hset_ne _ (by omega), hset_ne _ (by omega), hset_ne _ (by omega), hset_ne _ (by omega), hset_ne _ (by omega), hset_ne _ (by omega), hset_ne _ (by omega), hset_ne _ (by omega), hset_ne _ (by omega), hset_ne _ (by omega), hset_ne _ (by omega), hset_ne _ (by omega), ov1_c (by omega), ov1_c (by omega), ov1_c (by omega), hset_ne _ (by omega), hset_ne _ (by omega), hset_ne _ (by omega), hset_ne _ (by omega), hset_ne _ (by omega), hset_ne _ (by omega), hset_ne _ (by omega), hset_ne _ (by omega), hset_ne _ (by omega), hset_ne _ (by omega), hset_ne _ (by omega), hset_ne _ (by omega)]
    have r2 : N 2 = h 2 := funext fun j => u 2 j (by omega)
    have r8 : N 8 = h 8 := funext fun j => u 8 j (by omega)
    have r9 : N 9 = h 9 := funext fun j => u 9 j (by omega)
    have r10 : N 10 = h 10 := funext fun j => u 10 j (by omega)
    have r11 : N 11 = h 11 := funext fun j => u 11 j (by omega)
    have r13 : N 13 = h 13 := funext fun j => u 13 j (by omega)
    have r14 : N 14 = h 14 := funext fun j => u 14 j (by omega)
    have r15 : N 15 = h 15 := funext fun j => u 15 j (by omega)
    have r37 : N 37 = h 37 := funext fun j => u 37 j (by omega)
    have r42 : N 42 = (fset (h 42) (h 116 45) a) := by rw [hN, ov1_r (by decide), ov1_r (by decide), hset_r (by decide), hset_r (by decide), hset_r (by decide), hset_r (by decide), hset_r (by decide), hset_r (by decide), hset_r (by decide), hset_r (by decide), hset_r (by decide), hset_r (by decide), hset_r (by decide), hset_r (by decide), ov1_r (by decide), ov1_r (by decide), ov1_r (by decide), hset_r (by decide), hset_r (by decide), hset_r (by decide), hset_r (by decide), hset_r (by decide), hset_r (by decide), hset_r (by decide), hset_r (by decide), hset_r (by decide), hset_r (by decide), hset_r (by decide), hset_f]
    have r43 : N 43 = (fset (h 43) (h 116 45) b) := by rw [hN, ov1_r (by decide), ov1_r (by decide), hset_r (by decide), hset_r (by decide), hset_r (by decide), hset_r (by decide), hset_r (by decide), hset_r (by decide), hset_r (by decide), hset_r (by decide), hset_r (by decide), hset_r (by decide), hset_r (by decide), hset_r (by decide), ov1_r (by decide), ov1_r (by decide), ov1_r (by decide), hset_r (by decide), hset_r (by decide), hset_r (by decide), hset_r (by decide), hset_r (by decide), hset_r (by decide), hset_r (by decide), hset_r (by decide), hset_r (by decide), hset_r (by decide), hset_f, hset_r (by decide)]
    have r44 : N 44 = (fset (h 44) (h 116 45) c) := by rw [hN, ov1_r (by decide), ov1_r (by decide), hset_r (by decide), hset_r (by decide), hset_r (by decide), hset_r (by decide), hset_r (by decide), hset_r (by decide), hset_r (by decide), hset_r (by decide), hset_r (by decide), hset_r (by decide), hset_r (by decide), hset_r (by decide), ov1_r (by decide), ov1_r (by decide), ov1_r (by decide), hset_r (by decide), hset_r (by decide), hset_r (by decide), hset_r (by decide), hset_r (by decide), hset_r (by decide), hset_r (by decide), hset_r (by decide), hset_r (by decide), hset_f, hset_r (by decide), hset_r (by decide)]
    have r45 : N 45 = (fset (h 45) (h 116 45) e) := by rw [hN, ov1_r (by decide), ov1_r (by decide), hset_r (by decide), hset_r (by decide), hset_r (by decide), hset_r (by decide), hset_r (by decide), hset_r (by decide), hset_r (by decide), hset_r (by decide), hset_r (by decide), hset_r (by decide), hset_r (by decide), hset_r (by decide), ov1_r (by decide), ov1_r (by decide), ov1_r (by decide), hset_r (by decide), hset_r (by decide), hset_r (by decide), hset_r (by decide), hset_r (by decide), hset_r (by decide), hset_r (by decide), hset_r (by decide), hset_f, hset_r (by decide), hset_r (by decide), hset_r (by decide)]
    have r46 : N 46 = (fset (h 46) (h 116 45) e) := by rw [hN, ov1_r (by decide), ov1_r (by decide), hset_r (by decide), hset_r (by decide), hset_r (by decide), hset_r (by decide), hset_r (by decide), hset_r (by decide), hset_r (by decide), hset_r (by decide), hset_r (by decide), hset_r (by decide), hset_r (by decide), hset_r (by decide), ov1_r (by decide), ov1_r (by decide), ov1_r (by decide), hset_r (by decide), hset_r (by decide), hset_r (by decide), hset_r (by decide), hset_r (by decide), hset_r (by decide), hset_r (by decide), hset_f, hset_r (by decide), hset_r (by decide), hset_r (by decide), hset_r (by decide)]
    have r47 : N 47 = (fset (h 47) (h 116 45) (h 116 1)) := by rw [hN, ov1_r (by decide), ov1_r (by decide), hset_r (by decide), hset_r (by decide), hset_r (by decide), hset_r (by decide), hset_r (by decide), hset_r (by decide), hset_r (by decide), hset_r (by decide), hset_r (by decide), hset_r (by decide), hset_r (by decide), hset_r (by decide), ov1_r (by decide), ov1_r (by decide), ov1_r (by decide), hset_r (by decide), hset_r (by decide), hset_r (by decide), hset_r (by decide), hset_r (by decide), hset_r (by decide), hset_f, hset_r (by decide), hset_r (by decide), hset_r (by decide), hset_r (by decide), hset_r (by decide)]
    have r48 : N 48 = (fset (fset (h 48) (h 116 45) (-1)) (h 116 45) pr) := by rw [hN, ov1_r (by decide), ov1_r (by decide), hset_r (by decide), hset_r (by decide), hset_r (by decide), hset_r (by decide), hset_r (by decide), hset_r (by decide), hset_r (by decide), hset_r (by decide), hset_r (by decide), hset_r (by decide), hset_r (by decide), hset_r (by decide), ov1_r (by decide), ov1_r (by decide), ov1_r (by decide), hset_r (by decide), hset_f, hset_r (by decide), hset_r (by decide), hset_r (by decide), hset_f, hset_r (by decide), hset_r (by decide), hset_r (by decide), hset_r (by decide), hset_r (by decide), hset_r (by decide)]
    have r49 : N 49 = (fset (h 49) (h 116 45) (-1)) := by rw [hN, ov1_r (by decide), ov1_r (by decide), hset_r (by decide), hset_r (by decide), hset_r (by decide), hset_r (by decide), hset_r (by decide), hset_r (by decide), hset_r (by decide), hset_r (by decide), hset_r (by decide), hset_r (by decide), hset_r (by decide), hset_r (by decide), ov1_r (by decide), ov1_r (by decide), ov1_r (by decide), hset_r (by decide), hset_r (by decide), hset_r (by decide), hset_r (by decide), hset_f, hset_r (by decide), hset_r (by decide), hset_r (by decide), hset_r (by decide), hset_r (by decide), hset_r (by decide), hset_r (by decide)]
    have r50 : N 50 = (fset (fset (h 50) (h 116 45) 0) (h 116 45) (h 116 46)) := by rw [hN, ov1_r (by decide), ov1_r (by decide), hset_r (by decide), hset_r (by decide), hset_r (by decide), hset_r (by decide), hset_r (by decide), hset_r (by decide), hset_r (by decide), hset_r (by decide), hset_r (by decide), hset_r (by decide), hset_r (by decide), hset_r (by decide), ov1_r (by decide), ov1_r (by decide), ov1_rs]
    have r51 : N 51 = (cpR (h 138) (h 116 45) (h 140) (h 116 46)) := by rw [hN, ov1_r (by decide), ov1_r (by decide), hset_r (by decide), hset_r (by decide), hset_r (by decide), hset_r (by decide), hset_r (by decide), hset_r (by decide), hset_r (by decide), hset_r (by decide), hset_r (by decide), hset_r (by decide), hset_r (by decide), hset_r (by decide), ov1_r (by decide), ov1_rs]
    have r52 : N 52 = (cpR (h 139) (h 116 45) (h 141) (h 116 46)) := by rw [hN, ov1_r (by decide), ov1_r (by decide), hset_r (by decide), hset_r (by decide), hset_r (by decide), hset_r (by decide), hset_r (by decide), hset_r (by decide), hset_r (by decide), hset_r (by decide), hset_r (by decide), hset_r (by decide), hset_r (by decide), hset_r (by decide), ov1_rs]
    have r54 : N 54 = h 54 := funext fun j => u 54 j (by omega)
    have r55 : N 55 = h 55 := funext fun j => u 55 j (by omega)
    have r56 : N 56 = h 56 := funext fun j => u 56 j (by omega)
    have r64 : N 64 = h 64 := funext fun j => u 64 j (by omega)
    have r65 : N 65 = h 65 := funext fun j => u 65 j (by omega)
    have r66 : N 66 = h 66 := funext fun j => u 66 j (by omega)
    have r67 : N 67 = h 67 := funext fun j => u 67 j (by omega)
    have r68 : N 68 = h 68 := funext fun j => u 68 j (by omega)
    have r69 : N 69 = h 69 := funext fun j => u 69 j (by omega)
    have r71 : N 71 = h 71 := funext fun j => u 71 j (by omega)
    have r72 : N 72 = h 72 := funext fun j => u 72 j (by omega)
    have r73 : N 73 = h 73 := funext fun j => u 73 j (by omega)
    have r74 : N 74 = h 74 := funext fun j => u 74 j (by omega)
    have r82 : N 82 = h 82 := funext fun j => u 82 j (by omega)
    have r83 : N 83 = h 83 := funext fun j => u 83 j (by omega)
    have r84 : N 84 = h 84 := funext fun j => u 84 j (by omega)
    have r85 : N 85 = h 85 := funext fun j => u 85 j (by omega)
    have r86 : N 86 = h 86 := funext fun j => u 86 j (by omega)
    have r88 : N 88 = h 88 := funext fun j => u 88 j (by omega)
    have r89 : N 89 = h 89 := funext fun j => u 89 j (by omega)
    have r90 : N 90 = h 90 := funext fun j => u 90 j (by omega)
    have r91 : N 91 = h 91 := funext fun j => u 91 j (by omega)
    have r92 : N 92 = h 92 := funext fun j => u 92 j (by omega)
    have r98 : N 98 = h 98 := funext fun j => u 98 j (by omega)
    have r99 : N 99 = h 99 := funext fun j => u 99 j (by omega)
    have r117 : N 117 = h 117 := funext fun j => u 117 j (by omega)
    have r118 : N 118 = h 118 := funext fun j => u 118 j (by omega)
    have r119 : N 119 = h 119 := funext fun j => u 119 j (by omega)
    have r120 : N 120 = h 120 := funext fun j => u 120 j (by omega)
    have r121 : N 121 = h 121 := funext fun j => u 121 j (by omega)
    have r122 : N 122 = h 122 := funext fun j => u 122 j (by omega)
    have r123 : N 123 = h 123 := funext fun j => u 123 j (by omega)
    have r124 : N 124 = h 124 := funext fun j => u 124 j (by omega)
    have r125 : N 125 = h 125 := funext fun j => u 125 j (by omega)
    have r127 : N 127 = h 127 := funext fun j => u 127 j (by omega)
    have r128 : N 128 = h 128 := funext fun j => u 128 j (by omega)
    have r129 : N 129 = (fset (h 129) (h 116 45) a) := by rw [hN, ov1_r (by decide), ov1_r (by decide), hset_r (by decide), hset_r (by decide), hset_r (by decide), hset_r (by decide), hset_r (by decide), hset_r (by decide), hset_r (by decide), hset_r (by decide), hset_r (by decide), hset_r (by decide), hset_f, hset_r (by decide), ov1_r (by decide), ov1_r (by decide), ov1_r (by decide), hset_r (by decide), hset_r (by decide), hset_r (by decide), hset_r (by decide), hset_r (by decide), hset_r (by decide), hset_r (by decide), hset_r (by decide), hset_r (by decide), hset_r (by decide), hset_r (by decide), hset_r (by decide)]
    have r130 : N 130 = (fset (h 130) (h 116 45) b) := by rw [hN, ov1_r (by decide), ov1_r (by decide), hset_r (by decide), hset_r (by decide), hset_r (by decide), hset_r (by decide), hset_r (by decide), hset_r (by decide), hset_r (by decide), hset_r (by decide), hset_r (by decide), hset_f, hset_r (by decide), hset_r (by decide), ov1_r (by decide), ov1_r (by decide), ov1_r (by decide), hset_r (by decide), hset_r (by decide), hset_r (by decide), hset_r (by decide), hset_r (by decide), hset_r (by decide), hset_r (by decide), hset_r (by decide), hset_r (by decide), hset_r (by decide), hset_r (by decide), hset_r (by decide)]
    have r131 : N 131 = (fset (h 131) (h 116 45) c) := by rw [hN, ov1_r (by decide), ov1_r (by decide), hset_r (by decide), hset_r (by decide), hset_r (by decide), hset_r (by decide), hset_r (by decide), hset_r (by decide), hset_r (by decide), hset_r (by decide), hset_f, hset_r (by decide), hset_r (by decide), hset_r (by decide), ov1_r (by decide), ov1_r (by decide), ov1_r (by decide), hset_r (by decide), hset_r (by decide), hset_r (by decide), hset_r (by decide), hset_r (by decide), hset_r (by decide), hset_r (by decide), hset_r (by decide), hset_r (by decide), hset_r (by decide), hset_r (by decide), hset_r (by decide)]
    have r132 : N 132 = (fset (h 132) (h 116 45) e) := by rw [hN, ov1_r (by decide), ov1_r (by decide), hset_r (by decide), hset_r (by decide), hset_r (by decide), hset_r (by decide), hset_r (by decide), hset_r (by decide), hset_r (by decide), hset_f, hset_r (by decide), hset_r (by decide), hset_r (by decide), hset_r (by decide), ov1_r (by decide), ov1_r (by decide), ov1_r (by decide), hset_r (by decide), hset_r (by decide), hset_r (by decide), hset_r (by decide), hset_r (by decide), hset_r (by decide), hset_r (by decide), hset_r (by decide), hset_r (by decide), hset_r (by decide), hset_r (by decide), hset_r (by decide)]
    have r133 : N 133 = (fset (h 133) (h 116 45) e) := by rw [hN, ov1_r (by decide), ov1_r (by decide), hset_r (by decide), hset_r (by decide), hset_r (by decide), hset_r (by decide), hset_r (by decide), hset_r (by decide), hset_f, hset_r (by decide), hset_r (by decide), hset_r (by decide), hset_r (by decide), hset_r (by decide), ov1_r (by decide), ov1_r (by decide), ov1_r (by decide), hset_r (by decide), hset_r (by decide), hset_r (by decide), hset_r (by decide), hset_r (by decide), hset_r (by decide), hset_r (by decide), hset_r (by decide), hset_r (by decide), hset_r (by decide), hset_r (by decide), hset_r (by decide)]
    have r134 : N 134 = (fset (h 134) (h 116 45) (h 116 1)) := by rw [hN, ov1_r (by decide), ov1_r (by decide), hset_r (by decide), hset_r (by decide), hset_r (by decide), hset_r (by decide), hset_r (by decide), hset_f, hset_r (by decide), hset_r (by decide), hset_r (by decide), hset_r (by decide), hset_r (by decide), hset_r (by decide), ov1_r (by decide), ov1_r (by decide), ov1_r (by decide), hset_r (by decide), hset_r (by decide), hset_r (by decide), hset_r (by decide), hset_r (by decide), hset_r (by decide), hset_r (by decide), hset_r (by decide), hset_r (by decide), hset_r (by decide), hset_r (by decide), hset_r (by decide)]
    have r135 : N 135 = (fset (h 135) (h 116 45) pr) := by rw [hN, ov1_r (by decide), ov1_r (by decide), hset_r (by decide), hset_r (by decide), hset_r (by decide), hset_r (by decide), hset_f, hset_r (by decide), hset_r (by decide), hset_r (by decide), hset_r (by decide), hset_r (by decide), hset_r (by decide), hset_r (by decide), ov1_r (by decide), ov1_r (by decide), ov1_r (by decide), hset_r (by decide), hset_r (by decide), hset_r (by decide), hset_r (by decide), hset_r (by decide), hset_r (by decide), hset_r (by decide), hset_r (by decide), hset_r (by decide), hset_r (by decide), hset_r (by decide), hset_r (by decide)]
    have r136 : N 136 = (fset (h 136) (h 116 45) 9999) := by rw [hN, ov1_r (by decide), ov1_r (by decide), hset_r (by decide), hset_r (by decide), hset_r (by decide), hset_f, hset_r (by decide), hset_r (by decide), hset_r (by decide), hset_r (by decide), hset_r (by decide), hset_r (by decide), hset_r (by decide), hset_r (by decide), ov1_r (by decide), ov1_r (by decide), ov1_r (by decide), hset_r (by decide), hset_r (by decide), hset_r (by decide), hset_r (by decide), hset_r (by decide), hset_r (by decide), hset_r (by decide), hset_r (by decide), hset_r (by decide), hset_r (by decide), hset_r (by decide), hset_r (by decide)]
    have r137 : N 137 = (fset (h 137) (h 116 45) (h 116 46)) := by rw [hN, ov1_r (by decide), ov1_r (by decide), hset_r (by decide), hset_f, hset_r (by decide), hset_r (by decide), hset_r (by decide), hset_r (by decide), hset_r (by decide), hset_r (by decide), hset_r (by decide), hset_r (by decide), hset_r (by decide), hset_r (by decide), ov1_r (by decide), ov1_r (by decide), ov1_r (by decide), hset_r (by decide), hset_r (by decide), hset_r (by decide), hset_r (by decide), hset_r (by decide), hset_r (by decide), hset_r (by decide), hset_r (by decide), hset_r (by decide), hset_r (by decide), hset_r (by decide), hset_r (by decide)]
    have r138 : N 138 = (cpR (h 138) (h 116 45) (h 140) (h 116 46)) := by rw [hN, ov1_r (by decide), ov1_rs]
    have r139 : N 139 = (cpR (h 139) (h 116 45) (h 141) (h 116 46)) := by rw [hN, ov1_rs]
    have r140 : N 140 = h 140 := funext fun j => u 140 j (by omega)
    have r141 : N 141 = h 141 := funext fun j => u 141 j (by omega)
    have r142 : N 142 = h 142 := funext fun j => u 142 j (by omega)
    have r143 : N 143 = h 143 := funext fun j => u 143 j (by omega)
    have r144 : N 144 = h 144 := funext fun j => u 144 j (by omega)
    have r145 : N 145 = h 145 := funext fun j => u 145 j (by omega)
    have r146 : N 146 = h 146 := funext fun j => u 146 j (by omega)
    have r147 : N 147 = h 147 := funext fun j => u 147 j (by omega)
    have r150 : N 150 = h 150 := funext fun j => u 150 j (by omega)
    have r151 : N 151 = h 151 := funext fun j => u 151 j (by omega)
    have r152 : N 152 = h 152 := funext fun j => u 152 j (by omega)
    have r153 : N 153 = h 153 := funext fun j => u 153 j (by omega)
    have r154 : N 154 = h 154 := funext fun j => u 154 j (by omega)
    have r155 : N 155 = h 155 := funext fun j => u 155 j (by omega)
    have r156 : N 156 = h 156 := funext fun j => u 156 j (by omega)
    have r157 : N 157 = h 157 := funext fun j => u 157 j (by omega)
    have r158 : N 158 = h 158 := funext fun j => u 158 j (by omega)
    have r167 : N 167 = h 167 := funext fun j => u 167 j (by omega)
    have r168 : N 168 = h 168 := funext fun j => u 168 j (by omega)
    have r169 : N 169 = h 169 := funext fun j => u 169 j (by omega)
    have r170 : N 170 = h 170 := funext fun j => u 170 j (by omega)
    have r171 : N 171 = h 171 := funext fun j => u 171 j (by omega)
    have r174 : N 174 = h 174 := funext fun j => u 174 j (by omega)
    have r175 : N 175 = h 175 := funext fun j => u 175 j (by omega)
    have r76 : N 76 = h 76 := funext fun j => u 76 j (by omega)
    have r77 : N 77 = h 77 := funext fun j => u 77 j (by omega)
    have r78 : N 78 = h 78 := funext fun j => u 78 j (by omega)
    have r79 : N 79 = h 79 := funext fun j => u 79 j (by omega)
    have r160 : N 160 = h 160 := funext fun j => u 160 j (by omega)
    have r161 : N 161 = h 161 := funext fun j => u 161 j (by omega)
    have r162 : N 162 = h 162 := funext fun j => u 162 j (by omega)
    have r163 : N 163 = h 163 := funext fun j => u 163 j (by omega)
    have f0_0 : N 0 0 = h 0 0 := u 0 0 (by omega)
    have f1_1 : N 1 1 = h 1 1 := u 1 1 (by omega)
    have f4_7 : N 4 7 = h 4 7 := u 4 7 (by omega)
    have f7_0 : N 7 0 = h 7 0 := u 7 0 (by omega)
    have f7_4 : N 7 4 = h 7 4 := u 7 4 (by omega)
    have f12_0 : N 12 0 = h 12 0 := u 12 0 (by omega)
    have f12_4 : N 12 4 = h 12 4 := u 12 4 (by omega)
    have f41_12 : N 41 12 = ((h 116 45) + 1) := (congrFun (congrFun hN 41) 12).trans ((ov1_c (by decide)).trans ((ov1_c (by decide)).trans ((hset_c (by decide)).trans ((hset_c (by decide)).trans ((hset_c (by decide)).trans ((hset_c (by decide)).trans ((hset_c (by decide)).trans ((hset_c (by decide)).trans ((hset_c (by decide)).trans ((hset_c (by decide)).trans ((hset_c (by decide)).trans ((hset_c (by decide)).trans ((hset_c (by decide)).trans ((hset_c (by decide)).trans ((ov1_c (by decide)).trans ((ov1_c (by decide)).trans ((ov1_c (by decide)).trans ((hset_c (by decide)).trans ((hset_c (by decide)).trans (hset_same _ _ _ _))))))))))))))))))))
    have f41_13 : N 41 13 = h 41 13 := u 41 13 (by omega)
    have f53_3 : N 53 3 = h 53 3 := u 53 3 (by omega)
    have f70_3 : N 70 3 = h 70 3 := u 70 3 (by omega)
    have f81_2 : N 81 2 = 0 := (congrFun (congrFun hN 81) 2).trans ((ov1_c (by decide)).trans ((ov1_c (by decide)).trans ((hset_c (by decide)).trans ((hset_c (by decide)).trans ((hset_c (by decide)).trans ((hset_c (by decide)).trans ((hset_c (by decide)).trans ((hset_c (by decide)).trans ((hset_c (by decide)).trans ((hset_c (by decide)).trans ((hset_c (by decide)).trans ((hset_c (by decide)).trans ((hset_c (by decide)).trans ((hset_c (by decide)).trans ((ov1_c (by decide)).trans ((ov1_c (by decide)).trans ((ov1_c (by decide)).trans (hset_same _ _ _ _))))))))))))))))))
    have f81_6 : N 81 6 = h 81 6 := u 81 6 (by omega)
    have f97_2 : N 97 2 = h 97 2 := u 97 2 (by omega)
    have f116_1 : N 116 1 = h 116 1 := u 116 1 (by omega)
    have f116_14 : N 116 14 = h 116 14 := u 116 14 (by omega)
    have f116_15 : N 116 15 = h 116 15 := u 116 15 (by omega)
    have f116_16 : N 116 16 = h 116 16 := u 116 16 (by omega)
    have f116_45 : N 116 45 = ((h 116 45) + 1) := (congrFun (congrFun hN 116) 45).trans ((ov1_c (by decide)).trans ((ov1_c (by decide)).trans ((hset_j (by decide)).trans ((hset_c (by decide)).trans (hset_same _ _ _ _)))))
    have f116_46 : N 116 46 = 0 := (congrFun (congrFun hN 116) 46).trans ((ov1_c (by decide)).trans ((ov1_c (by decide)).trans (hset_same _ _ _ _)))
    have f116_47 : N 116 47 = h 116 47 := u 116 47 (by omega)
    have f116_48 : N 116 48 = h 116 48 := u 116 48 (by omega)
    have f116_65 : N 116 65 = h 116 65 := u 116 65 (by omega)
    have f116_66 : N 116 66 = h 116 66 := u 116 66 (by omega)
    have f116_88 : N 116 88 = h 116 88 := u 116 88 (by omega)
    have f4_15 : N 4 15 = h 4 15 := u 4 15 (by omega)
    have f4_16 : N 4 16 = h 4 16 := u 4 16 (by omega)
    have f116_67 : N 116 67 = h 116 67 := u 116 67 (by omega)
    have f116_68 : N 116 68 = h 116 68 := u 116 68 (by omega)
    refine ⟨cs, ⟨?_, ?_, ?_, ?_, ?_, ?_, ?_, ?_, ?_, ?_, ?_, ?_, ?_, ?_, ?_, ?_, ?_, ?_, ?_, ?_, ?_, ?_, ?_, ?_, ?_, ?_, ?_, ?_, ?_, ?_, ?_, ?_, ?_, ?_, ?_, ?_, ?_, ?_, ?_, ?_, ?_, ?_, ?_, ?_, ?_, ?_, ?_, ?_, ?_, ?_, ?_, ?_, ?_, ?_, ?_, ?_, ?_, ?_, ?_, ?_, ?_, ?_, ?_, ?_, ?_, ?_, ?_, ?_, ?_, ?_, ?_, ?_, ?_, ?_, ?_, ?_, ?_, ?_, ?_, ?_, ?_⟩, ⟨?_, ?_, ?_, ?_, ?_, ?_, ?_, ?_⟩⟩
    · exact (by
        simp only [r8, r117]
        exact I.e8)
    · exact (by
        simp only [r9, r119]
        exact I.e9)
    · exact (by
        simp only [r10, r120]
        exact I.e10)
    · exact (by
        simp only [r11, r118]
        exact I.e11)
    · exact (by
        simp only [r13, r121]
        exact I.e13)
    · exact (by
        simp only [r14, r122]
        exact I.e14)
    · exact (by
        simp only [r15, r123]
        exact I.e15)
    · exact (by
        simp only [r42, r129]
        rw [I.e42])
    · exact (by
        simp only [r43, r130]
        rw [I.e43])
    · exact (by
        simp only [r44, r131]
        rw [I.e44])
    · exact (by
        simp only [r45, r132]
        rw [I.e45])
    · exact (by
        simp only [r46, r133]
        rw [I.e46])
    · exact (by
        simp only [r47, r134]
        rw [I.e47])
    · exact (by
        simp only [r48, r135]
        rw [fset_tw, I.e48])
    · exact (by
        simp only [r50, r137]
        rw [fset_tw, I.e50])
    · exact (by
        simp only [r51, r138])
    · exact (by
        simp only [r52, r139])
    · exact (by
        simp only [r54, r145]
        exact I.e54)
    · exact (by
        simp only [r55, r146]
        exact I.e55)
    · exact (by
        simp only [r56, r147]
        exact I.e56)
    · exact (by
        simp only [r64, r150]
        exact I.e64)
    · exact (by
        simp only [r65, r151]
        exact I.e65)
    · exact (by
        simp only [r66, r152]
        exact I.e66)
    · exact (by
        simp only [r67, r153]
        exact I.e67)
    · exact (by
        simp only [r68, r154]
        exact I.e68)
    · exact (by
        simp only [r69, r155]
        exact I.e69)
    · exact (by
        simp only [r71, r156]
        exact I.e71)
    · exact (by
        simp only [r72, r157]
        exact I.e72)
    · exact (by
        simp only [r73, r158]
        exact I.e73)
    · exact (by
        simp only [r74, r125]
        exact I.e74)
    · exact (by
        simp only [r82, r140]
        exact I.e82)
    · exact (by
        simp only [r83, r141]
        exact I.e83)
    · exact (by
        simp only [r84, r143]
        exact I.e84)
    · exact (by
        simp only [r85, r144]
        exact I.e85)
    · exact (by
        simp only [r86, r142]
        exact I.e86)
    · exact (by
        simp only [r88, r168]
        exact I.e88)
    · exact (by
        simp only [r89, r169]
        exact I.e89)
    · exact (by
        simp only [r90, r170]
        exact I.e90)
    · exact (by
        simp only [r91, r171]
        exact I.e91)
    · exact (by
        simp only [r92, r167]
        exact I.e92)
    · exact (by
        simp only [r98, r174]
        exact I.e98)
    · exact (by
        simp only [r99, r175]
        exact I.e99)
    · exact (by
        simp only [f0_0, f116_1]
        exact I.f0_0)
    · exact (by
        simp only [f7_4, f116_14]
        exact I.f7_4)
    · exact (by
        simp only [f12_4, f116_15]
        exact I.f12_4)
    · exact (by
        simp only [f1_1, f116_16]
        exact I.f1_1)
    · exact (by
        simp only [f41_12, f116_45])
    · exact (by
        simp only [f53_3, f116_48]
        exact I.f53_3)
    · exact (by
        simp only [f81_2, f116_46])
    · exact (by
        simp only [f81_6, f116_47]
        exact I.f81_6)
    · exact (by
        simp only [f4_7, f116_65]
        exact I.f4_7)
    · exact (by
        simp only [f70_3, f116_66]
        exact I.f70_3)
    · exact (by
        simp only [f97_2, f116_88]
        exact I.f97_2)
    · exact (by
        simp only [f7_0]
        exact I.k7)
    · exact (by
        simp only [f12_0]
        exact I.k12)
    · exact (by
        unfold RW
        simp only [f116_45, f116_48, f116_14, f116_15, r129, r130, r131, r132, r135, r137, r138, r139, r146]
        refine ⟨?_, I.W.nm, I.W.nw, I.W.nt, ?_, ?_, ?_, ?_, ?_, ?_, ?_, ?_, I.W.mp⟩
        · omega
        · exact fs_all (P := fun y => 0 ≤ y ∧ y < 8) I.W.la (by omega)
        · exact fs_all (P := fun y => 0 ≤ y ∧ y < 100) I.W.he (by omega)
        · exact fs_all (P := fun y => 1 ≤ y ∧ y ≤ 10000) I.W.pr (by omega)
        · exact fs_all (P := fun y => 1 ≤ y ∧ y ≤ 10000) I.W.ma (by omega)
        · exact fs_all (P := fun y => -1 ≤ y ∧ y < 10) I.W.ps (by omega)
        · exact fs_all (P := fun y => 0 ≤ y ∧ y ≤ 6) I.W.en bn
        · exact fun b9 b0 b1 k k0 k1 => by
            by_cases z : b9 = h 116 45
            · rw [z, fset_same] at k1
              rw [z, cpR_in bn.1 k k0 k1]
              exact (I.bn.2 k k0 k1).1
            · rw [fset_ne z] at k1
              have e6 := I.W.en b9 b0 (by omega)
              rw [cpR_out bn.1 bn.2 _ (by omega)]
              exact I.W.eo b9 b0 (by omega) k k0 k1
        · exact fun b9 b0 b1 k k0 k1 => by
            by_cases z : b9 = h 116 45
            · rw [z, fset_same] at k1
              rw [z, cpR_in bn.1 k k0 k1]
              exact (I.bn.2 k k0 k1).2
            · rw [fset_ne z] at k1
              have e6 := I.W.en b9 b0 (by omega)
              rw [cpR_out bn.1 bn.2 _ (by omega)]
              exact I.W.em b9 b0 (by omega) k k0 k1)
    · exact (by
        unfold RS
        simp only [f116_65, f116_66, f116_45, r150, r151, r152, r153, r154, r155, r157]
        refine ⟨I.S.1, I.S.2.1, ?_, I.S.2.2.2⟩
        · exact fun s s0 s1 => by
            have q := I.S.2.2.1 s s0 s1
            exact ⟨⟨q.1.1, by omega⟩, q.2⟩)
    · exact TX_eq I.T f116_15 r124 r128
    · exact CX_eq I.X f12_4 r37 (fun p h0 h1 => funext fun j => u (17 + p) j (by omega))
    · exact (by
        simp only [f116_1]
        exact I.now)
    · exact (by
        simp only [f116_14, r118]
        exact I.il)
    · exact (by
        simp only [f116_1, f116_48, r147]
        exact I.m147)
    · exact (by
        simp only [f116_1, f116_45, r134]
        exact MN_add I.m134 I.now.1)
    · exact (by
        simp only [f116_1, f116_65, r155]
        exact I.m155)
    · exact (by
        simp only [f116_1, f116_66, r158]
        exact I.m158)
    · exact (by
        simp only [f116_1, f116_45, r49, r136]
        exact fun b9 b0 b1 => by
          by_cases z : b9 = h 116 45
          · rw [z, fset_same, fset_same]; omega
          · rw [fset_ne z, fset_ne z]; exact I.iu b9 b0 (by omega))
    · exact (by
        simp only [f41_13, f116_45, r136]
        rw [sm_s nb.1, sm_congr (g := undF (h 136)) (fun i i0 i1 => by unfold undF; rw [fset_ne (by omega)]), show undF (fset (h 136) (h 116 45) 9999) (h 116 45) = 0 by unfold undF; rw [fset_same]; rfl, Int.add_zero]
        exact I.un)
    · exact (by
        simp only [f116_45, f116_48, r145]
        exact fun k k0 k1 => by have := I.ma k k0 k1; omega)
    · exact (by
        simp only [f116_16, r2, r127]
        exact I.tp)
    · exact (by
        simp only [f116_45, f116_46, r140, r141]
        exact ⟨by omega, fun i i0 i1 => by omega⟩)
    · exact (by
        simp only [f116_45, f116_47, r142, r143, r144]
        exact ⟨I.po.1, fun k k0 k1 => by have := I.po.2 k k0 k1; omega⟩)
    · exact (by
        simp only [f116_45, f116_46, f116_47, r132, r133, r140, r141, r142, r144]
        exact fun b9 b0 b1 => by
          by_cases z : b9 = h 116 45
          · rw [z, fset_same, fset_same, sm_0, on_0 I.po.1.1 (fun i i0 i1 => by have := I.po.2 i i0 i1; omega)]; omega
          · have cb := I.co b9 b0 (by omega)
            have nn := on_nn (of := h 140) (many := h 141) (b := b9) bn.1 (fun i i0 i1 => by have := I.bn.2 i i0 i1; omega)
            rw [fset_ne z, fset_ne z, sm_0]; omega)
    · exact (by
        simp only [f116_45, r137]
        exact fun i hi => by
          rw [fset_ne (by omega)]; exact I.en i (by omega))
    · exact (by
        simp only [r125]
        exact I.ta)
    · exact (by
        simp only [r167]
        exact I.ofn)
    · exact (by
        simp only [r167]
        exact I.ofc)
    · exact (by
        simp only [r168, r169, r170, r171]
        exact I.ofk)
    · exact (by
        simp only [f116_15, r121]
        exact I.tw)
    · exact (by
        simp only [f116_45, r135, r137]
        exact fun b9 b0 b1 q => by
          by_cases z : b9 = h 116 45
          · rw [z, fset_same] at q; omega
          · rw [fset_ne z] at q
            rw [fset_ne z]; exact I.gr b9 b0 (by omega) q)
    · exact (by
        simp only [f116_65, r134, r150, r155]
        exact fun s s0 s1 => by
          have q := I.S.2.2.1 s s0 s1
          rw [fset_ne (by omega)]
          exact I.sd s s0 s1)
    · exact (by
        simp only [f116_88, r175]
        exact I.wo)
    · exact (by
        simp only [r76, r160]
        exact L.e76)
    · exact (by
        simp only [r77, r162]
        exact L.e77)
    · exact (by
        simp only [r78, r161]
        exact L.e78)
    · exact (by
        simp only [r79, r163]
        exact L.e79)
    · exact (by
        simp only [f4_15, f116_67]
        exact L.f4_15)
    · exact (by
        simp only [f4_16, f116_68]
        exact L.f4_16)
    · exact (by
        simp only [f116_67]
        exact L.li)
    · exact (by
        simp only [r160]
        exact L.bk)
  exact key _ rfl

set_option maxHeartbeats 2000000 in
theorem LI_protocol {h : AH} {cs : Int → List (Int × List Int)} {w fr s : Int} {R : Int → Int} {cs9 : List (Int × List Int)} (I : CI h cs) (L : CLN h) (hcs : pText (h 2) (h 116 16) 201 0 [] = .inr cs9) (hR : SL R s (flCl cs9 0)) (hs : 0 ≤ s ∧ s ≤ 200) (hn : h 116 15 < 20) (hw : 0 ≤ w ∧ w < 4) (hf : 0 ≤ fr ∧ fr ≤ 2000) : LI (hset (hset (hset (hset (hset (hset (ov1 (hset (hset (hset (ov1 (hset (hset (hset (hset h 13 (h 116 15) w) 14 (h 116 15) fr) 15 (h 116 15) (h 116 1)) 12 4 ((h 116 15) + 1)) (17 + (h 116 15)) R) 37 (h 116 15) s) 1 1 0) 116 0 0) 128 (fun b => if 200 * h 116 15 ≤ b ∧ b < 200 * h 116 15 + h 116 16 then h 127 (0 + (b - 200 * h 116 15)) else h 128 b)) 124 (h 116 15) (h 116 16)) 121 (h 116 15) w) 122 (h 116 15) fr) 123 (h 116 15) (h 116 1)) 116 15 (h 116 15 + 1)) 116 16 0) := by
  have key : ∀ N : AH, N = (hset (hset (hset (hset (hset (hset (ov1 (hset (hset (hset (ov1 (hset (hset (hset (hset h 13 (h 116 15) w) 14 (h 116 15) fr) 15 (h 116 15) (h 116 1)) 12 4 ((h 116 15) + 1)) (17 + (h 116 15)) R) 37 (h 116 15) s) 1 1 0) 116 0 0) 128 (fun b => if 200 * h 116 15 ≤ b ∧ b < 200 * h 116 15 + h 116 16 then h 127 (0 + (b - 200 * h 116 15)) else h 128 b)) 124 (h 116 15) (h 116 16)) 121 (h 116 15) w) 122 (h 116 15) fr) 123 (h 116 15) (h 116 1)) 116 15 (h 116 15 + 1)) 116 16 0) → LI N := fun N hN => by
    have nt := I.W.nt
    have tp := I.tp
    have u : ∀ c j, ¬ ((c = 116 ∧ j = 16) ∨ (c = 116 ∧ j = 15) ∨ c = 123 ∨ c = 122 ∨ c = 121 ∨ c = 124 ∨ c = 128 ∨ (c = 116 ∧ j = 0) ∨ (c = 1 ∧ j = 1) ∨ c = 37 ∨ c = (17 + (h 116 15)) ∨ (c = 12 ∧ j = 4) ∨ c = 15 ∨ c = 14 ∨ c = 13) → N c j = h c j := fun c j q => by
      rw [hN, hset_ne _ (by omega), hset_ne _ (by omega), hset_ne _ (by omega), hset_ne _ (by omega), hset_ne _ (by omega), hset_ne _ (by omega), ov1_c (by omega), hset_ne _ (by omega), hset_ne _ (by omega), hset_ne _ (by omega), ov1_c (by omega), hset_ne _ (by omega), hset_ne _ (by omega), hset_ne _ (by omega), hset_ne _ (by omega)]
    have r2 : N 2 = h 2 := funext fun j => u 2 j (by omega)
    have r8 : N 8 = h 8 := funext fun j => u 8 j (by omega)
    have r9 : N 9 = h 9 := funext fun j => u 9 j (by omega)
    have r10 : N 10 = h 10 := funext fun j => u 10 j (by omega)
    have r11 : N 11 = h 11 := funext fun j => u 11 j (by omega)
    have r13 : N 13 = (fset (h 13) (h 116 15) w) := by rw [hN, hset_r (by decide), hset_r (by decide), hset_r (by decide), hset_r (by decide), hset_r (by decide), hset_r (by decide), ov1_r (by decide), hset_r (by decide), hset_r (by decide), hset_r (by decide), ov1_r (by omega), hset_r (by decide), hset_r (by decide), hset_r (by decide), hset_f]
    have r14 : N 14 = (fset (h 14) (h 116 15) fr) := by rw [hN, hset_r (by decide), hset_r (by decide), hset_r (by decide), hset_r (by decide), hset_r (by decide), hset_r (by decide), ov1_r (by decide), hset_r (by decide), hset_r (by decide), hset_r (by decide), ov1_r (by omega), hset_r (by decide), hset_r (by decide), hset_f, hset_r (by decide)]
    have r15 : N 15 = (fset (h 15) (h 116 15) (h 116 1)) := by rw [hN, hset_r (by decide), hset_r (by decide), hset_r (by decide), hset_r (by decide), hset_r (by decide), hset_r (by decide), ov1_r (by decide), hset_r (by decide), hset_r (by decide), hset_r (by decide), ov1_r (by omega), hset_r (by decide), hset_f, hset_r (by decide), hset_r (by decide)]
    have r37 : N 37 = (fset (h 37) (h 116 15) s) := by rw [hN, hset_r (by decide), hset_r (by decide), hset_r (by decide), hset_r (by decide), hset_r (by decide), hset_r (by decide), ov1_r (by decide), hset_r (by decide), hset_r (by decide), hset_f, ov1_r (by omega), hset_r (by decide), hset_r (by decide), hset_r (by decide), hset_r (by decide)]
    have r42 : N 42 = h 42 := funext fun j => u 42 j (by omega)
    have r43 : N 43 = h 43 := funext fun j => u 43 j (by omega)
    have r44 : N 44 = h 44 := funext fun j => u 44 j (by omega)
    have r45 : N 45 = h 45 := funext fun j => u 45 j (by omega)
    have r46 : N 46 = h 46 := funext fun j => u 46 j (by omega)
    have r47 : N 47 = h 47 := funext fun j => u 47 j (by omega)
    have r48 : N 48 = h 48 := funext fun j => u 48 j (by omega)
    have r49 : N 49 = h 49 := funext fun j => u 49 j (by omega)
    have r50 : N 50 = h 50 := funext fun j => u 50 j (by omega)
    have r51 : N 51 = h 51 := funext fun j => u 51 j (by omega)
    have r52 : N 52 = h 52 := funext fun j => u 52 j (by omega)
    have r54 : N 54 = h 54 := funext fun j => u 54 j (by omega)
    have r55 : N 55 = h 55 := funext fun j => u 55 j (by omega)
    have r56 : N 56 = h 56 := funext fun j => u 56 j (by omega)
    have r64 : N 64 = h 64 := funext fun j => u 64 j (by omega)
    have r65 : N 65 = h 65 := funext fun j => u 65 j (by omega)
    have r66 : N 66 = h 66 := funext fun j => u 66 j (by omega)
    have r67 : N 67 = h 67 := funext fun j => u 67 j (by omega)
    have r68 : N 68 = h 68 := funext fun j => u 68 j (by omega)
    have r69 : N 69 = h 69 := funext fun j => u 69 j (by omega)
    have r71 : N 71 = h 71 := funext fun j => u 71 j (by omega)
    have r72 : N 72 = h 72 := funext fun j => u 72 j (by omega)
    have r73 : N 73 = h 73 := funext fun j => u 73 j (by omega)
    have r74 : N 74 = h 74 := funext fun j => u 74 j (by omega)
    have r82 : N 82 = h 82 := funext fun j => u 82 j (by omega)
    have r83 : N 83 = h 83 := funext fun j => u 83 j (by omega)
    have r84 : N 84 = h 84 := funext fun j => u 84 j (by omega)
    have r85 : N 85 = h 85 := funext fun j => u 85 j (by omega)
    have r86 : N 86 = h 86 := funext fun j => u 86 j (by omega)
    have r88 : N 88 = h 88 := funext fun j => u 88 j (by omega)
    have r89 : N 89 = h 89 := funext fun j => u 89 j (by omega)
    have r90 : N 90 = h 90 := funext fun j => u 90 j (by omega)
    have r91 : N 91 = h 91 := funext fun j => u 91 j (by omega)
    have r92 : N 92 = h 92 := funext fun j => u 92 j (by omega)
    have r98 : N 98 = h 98 := funext fun j => u 98 j (by omega)
    have r99 : N 99 = h 99 := funext fun j => u 99 j (by omega)
    have r117 : N 117 = h 117 := funext fun j => u 117 j (by omega)
    have r118 : N 118 = h 118 := funext fun j => u 118 j (by omega)
    have r119 : N 119 = h 119 := funext fun j => u 119 j (by omega)
    have r120 : N 120 = h 120 := funext fun j => u 120 j (by omega)
    have r121 : N 121 = (fset (h 121) (h 116 15) w) := by rw [hN, hset_r (by decide), hset_r (by decide), hset_r (by decide), hset_r (by decide), hset_f, hset_r (by decide), ov1_r (by decide), hset_r (by decide), hset_r (by decide), hset_r (by decide), ov1_r (by omega), hset_r (by decide), hset_r (by decide), hset_r (by decide), hset_r (by decide)]
    have r122 : N 122 = (fset (h 122) (h 116 15) fr) := by rw [hN, hset_r (by decide), hset_r (by decide), hset_r (by decide), hset_f, hset_r (by decide), hset_r (by decide), ov1_r (by decide), hset_r (by decide), hset_r (by decide), hset_r (by decide), ov1_r (by omega), hset_r (by decide), hset_r (by decide), hset_r (by decide), hset_r (by decide)]
    have r123 : N 123 = (fset (h 123) (h 116 15) (h 116 1)) := by rw [hN, hset_r (by decide), hset_r (by decide), hset_f, hset_r (by decide), hset_r (by decide), hset_r (by decide), ov1_r (by decide), hset_r (by decide), hset_r (by decide), hset_r (by decide), ov1_r (by omega), hset_r (by decide), hset_r (by decide), hset_r (by decide), hset_r (by decide)]
    have r124 : N 124 = (fset (h 124) (h 116 15) (h 116 16)) := by rw [hN, hset_r (by decide), hset_r (by decide), hset_r (by decide), hset_r (by decide), hset_r (by decide), hset_f, ov1_r (by decide), hset_r (by decide), hset_r (by decide), hset_r (by decide), ov1_r (by omega), hset_r (by decide), hset_r (by decide), hset_r (by decide), hset_r (by decide)]
    have r125 : N 125 = h 125 := funext fun j => u 125 j (by omega)
    have r127 : N 127 = h 127 := funext fun j => u 127 j (by omega)
    have r128 : N 128 = (fun b => if 200 * h 116 15 ≤ b ∧ b < 200 * h 116 15 + h 116 16 then h 127 (0 + (b - 200 * h 116 15)) else h 128 b) := by rw [hN, hset_r (by decide), hset_r (by decide), hset_r (by decide), hset_r (by decide), hset_r (by decide), hset_r (by decide), ov1_rs]
    have r129 : N 129 = h 129 := funext fun j => u 129 j (by omega)
    have r130 : N 130 = h 130 := funext fun j => u 130 j (by omega)
    have r131 : N 131 = h 131 := funext fun j => u 131 j (by omega)
    have r132 : N 132 = h 132 := funext fun j => u 132 j (by omega)
    have r133 : N 133 = h 133 := funext fun j => u 133 j (by omega)
    have r134 : N 134 = h 134 := funext fun j => u 134 j (by omega)
    have r135 : N 135 = h 135 := funext fun j => u 135 j (by omega)
    have r136 : N 136 = h 136 := funext fun j => u 136 j (by omega)
    have r137 : N 137 = h 137 := funext fun j => u 137 j (by omega)
    have r138 : N 138 = h 138 := funext fun j => u 138 j (by omega)
    have r139 : N 139 = h 139 := funext fun j => u 139 j (by omega)
    have r140 : N 140 = h 140 := funext fun j => u 140 j (by omega)
    have r141 : N 141 = h 141 := funext fun j => u 141 j (by omega)
    have r142 : N 142 = h 142 := funext fun j => u 142 j (by omega)
    have r143 : N 143 = h 143 := funext fun j => u 143 j (by omega)
    have r144 : N 144 = h 144 := funext fun j => u 144 j (by omega)
    have r145 : N 145 = h 145 := funext fun j => u 145 j (by omega)
    have r146 : N 146 = h 146 := funext fun j => u 146 j (by omega)
    have r147 : N 147 = h 147 := funext fun j => u 147 j (by omega)
    have r150 : N 150 = h 150 := funext fun j => u 150 j (by omega)
    have r151 : N 151 = h 151 := funext fun j => u 151 j (by omega)
    have r152 : N 152 = h 152 := funext fun j => u 152 j (by omega)
    have r153 : N 153 = h 153 := funext fun j => u 153 j (by omega)
    have r154 : N 154 = h 154 := funext fun j => u 154 j (by omega)
    have r155 : N 155 = h 155 := funext fun j => u 155 j (by omega)
    have r156 : N 156 = h 156 := funext fun j => u 156 j (by omega)
    have r157 : N 157 = h 157 := funext fun j => u 157 j (by omega)
    have r158 : N 158 = h 158 := funext fun j => u 158 j (by omega)
    have r167 : N 167 = h 167 := funext fun j => u 167 j (by omega)
    have r168 : N 168 = h 168 := funext fun j => u 168 j (by omega)
    have r169 : N 169 = h 169 := funext fun j => u 169 j (by omega)
    have r170 : N 170 = h 170 := funext fun j => u 170 j (by omega)
    have r171 : N 171 = h 171 := funext fun j => u 171 j (by omega)
    have r174 : N 174 = h 174 := funext fun j => u 174 j (by omega)
    have r175 : N 175 = h 175 := funext fun j => u 175 j (by omega)
    have r76 : N 76 = h 76 := funext fun j => u 76 j (by omega)
    have r77 : N 77 = h 77 := funext fun j => u 77 j (by omega)
    have r78 : N 78 = h 78 := funext fun j => u 78 j (by omega)
    have r79 : N 79 = h 79 := funext fun j => u 79 j (by omega)
    have r160 : N 160 = h 160 := funext fun j => u 160 j (by omega)
    have r161 : N 161 = h 161 := funext fun j => u 161 j (by omega)
    have r162 : N 162 = h 162 := funext fun j => u 162 j (by omega)
    have r163 : N 163 = h 163 := funext fun j => u 163 j (by omega)
    have f0_0 : N 0 0 = h 0 0 := u 0 0 (by omega)
    have f1_1 : N 1 1 = 0 := (congrFun (congrFun hN 1) 1).trans ((hset_c (by decide)).trans ((hset_c (by decide)).trans ((hset_c (by decide)).trans ((hset_c (by decide)).trans ((hset_c (by decide)).trans ((hset_c (by decide)).trans ((ov1_c (by decide)).trans ((hset_c (by decide)).trans (hset_same _ _ _ _)))))))))
    have f4_7 : N 4 7 = h 4 7 := u 4 7 (by omega)
    have f7_0 : N 7 0 = h 7 0 := u 7 0 (by omega)
    have f7_4 : N 7 4 = h 7 4 := u 7 4 (by omega)
    have f12_0 : N 12 0 = h 12 0 := u 12 0 (by omega)
    have f12_4 : N 12 4 = ((h 116 15) + 1) := (congrFun (congrFun hN 12) 4).trans ((hset_c (by decide)).trans ((hset_c (by decide)).trans ((hset_c (by decide)).trans ((hset_c (by decide)).trans ((hset_c (by decide)).trans ((hset_c (by decide)).trans ((ov1_c (by decide)).trans ((hset_c (by decide)).trans ((hset_c (by decide)).trans ((hset_c (by decide)).trans ((ov1_c (by omega)).trans (hset_same _ _ _ _))))))))))))
    have f41_12 : N 41 12 = h 41 12 := u 41 12 (by omega)
    have f41_13 : N 41 13 = h 41 13 := u 41 13 (by omega)
    have f53_3 : N 53 3 = h 53 3 := u 53 3 (by omega)
    have f70_3 : N 70 3 = h 70 3 := u 70 3 (by omega)
    have f81_2 : N 81 2 = h 81 2 := u 81 2 (by omega)
    have f81_6 : N 81 6 = h 81 6 := u 81 6 (by omega)
    have f97_2 : N 97 2 = h 97 2 := u 97 2 (by omega)
    have f116_1 : N 116 1 = h 116 1 := u 116 1 (by omega)
    have f116_14 : N 116 14 = h 116 14 := u 116 14 (by omega)
    have f116_15 : N 116 15 = (h 116 15 + 1) := (congrFun (congrFun hN 116) 15).trans ((hset_j (by decide)).trans (hset_same _ _ _ _))
    have f116_16 : N 116 16 = 0 := (congrFun (congrFun hN 116) 16).trans (hset_same _ _ _ _)
    have f116_45 : N 116 45 = h 116 45 := u 116 45 (by omega)
    have f116_46 : N 116 46 = h 116 46 := u 116 46 (by omega)
    have f116_47 : N 116 47 = h 116 47 := u 116 47 (by omega)
    have f116_48 : N 116 48 = h 116 48 := u 116 48 (by omega)
    have f116_65 : N 116 65 = h 116 65 := u 116 65 (by omega)
    have f116_66 : N 116 66 = h 116 66 := u 116 66 (by omega)
    have f116_88 : N 116 88 = h 116 88 := u 116 88 (by omega)
    have f4_15 : N 4 15 = h 4 15 := u 4 15 (by omega)
    have f4_16 : N 4 16 = h 4 16 := u 4 16 (by omega)
    have f116_67 : N 116 67 = h 116 67 := u 116 67 (by omega)
    have f116_68 : N 116 68 = h 116 68 := u 116 68 (by omega)
    refine ⟨csN (h 116 15) cs9 cs, ⟨?_, ?_, ?_, ?_, ?_, ?_, ?_, ?_, ?_, ?_, ?_, ?_, ?_, ?_, ?_, ?_, ?_, ?_, ?_, ?_, ?_, ?_, ?_, ?_, ?_, ?_, ?_, ?_, ?_, ?_, ?_, ?_, ?_, ?_, ?_, ?_, ?_, ?_, ?_, ?_, ?_, ?_, ?_, ?_, ?_, ?_, ?_, ?_, ?_, ?_, ?_, ?_, ?_, ?_, ?_, ?_, ?_, ?_, ?_, ?_, ?_, ?_, ?_, ?_, ?_, ?_, ?_, ?_, ?_, ?_, ?_, ?_, ?_, ?_, ?_, ?_, ?_, ?_, ?_, ?_, ?_⟩, ⟨?_, ?_, ?_, ?_, ?_, ?_, ?_, ?_⟩⟩
    · exact (by
        simp only [r8, r117]
        exact I.e8)
    · exact (by
        simp only [r9, r119]
        exact I.e9)
    · exact (by
        simp only [r10, r120]
        exact I.e10)
    · exact (by
        simp only [r11, r118]
        exact I.e11)
    · exact (by
        simp only [r13, r121]
        rw [I.e13])
    · exact (by
        simp only [r14, r122]
        rw [I.e14])
    · exact (by
        simp only [r15, r123]
        rw [I.e15])
    · exact (by
        simp only [r42, r129]
        exact I.e42)
    · exact (by
        simp only [r43, r130]
        exact I.e43)
    · exact (by
        simp only [r44, r131]
        exact I.e44)
    · exact (by
        simp only [r45, r132]
        exact I.e45)
    · exact (by
        simp only [r46, r133]
        exact I.e46)
    · exact (by
        simp only [r47, r134]
        exact I.e47)
    · exact (by
        simp only [r48, r135]
        exact I.e48)
    · exact (by
        simp only [r50, r137]
        exact I.e50)
    · exact (by
        simp only [r51, r138]
        exact I.e51)
    · exact (by
        simp only [r52, r139]
        exact I.e52)
    · exact (by
        simp only [r54, r145]
        exact I.e54)
    · exact (by
        simp only [r55, r146]
        exact I.e55)
    · exact (by
        simp only [r56, r147]
        exact I.e56)
    · exact (by
        simp only [r64, r150]
        exact I.e64)
    · exact (by
        simp only [r65, r151]
        exact I.e65)
    · exact (by
        simp only [r66, r152]
        exact I.e66)
    · exact (by
        simp only [r67, r153]
        exact I.e67)
    · exact (by
        simp only [r68, r154]
        exact I.e68)
    · exact (by
        simp only [r69, r155]
        exact I.e69)
    · exact (by
        simp only [r71, r156]
        exact I.e71)
    · exact (by
        simp only [r72, r157]
        exact I.e72)
    · exact (by
        simp only [r73, r158]
        exact I.e73)
    · exact (by
        simp only [r74, r125]
        exact I.e74)
    · exact (by
        simp only [r82, r140]
        exact I.e82)
    · exact (by
        simp only [r83, r141]
        exact I.e83)
    · exact (by
        simp only [r84, r143]
        exact I.e84)
    · exact (by
        simp only [r85, r144]
        exact I.e85)
    · exact (by
        simp only [r86, r142]
        exact I.e86)
    · exact (by
        simp only [r88, r168]
        exact I.e88)
    · exact (by
        simp only [r89, r169]
        exact I.e89)
    · exact (by
        simp only [r90, r170]
        exact I.e90)
    · exact (by
        simp only [r91, r171]
        exact I.e91)
    · exact (by
        simp only [r92, r167]
        exact I.e92)
    · exact (by
        simp only [r98, r174]
        exact I.e98)
    · exact (by
        simp only [r99, r175]
        exact I.e99)
    · exact (by
        simp only [f0_0, f116_1]
        exact I.f0_0)
    · exact (by
        simp only [f7_4, f116_14]
        exact I.f7_4)
    · exact (by
        simp only [f12_4, f116_15])
    · exact (by
        simp only [f1_1, f116_16])
    · exact (by
        simp only [f41_12, f116_45]
        exact I.f41_12)
    · exact (by
        simp only [f53_3, f116_48]
        exact I.f53_3)
    · exact (by
        simp only [f81_2, f116_46]
        exact I.f81_2)
    · exact (by
        simp only [f81_6, f116_47]
        exact I.f81_6)
    · exact (by
        simp only [f4_7, f116_65]
        exact I.f4_7)
    · exact (by
        simp only [f70_3, f116_66]
        exact I.f70_3)
    · exact (by
        simp only [f97_2, f116_88]
        exact I.f97_2)
    · exact (by
        simp only [f7_0]
        exact I.k7)
    · exact (by
        simp only [f12_0]
        exact I.k12)
    · exact (by
        unfold RW
        simp only [f116_45, f116_48, f116_14, f116_15, r129, r130, r131, r132, r135, r137, r138, r139, r146]
        refine ⟨I.W.nb, I.W.nm, I.W.nw, ?_, I.W.la, I.W.he, I.W.pr, I.W.ma, I.W.ps, I.W.en, I.W.eo, I.W.em, I.W.mp⟩
        · omega)
    · exact (by
        unfold RS
        simp only [f116_65, f116_66, f116_45, r150, r151, r152, r153, r154, r155, r157]
        exact I.S)
    · exact (by
        intro p p0 p1
        rw [f116_15] at p1
        have r128' : ∀ b, N 128 b = if 200 * h 116 15 ≤ b ∧ b < 200 * h 116 15 + h 116 16 then h 127 (0 + (b - 200 * h 116 15)) else h 128 b := fun b => by rw [r128]
        by_cases z : p = h 116 15
        · refine ⟨h 2, ?_, ?_⟩
          · unfold PT
            rw [r124, z, fset_same]
            refine ⟨tp.2.2.1, tp.2.2.2, fun i _ _ => tp.2.1 i, fun i i0 i1 => ?_⟩
            rw [r128', if_pos ⟨by omega, by omega⟩, tp.1, show 0 + (200 * h 116 15 + i - 200 * h 116 15) = i by omega]
          · rw [r124, z, fset_same, csN_1]
            exact hcs
        · obtain ⟨u9, q1, q2⟩ := I.T p p0 (by omega)
          refine ⟨u9, ?_, ?_⟩
          · unfold PT at q1 ⊢
            rw [r124, fset_ne z]
            refine ⟨q1.1, q1.2.1, q1.2.2.1, fun i i0 i1 => ?_⟩
            rw [r128', if_neg (by omega)]
            exact q1.2.2.2 i i0 i1
          · rw [r124, fset_ne z, csN_2 z]
            exact q2)
    · exact (by
        refine ⟨by rw [f12_4]; omega, fun p p0 p1 => ?_⟩
        rw [f12_4] at p1
        by_cases z : p = h 116 15
        · have rn : N (17 + h 116 15) = R := by
            funext j
            rw [hN, hset_c (by omega), hset_c (by omega), hset_c (by omega), hset_c (by omega), hset_c (by omega), hset_c (by omega), ov1_c (by omega), hset_c (by omega), hset_c (by omega), hset_c (by omega), ov1_s]
          rw [r37, z, fset_same, csN_1, rn]
          exact ⟨hR, hs.2, fun c hc => GC_text (fun _ y => absurd y List.not_mem_nil) hcs c hc⟩
        · have rp : N (17 + p) = h (17 + p) := funext fun j => u (17 + p) j (by omega)
          rw [r37, fset_ne z, rp, csN_2 z]
          exact I.X.2 p p0 (by rw [I.f12_4]; omega))
    · exact (by
        simp only [f116_1]
        exact I.now)
    · exact (by
        simp only [f116_14, r118]
        exact I.il)
    · exact (by
        simp only [f116_1, f116_48, r147]
        exact I.m147)
    · exact (by
        simp only [f116_1, f116_45, r134]
        exact I.m134)
    · exact (by
        simp only [f116_1, f116_65, r155]
        exact I.m155)
    · exact (by
        simp only [f116_1, f116_66, r158]
        exact I.m158)
    · exact (by
        simp only [f116_1, f116_45, r49, r136]
        exact I.iu)
    · exact (by
        simp only [f41_13, f116_45, r136]
        exact I.un)
    · exact (by
        simp only [f116_45, f116_48, r145]
        exact I.ma)
    · exact (by
        simp only [f116_16, r2, r127]
        exact ⟨tp.1, tp.2.1, by omega, by omega⟩)
    · exact (by
        simp only [f116_45, f116_46, r140, r141]
        exact I.bn)
    · exact (by
        simp only [f116_45, f116_47, r142, r143, r144]
        exact I.po)
    · exact (by
        simp only [f116_45, f116_46, f116_47, r132, r133, r140, r141, r142, r144]
        exact I.co)
    · exact (by
        simp only [f116_45, r137]
        exact I.en)
    · exact (by
        simp only [r125]
        exact I.ta)
    · exact (by
        simp only [r167]
        exact I.ofn)
    · exact (by
        simp only [r167]
        exact I.ofc)
    · exact (by
        simp only [r168, r169, r170, r171]
        exact I.ofk)
    · exact (by
        simp only [f116_15, r121]
        exact fs_all (P := fun y => 0 ≤ y ∧ y < 4) I.tw hw)
    · exact (by
        simp only [f116_45, r135, r137]
        exact I.gr)
    · exact (by
        simp only [f116_65, r134, r150, r155]
        exact I.sd)
    · exact (by
        simp only [f116_88, r175]
        exact I.wo)
    · exact (by
        simp only [r76, r160]
        exact L.e76)
    · exact (by
        simp only [r77, r162]
        exact L.e77)
    · exact (by
        simp only [r78, r161]
        exact L.e78)
    · exact (by
        simp only [r79, r163]
        exact L.e79)
    · exact (by
        simp only [f4_15, f116_67]
        exact L.f4_15)
    · exact (by
        simp only [f4_16, f116_68]
        exact L.f4_16)
    · exact (by
        simp only [f116_67]
        exact L.li)
    · exact (by
        simp only [r160]
        exact L.bk)
  exact key _ rfl

set_option maxHeartbeats 2000000 in
theorem LI_book {h : AH} {cs : Int → List (Int × List Int)} {P : BKT} (I : CI h cs) (L : CLN h) (h1 : 0 ≤ P.1 ∧ P.1 ≤ 400) (hb : ∀ s, 0 ≤ s → s < 100 → 0 ≤ P.2.1 s ∧ P.2.1 s ≤ 100000000) : LI (ov1 (ov1 (ov1 (ov1 (hset (hset (ov1 (ov1 (ov1 (ov1 (hset (hset h 4 15 P.1) 4 16 P.2.2.2.2.2) 76 P.2.1) 77 P.2.2.1) 78 P.2.2.2.1) 79 P.2.2.2.2.1) 116 67 P.1) 116 68 P.2.2.2.2.2) 160 P.2.1) 162 P.2.2.1) 161 P.2.2.2.1) 163 P.2.2.2.2.1) := by
  have key : ∀ N : AH, N = (ov1 (ov1 (ov1 (ov1 (hset (hset (ov1 (ov1 (ov1 (ov1 (hset (hset h 4 15 P.1) 4 16 P.2.2.2.2.2) 76 P.2.1) 77 P.2.2.1) 78 P.2.2.2.1) 79 P.2.2.2.2.1) 116 67 P.1) 116 68 P.2.2.2.2.2) 160 P.2.1) 162 P.2.2.1) 161 P.2.2.2.1) 163 P.2.2.2.2.1) → LI N := fun N hN => by
    have u : ∀ c j, ¬ (c = 163 ∨ c = 161 ∨ c = 162 ∨ c = 160 ∨ (c = 116 ∧ j = 68) ∨ (c = 116 ∧ j = 67) ∨ c = 79 ∨ c = 78 ∨ c = 77 ∨ c = 76 ∨ (c = 4 ∧ j = 16) ∨ (c = 4 ∧ j = 15)) → N c j = h c j := fun c j q => by
      rw [hN, ov1_c (by omega), ov1_c (by omega), ov1_c (by omega), ov1_c (by omega), hset_ne _ (by omega), hset_ne _ (by omega), ov1_c (by omega), ov1_c (by omega), ov1_c (by omega), ov1_c (by omega), hset_ne _ (by omega), hset_ne _ (by omega)]
    have r2 : N 2 = h 2 := funext fun j => u 2 j (by omega)
    have r8 : N 8 = h 8 := funext fun j => u 8 j (by omega)
    have r9 : N 9 = h 9 := funext fun j => u 9 j (by omega)
    have r10 : N 10 = h 10 := funext fun j => u 10 j (by omega)
    have r11 : N 11 = h 11 := funext fun j => u 11 j (by omega)
    have r13 : N 13 = h 13 := funext fun j => u 13 j (by omega)
    have r14 : N 14 = h 14 := funext fun j => u 14 j (by omega)
    have r15 : N 15 = h 15 := funext fun j => u 15 j (by omega)
    have r37 : N 37 = h 37 := funext fun j => u 37 j (by omega)
    have r42 : N 42 = h 42 := funext fun j => u 42 j (by omega)
    have r43 : N 43 = h 43 := funext fun j => u 43 j (by omega)
    have r44 : N 44 = h 44 := funext fun j => u 44 j (by omega)
    have r45 : N 45 = h 45 := funext fun j => u 45 j (by omega)
    have r46 : N 46 = h 46 := funext fun j => u 46 j (by omega)
    have r47 : N 47 = h 47 := funext fun j => u 47 j (by omega)
    have r48 : N 48 = h 48 := funext fun j => u 48 j (by omega)
    have r49 : N 49 = h 49 := funext fun j => u 49 j (by omega)
    have r50 : N 50 = h 50 := funext fun j => u 50 j (by omega)
    have r51 : N 51 = h 51 := funext fun j => u 51 j (by omega)
    have r52 : N 52 = h 52 := funext fun j => u 52 j (by omega)
    have r54 : N 54 = h 54 := funext fun j => u 54 j (by omega)
    have r55 : N 55 = h 55 := funext fun j => u 55 j (by omega)
    have r56 : N 56 = h 56 := funext fun j => u 56 j (by omega)
    have r64 : N 64 = h 64 := funext fun j => u 64 j (by omega)
    have r65 : N 65 = h 65 := funext fun j => u 65 j (by omega)
    have r66 : N 66 = h 66 := funext fun j => u 66 j (by omega)
    have r67 : N 67 = h 67 := funext fun j => u 67 j (by omega)
    have r68 : N 68 = h 68 := funext fun j => u 68 j (by omega)
    have r69 : N 69 = h 69 := funext fun j => u 69 j (by omega)
    have r71 : N 71 = h 71 := funext fun j => u 71 j (by omega)
    have r72 : N 72 = h 72 := funext fun j => u 72 j (by omega)
    have r73 : N 73 = h 73 := funext fun j => u 73 j (by omega)
    have r74 : N 74 = h 74 := funext fun j => u 74 j (by omega)
    have r82 : N 82 = h 82 := funext fun j => u 82 j (by omega)
    have r83 : N 83 = h 83 := funext fun j => u 83 j (by omega)
    have r84 : N 84 = h 84 := funext fun j => u 84 j (by omega)
    have r85 : N 85 = h 85 := funext fun j => u 85 j (by omega)
    have r86 : N 86 = h 86 := funext fun j => u 86 j (by omega)
    have r88 : N 88 = h 88 := funext fun j => u 88 j (by omega)
    have r89 : N 89 = h 89 := funext fun j => u 89 j (by omega)
    have r90 : N 90 = h 90 := funext fun j => u 90 j (by omega)
    have r91 : N 91 = h 91 := funext fun j => u 91 j (by omega)
    have r92 : N 92 = h 92 := funext fun j => u 92 j (by omega)
    have r98 : N 98 = h 98 := funext fun j => u 98 j (by omega)
    have r99 : N 99 = h 99 := funext fun j => u 99 j (by omega)
    have r117 : N 117 = h 117 := funext fun j => u 117 j (by omega)
    have r118 : N 118 = h 118 := funext fun j => u 118 j (by omega)
    have r119 : N 119 = h 119 := funext fun j => u 119 j (by omega)
    have r120 : N 120 = h 120 := funext fun j => u 120 j (by omega)
    have r121 : N 121 = h 121 := funext fun j => u 121 j (by omega)
    have r122 : N 122 = h 122 := funext fun j => u 122 j (by omega)
    have r123 : N 123 = h 123 := funext fun j => u 123 j (by omega)
    have r124 : N 124 = h 124 := funext fun j => u 124 j (by omega)
    have r125 : N 125 = h 125 := funext fun j => u 125 j (by omega)
    have r127 : N 127 = h 127 := funext fun j => u 127 j (by omega)
    have r128 : N 128 = h 128 := funext fun j => u 128 j (by omega)
    have r129 : N 129 = h 129 := funext fun j => u 129 j (by omega)
    have r130 : N 130 = h 130 := funext fun j => u 130 j (by omega)
    have r131 : N 131 = h 131 := funext fun j => u 131 j (by omega)
    have r132 : N 132 = h 132 := funext fun j => u 132 j (by omega)
    have r133 : N 133 = h 133 := funext fun j => u 133 j (by omega)
    have r134 : N 134 = h 134 := funext fun j => u 134 j (by omega)
    have r135 : N 135 = h 135 := funext fun j => u 135 j (by omega)
    have r136 : N 136 = h 136 := funext fun j => u 136 j (by omega)
    have r137 : N 137 = h 137 := funext fun j => u 137 j (by omega)
    have r138 : N 138 = h 138 := funext fun j => u 138 j (by omega)
    have r139 : N 139 = h 139 := funext fun j => u 139 j (by omega)
    have r140 : N 140 = h 140 := funext fun j => u 140 j (by omega)
    have r141 : N 141 = h 141 := funext fun j => u 141 j (by omega)
    have r142 : N 142 = h 142 := funext fun j => u 142 j (by omega)
    have r143 : N 143 = h 143 := funext fun j => u 143 j (by omega)
    have r144 : N 144 = h 144 := funext fun j => u 144 j (by omega)
    have r145 : N 145 = h 145 := funext fun j => u 145 j (by omega)
    have r146 : N 146 = h 146 := funext fun j => u 146 j (by omega)
    have r147 : N 147 = h 147 := funext fun j => u 147 j (by omega)
    have r150 : N 150 = h 150 := funext fun j => u 150 j (by omega)
    have r151 : N 151 = h 151 := funext fun j => u 151 j (by omega)
    have r152 : N 152 = h 152 := funext fun j => u 152 j (by omega)
    have r153 : N 153 = h 153 := funext fun j => u 153 j (by omega)
    have r154 : N 154 = h 154 := funext fun j => u 154 j (by omega)
    have r155 : N 155 = h 155 := funext fun j => u 155 j (by omega)
    have r156 : N 156 = h 156 := funext fun j => u 156 j (by omega)
    have r157 : N 157 = h 157 := funext fun j => u 157 j (by omega)
    have r158 : N 158 = h 158 := funext fun j => u 158 j (by omega)
    have r167 : N 167 = h 167 := funext fun j => u 167 j (by omega)
    have r168 : N 168 = h 168 := funext fun j => u 168 j (by omega)
    have r169 : N 169 = h 169 := funext fun j => u 169 j (by omega)
    have r170 : N 170 = h 170 := funext fun j => u 170 j (by omega)
    have r171 : N 171 = h 171 := funext fun j => u 171 j (by omega)
    have r174 : N 174 = h 174 := funext fun j => u 174 j (by omega)
    have r175 : N 175 = h 175 := funext fun j => u 175 j (by omega)
    have r76 : N 76 = P.2.1 := by rw [hN, ov1_r (by decide), ov1_r (by decide), ov1_r (by decide), ov1_r (by decide), hset_r (by decide), hset_r (by decide), ov1_r (by decide), ov1_r (by decide), ov1_r (by decide), ov1_rs]
    have r77 : N 77 = P.2.2.1 := by rw [hN, ov1_r (by decide), ov1_r (by decide), ov1_r (by decide), ov1_r (by decide), hset_r (by decide), hset_r (by decide), ov1_r (by decide), ov1_r (by decide), ov1_rs]
    have r78 : N 78 = P.2.2.2.1 := by rw [hN, ov1_r (by decide), ov1_r (by decide), ov1_r (by decide), ov1_r (by decide), hset_r (by decide), hset_r (by decide), ov1_r (by decide), ov1_rs]
    have r79 : N 79 = P.2.2.2.2.1 := by rw [hN, ov1_r (by decide), ov1_r (by decide), ov1_r (by decide), ov1_r (by decide), hset_r (by decide), hset_r (by decide), ov1_rs]
    have r160 : N 160 = P.2.1 := by rw [hN, ov1_r (by decide), ov1_r (by decide), ov1_r (by decide), ov1_rs]
    have r161 : N 161 = P.2.2.2.1 := by rw [hN, ov1_r (by decide), ov1_rs]
    have r162 : N 162 = P.2.2.1 := by rw [hN, ov1_r (by decide), ov1_r (by decide), ov1_rs]
    have r163 : N 163 = P.2.2.2.2.1 := by rw [hN, ov1_rs]
    have f0_0 : N 0 0 = h 0 0 := u 0 0 (by omega)
    have f1_1 : N 1 1 = h 1 1 := u 1 1 (by omega)
    have f4_7 : N 4 7 = h 4 7 := u 4 7 (by omega)
    have f7_0 : N 7 0 = h 7 0 := u 7 0 (by omega)
    have f7_4 : N 7 4 = h 7 4 := u 7 4 (by omega)
    have f12_0 : N 12 0 = h 12 0 := u 12 0 (by omega)
    have f12_4 : N 12 4 = h 12 4 := u 12 4 (by omega)
    have f41_12 : N 41 12 = h 41 12 := u 41 12 (by omega)
    have f41_13 : N 41 13 = h 41 13 := u 41 13 (by omega)
    have f53_3 : N 53 3 = h 53 3 := u 53 3 (by omega)
    have f70_3 : N 70 3 = h 70 3 := u 70 3 (by omega)
    have f81_2 : N 81 2 = h 81 2 := u 81 2 (by omega)
    have f81_6 : N 81 6 = h 81 6 := u 81 6 (by omega)
    have f97_2 : N 97 2 = h 97 2 := u 97 2 (by omega)
    have f116_1 : N 116 1 = h 116 1 := u 116 1 (by omega)
    have f116_14 : N 116 14 = h 116 14 := u 116 14 (by omega)
    have f116_15 : N 116 15 = h 116 15 := u 116 15 (by omega)
    have f116_16 : N 116 16 = h 116 16 := u 116 16 (by omega)
    have f116_45 : N 116 45 = h 116 45 := u 116 45 (by omega)
    have f116_46 : N 116 46 = h 116 46 := u 116 46 (by omega)
    have f116_47 : N 116 47 = h 116 47 := u 116 47 (by omega)
    have f116_48 : N 116 48 = h 116 48 := u 116 48 (by omega)
    have f116_65 : N 116 65 = h 116 65 := u 116 65 (by omega)
    have f116_66 : N 116 66 = h 116 66 := u 116 66 (by omega)
    have f116_88 : N 116 88 = h 116 88 := u 116 88 (by omega)
    have f4_15 : N 4 15 = P.1 := (congrFun (congrFun hN 4) 15).trans ((ov1_c (by decide)).trans ((ov1_c (by decide)).trans ((ov1_c (by decide)).trans ((ov1_c (by decide)).trans ((hset_c (by decide)).trans ((hset_c (by decide)).trans ((ov1_c (by decide)).trans ((ov1_c (by decide)).trans ((ov1_c (by decide)).trans ((ov1_c (by decide)).trans ((hset_j (by decide)).trans (hset_same _ _ _ _))))))))))))
    have f4_16 : N 4 16 = P.2.2.2.2.2 := (congrFun (congrFun hN 4) 16).trans ((ov1_c (by decide)).trans ((ov1_c (by decide)).trans ((ov1_c (by decide)).trans ((ov1_c (by decide)).trans ((hset_c (by decide)).trans ((hset_c (by decide)).trans ((ov1_c (by decide)).trans ((ov1_c (by decide)).trans ((ov1_c (by decide)).trans ((ov1_c (by decide)).trans (hset_same _ _ _ _)))))))))))
    have f116_67 : N 116 67 = P.1 := (congrFun (congrFun hN 116) 67).trans ((ov1_c (by decide)).trans ((ov1_c (by decide)).trans ((ov1_c (by decide)).trans ((ov1_c (by decide)).trans ((hset_j (by decide)).trans (hset_same _ _ _ _))))))
    have f116_68 : N 116 68 = P.2.2.2.2.2 := (congrFun (congrFun hN 116) 68).trans ((ov1_c (by decide)).trans ((ov1_c (by decide)).trans ((ov1_c (by decide)).trans ((ov1_c (by decide)).trans (hset_same _ _ _ _)))))
    refine ⟨cs, ⟨?_, ?_, ?_, ?_, ?_, ?_, ?_, ?_, ?_, ?_, ?_, ?_, ?_, ?_, ?_, ?_, ?_, ?_, ?_, ?_, ?_, ?_, ?_, ?_, ?_, ?_, ?_, ?_, ?_, ?_, ?_, ?_, ?_, ?_, ?_, ?_, ?_, ?_, ?_, ?_, ?_, ?_, ?_, ?_, ?_, ?_, ?_, ?_, ?_, ?_, ?_, ?_, ?_, ?_, ?_, ?_, ?_, ?_, ?_, ?_, ?_, ?_, ?_, ?_, ?_, ?_, ?_, ?_, ?_, ?_, ?_, ?_, ?_, ?_, ?_, ?_, ?_, ?_, ?_, ?_, ?_⟩, ⟨?_, ?_, ?_, ?_, ?_, ?_, ?_, ?_⟩⟩
    · exact (by
        simp only [r8, r117]
        exact I.e8)
    · exact (by
        simp only [r9, r119]
        exact I.e9)
    · exact (by
        simp only [r10, r120]
        exact I.e10)
    · exact (by
        simp only [r11, r118]
        exact I.e11)
    · exact (by
        simp only [r13, r121]
        exact I.e13)
    · exact (by
        simp only [r14, r122]
        exact I.e14)
    · exact (by
        simp only [r15, r123]
        exact I.e15)
    · exact (by
        simp only [r42, r129]
        exact I.e42)
    · exact (by
        simp only [r43, r130]
        exact I.e43)
    · exact (by
        simp only [r44, r131]
        exact I.e44)
    · exact (by
        simp only [r45, r132]
        exact I.e45)
    · exact (by
        simp only [r46, r133]
        exact I.e46)
    · exact (by
        simp only [r47, r134]
        exact I.e47)
    · exact (by
        simp only [r48, r135]
        exact I.e48)
    · exact (by
        simp only [r50, r137]
        exact I.e50)
    · exact (by
        simp only [r51, r138]
        exact I.e51)
    · exact (by
        simp only [r52, r139]
        exact I.e52)
    · exact (by
        simp only [r54, r145]
        exact I.e54)
    · exact (by
        simp only [r55, r146]
        exact I.e55)
    · exact (by
        simp only [r56, r147]
        exact I.e56)
    · exact (by
        simp only [r64, r150]
        exact I.e64)
    · exact (by
        simp only [r65, r151]
        exact I.e65)
    · exact (by
        simp only [r66, r152]
        exact I.e66)
    · exact (by
        simp only [r67, r153]
        exact I.e67)
    · exact (by
        simp only [r68, r154]
        exact I.e68)
    · exact (by
        simp only [r69, r155]
        exact I.e69)
    · exact (by
        simp only [r71, r156]
        exact I.e71)
    · exact (by
        simp only [r72, r157]
        exact I.e72)
    · exact (by
        simp only [r73, r158]
        exact I.e73)
    · exact (by
        simp only [r74, r125]
        exact I.e74)
    · exact (by
        simp only [r82, r140]
        exact I.e82)
    · exact (by
        simp only [r83, r141]
        exact I.e83)
    · exact (by
        simp only [r84, r143]
        exact I.e84)
    · exact (by
        simp only [r85, r144]
        exact I.e85)
    · exact (by
        simp only [r86, r142]
        exact I.e86)
    · exact (by
        simp only [r88, r168]
        exact I.e88)
    · exact (by
        simp only [r89, r169]
        exact I.e89)
    · exact (by
        simp only [r90, r170]
        exact I.e90)
    · exact (by
        simp only [r91, r171]
        exact I.e91)
    · exact (by
        simp only [r92, r167]
        exact I.e92)
    · exact (by
        simp only [r98, r174]
        exact I.e98)
    · exact (by
        simp only [r99, r175]
        exact I.e99)
    · exact (by
        simp only [f0_0, f116_1]
        exact I.f0_0)
    · exact (by
        simp only [f7_4, f116_14]
        exact I.f7_4)
    · exact (by
        simp only [f12_4, f116_15]
        exact I.f12_4)
    · exact (by
        simp only [f1_1, f116_16]
        exact I.f1_1)
    · exact (by
        simp only [f41_12, f116_45]
        exact I.f41_12)
    · exact (by
        simp only [f53_3, f116_48]
        exact I.f53_3)
    · exact (by
        simp only [f81_2, f116_46]
        exact I.f81_2)
    · exact (by
        simp only [f81_6, f116_47]
        exact I.f81_6)
    · exact (by
        simp only [f4_7, f116_65]
        exact I.f4_7)
    · exact (by
        simp only [f70_3, f116_66]
        exact I.f70_3)
    · exact (by
        simp only [f97_2, f116_88]
        exact I.f97_2)
    · exact (by
        simp only [f7_0]
        exact I.k7)
    · exact (by
        simp only [f12_0]
        exact I.k12)
    · exact (by
        unfold RW
        simp only [f116_45, f116_48, f116_14, f116_15, r129, r130, r131, r132, r135, r137, r138, r139, r146]
        exact I.W)
    · exact (by
        unfold RS
        simp only [f116_65, f116_66, f116_45, r150, r151, r152, r153, r154, r155, r157]
        exact I.S)
    · exact TX_eq I.T f116_15 r124 r128
    · exact CX_eq I.X f12_4 r37 (fun p h0 h1 => funext fun j => u (17 + p) j (by omega))
    · exact (by
        simp only [f116_1]
        exact I.now)
    · exact (by
        simp only [f116_14, r118]
        exact I.il)
    · exact (by
        simp only [f116_1, f116_48, r147]
        exact I.m147)
    · exact (by
        simp only [f116_1, f116_45, r134]
        exact I.m134)
    · exact (by
        simp only [f116_1, f116_65, r155]
        exact I.m155)
    · exact (by
        simp only [f116_1, f116_66, r158]
        exact I.m158)
    · exact (by
        simp only [f116_1, f116_45, r49, r136]
        exact I.iu)
    · exact (by
        simp only [f41_13, f116_45, r136]
        exact I.un)
    · exact (by
        simp only [f116_45, f116_48, r145]
        exact I.ma)
    · exact (by
        simp only [f116_16, r2, r127]
        exact I.tp)
    · exact (by
        simp only [f116_45, f116_46, r140, r141]
        exact I.bn)
    · exact (by
        simp only [f116_45, f116_47, r142, r143, r144]
        exact I.po)
    · exact (by
        simp only [f116_45, f116_46, f116_47, r132, r133, r140, r141, r142, r144]
        exact I.co)
    · exact (by
        simp only [f116_45, r137]
        exact I.en)
    · exact (by
        simp only [r125]
        exact I.ta)
    · exact (by
        simp only [r167]
        exact I.ofn)
    · exact (by
        simp only [r167]
        exact I.ofc)
    · exact (by
        simp only [r168, r169, r170, r171]
        exact I.ofk)
    · exact (by
        simp only [f116_15, r121]
        exact I.tw)
    · exact (by
        simp only [f116_45, r135, r137]
        exact I.gr)
    · exact (by
        simp only [f116_65, r134, r150, r155]
        exact I.sd)
    · exact (by
        simp only [f116_88, r175]
        exact I.wo)
    · exact (by
        simp only [r76, r160])
    · exact (by
        simp only [r77, r162])
    · exact (by
        simp only [r78, r161])
    · exact (by
        simp only [r79, r163])
    · exact (by
        simp only [f4_15, f116_67])
    · exact (by
        simp only [f4_16, f116_68])
    · exact (by
        simp only [f116_67]
        exact h1)
    · exact (by
        simp only [r160]
        exact hb)
  exact key _ rfl

