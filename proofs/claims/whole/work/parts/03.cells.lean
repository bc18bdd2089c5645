/-! ===== cells of the whole system: kinds, fields, refs (written by wip/whole/gen_core.py) ===== -/
abbrev AV : Type := Nat × Int
abbrev AH : Type := Int → Int → Int
abbrev Kd : Type := Nat ⊕ (FieldType × Nat)
abbrev MI : Type := MethodName × ByteArray × Nat × Option FieldType
def Tb : List Cond := lw_tbl.filter goodWord
theorem tb_in {w : Cond} (i : Nat) (h : lw_tbl[i]? = some w) (g : goodWord w = true) : w ∈ Tb := List.mem_filter.mpr ⟨List.mem_of_getElem? h, g⟩
def isNest : Cond → Bool
  | .fieldLinkNest _ _ _ _ _ _ => true
  | .methodLinkNest _ _ _ _ => true
  | _ => false
def NWs : List Cond := lw_tbl.filter isNest
theorem nw_in {w : Cond} (i : Nat) (h : lw_tbl[i]? = some w) (g : isNest w = true) : w ∈ NWs := List.mem_filter.mpr ⟨List.mem_of_getElem? h, g⟩
theorem nws_form : ∀ w ∈ NWs, isNest w = true := fun _ h => (List.mem_filter.mp h).2
theorem tb_good {c : Cond} {ws : List Cond} (h : ∀ w ∈ ws, w ∈ Tb) : GoodIn (c :: Tb) ws := fun w hw => ⟨List.mem_cons_of_mem _ (h w hw), good_of_word (List.mem_filter.mp (h w hw)).2⟩
theorem tb_goodL {ws : List Cond} (h : ∀ w ∈ ws, w ∈ Tb) : GoodIn lw_tbl ws := fun w hw => ⟨(List.mem_filter.mp (h w hw)).1, good_of_word (List.mem_filter.mp (h w hw)).2⟩
theorem tb_sub {ws : List Cond} (ps : List Nat) (hp : ws = ps.filterMap (fun i => lw_tbl[i]?)) (h : ws.all goodWord = true) : ∀ w ∈ ws, w ∈ Tb := by
  intro w hw
  have h1 := List.all_eq_true.mp h w hw
  rw [hp] at hw
  obtain ⟨i, -, hi⟩ := List.mem_filterMap.mp hw
  exact List.mem_filter.mpr ⟨List.mem_of_getElem? hi, h1⟩
def RF : Nat → String := fun k => match k with
  | 0 => RX0
  | 1 => RX1
  | 2 => RX2
  | 3 => RX3
  | 4 => RX4
  | 5 => RX5
  | 6 => RX6
  | 7 => RX7
  | 8 => RX8
  | 9 => RX9
  | 10 => RX10
  | 11 => RX11
  | _ => RX12
def TF : Nat → u_T := fun k => match k with
  | 0 => TX0
  | 1 => TX1
  | 2 => TX2
  | 3 => TX3
  | 4 => TX4
  | 5 => TX5
  | 6 => TX6
  | 7 => TX7
  | 8 => TX8
  | 9 => TX9
  | 10 => TX10
  | 11 => TX11
  | _ => TX12
def tyF : Nat → (Nat → FieldType) := fun k => match k with
  | 0 => tyX0
  | 1 => tyX1
  | 2 => tyX2
  | 3 => tyX3
  | 4 => tyX4
  | 5 => tyX5
  | 6 => tyX6
  | 7 => tyX7
  | 8 => tyX8
  | 9 => tyX9
  | 10 => tyX10
  | 11 => tyX11
  | _ => tyX12

def NF : Nat → Nat := fun k => match k with
  | 0 => 18
  | 1 => 5
  | 2 => 8
  | 3 => 4
  | 4 => 4
  | 5 => 16
  | 6 => 14
  | 7 => 6
  | 8 => 8
  | 9 => 8
  | 10 => 7
  | 11 => 9
  | _ => 91

theorem vw_F : ∀ ci, ci < 13 → vwCl[ci]? = some (RF ci, TF ci, NF ci) := fun ci h => by
  match ci, h with
  | 0, _ => rfl
  | 1, _ => rfl
  | 2, _ => rfl
  | 3, _ => rfl
  | 4, _ => rfl
  | 5, _ => rfl
  | 6, _ => rfl
  | 7, _ => rfl
  | 8, _ => rfl
  | 9, _ => rfl
  | 10, _ => rfl
  | 11, _ => rfl
  | 12, _ => rfl
  | k + 13, h => exact absurd h (by omega)
set_option maxRecDepth 20000 in
theorem inF0 : ∀ w ∈ u_ws RX0 TX0 18, w ∈ Tb := tb_sub [397, 399, 401, 403, 405, 407, 409, 411, 413, 415, 417, 419, 421, 423, 425, 427, 429, 431] (by decide +kernel) (by decide +kernel)
set_option maxRecDepth 20000 in
theorem inF1 : ∀ w ∈ u_ws RX1 TX1 5, w ∈ Tb := tb_sub [184, 186, 188, 190, 192] (by decide +kernel) (by decide +kernel)
set_option maxRecDepth 20000 in
theorem inF2 : ∀ w ∈ u_ws RX2 TX2 8, w ∈ Tb := tb_sub [213, 215, 217, 219, 221, 223, 225, 227] (by decide +kernel) (by decide +kernel)
set_option maxRecDepth 20000 in
theorem inF3 : ∀ w ∈ u_ws RX3 TX3 4, w ∈ Tb := tb_sub [282, 284, 286, 288] (by decide +kernel) (by decide +kernel)
set_option maxRecDepth 20000 in
theorem inF4 : ∀ w ∈ u_ws RX4 TX4 4, w ∈ Tb := tb_sub [361, 363, 365, 367] (by decide +kernel) (by decide +kernel)
set_option maxRecDepth 20000 in
theorem inF5 : ∀ w ∈ u_ws RX5 TX5 16, w ∈ Tb := tb_sub [487, 489, 491, 493, 495, 497, 499, 501, 503, 505, 507, 509, 511, 513, 515, 517] (by decide +kernel) (by decide +kernel)
set_option maxRecDepth 20000 in
theorem inF6 : ∀ w ∈ u_ws RX6 TX6 14, w ∈ Tb := tb_sub [323, 325, 327, 329, 331, 333, 335, 337, 339, 341, 343, 345, 347, 349] (by decide +kernel) (by decide +kernel)
set_option maxRecDepth 20000 in
theorem inF7 : ∀ w ∈ u_ws RX7 TX7 6, w ∈ Tb := tb_sub [140, 142, 144, 146, 148, 150] (by decide +kernel) (by decide +kernel)
set_option maxRecDepth 20000 in
theorem inF8 : ∀ w ∈ u_ws RX8 TX8 8, w ∈ Tb := tb_sub [245, 247, 249, 251, 253, 255, 257, 259] (by decide +kernel) (by decide +kernel)
set_option maxRecDepth 20000 in
theorem inF9 : ∀ w ∈ u_ws RX9 TX9 8, w ∈ Tb := tb_sub [537, 539, 541, 543, 545, 547, 549, 551] (by decide +kernel) (by decide +kernel)
set_option maxRecDepth 20000 in
theorem inF10 : ∀ w ∈ u_ws RX10 TX10 7, w ∈ Tb := tb_sub [449, 451, 453, 455, 457, 459, 461] (by decide +kernel) (by decide +kernel)
set_option maxRecDepth 20000 in
theorem inF11 : ∀ w ∈ u_ws RX11 TX11 9, w ∈ Tb := tb_sub [563, 565, 567, 569, 571, 573, 575, 577, 579] (by decide +kernel) (by decide +kernel)
set_option maxRecDepth 20000 in
theorem inF12 : ∀ w ∈ u_ws RX12 TX12 91, w ∈ Tb := tb_sub [1507, 1509, 1511, 1513, 1515, 1517, 1519, 1521, 1523, 1525, 1527, 1529, 1531, 1533, 1535, 1537, 1539, 1541, 1543, 1545, 1547, 1549, 1551, 1553, 1555, 1557, 1559, 1561, 1563, 1565, 1567, 1569, 1571, 1573, 1575, 1577, 1579, 1581, 1583, 1585, 1587, 1589, 1591, 1593, 1595, 1597, 1599, 1601, 1603, 1605, 1607, 1609, 1611, 1613, 1615, 1617, 1619, 1621, 1623, 1625, 1627, 1629, 1631, 1633, 1635, 1637, 1639, 1641, 1643, 1645, 1647, 1649, 1651, 1653, 1655, 1657, 1659, 1661, 1663, 1665, 1667, 1669, 1671, 1673, 1675, 1677, 1679, 1681, 1683, 1685, 1687] (by decide +kernel) (by decide +kernel)
theorem inF : ∀ ci, ci < 13 → ∀ w ∈ u_ws (RF ci) (TF ci) (NF ci), w ∈ Tb := fun ci h => by
  match ci, h with
  | 0, _ => exact inF0
  | 1, _ => exact inF1
  | 2, _ => exact inF2
  | 3, _ => exact inF3
  | 4, _ => exact inF4
  | 5, _ => exact inF5
  | 6, _ => exact inF6
  | 7, _ => exact inF7
  | 8, _ => exact inF8
  | 9, _ => exact inF9
  | 10, _ => exact inF10
  | 11, _ => exact inF11
  | 12, _ => exact inF12
  | k + 13, h => exact absurd h (by omega)
theorem nmF : ∀ ci, ci < 13 → ∀ a, a < NF ci → ∀ b, b < NF ci → a ≠ b → (TF ci a).2.1 ≠ (TF ci b).2.1 := fun ci h => by
  match ci, h with
  | 0, _ => exact nmX0
  | 1, _ => exact nmX1
  | 2, _ => exact nmX2
  | 3, _ => exact nmX3
  | 4, _ => exact nmX4
  | 5, _ => exact nmX5
  | 6, _ => exact nmX6
  | 7, _ => exact nmX7
  | 8, _ => exact nmX8
  | 9, _ => exact nmX9
  | 10, _ => exact nmX10
  | 11, _ => exact nmX11
  | 12, _ => exact nmX12
  | k + 13, h => exact absurd h (by omega)
theorem tyF_ok : ∀ ci, ci < 13 → ∀ k, k < NF ci → parseFieldDescriptor (TF ci k).2.2.1 = some (tyF ci k) := fun ci h => by
  match ci, h with
  | 0, _ => exact tyX0_ok
  | 1, _ => exact tyX1_ok
  | 2, _ => exact tyX2_ok
  | 3, _ => exact tyX3_ok
  | 4, _ => exact tyX4_ok
  | 5, _ => exact tyX5_ok
  | 6, _ => exact tyX6_ok
  | 7, _ => exact tyX7_ok
  | 8, _ => exact tyX8_ok
  | 9, _ => exact tyX9_ok
  | 10, _ => exact tyX10_ok
  | 11, _ => exact tyX11_ok
  | 12, _ => exact tyX12_ok
  | k + 13, h => exact absurd h (by omega)
/-- the cells behind both constructors and the law's own row, in the order of their making -/
def K0 : List Kd := [.inl 11, .inl 7, .inr (.int, 200), .inr (.int, 200), .inl 0, .inl 4, .inl 8, .inl 1, .inr (.int, 40), .inr (.int, 40), .inr (.int, 40), .inr (.int, 40), .inl 1, .inr (.int, 20), .inr (.int, 20), .inr (.int, 20), .inr ((.array .int), 20), .inr (.int, 200), .inr (.int, 200), .inr (.int, 200), .inr (.int, 200), .inr (.int, 200), .inr (.int, 200), .inr (.int, 200), .inr (.int, 200), .inr (.int, 200), .inr (.int, 200), .inr (.int, 200), .inr (.int, 200), .inr (.int, 200), .inr (.int, 200), .inr (.int, 200), .inr (.int, 200), .inr (.int, 200), .inr (.int, 200), .inr (.int, 200), .inr (.int, 200), .inr (.int, 20), .inl 2, .inr (.int, 8), .inr (.int, 64), .inl 6, .inr (.int, 100), .inr (.int, 100), .inr (.int, 100), .inr (.int, 100), .inr (.int, 100), .inr (.int, 100), .inr (.int, 100), .inr (.int, 100), .inr (.int, 100), .inr (.int, 600), .inr (.int, 600), .inl 3, .inr (.int, 100), .inr (.int, 100), .inr (.int, 100), .inr ((.array .int), 5), .inr (.int, 100), .inr (.int, 100), .inr (.int, 100), .inr (.int, 100), .inr (.int, 100), .inr (.int, 100), .inr (.int, 100), .inr (.int, 100), .inr (.int, 100), .inr (.int, 100), .inr (.int, 100), .inr (.int, 100), .inl 3, .inr (.int, 100), .inr (.int, 100), .inr (.int, 100), .inr (.int, 800), .inr (.int, 100), .inr (.long, 100), .inr (.int, 400), .inr (.long, 400), .inr (.int, 400), .inr (.int, 100), .inl 10, .inr (.int, 6), .inr (.int, 6), .inr (.int, 100), .inr (.int, 100), .inr (.int, 100), .inl 5, .inr (.int, 16), .inr (.int, 16), .inr (.int, 16), .inr (.int, 16), .inr (.int, 4), .inr (.int, 4), .inr (.int, 4), .inr (.int, 4), .inr (.int, 4), .inl 9, .inr (.int, 60), .inr (.int, 60), .inr (.int, 12), .inr ((.array .int), 13), .inr (.int, 13), .inr (.int, 13), .inr (.int, 13), .inr (.int, 13), .inr (.int, 13), .inr (.int, 13), .inr (.int, 13), .inr (.int, 13), .inr (.int, 13), .inr (.int, 13), .inr (.int, 13), .inr (.int, 13), .inr (.int, 13), .inr (.int, 12), .inl 12, .inr (.int, 40), .inr (.int, 40), .inr (.int, 40), .inr (.int, 40), .inr (.int, 20), .inr (.int, 20), .inr (.int, 20), .inr (.int, 20), .inr (.int, 800), .inr (.int, 128), .inr (.byte, 200), .inr (.byte, 4000), .inr (.int, 100), .inr (.int, 100), .inr (.int, 100), .inr (.int, 100), .inr (.int, 100), .inr (.int, 100), .inr (.int, 100), .inr (.int, 100), .inr (.int, 100), .inr (.int, 600), .inr (.int, 600), .inr (.int, 6), .inr (.int, 6), .inr (.int, 100), .inr (.int, 100), .inr (.int, 100), .inr (.int, 100), .inr (.int, 100), .inr (.int, 100), .inr (.boolean, 100), .inr (.boolean, 100), .inr (.int, 100), .inr (.int, 100), .inr (.int, 100), .inr (.int, 100), .inr (.int, 100), .inr (.int, 100), .inr (.int, 100), .inr (.int, 100), .inr (.int, 100), .inr (.int, 100), .inr (.long, 100), .inr (.long, 400), .inr (.int, 400), .inr (.int, 400), .inr (.boolean, 400), .inr (.int, 100), .inr (.long, 100), .inr (.int, 4), .inr (.int, 16), .inr (.int, 16), .inr (.int, 16), .inr (.int, 16), .inr (.int, 4), .inr (.int, 4), .inr (.int, 60), .inr (.int, 60), .inr (.int, 12), .inr (.long, 1)]
/-- where references lie that never change: cell, place, cell -/
def RTL : List (Int × Int × Int) := [(0, 1, 1), (0, 2, 6), (0, 3, 41), (0, 4, 81), (0, 5, 5), (0, 6, 4), (0, 7, 87), (0, 8, 97), (1, 0, 2), (1, 4, 3), (4, 0, 5), (4, 1, 64), (4, 2, 65), (4, 3, 66), (4, 4, 67), (4, 5, 68), (4, 6, 69), (4, 8, 70), (4, 9, 74), (4, 10, 75), (4, 11, 76), (4, 12, 77), (4, 13, 78), (4, 14, 79), (4, 17, 80), (5, 0, 6), (5, 1, 41), (5, 2, 57), (5, 3, 63), (6, 0, 7), (6, 1, 11), (6, 2, 12), (6, 3, 16), (6, 4, 37), (6, 5, 38), (6, 6, 40), (7, 1, 8), (7, 2, 9), (7, 3, 10), (12, 1, 13), (12, 2, 14), (12, 3, 15), (38, 0, 39), (41, 0, 42), (41, 1, 43), (41, 2, 44), (41, 3, 45), (41, 4, 46), (41, 5, 47), (41, 6, 48), (41, 7, 49), (41, 8, 50), (41, 9, 51), (41, 10, 52), (41, 11, 53), (53, 0, 54), (53, 1, 55), (53, 2, 56), (70, 0, 71), (70, 1, 72), (70, 2, 73), (81, 0, 82), (81, 1, 83), (81, 3, 84), (81, 4, 85), (81, 5, 86), (87, 0, 88), (87, 1, 89), (87, 2, 90), (87, 3, 91), (87, 4, 92), (87, 11, 93), (87, 12, 94), (87, 14, 95), (87, 15, 96), (97, 0, 98), (97, 1, 99), (97, 3, 100), (97, 5, 101), (97, 6, 115), (116, 2, 117), (116, 3, 118), (116, 4, 119), (116, 5, 120), (116, 6, 121), (116, 7, 122), (116, 8, 123), (116, 9, 124), (116, 10, 125), (116, 11, 126), (116, 12, 127), (116, 13, 128), (116, 26, 129), (116, 27, 130), (116, 28, 131), (116, 29, 132), (116, 30, 133), (116, 31, 134), (116, 32, 135), (116, 33, 136), (116, 34, 137), (116, 35, 138), (116, 36, 139), (116, 37, 140), (116, 38, 141), (116, 39, 142), (116, 40, 143), (116, 41, 144), (116, 42, 145), (116, 43, 146), (116, 44, 147), (116, 49, 148), (116, 50, 149), (116, 51, 150), (116, 52, 151), (116, 53, 152), (116, 54, 153), (116, 55, 154), (116, 56, 155), (116, 57, 156), (116, 58, 157), (116, 59, 158), (116, 60, 159), (116, 61, 160), (116, 62, 161), (116, 63, 162), (116, 64, 163), (116, 69, 164), (116, 70, 165), (116, 71, 166), (116, 72, 167), (116, 73, 168), (116, 74, 169), (116, 75, 170), (116, 76, 171), (116, 77, 172), (116, 78, 173), (116, 85, 174), (116, 86, 175), (116, 87, 176)]
/-- the rows of the rows of rows: cell, first row, how many -/
def RBL : List (Int × Int × Int) := [(16, 17, 20), (57, 58, 5), (101, 102, 13)]
def RefOK (h : AH) : Prop := (∀ q ∈ RTL, h q.1 q.2.1 = q.2.2) ∧ (∀ q ∈ RBL, ∀ i : Int, 0 ≤ i → i < q.2.2 → h q.1 i = q.2.1 + i) ∧ ∀ j : Int, 0 ≤ j → j < 128 → -10000000 ≤ h 126 j ∧ h 126 j ≤ 10000000
theorem rt_0_1 {h : AH} (r : RefOK h) : h 0 1 = 1 := r.1 (0, 1, 1) (List.mem_of_getElem? (i := 0) rfl)
theorem rt_0_2 {h : AH} (r : RefOK h) : h 0 2 = 6 := r.1 (0, 2, 6) (List.mem_of_getElem? (i := 1) rfl)
theorem rt_0_3 {h : AH} (r : RefOK h) : h 0 3 = 41 := r.1 (0, 3, 41) (List.mem_of_getElem? (i := 2) rfl)
theorem rt_0_4 {h : AH} (r : RefOK h) : h 0 4 = 81 := r.1 (0, 4, 81) (List.mem_of_getElem? (i := 3) rfl)
theorem rt_0_5 {h : AH} (r : RefOK h) : h 0 5 = 5 := r.1 (0, 5, 5) (List.mem_of_getElem? (i := 4) rfl)
theorem rt_0_6 {h : AH} (r : RefOK h) : h 0 6 = 4 := r.1 (0, 6, 4) (List.mem_of_getElem? (i := 5) rfl)
theorem rt_0_7 {h : AH} (r : RefOK h) : h 0 7 = 87 := r.1 (0, 7, 87) (List.mem_of_getElem? (i := 6) rfl)
theorem rt_0_8 {h : AH} (r : RefOK h) : h 0 8 = 97 := r.1 (0, 8, 97) (List.mem_of_getElem? (i := 7) rfl)
theorem rt_1_0 {h : AH} (r : RefOK h) : h 1 0 = 2 := r.1 (1, 0, 2) (List.mem_of_getElem? (i := 8) rfl)
theorem rt_1_4 {h : AH} (r : RefOK h) : h 1 4 = 3 := r.1 (1, 4, 3) (List.mem_of_getElem? (i := 9) rfl)
theorem rt_4_0 {h : AH} (r : RefOK h) : h 4 0 = 5 := r.1 (4, 0, 5) (List.mem_of_getElem? (i := 10) rfl)
theorem rt_4_1 {h : AH} (r : RefOK h) : h 4 1 = 64 := r.1 (4, 1, 64) (List.mem_of_getElem? (i := 11) rfl)
theorem rt_4_2 {h : AH} (r : RefOK h) : h 4 2 = 65 := r.1 (4, 2, 65) (List.mem_of_getElem? (i := 12) rfl)
theorem rt_4_3 {h : AH} (r : RefOK h) : h 4 3 = 66 := r.1 (4, 3, 66) (List.mem_of_getElem? (i := 13) rfl)
theorem rt_4_4 {h : AH} (r : RefOK h) : h 4 4 = 67 := r.1 (4, 4, 67) (List.mem_of_getElem? (i := 14) rfl)
theorem rt_4_5 {h : AH} (r : RefOK h) : h 4 5 = 68 := r.1 (4, 5, 68) (List.mem_of_getElem? (i := 15) rfl)
theorem rt_4_6 {h : AH} (r : RefOK h) : h 4 6 = 69 := r.1 (4, 6, 69) (List.mem_of_getElem? (i := 16) rfl)
theorem rt_4_8 {h : AH} (r : RefOK h) : h 4 8 = 70 := r.1 (4, 8, 70) (List.mem_of_getElem? (i := 17) rfl)
theorem rt_4_9 {h : AH} (r : RefOK h) : h 4 9 = 74 := r.1 (4, 9, 74) (List.mem_of_getElem? (i := 18) rfl)
theorem rt_4_10 {h : AH} (r : RefOK h) : h 4 10 = 75 := r.1 (4, 10, 75) (List.mem_of_getElem? (i := 19) rfl)
theorem rt_4_11 {h : AH} (r : RefOK h) : h 4 11 = 76 := r.1 (4, 11, 76) (List.mem_of_getElem? (i := 20) rfl)
theorem rt_4_12 {h : AH} (r : RefOK h) : h 4 12 = 77 := r.1 (4, 12, 77) (List.mem_of_getElem? (i := 21) rfl)
theorem rt_4_13 {h : AH} (r : RefOK h) : h 4 13 = 78 := r.1 (4, 13, 78) (List.mem_of_getElem? (i := 22) rfl)
theorem rt_4_14 {h : AH} (r : RefOK h) : h 4 14 = 79 := r.1 (4, 14, 79) (List.mem_of_getElem? (i := 23) rfl)
theorem rt_4_17 {h : AH} (r : RefOK h) : h 4 17 = 80 := r.1 (4, 17, 80) (List.mem_of_getElem? (i := 24) rfl)
theorem rt_5_0 {h : AH} (r : RefOK h) : h 5 0 = 6 := r.1 (5, 0, 6) (List.mem_of_getElem? (i := 25) rfl)
theorem rt_5_1 {h : AH} (r : RefOK h) : h 5 1 = 41 := r.1 (5, 1, 41) (List.mem_of_getElem? (i := 26) rfl)
theorem rt_5_2 {h : AH} (r : RefOK h) : h 5 2 = 57 := r.1 (5, 2, 57) (List.mem_of_getElem? (i := 27) rfl)
theorem rt_5_3 {h : AH} (r : RefOK h) : h 5 3 = 63 := r.1 (5, 3, 63) (List.mem_of_getElem? (i := 28) rfl)
theorem rt_6_0 {h : AH} (r : RefOK h) : h 6 0 = 7 := r.1 (6, 0, 7) (List.mem_of_getElem? (i := 29) rfl)
theorem rt_6_1 {h : AH} (r : RefOK h) : h 6 1 = 11 := r.1 (6, 1, 11) (List.mem_of_getElem? (i := 30) rfl)
theorem rt_6_2 {h : AH} (r : RefOK h) : h 6 2 = 12 := r.1 (6, 2, 12) (List.mem_of_getElem? (i := 31) rfl)
theorem rt_6_3 {h : AH} (r : RefOK h) : h 6 3 = 16 := r.1 (6, 3, 16) (List.mem_of_getElem? (i := 32) rfl)
theorem rt_6_4 {h : AH} (r : RefOK h) : h 6 4 = 37 := r.1 (6, 4, 37) (List.mem_of_getElem? (i := 33) rfl)
theorem rt_6_5 {h : AH} (r : RefOK h) : h 6 5 = 38 := r.1 (6, 5, 38) (List.mem_of_getElem? (i := 34) rfl)
theorem rt_6_6 {h : AH} (r : RefOK h) : h 6 6 = 40 := r.1 (6, 6, 40) (List.mem_of_getElem? (i := 35) rfl)
theorem rt_7_1 {h : AH} (r : RefOK h) : h 7 1 = 8 := r.1 (7, 1, 8) (List.mem_of_getElem? (i := 36) rfl)
theorem rt_7_2 {h : AH} (r : RefOK h) : h 7 2 = 9 := r.1 (7, 2, 9) (List.mem_of_getElem? (i := 37) rfl)
theorem rt_7_3 {h : AH} (r : RefOK h) : h 7 3 = 10 := r.1 (7, 3, 10) (List.mem_of_getElem? (i := 38) rfl)
theorem rt_12_1 {h : AH} (r : RefOK h) : h 12 1 = 13 := r.1 (12, 1, 13) (List.mem_of_getElem? (i := 39) rfl)
theorem rt_12_2 {h : AH} (r : RefOK h) : h 12 2 = 14 := r.1 (12, 2, 14) (List.mem_of_getElem? (i := 40) rfl)
theorem rt_12_3 {h : AH} (r : RefOK h) : h 12 3 = 15 := r.1 (12, 3, 15) (List.mem_of_getElem? (i := 41) rfl)
theorem rt_38_0 {h : AH} (r : RefOK h) : h 38 0 = 39 := r.1 (38, 0, 39) (List.mem_of_getElem? (i := 42) rfl)
theorem rt_41_0 {h : AH} (r : RefOK h) : h 41 0 = 42 := r.1 (41, 0, 42) (List.mem_of_getElem? (i := 43) rfl)
theorem rt_41_1 {h : AH} (r : RefOK h) : h 41 1 = 43 := r.1 (41, 1, 43) (List.mem_of_getElem? (i := 44) rfl)
theorem rt_41_2 {h : AH} (r : RefOK h) : h 41 2 = 44 := r.1 (41, 2, 44) (List.mem_of_getElem? (i := 45) rfl)
theorem rt_41_3 {h : AH} (r : RefOK h) : h 41 3 = 45 := r.1 (41, 3, 45) (List.mem_of_getElem? (i := 46) rfl)
theorem rt_41_4 {h : AH} (r : RefOK h) : h 41 4 = 46 := r.1 (41, 4, 46) (List.mem_of_getElem? (i := 47) rfl)
theorem rt_41_5 {h : AH} (r : RefOK h) : h 41 5 = 47 := r.1 (41, 5, 47) (List.mem_of_getElem? (i := 48) rfl)
theorem rt_41_6 {h : AH} (r : RefOK h) : h 41 6 = 48 := r.1 (41, 6, 48) (List.mem_of_getElem? (i := 49) rfl)
theorem rt_41_7 {h : AH} (r : RefOK h) : h 41 7 = 49 := r.1 (41, 7, 49) (List.mem_of_getElem? (i := 50) rfl)
theorem rt_41_8 {h : AH} (r : RefOK h) : h 41 8 = 50 := r.1 (41, 8, 50) (List.mem_of_getElem? (i := 51) rfl)
theorem rt_41_9 {h : AH} (r : RefOK h) : h 41 9 = 51 := r.1 (41, 9, 51) (List.mem_of_getElem? (i := 52) rfl)
theorem rt_41_10 {h : AH} (r : RefOK h) : h 41 10 = 52 := r.1 (41, 10, 52) (List.mem_of_getElem? (i := 53) rfl)
theorem rt_41_11 {h : AH} (r : RefOK h) : h 41 11 = 53 := r.1 (41, 11, 53) (List.mem_of_getElem? (i := 54) rfl)
theorem rt_53_0 {h : AH} (r : RefOK h) : h 53 0 = 54 := r.1 (53, 0, 54) (List.mem_of_getElem? (i := 55) rfl)
theorem rt_53_1 {h : AH} (r : RefOK h) : h 53 1 = 55 := r.1 (53, 1, 55) (List.mem_of_getElem? (i := 56) rfl)
theorem rt_53_2 {h : AH} (r : RefOK h) : h 53 2 = 56 := r.1 (53, 2, 56) (List.mem_of_getElem? (i := 57) rfl)
theorem rt_70_0 {h : AH} (r : RefOK h) : h 70 0 = 71 := r.1 (70, 0, 71) (List.mem_of_getElem? (i := 58) rfl)
theorem rt_70_1 {h : AH} (r : RefOK h) : h 70 1 = 72 := r.1 (70, 1, 72) (List.mem_of_getElem? (i := 59) rfl)
theorem rt_70_2 {h : AH} (r : RefOK h) : h 70 2 = 73 := r.1 (70, 2, 73) (List.mem_of_getElem? (i := 60) rfl)
theorem rt_81_0 {h : AH} (r : RefOK h) : h 81 0 = 82 := r.1 (81, 0, 82) (List.mem_of_getElem? (i := 61) rfl)
theorem rt_81_1 {h : AH} (r : RefOK h) : h 81 1 = 83 := r.1 (81, 1, 83) (List.mem_of_getElem? (i := 62) rfl)
theorem rt_81_3 {h : AH} (r : RefOK h) : h 81 3 = 84 := r.1 (81, 3, 84) (List.mem_of_getElem? (i := 63) rfl)
theorem rt_81_4 {h : AH} (r : RefOK h) : h 81 4 = 85 := r.1 (81, 4, 85) (List.mem_of_getElem? (i := 64) rfl)
theorem rt_81_5 {h : AH} (r : RefOK h) : h 81 5 = 86 := r.1 (81, 5, 86) (List.mem_of_getElem? (i := 65) rfl)
theorem rt_87_0 {h : AH} (r : RefOK h) : h 87 0 = 88 := r.1 (87, 0, 88) (List.mem_of_getElem? (i := 66) rfl)
theorem rt_87_1 {h : AH} (r : RefOK h) : h 87 1 = 89 := r.1 (87, 1, 89) (List.mem_of_getElem? (i := 67) rfl)
theorem rt_87_2 {h : AH} (r : RefOK h) : h 87 2 = 90 := r.1 (87, 2, 90) (List.mem_of_getElem? (i := 68) rfl)
theorem rt_87_3 {h : AH} (r : RefOK h) : h 87 3 = 91 := r.1 (87, 3, 91) (List.mem_of_getElem? (i := 69) rfl)
theorem rt_87_4 {h : AH} (r : RefOK h) : h 87 4 = 92 := r.1 (87, 4, 92) (List.mem_of_getElem? (i := 70) rfl)
theorem rt_87_11 {h : AH} (r : RefOK h) : h 87 11 = 93 := r.1 (87, 11, 93) (List.mem_of_getElem? (i := 71) rfl)
theorem rt_87_12 {h : AH} (r : RefOK h) : h 87 12 = 94 := r.1 (87, 12, 94) (List.mem_of_getElem? (i := 72) rfl)
theorem rt_87_14 {h : AH} (r : RefOK h) : h 87 14 = 95 := r.1 (87, 14, 95) (List.mem_of_getElem? (i := 73) rfl)
theorem rt_87_15 {h : AH} (r : RefOK h) : h 87 15 = 96 := r.1 (87, 15, 96) (List.mem_of_getElem? (i := 74) rfl)
theorem rt_97_0 {h : AH} (r : RefOK h) : h 97 0 = 98 := r.1 (97, 0, 98) (List.mem_of_getElem? (i := 75) rfl)
theorem rt_97_1 {h : AH} (r : RefOK h) : h 97 1 = 99 := r.1 (97, 1, 99) (List.mem_of_getElem? (i := 76) rfl)
theorem rt_97_3 {h : AH} (r : RefOK h) : h 97 3 = 100 := r.1 (97, 3, 100) (List.mem_of_getElem? (i := 77) rfl)
theorem rt_97_5 {h : AH} (r : RefOK h) : h 97 5 = 101 := r.1 (97, 5, 101) (List.mem_of_getElem? (i := 78) rfl)
theorem rt_97_6 {h : AH} (r : RefOK h) : h 97 6 = 115 := r.1 (97, 6, 115) (List.mem_of_getElem? (i := 79) rfl)
theorem rt_116_2 {h : AH} (r : RefOK h) : h 116 2 = 117 := r.1 (116, 2, 117) (List.mem_of_getElem? (i := 80) rfl)
theorem rt_116_3 {h : AH} (r : RefOK h) : h 116 3 = 118 := r.1 (116, 3, 118) (List.mem_of_getElem? (i := 81) rfl)
theorem rt_116_4 {h : AH} (r : RefOK h) : h 116 4 = 119 := r.1 (116, 4, 119) (List.mem_of_getElem? (i := 82) rfl)
theorem rt_116_5 {h : AH} (r : RefOK h) : h 116 5 = 120 := r.1 (116, 5, 120) (List.mem_of_getElem? (i := 83) rfl)
theorem rt_116_6 {h : AH} (r : RefOK h) : h 116 6 = 121 := r.1 (116, 6, 121) (List.mem_of_getElem? (i := 84) rfl)
theorem rt_116_7 {h : AH} (r : RefOK h) : h 116 7 = 122 := r.1 (116, 7, 122) (List.mem_of_getElem? (i := 85) rfl)
theorem rt_116_8 {h : AH} (r : RefOK h) : h 116 8 = 123 := r.1 (116, 8, 123) (List.mem_of_getElem? (i := 86) rfl)
theorem rt_116_9 {h : AH} (r : RefOK h) : h 116 9 = 124 := r.1 (116, 9, 124) (List.mem_of_getElem? (i := 87) rfl)
theorem rt_116_10 {h : AH} (r : RefOK h) : h 116 10 = 125 := r.1 (116, 10, 125) (List.mem_of_getElem? (i := 88) rfl)
theorem rt_116_11 {h : AH} (r : RefOK h) : h 116 11 = 126 := r.1 (116, 11, 126) (List.mem_of_getElem? (i := 89) rfl)
theorem rt_116_12 {h : AH} (r : RefOK h) : h 116 12 = 127 := r.1 (116, 12, 127) (List.mem_of_getElem? (i := 90) rfl)
theorem rt_116_13 {h : AH} (r : RefOK h) : h 116 13 = 128 := r.1 (116, 13, 128) (List.mem_of_getElem? (i := 91) rfl)
theorem rt_116_26 {h : AH} (r : RefOK h) : h 116 26 = 129 := r.1 (116, 26, 129) (List.mem_of_getElem? (i := 92) rfl)
theorem rt_116_27 {h : AH} (r : RefOK h) : h 116 27 = 130 := r.1 (116, 27, 130) (List.mem_of_getElem? (i := 93) rfl)
theorem rt_116_28 {h : AH} (r : RefOK h) : h 116 28 = 131 := r.1 (116, 28, 131) (List.mem_of_getElem? (i := 94) rfl)
theorem rt_116_29 {h : AH} (r : RefOK h) : h 116 29 = 132 := r.1 (116, 29, 132) (List.mem_of_getElem? (i := 95) rfl)
theorem rt_116_30 {h : AH} (r : RefOK h) : h 116 30 = 133 := r.1 (116, 30, 133) (List.mem_of_getElem? (i := 96) rfl)
theorem rt_116_31 {h : AH} (r : RefOK h) : h 116 31 = 134 := r.1 (116, 31, 134) (List.mem_of_getElem? (i := 97) rfl)
theorem rt_116_32 {h : AH} (r : RefOK h) : h 116 32 = 135 := r.1 (116, 32, 135) (List.mem_of_getElem? (i := 98) rfl)
theorem rt_116_33 {h : AH} (r : RefOK h) : h 116 33 = 136 := r.1 (116, 33, 136) (List.mem_of_getElem? (i := 99) rfl)
theorem rt_116_34 {h : AH} (r : RefOK h) : h 116 34 = 137 := r.1 (116, 34, 137) (List.mem_of_getElem? (i := 100) rfl)
theorem rt_116_35 {h : AH} (r : RefOK h) : h 116 35 = 138 := r.1 (116, 35, 138) (List.mem_of_getElem? (i := 101) rfl)
theorem rt_116_36 {h : AH} (r : RefOK h) : h 116 36 = 139 := r.1 (116, 36, 139) (List.mem_of_getElem? (i := 102) rfl)
theorem rt_116_37 {h : AH} (r : RefOK h) : h 116 37 = 140 := r.1 (116, 37, 140) (List.mem_of_getElem? (i := 103) rfl)
theorem rt_116_38 {h : AH} (r : RefOK h) : h 116 38 = 141 := r.1 (116, 38, 141) (List.mem_of_getElem? (i := 104) rfl)
theorem rt_116_39 {h : AH} (r : RefOK h) : h 116 39 = 142 := r.1 (116, 39, 142) (List.mem_of_getElem? (i := 105) rfl)
theorem rt_116_40 {h : AH} (r : RefOK h) : h 116 40 = 143 := r.1 (116, 40, 143) (List.mem_of_getElem? (i := 106) rfl)
theorem rt_116_41 {h : AH} (r : RefOK h) : h 116 41 = 144 := r.1 (116, 41, 144) (List.mem_of_getElem? (i := 107) rfl)
theorem rt_116_42 {h : AH} (r : RefOK h) : h 116 42 = 145 := r.1 (116, 42, 145) (List.mem_of_getElem? (i := 108) rfl)
theorem rt_116_43 {h : AH} (r : RefOK h) : h 116 43 = 146 := r.1 (116, 43, 146) (List.mem_of_getElem? (i := 109) rfl)
theorem rt_116_44 {h : AH} (r : RefOK h) : h 116 44 = 147 := r.1 (116, 44, 147) (List.mem_of_getElem? (i := 110) rfl)
theorem rt_116_49 {h : AH} (r : RefOK h) : h 116 49 = 148 := r.1 (116, 49, 148) (List.mem_of_getElem? (i := 111) rfl)
theorem rt_116_50 {h : AH} (r : RefOK h) : h 116 50 = 149 := r.1 (116, 50, 149) (List.mem_of_getElem? (i := 112) rfl)
theorem rt_116_51 {h : AH} (r : RefOK h) : h 116 51 = 150 := r.1 (116, 51, 150) (List.mem_of_getElem? (i := 113) rfl)
theorem rt_116_52 {h : AH} (r : RefOK h) : h 116 52 = 151 := r.1 (116, 52, 151) (List.mem_of_getElem? (i := 114) rfl)
theorem rt_116_53 {h : AH} (r : RefOK h) : h 116 53 = 152 := r.1 (116, 53, 152) (List.mem_of_getElem? (i := 115) rfl)
theorem rt_116_54 {h : AH} (r : RefOK h) : h 116 54 = 153 := r.1 (116, 54, 153) (List.mem_of_getElem? (i := 116) rfl)
theorem rt_116_55 {h : AH} (r : RefOK h) : h 116 55 = 154 := r.1 (116, 55, 154) (List.mem_of_getElem? (i := 117) rfl)
theorem rt_116_56 {h : AH} (r : RefOK h) : h 116 56 = 155 := r.1 (116, 56, 155) (List.mem_of_getElem? (i := 118) rfl)
theorem rt_116_57 {h : AH} (r : RefOK h) : h 116 57 = 156 := r.1 (116, 57, 156) (List.mem_of_getElem? (i := 119) rfl)
theorem rt_116_58 {h : AH} (r : RefOK h) : h 116 58 = 157 := r.1 (116, 58, 157) (List.mem_of_getElem? (i := 120) rfl)
theorem rt_116_59 {h : AH} (r : RefOK h) : h 116 59 = 158 := r.1 (116, 59, 158) (List.mem_of_getElem? (i := 121) rfl)
theorem rt_116_60 {h : AH} (r : RefOK h) : h 116 60 = 159 := r.1 (116, 60, 159) (List.mem_of_getElem? (i := 122) rfl)
theorem rt_116_61 {h : AH} (r : RefOK h) : h 116 61 = 160 := r.1 (116, 61, 160) (List.mem_of_getElem? (i := 123) rfl)
theorem rt_116_62 {h : AH} (r : RefOK h) : h 116 62 = 161 := r.1 (116, 62, 161) (List.mem_of_getElem? (i := 124) rfl)
theorem rt_116_63 {h : AH} (r : RefOK h) : h 116 63 = 162 := r.1 (116, 63, 162) (List.mem_of_getElem? (i := 125) rfl)
theorem rt_116_64 {h : AH} (r : RefOK h) : h 116 64 = 163 := r.1 (116, 64, 163) (List.mem_of_getElem? (i := 126) rfl)
theorem rt_116_69 {h : AH} (r : RefOK h) : h 116 69 = 164 := r.1 (116, 69, 164) (List.mem_of_getElem? (i := 127) rfl)
theorem rt_116_70 {h : AH} (r : RefOK h) : h 116 70 = 165 := r.1 (116, 70, 165) (List.mem_of_getElem? (i := 128) rfl)
theorem rt_116_71 {h : AH} (r : RefOK h) : h 116 71 = 166 := r.1 (116, 71, 166) (List.mem_of_getElem? (i := 129) rfl)
theorem rt_116_72 {h : AH} (r : RefOK h) : h 116 72 = 167 := r.1 (116, 72, 167) (List.mem_of_getElem? (i := 130) rfl)
theorem rt_116_73 {h : AH} (r : RefOK h) : h 116 73 = 168 := r.1 (116, 73, 168) (List.mem_of_getElem? (i := 131) rfl)
theorem rt_116_74 {h : AH} (r : RefOK h) : h 116 74 = 169 := r.1 (116, 74, 169) (List.mem_of_getElem? (i := 132) rfl)
theorem rt_116_75 {h : AH} (r : RefOK h) : h 116 75 = 170 := r.1 (116, 75, 170) (List.mem_of_getElem? (i := 133) rfl)
theorem rt_116_76 {h : AH} (r : RefOK h) : h 116 76 = 171 := r.1 (116, 76, 171) (List.mem_of_getElem? (i := 134) rfl)
theorem rt_116_77 {h : AH} (r : RefOK h) : h 116 77 = 172 := r.1 (116, 77, 172) (List.mem_of_getElem? (i := 135) rfl)
theorem rt_116_78 {h : AH} (r : RefOK h) : h 116 78 = 173 := r.1 (116, 78, 173) (List.mem_of_getElem? (i := 136) rfl)
theorem rt_116_85 {h : AH} (r : RefOK h) : h 116 85 = 174 := r.1 (116, 85, 174) (List.mem_of_getElem? (i := 137) rfl)
theorem rt_116_86 {h : AH} (r : RefOK h) : h 116 86 = 175 := r.1 (116, 86, 175) (List.mem_of_getElem? (i := 138) rfl)
theorem rt_116_87 {h : AH} (r : RefOK h) : h 116 87 = 176 := r.1 (116, 87, 176) (List.mem_of_getElem? (i := 139) rfl)
theorem rb_16 {h : AH} (r : RefOK h) {i : Int} (h0 : 0 ≤ i) (h1 : i < 20) : h 16 i = 17 + i := r.2.1 (16, 17, 20) (List.mem_of_getElem? (i := 0) rfl) i h0 h1
theorem rb_57 {h : AH} (r : RefOK h) {i : Int} (h0 : 0 ≤ i) (h1 : i < 5) : h 57 i = 58 + i := r.2.1 (57, 58, 5) (List.mem_of_getElem? (i := 1) rfl) i h0 h1
theorem rb_101 {h : AH} (r : RefOK h) {i : Int} (h0 : 0 ≤ i) (h1 : i < 13) : h 101 i = 102 + i := r.2.1 (101, 102, 13) (List.mem_of_getElem? (i := 2) rfl) i h0 h1
theorem kk_0 : K0[(0 : Int).toNat]? = some (.inl 11) := by decide +kernel
theorem kk_1 : K0[(1 : Int).toNat]? = some (.inl 7) := by decide +kernel
theorem kk_2 : K0[(2 : Int).toNat]? = some (.inr (.int, 200)) := by decide +kernel
theorem kk_3 : K0[(3 : Int).toNat]? = some (.inr (.int, 200)) := by decide +kernel
theorem kk_4 : K0[(4 : Int).toNat]? = some (.inl 0) := by decide +kernel
theorem kk_5 : K0[(5 : Int).toNat]? = some (.inl 4) := by decide +kernel
theorem kk_6 : K0[(6 : Int).toNat]? = some (.inl 8) := by decide +kernel
theorem kk_7 : K0[(7 : Int).toNat]? = some (.inl 1) := by decide +kernel
theorem kk_8 : K0[(8 : Int).toNat]? = some (.inr (.int, 40)) := by decide +kernel
theorem kk_9 : K0[(9 : Int).toNat]? = some (.inr (.int, 40)) := by decide +kernel
theorem kk_10 : K0[(10 : Int).toNat]? = some (.inr (.int, 40)) := by decide +kernel
theorem kk_11 : K0[(11 : Int).toNat]? = some (.inr (.int, 40)) := by decide +kernel
theorem kk_12 : K0[(12 : Int).toNat]? = some (.inl 1) := by decide +kernel
theorem kk_13 : K0[(13 : Int).toNat]? = some (.inr (.int, 20)) := by decide +kernel
theorem kk_14 : K0[(14 : Int).toNat]? = some (.inr (.int, 20)) := by decide +kernel
theorem kk_15 : K0[(15 : Int).toNat]? = some (.inr (.int, 20)) := by decide +kernel
theorem kk_16 : K0[(16 : Int).toNat]? = some (.inr ((.array .int), 20)) := by decide +kernel
theorem kk_17 : K0[(17 : Int).toNat]? = some (.inr (.int, 200)) := by decide +kernel
theorem kk_18 : K0[(18 : Int).toNat]? = some (.inr (.int, 200)) := by decide +kernel
theorem kk_19 : K0[(19 : Int).toNat]? = some (.inr (.int, 200)) := by decide +kernel
theorem kk_20 : K0[(20 : Int).toNat]? = some (.inr (.int, 200)) := by decide +kernel
theorem kk_21 : K0[(21 : Int).toNat]? = some (.inr (.int, 200)) := by decide +kernel
theorem kk_22 : K0[(22 : Int).toNat]? = some (.inr (.int, 200)) := by decide +kernel
theorem kk_23 : K0[(23 : Int).toNat]? = some (.inr (.int, 200)) := by decide +kernel
theorem kk_24 : K0[(24 : Int).toNat]? = some (.inr (.int, 200)) := by decide +kernel
theorem kk_25 : K0[(25 : Int).toNat]? = some (.inr (.int, 200)) := by decide +kernel
theorem kk_26 : K0[(26 : Int).toNat]? = some (.inr (.int, 200)) := by decide +kernel
theorem kk_27 : K0[(27 : Int).toNat]? = some (.inr (.int, 200)) := by decide +kernel
theorem kk_28 : K0[(28 : Int).toNat]? = some (.inr (.int, 200)) := by decide +kernel
theorem kk_29 : K0[(29 : Int).toNat]? = some (.inr (.int, 200)) := by decide +kernel
theorem kk_30 : K0[(30 : Int).toNat]? = some (.inr (.int, 200)) := by decide +kernel
theorem kk_31 : K0[(31 : Int).toNat]? = some (.inr (.int, 200)) := by decide +kernel
theorem kk_32 : K0[(32 : Int).toNat]? = some (.inr (.int, 200)) := by decide +kernel
theorem kk_33 : K0[(33 : Int).toNat]? = some (.inr (.int, 200)) := by decide +kernel
theorem kk_34 : K0[(34 : Int).toNat]? = some (.inr (.int, 200)) := by decide +kernel
theorem kk_35 : K0[(35 : Int).toNat]? = some (.inr (.int, 200)) := by decide +kernel
theorem kk_36 : K0[(36 : Int).toNat]? = some (.inr (.int, 200)) := by decide +kernel
theorem kk_37 : K0[(37 : Int).toNat]? = some (.inr (.int, 20)) := by decide +kernel
theorem kk_38 : K0[(38 : Int).toNat]? = some (.inl 2) := by decide +kernel
theorem kk_39 : K0[(39 : Int).toNat]? = some (.inr (.int, 8)) := by decide +kernel
theorem kk_40 : K0[(40 : Int).toNat]? = some (.inr (.int, 64)) := by decide +kernel
theorem kk_41 : K0[(41 : Int).toNat]? = some (.inl 6) := by decide +kernel
theorem kk_42 : K0[(42 : Int).toNat]? = some (.inr (.int, 100)) := by decide +kernel
theorem kk_43 : K0[(43 : Int).toNat]? = some (.inr (.int, 100)) := by decide +kernel
theorem kk_44 : K0[(44 : Int).toNat]? = some (.inr (.int, 100)) := by decide +kernel
theorem kk_45 : K0[(45 : Int).toNat]? = some (.inr (.int, 100)) := by decide +kernel
theorem kk_46 : K0[(46 : Int).toNat]? = some (.inr (.int, 100)) := by decide +kernel
theorem kk_47 : K0[(47 : Int).toNat]? = some (.inr (.int, 100)) := by decide +kernel
theorem kk_48 : K0[(48 : Int).toNat]? = some (.inr (.int, 100)) := by decide +kernel
theorem kk_49 : K0[(49 : Int).toNat]? = some (.inr (.int, 100)) := by decide +kernel
theorem kk_50 : K0[(50 : Int).toNat]? = some (.inr (.int, 100)) := by decide +kernel
theorem kk_51 : K0[(51 : Int).toNat]? = some (.inr (.int, 600)) := by decide +kernel
theorem kk_52 : K0[(52 : Int).toNat]? = some (.inr (.int, 600)) := by decide +kernel
theorem kk_53 : K0[(53 : Int).toNat]? = some (.inl 3) := by decide +kernel
theorem kk_54 : K0[(54 : Int).toNat]? = some (.inr (.int, 100)) := by decide +kernel
theorem kk_55 : K0[(55 : Int).toNat]? = some (.inr (.int, 100)) := by decide +kernel
theorem kk_56 : K0[(56 : Int).toNat]? = some (.inr (.int, 100)) := by decide +kernel
theorem kk_57 : K0[(57 : Int).toNat]? = some (.inr ((.array .int), 5)) := by decide +kernel
theorem kk_58 : K0[(58 : Int).toNat]? = some (.inr (.int, 100)) := by decide +kernel
theorem kk_59 : K0[(59 : Int).toNat]? = some (.inr (.int, 100)) := by decide +kernel
theorem kk_60 : K0[(60 : Int).toNat]? = some (.inr (.int, 100)) := by decide +kernel
theorem kk_61 : K0[(61 : Int).toNat]? = some (.inr (.int, 100)) := by decide +kernel
theorem kk_62 : K0[(62 : Int).toNat]? = some (.inr (.int, 100)) := by decide +kernel
theorem kk_63 : K0[(63 : Int).toNat]? = some (.inr (.int, 100)) := by decide +kernel
theorem kk_64 : K0[(64 : Int).toNat]? = some (.inr (.int, 100)) := by decide +kernel
theorem kk_65 : K0[(65 : Int).toNat]? = some (.inr (.int, 100)) := by decide +kernel
theorem kk_66 : K0[(66 : Int).toNat]? = some (.inr (.int, 100)) := by decide +kernel
theorem kk_67 : K0[(67 : Int).toNat]? = some (.inr (.int, 100)) := by decide +kernel
theorem kk_68 : K0[(68 : Int).toNat]? = some (.inr (.int, 100)) := by decide +kernel
theorem kk_69 : K0[(69 : Int).toNat]? = some (.inr (.int, 100)) := by decide +kernel
theorem kk_70 : K0[(70 : Int).toNat]? = some (.inl 3) := by decide +kernel
theorem kk_71 : K0[(71 : Int).toNat]? = some (.inr (.int, 100)) := by decide +kernel
theorem kk_72 : K0[(72 : Int).toNat]? = some (.inr (.int, 100)) := by decide +kernel
theorem kk_73 : K0[(73 : Int).toNat]? = some (.inr (.int, 100)) := by decide +kernel
theorem kk_74 : K0[(74 : Int).toNat]? = some (.inr (.int, 800)) := by decide +kernel
theorem kk_75 : K0[(75 : Int).toNat]? = some (.inr (.int, 100)) := by decide +kernel
theorem kk_76 : K0[(76 : Int).toNat]? = some (.inr (.long, 100)) := by decide +kernel
theorem kk_77 : K0[(77 : Int).toNat]? = some (.inr (.int, 400)) := by decide +kernel
theorem kk_78 : K0[(78 : Int).toNat]? = some (.inr (.long, 400)) := by decide +kernel
theorem kk_79 : K0[(79 : Int).toNat]? = some (.inr (.int, 400)) := by decide +kernel
theorem kk_80 : K0[(80 : Int).toNat]? = some (.inr (.int, 100)) := by decide +kernel
theorem kk_81 : K0[(81 : Int).toNat]? = some (.inl 10) := by decide +kernel
theorem kk_82 : K0[(82 : Int).toNat]? = some (.inr (.int, 6)) := by decide +kernel
theorem kk_83 : K0[(83 : Int).toNat]? = some (.inr (.int, 6)) := by decide +kernel
theorem kk_84 : K0[(84 : Int).toNat]? = some (.inr (.int, 100)) := by decide +kernel
theorem kk_85 : K0[(85 : Int).toNat]? = some (.inr (.int, 100)) := by decide +kernel
theorem kk_86 : K0[(86 : Int).toNat]? = some (.inr (.int, 100)) := by decide +kernel
theorem kk_87 : K0[(87 : Int).toNat]? = some (.inl 5) := by decide +kernel
theorem kk_88 : K0[(88 : Int).toNat]? = some (.inr (.int, 16)) := by decide +kernel
theorem kk_89 : K0[(89 : Int).toNat]? = some (.inr (.int, 16)) := by decide +kernel
theorem kk_90 : K0[(90 : Int).toNat]? = some (.inr (.int, 16)) := by decide +kernel
theorem kk_91 : K0[(91 : Int).toNat]? = some (.inr (.int, 16)) := by decide +kernel
theorem kk_92 : K0[(92 : Int).toNat]? = some (.inr (.int, 4)) := by decide +kernel
theorem kk_93 : K0[(93 : Int).toNat]? = some (.inr (.int, 4)) := by decide +kernel
theorem kk_94 : K0[(94 : Int).toNat]? = some (.inr (.int, 4)) := by decide +kernel
theorem kk_95 : K0[(95 : Int).toNat]? = some (.inr (.int, 4)) := by decide +kernel
theorem kk_96 : K0[(96 : Int).toNat]? = some (.inr (.int, 4)) := by decide +kernel
theorem kk_97 : K0[(97 : Int).toNat]? = some (.inl 9) := by decide +kernel
theorem kk_98 : K0[(98 : Int).toNat]? = some (.inr (.int, 60)) := by decide +kernel
theorem kk_99 : K0[(99 : Int).toNat]? = some (.inr (.int, 60)) := by decide +kernel
theorem kk_100 : K0[(100 : Int).toNat]? = some (.inr (.int, 12)) := by decide +kernel
theorem kk_101 : K0[(101 : Int).toNat]? = some (.inr ((.array .int), 13)) := by decide +kernel
theorem kk_102 : K0[(102 : Int).toNat]? = some (.inr (.int, 13)) := by decide +kernel
theorem kk_103 : K0[(103 : Int).toNat]? = some (.inr (.int, 13)) := by decide +kernel
theorem kk_104 : K0[(104 : Int).toNat]? = some (.inr (.int, 13)) := by decide +kernel
theorem kk_105 : K0[(105 : Int).toNat]? = some (.inr (.int, 13)) := by decide +kernel
theorem kk_106 : K0[(106 : Int).toNat]? = some (.inr (.int, 13)) := by decide +kernel
theorem kk_107 : K0[(107 : Int).toNat]? = some (.inr (.int, 13)) := by decide +kernel
theorem kk_108 : K0[(108 : Int).toNat]? = some (.inr (.int, 13)) := by decide +kernel
theorem kk_109 : K0[(109 : Int).toNat]? = some (.inr (.int, 13)) := by decide +kernel
theorem kk_110 : K0[(110 : Int).toNat]? = some (.inr (.int, 13)) := by decide +kernel
theorem kk_111 : K0[(111 : Int).toNat]? = some (.inr (.int, 13)) := by decide +kernel
theorem kk_112 : K0[(112 : Int).toNat]? = some (.inr (.int, 13)) := by decide +kernel
theorem kk_113 : K0[(113 : Int).toNat]? = some (.inr (.int, 13)) := by decide +kernel
theorem kk_114 : K0[(114 : Int).toNat]? = some (.inr (.int, 13)) := by decide +kernel
theorem kk_115 : K0[(115 : Int).toNat]? = some (.inr (.int, 12)) := by decide +kernel
theorem kk_116 : K0[(116 : Int).toNat]? = some (.inl 12) := by decide +kernel
theorem kk_117 : K0[(117 : Int).toNat]? = some (.inr (.int, 40)) := by decide +kernel
theorem kk_118 : K0[(118 : Int).toNat]? = some (.inr (.int, 40)) := by decide +kernel
theorem kk_119 : K0[(119 : Int).toNat]? = some (.inr (.int, 40)) := by decide +kernel
theorem kk_120 : K0[(120 : Int).toNat]? = some (.inr (.int, 40)) := by decide +kernel
theorem kk_121 : K0[(121 : Int).toNat]? = some (.inr (.int, 20)) := by decide +kernel
theorem kk_122 : K0[(122 : Int).toNat]? = some (.inr (.int, 20)) := by decide +kernel
theorem kk_123 : K0[(123 : Int).toNat]? = some (.inr (.int, 20)) := by decide +kernel
theorem kk_124 : K0[(124 : Int).toNat]? = some (.inr (.int, 20)) := by decide +kernel
theorem kk_125 : K0[(125 : Int).toNat]? = some (.inr (.int, 800)) := by decide +kernel
theorem kk_126 : K0[(126 : Int).toNat]? = some (.inr (.int, 128)) := by decide +kernel
theorem kk_127 : K0[(127 : Int).toNat]? = some (.inr (.byte, 200)) := by decide +kernel
theorem kk_128 : K0[(128 : Int).toNat]? = some (.inr (.byte, 4000)) := by decide +kernel
theorem kk_129 : K0[(129 : Int).toNat]? = some (.inr (.int, 100)) := by decide +kernel
theorem kk_130 : K0[(130 : Int).toNat]? = some (.inr (.int, 100)) := by decide +kernel
theorem kk_131 : K0[(131 : Int).toNat]? = some (.inr (.int, 100)) := by decide +kernel
theorem kk_132 : K0[(132 : Int).toNat]? = some (.inr (.int, 100)) := by decide +kernel
theorem kk_133 : K0[(133 : Int).toNat]? = some (.inr (.int, 100)) := by decide +kernel
theorem kk_134 : K0[(134 : Int).toNat]? = some (.inr (.int, 100)) := by decide +kernel
theorem kk_135 : K0[(135 : Int).toNat]? = some (.inr (.int, 100)) := by decide +kernel
theorem kk_136 : K0[(136 : Int).toNat]? = some (.inr (.int, 100)) := by decide +kernel
theorem kk_137 : K0[(137 : Int).toNat]? = some (.inr (.int, 100)) := by decide +kernel
theorem kk_138 : K0[(138 : Int).toNat]? = some (.inr (.int, 600)) := by decide +kernel
theorem kk_139 : K0[(139 : Int).toNat]? = some (.inr (.int, 600)) := by decide +kernel
theorem kk_140 : K0[(140 : Int).toNat]? = some (.inr (.int, 6)) := by decide +kernel
theorem kk_141 : K0[(141 : Int).toNat]? = some (.inr (.int, 6)) := by decide +kernel
theorem kk_142 : K0[(142 : Int).toNat]? = some (.inr (.int, 100)) := by decide +kernel
theorem kk_143 : K0[(143 : Int).toNat]? = some (.inr (.int, 100)) := by decide +kernel
theorem kk_144 : K0[(144 : Int).toNat]? = some (.inr (.int, 100)) := by decide +kernel
theorem kk_145 : K0[(145 : Int).toNat]? = some (.inr (.int, 100)) := by decide +kernel
theorem kk_146 : K0[(146 : Int).toNat]? = some (.inr (.int, 100)) := by decide +kernel
theorem kk_147 : K0[(147 : Int).toNat]? = some (.inr (.int, 100)) := by decide +kernel
theorem kk_148 : K0[(148 : Int).toNat]? = some (.inr (.boolean, 100)) := by decide +kernel
theorem kk_149 : K0[(149 : Int).toNat]? = some (.inr (.boolean, 100)) := by decide +kernel
theorem kk_150 : K0[(150 : Int).toNat]? = some (.inr (.int, 100)) := by decide +kernel
theorem kk_151 : K0[(151 : Int).toNat]? = some (.inr (.int, 100)) := by decide +kernel
theorem kk_152 : K0[(152 : Int).toNat]? = some (.inr (.int, 100)) := by decide +kernel
theorem kk_153 : K0[(153 : Int).toNat]? = some (.inr (.int, 100)) := by decide +kernel
theorem kk_154 : K0[(154 : Int).toNat]? = some (.inr (.int, 100)) := by decide +kernel
theorem kk_155 : K0[(155 : Int).toNat]? = some (.inr (.int, 100)) := by decide +kernel
theorem kk_156 : K0[(156 : Int).toNat]? = some (.inr (.int, 100)) := by decide +kernel
theorem kk_157 : K0[(157 : Int).toNat]? = some (.inr (.int, 100)) := by decide +kernel
theorem kk_158 : K0[(158 : Int).toNat]? = some (.inr (.int, 100)) := by decide +kernel
theorem kk_159 : K0[(159 : Int).toNat]? = some (.inr (.int, 100)) := by decide +kernel
theorem kk_160 : K0[(160 : Int).toNat]? = some (.inr (.long, 100)) := by decide +kernel
theorem kk_161 : K0[(161 : Int).toNat]? = some (.inr (.long, 400)) := by decide +kernel
theorem kk_162 : K0[(162 : Int).toNat]? = some (.inr (.int, 400)) := by decide +kernel
theorem kk_163 : K0[(163 : Int).toNat]? = some (.inr (.int, 400)) := by decide +kernel
theorem kk_164 : K0[(164 : Int).toNat]? = some (.inr (.boolean, 400)) := by decide +kernel
theorem kk_165 : K0[(165 : Int).toNat]? = some (.inr (.int, 100)) := by decide +kernel
theorem kk_166 : K0[(166 : Int).toNat]? = some (.inr (.long, 100)) := by decide +kernel
theorem kk_167 : K0[(167 : Int).toNat]? = some (.inr (.int, 4)) := by decide +kernel
theorem kk_168 : K0[(168 : Int).toNat]? = some (.inr (.int, 16)) := by decide +kernel
theorem kk_169 : K0[(169 : Int).toNat]? = some (.inr (.int, 16)) := by decide +kernel
theorem kk_170 : K0[(170 : Int).toNat]? = some (.inr (.int, 16)) := by decide +kernel
theorem kk_171 : K0[(171 : Int).toNat]? = some (.inr (.int, 16)) := by decide +kernel
theorem kk_172 : K0[(172 : Int).toNat]? = some (.inr (.int, 4)) := by decide +kernel
theorem kk_173 : K0[(173 : Int).toNat]? = some (.inr (.int, 4)) := by decide +kernel
theorem kk_174 : K0[(174 : Int).toNat]? = some (.inr (.int, 60)) := by decide +kernel
theorem kk_175 : K0[(175 : Int).toNat]? = some (.inr (.int, 60)) := by decide +kernel
theorem kk_176 : K0[(176 : Int).toNat]? = some (.inr (.int, 12)) := by decide +kernel
theorem kk_177 : K0[(177 : Int).toNat]? = some (.inr (.long, 1)) := by decide +kernel
/-- what a callee's words say of it, n its parameters -/
def Cal (M' : MI) (n : Nat) : Prop := Cond.code M'.1 M'.2.1 M'.2.2.1 M'.2.2.2 ∈ Tb ∧ Cond.initialized M'.1.cls ∈ Tb ∧ (M'.1.cls ≠ "java/lang/invoke/MethodHandle" ∧ M'.1.cls ≠ "java/lang/invoke/VarHandle" ∧ (parseMethodDescriptor M'.1.desc).map (fun d => d.parameters.length) = some n) ∧ M'.2.2.1 ≤ 45
def CalV (M' : MI) (n : Nat) : Prop := Cal M' n ∧ Cond.instanceMethod M'.1 ∈ Tb ∧ Cond.selects M'.1.cls M'.1 M'.1 ∈ Tb
def CalS (M' : MI) (n : Nat) : Prop := Cal M' n ∧ Cond.static M'.1 ∈ Tb
def CalI (M' : MI) (n : Nat) : Prop := Cal M' n ∧ Cond.instanceMethod M'.1 ∈ Tb ∧ M'.1.name = "<init>" ∧ M'.2.2.2 = none
