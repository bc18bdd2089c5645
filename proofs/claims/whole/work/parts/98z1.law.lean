/-! ===== the law: its script, its steps (written by wip/whole/p86.py) ===== -/
set_option maxHeartbeats 2000000 in
theorem LI_t177 {h : AH} {cs : Int → List (Int × List Int)} {x : Int} (I : CI h cs) (L : CLN h)  : LI (hset h 177 0 x) := by
  have key : ∀ N : AH, N = (hset h 177 0 x) → LI N := fun N hN => by
    have u : ∀ c j, ¬ (c = 177) → N c j = h c j := fun c j q => by
      rw [hN, hset_ne _ (by omega)]
    have r2 : N 2 = h 2 := funext fun j => u 2 j (by omega)
    have r8 : N 8 = h 8 := funext fun j => u 8 j (by omega)
    have r9 : N 9 = h 9 := funext fun j => u 9 j (by omega)
    have r10 : N 10 = h 10 := funext fun j => u 10 j (by omega)
    have r11 : N 11 = h 11 := funext fun j => u 11 j (by omega)
    have r13 : N 13 = h 13 := funext fun j => u 13 j (by omega)
    have r14 : N 14 = h 14 := funext fun j => u 14 j (by omega)
    have r15 : N 15 = h 15 := funext fun j => u 15 j (by omega)
    have r37 : N 37 = h 37 := funext fun j => u 37 j (by omega)
    have r42 : N 42 = h 42 := funext fun j => u 42 j (by omega)
    have r43 : N 43 = h 43 := funext fun j => u 43 j (by omega)
    have r44 : N 44 = h 44 := funext fun j => u 44 j (by omega)
    have r45 : N 45 = h 45 := funext fun j => u 45 j (by omega)
    have r46 : N 46 = h 46 := funext fun j => u 46 j (by omega)
    have r47 : N 47 = h 47 := funext fun j => u 47 j (by omega)
    have r48 : N 48 = h 48 := funext fun j => u 48 j (by omega)
    have r49 : N 49 = h 49 := funext fun j => u 49 j (by omega)
    have r50 : N 50 = h 50 := funext fun j => u 50 j (by omega)
    have r51 : N 51 = h 51 := funext fun j => u 51 j (by omega)
    have r52 : N 52 = h 52 := funext fun j => u 52 j (by omega)
    have r54 : N 54 = h 54 := funext fun j => u 54 j (by omega)
    have r55 : N 55 = h 55 := funext fun j => u 55 j (by omega)
    have r56 : N 56 = h 56 := funext fun j => u 56 j (by omega)
    have r64 : N 64 = h 64 := funext fun j => u 64 j (by omega)
    have r65 : N 65 = h 65 := funext fun j => u 65 j (by omega)
    have r66 : N 66 = h 66 := funext fun j => u 66 j (by omega)
    have r67 : N 67 = h 67 := funext fun j => u 67 j (by omega)
    have r68 : N 68 = h 68 := funext fun j => u 68 j (by omega)
    have r69 : N 69 = h 69 := funext fun j => u 69 j (by omega)
    have r71 : N 71 = h 71 := funext fun j => u 71 j (by omega)
    have r72 : N 72 = h 72 := funext fun j => u 72 j (by omega)
    have r73 : N 73 = h 73 := funext fun j => u 73 j (by omega)
    have r74 : N 74 = h 74 := funext fun j => u 74 j (by omega)
    have r82 : N 82 = h 82 := funext fun j => u 82 j (by omega)
    have r83 : N 83 = h 83 := funext fun j => u 83 j (by omega)
    have r84 : N 84 = h 84 := funext fun j => u 84 j (by omega)
    have r85 : N 85 = h 85 := funext fun j => u 85 j (by omega)
    have r86 : N 86 = h 86 := funext fun j => u 86 j (by omega)
    have r88 : N 88 = h 88 := funext fun j => u 88 j (by omega)
    have r89 : N 89 = h 89 := funext fun j => u 89 j (by omega)
    have r90 : N 90 = h 90 := funext fun j => u 90 j (by omega)
    have r91 : N 91 = h 91 := funext fun j => u 91 j (by omega)
    have r92 : N 92 = h 92 := funext fun j => u 92 j (by omega)
    have r98 : N 98 = h 98 := funext fun j => u 98 j (by omega)
    have r99 : N 99 = h 99 := funext fun j => u 99 j (by omega)
    have r117 : N 117 = h 117 := funext fun j => u 117 j (by omega)
    have r118 : N 118 = h 118 := funext fun j => u 118 j (by omega)
    have r119 : N 119 = h 119 := funext fun j => u 119 j (by omega)
    have r120 : N 120 = h 120 := funext fun j => u 120 j (by omega)
    have r121 : N 121 = h 121 := funext fun j => u 121 j (by omega)
    have r122 : N 122 = h 122 := funext fun j => u 122 j (by omega)
    have r123 : N 123 = h 123 := funext fun j => u 123 j (by omega)
    have r124 : N 124 = h 124 := funext fun j => u 124 j (by omega)
    have r125 : N 125 = h 125 := funext fun j => u 125 j (by omega)
    have r127 : N 127 = h 127 := funext fun j => u 127 j (by omega)
    have r128 : N 128 = h 128 := funext fun j => u 128 j (by omega)
    have r129 : N 129 = h 129 := funext fun j => u 129 j (by omega)
    have r130 : N 130 = h 130 := funext fun j => u 130 j (by omega)
    have r131 : N 131 = h 131 := funext fun j => u 131 j (by omega)
    have r132 : N 132 = h 132 := funext fun j => u 132 j (by omega)
    have r133 : N 133 = h 133 := funext fun j => u 133 j (by omega)
    have r134 : N 134 = h 134 := funext fun j => u 134 j (by omega)
    have r135 : N 135 = h 135 := funext fun j => u 135 j (by omega)
    have r136 : N 136 = h 136 := funext fun j => u 136 j (by omega)
    have r137 : N 137 = h 137 := funext fun j => u 137 j (by omega)
    have r138 : N 138 = h 138 := funext fun j => u 138 j (by omega)
    have r139 : N 139 = h 139 := funext fun j => u 139 j (by omega)
    have r140 : N 140 = h 140 := funext fun j => u 140 j (by omega)
    have r141 : N 141 = h 141 := funext fun j => u 141 j (by omega)
    have r142 : N 142 = h 142 := funext fun j => u 142 j (by omega)
    have r143 : N 143 = h 143 := funext fun j => u 143 j (by omega)
    have r144 : N 144 = h 144 := funext fun j => u 144 j (by omega)
    have r145 : N 145 = h 145 := funext fun j => u 145 j (by omega)
    have r146 : N 146 = h 146 := funext fun j => u 146 j (by omega)
    have r147 : N 147 = h 147 := funext fun j => u 147 j (by omega)
    have r150 : N 150 = h 150 := funext fun j => u 150 j (by omega)
    have r151 : N 151 = h 151 := funext fun j => u 151 j (by omega)
    have r152 : N 152 = h 152 := funext fun j => u 152 j (by omega)
    have r153 : N 153 = h 153 := funext fun j => u 153 j (by omega)
    have r154 : N 154 = h 154 := funext fun j => u 154 j (by omega)
    have r155 : N 155 = h 155 := funext fun j => u 155 j (by omega)
    have r156 : N 156 = h 156 := funext fun j => u 156 j (by omega)
    have r157 : N 157 = h 157 := funext fun j => u 157 j (by omega)
    have r158 : N 158 = h 158 := funext fun j => u 158 j (by omega)
    have r167 : N 167 = h 167 := funext fun j => u 167 j (by omega)
    have r168 : N 168 = h 168 := funext fun j => u 168 j (by omega)
    have r169 : N 169 = h 169 := funext fun j => u 169 j (by omega)
    have r170 : N 170 = h 170 := funext fun j => u 170 j (by omega)
    have r171 : N 171 = h 171 := funext fun j => u 171 j (by omega)
    have r174 : N 174 = h 174 := funext fun j => u 174 j (by omega)
    have r175 : N 175 = h 175 := funext fun j => u 175 j (by omega)
    have r76 : N 76 = h 76 := funext fun j => u 76 j (by omega)
    have r77 : N 77 = h 77 := funext fun j => u 77 j (by omega)
    have r78 : N 78 = h 78 := funext fun j => u 78 j (by omega)
    have r79 : N 79 = h 79 := funext fun j => u 79 j (by omega)
    have r160 : N 160 = h 160 := funext fun j => u 160 j (by omega)
    have r161 : N 161 = h 161 := funext fun j => u 161 j (by omega)
    have r162 : N 162 = h 162 := funext fun j => u 162 j (by omega)
    have r163 : N 163 = h 163 := funext fun j => u 163 j (by omega)
    have f0_0 : N 0 0 = h 0 0 := u 0 0 (by omega)
    have f1_1 : N 1 1 = h 1 1 := u 1 1 (by omega)
    have f4_7 : N 4 7 = h 4 7 := u 4 7 (by omega)
    have f7_0 : N 7 0 = h 7 0 := u 7 0 (by omega)
    have f7_4 : N 7 4 = h 7 4 := u 7 4 (by omega)
    have f12_0 : N 12 0 = h 12 0 := u 12 0 (by omega)
    have f12_4 : N 12 4 = h 12 4 := u 12 4 (by omega)
    have f41_12 : N 41 12 = h 41 12 := u 41 12 (by omega)
    have f41_13 : N 41 13 = h 41 13 := u 41 13 (by omega)
    have f53_3 : N 53 3 = h 53 3 := u 53 3 (by omega)
    have f70_3 : N 70 3 = h 70 3 := u 70 3 (by omega)
    have f81_2 : N 81 2 = h 81 2 := u 81 2 (by omega)
    have f81_6 : N 81 6 = h 81 6 := u 81 6 (by omega)
    have f97_2 : N 97 2 = h 97 2 := u 97 2 (by omega)
    have f116_1 : N 116 1 = h 116 1 := u 116 1 (by omega)
    have f116_14 : N 116 14 = h 116 14 := u 116 14 (by omega)
    have f116_15 : N 116 15 = h 116 15 := u 116 15 (by omega)
    have f116_16 : N 116 16 = h 116 16 := u 116 16 (by omega)
    have f116_45 : N 116 45 = h 116 45 := u 116 45 (by omega)
    have f116_46 : N 116 46 = h 116 46 := u 116 46 (by omega)
    have f116_47 : N 116 47 = h 116 47 := u 116 47 (by omega)
    have f116_48 : N 116 48 = h 116 48 := u 116 48 (by omega)
    have f116_65 : N 116 65 = h 116 65 := u 116 65 (by omega)
    have f116_66 : N 116 66 = h 116 66 := u 116 66 (by omega)
    have f116_88 : N 116 88 = h 116 88 := u 116 88 (by omega)
    have f4_15 : N 4 15 = h 4 15 := u 4 15 (by omega)
    have f4_16 : N 4 16 = h 4 16 := u 4 16 (by omega)
    have f116_67 : N 116 67 = h 116 67 := u 116 67 (by omega)
    have f116_68 : N 116 68 = h 116 68 := u 116 68 (by omega)
    refine ⟨cs, ⟨?_, ?_, ?_, ?_, ?_, ?_, ?_, ?_, ?_, ?_, ?_, ?_, ?_, ?_, ?_, ?_, ?_, ?_, ?_, ?_, ?_, ?_, ?_, ?_, ?_, ?_, ?_, ?_, ?_, ?_, ?_, ?_, ?_, ?_, ?_, ?_, ?_, ?_, ?_, ?_, ?_, ?_, ?_, ?_, ?_, ?_, ?_, ?_, ?_, ?_, ?_, ?_, ?_, ?_, ?_, ?_, ?_, ?_, ?_, ?_, ?_, ?_, ?_, ?_, ?_, ?_, ?_, ?_, ?_, ?_, ?_, ?_, ?_, ?_, ?_, ?_, ?_, ?_, ?_, ?_, ?_⟩, ⟨?_, ?_, ?_, ?_, ?_, ?_, ?_, ?_⟩⟩
    · exact (by
        simp only [r8, r117]
        exact I.e8)
    · exact (by
        simp only [r9, r119]
        exact I.e9)
    · exact (by
        simp only [r10, r120]
        exact I.e10)
    · exact (by
        simp only [r11, r118]
        exact I.e11)
    · exact (by
        simp only [r13, r121]
        exact I.e13)
    · exact (by
        simp only [r14, r122]
        exact I.e14)
    · exact (by
        simp only [r15, r123]
        exact I.e15)
    · exact (by
        simp only [r42, r129]
        exact I.e42)
    · exact (by
        simp only [r43, r130]
        exact I.e43)
    · exact (by
        simp only [r44, r131]
        exact I.e44)
    · exact (by
        simp only [r45, r132]
        exact I.e45)
    · exact (by
        simp only [r46, r133]
        exact I.e46)
    · exact (by
        simp only [r47, r134]
        exact I.e47)
    · exact (by
        simp only [r48, r135]
        exact I.e48)
    · exact (by
        simp only [r50, r137]
        exact I.e50)
    · exact (by
        simp only [r51, r138]
        exact I.e51)
    · exact (by
        simp only [r52, r139]
        exact I.e52)
    · exact (by
        simp only [r54, r145]
        exact I.e54)
    · exact (by
        simp only [r55, r146]
        exact I.e55)
    · exact (by
        simp only [r56, r147]
        exact I.e56)
    · exact (by
        simp only [r64, r150]
        exact I.e64)
    · exact (by
        simp only [r65, r151]
        exact I.e65)
    · exact (by
        simp only [r66, r152]
        exact I.e66)
    · exact (by
        simp only [r67, r153]
        exact I.e67)
    · exact (by
        simp only [r68, r154]
        exact I.e68)
    · exact (by
        simp only [r69, r155]
        exact I.e69)
    · exact (by
        simp only [r71, r156]
        exact I.e71)
    · exact (by
        simp only [r72, r157]
        exact I.e72)
    · exact (by
        simp only [r73, r158]
        exact I.e73)
    · exact (by
        simp only [r74, r125]
        exact I.e74)
    · exact (by
        simp only [r82, r140]
        exact I.e82)
    · exact (by
        simp only [r83, r141]
        exact I.e83)
    · exact (by
        simp only [r84, r143]
        exact I.e84)
    · exact (by
        simp only [r85, r144]
        exact I.e85)
    · exact (by
        simp only [r86, r142]
        exact I.e86)
    · exact (by
        simp only [r88, r168]
        exact I.e88)
    · exact (by
        simp only [r89, r169]
        exact I.e89)
    · exact (by
        simp only [r90, r170]
        exact I.e90)
    · exact (by
        simp only [r91, r171]
        exact I.e91)
    · exact (by
        simp only [r92, r167]
        exact I.e92)
    · exact (by
        simp only [r98, r174]
        exact I.e98)
    · exact (by
        simp only [r99, r175]
        exact I.e99)
    · exact (by
        simp only [f0_0, f116_1]
        exact I.f0_0)
    · exact (by
        simp only [f7_4, f116_14]
        exact I.f7_4)
    · exact (by
        simp only [f12_4, f116_15]
        exact I.f12_4)
    · exact (by
        simp only [f1_1, f116_16]
        exact I.f1_1)
    · exact (by
        simp only [f41_12, f116_45]
        exact I.f41_12)
    · exact (by
        simp only [f53_3, f116_48]
        exact I.f53_3)
    · exact (by
        simp only [f81_2, f116_46]
        exact I.f81_2)
    · exact (by
        simp only [f81_6, f116_47]
        exact I.f81_6)
    · exact (by
        simp only [f4_7, f116_65]
        exact I.f4_7)
    · exact (by
        simp only [f70_3, f116_66]
        exact I.f70_3)
    · exact (by
        simp only [f97_2, f116_88]
        exact I.f97_2)
    · exact (by
        simp only [f7_0]
        exact I.k7)
    · exact (by
        simp only [f12_0]
        exact I.k12)
    · exact (by
        unfold RW
        simp only [f116_45, f116_48, f116_14, f116_15, r129, r130, r131, r132, r135, r137, r138, r139, r146]
        exact I.W)
    · exact (by
        unfold RS
        simp only [f116_65, f116_66, f116_45, r150, r151, r152, r153, r154, r155, r157]
        exact I.S)
    · exact TX_eq I.T f116_15 r124 r128
    · exact CX_eq I.X f12_4 r37 (fun p h0 h1 => funext fun j => u (17 + p) j (by omega))
    · exact (by
        simp only [f116_1]
        exact I.now)
    · exact (by
        simp only [f116_14, r118]
        exact I.il)
    · exact (by
        simp only [f116_1, f116_48, r147]
        exact I.m147)
    · exact (by
        simp only [f116_1, f116_45, r134]
        exact I.m134)
    · exact (by
        simp only [f116_1, f116_65, r155]
        exact I.m155)
    · exact (by
        simp only [f116_1, f116_66, r158]
        exact I.m158)
    · exact (by
        simp only [f116_1, f116_45, r49, r136]
        exact I.iu)
    · exact (by
        simp only [f41_13, f116_45, r136]
        exact I.un)
    · exact (by
        simp only [f116_45, f116_48, r145]
        exact I.ma)
    · exact (by
        simp only [f116_16, r2, r127]
        exact I.tp)
    · exact (by
        simp only [f116_45, f116_46, r140, r141]
        exact I.bn)
    · exact (by
        simp only [f116_45, f116_47, r142, r143, r144]
        exact I.po)
    · exact (by
        simp only [f116_45, f116_46, f116_47, r132, r133, r140, r141, r142, r144]
        exact I.co)
    · exact (by
        simp only [f116_45, r137]
        exact I.en)
    · exact (by
        simp only [r125]
        exact I.ta)
    · exact (by
        simp only [r167]
        exact I.ofn)
    · exact (by
        simp only [r167]
        exact I.ofc)
    · exact (by
        simp only [r168, r169, r170, r171]
        exact I.ofk)
    · exact (by
        simp only [f116_15, r121]
        exact I.tw)
    · exact (by
        simp only [f116_45, r135, r137]
        exact I.gr)
    · exact (by
        simp only [f116_65, r134, r150, r155]
        exact I.sd)
    · exact (by
        simp only [f116_88, r175]
        exact I.wo)
    · exact (by
        simp only [r76, r160]
        exact L.e76)
    · exact (by
        simp only [r77, r162]
        exact L.e77)
    · exact (by
        simp only [r78, r161]
        exact L.e78)
    · exact (by
        simp only [r79, r163]
        exact L.e79)
    · exact (by
        simp only [f4_15, f116_67]
        exact L.f4_15)
    · exact (by
        simp only [f4_16, f116_68]
        exact L.f4_16)
    · exact (by
        simp only [f116_67]
        exact L.li)
    · exact (by
        simp only [r160]
        exact L.bk)
  exact key _ rfl

/-- the script: it lies where it lay, and says what it said -/
def SCR (G : GG) (N : Nat) (xs : Nat → Int32) : Prop := ∃ scr : Cell, G.2.2.1[G.2.2.2.1 9]? = some scr ∧ scr.slots.size = N ∧ ∀ j : Nat, j < N → scr.slots[j]? = some (.int (xs j))
def scv (xs : Nat → Int32) (i : Int) : Int := (xs i.toNat).toInt
theorem scr_at {G : GG} {adr : Nat → Nat} {K : List Kd} {h : AH} {H : Heap} {s : State} {N : Nat} {xs : Nat → Int32} (R : Rel G adr K h H) (B : BA G s) (X : SCR G N xs) : ∃ scr : Cell, H[G.2.2.2.1 9]? = some scr ∧ s.isArrayOf scr .int ∧ scr.vm ≠ .unknown ∧ scr.slots.size = N ∧ ∀ j : Nat, j < N → scr.slots[j]? = some (.int (xs j)) := by
  obtain ⟨scr, g1, g2, g3⟩ := X
  obtain ⟨s0, L, xs', h1, h2, h3, h4, h5⟩ := B
  obtain ⟨scr', q1, q2, q3, q4, q5⟩ := h4.moved h5
  obtain rfl : scr' = scr := Option.some.inj (q1.symm.trans g1)
  exact ⟨scr', (R.1 _ (Array.getElem?_eq_some_iff.mp g1).1).trans g1, q2, q3, g2, g3⟩
section LRULES
variable {l : Launch} {G : GG} {M : MI} {d mc ms n1 n2 : Nat} {K : List Kd} {pc : Nat} {L st : List AV} {h : AH} {Q : Option AV → List Kd → AH → Prop} {N : Nat} {xs : Nat → Int32}
theorem v_slen (X : SCR G N xs) (hN : N ≤ 3584) (hdg : decode M.2.1 pc = .ok (.arraylength, 1)) (k : V l G M d mc ms n1 n2 K (pc + 1) L ((0, (N : Int)) :: st) h Q) : V l G M d mc ms n1 n2 K pc L ((3, ((G.2.2.2.1 9 : Nat) : Int)) :: st) h Q := by
  intro p e s m args below meth c0 adr0 adr n0 H locs ls S
  obtain ⟨S1, S2, S3, S4, S5, S6⟩ := S
  obtain ⟨hx, hb, h3, h4, h5, h6, h7, h8, h9⟩ := id S1
  obtain ⟨scr, q1, q2, q3, q4, q5⟩ := scr_at S2 h9.ba X
  refine W.alen (n := Int32.ofInt (N : Int)) hx hb q1 q2 ?_ rfl rfl hdg (k p e s m args below meth c0 adr0 adr n0 H locs ls ⟨S1, S2, S3, S4, al_c.mpr ⟨oka0 (by unfold ok32; omega), (al_c.mp S5).2⟩, S6⟩)
  rw [q4]
  rfl
theorem v_sld {i : Int} (X : SCR G N xs) (h0 : 0 ≤ i) (h1 : i < (N : Int)) (hdg : decode M.2.1 pc = .ok (.iaload, 1)) (k : V l G M d mc ms n1 n2 K (pc + 1) L ((0, scv xs i) :: st) h Q) : V l G M d mc ms n1 n2 K pc L ((0, i) :: (3, ((G.2.2.2.1 9 : Nat) : Int)) :: st) h Q := by
  intro p e s m args below meth c0 adr0 adr n0 H locs ls S
  obtain ⟨S1, S2, S3, S4, S5, S6⟩ := S
  obtain ⟨hx, hb, h3, h4, h5, h6, h7, h8, h9⟩ := id S1
  obtain ⟨scr, q1, q2, q3, q4, q5⟩ := scr_at S2 h9.ba X
  have hi : ok32 i := (al_c.mp S5).1.1 rfl
  have kk := k p e s m args below meth c0 adr0 adr n0 H locs ls ⟨S1, S2, S3, S4, al_c.mpr ⟨oka0 (o32 _), (al_c.mp (al_c.mp S5).2).2⟩, S6⟩
  have e1 : ra adr (0, scv xs i) = .int (xs i.toNat) := by
    show Value.int (Int32.ofInt (xs i.toNat).toInt) = _
    rw [f32]
  rw [List.map_cons, e1] at kk
  refine W.iald hx hb q1 q2 q3 ?_ ?_ rfl rfl hdg kk
  · rw [q4]; exact n32 hi h0 h1
  · rw [cl32 hi h0]; exact q5 i.toNat (by omega)
end LRULES
abbrev mL_law : MI := (yL_law, cL_law, 7, some .boolean)
/-- the law's locals -/
abbrev LL (G : GG) (i : Int) (a5 a6 : AV) : List AV := [(3, ((G.2.2.2.1 9 : Nat) : Int)), (2, 0), (2, 116), (2, 177), (0, i), a5, a6]
section LCELL
variable {l : Launch} {G : GG} {d mc ms n1 n2 : Nat} {K : List Kd} {pc : Nat} {st : List AV} {h : AH} {Q : Option AV → List Kd → AH → Prop} {N : Nat} {xs : Nat → Int32} {i : Int} {a5 a6 : AV}
theorem v_cell {n : Int} (X : SCR G N xs) (hN : N ≤ 3584) (h0 : 0 ≤ i) (h1 : i + 7 ≤ (N : Int)) (hn : 0 ≤ n ∧ n ≤ 6) (d1 : decode cL_law pc = .ok (.aload_n 0, 1)) (d2 : decode cL_law (pc + 1) = .ok (.iload 4, 2)) (d3 : decode cL_law (pc + 3) = .ok (.iconst n, 1)) (d4 : decode cL_law (pc + 4) = .ok (.iadd, 1)) (d5 : decode cL_law (pc + 5) = .ok (.iaload, 1))
    (k : V l G mL_law d mc ms n1 n2 K (pc + 6) (LL G i a5 a6) ((0, scv xs (i + n)) :: st) h Q) : V l G mL_law d mc ms n1 n2 K pc (LL G i a5 a6) st h Q :=
  v_aload3_n (i := 0) d1 rfl (v_iload d2 rfl (v_iconst d3 (by unfold ok32; omega) (v_iaddE d4 (by omega) (v_sld X (by omega) (by omega) d5 k))))
theorem v_cell6 {n : Int} (X : SCR G N xs) (hN : N ≤ 3584) (h0 : 0 ≤ i) (h1 : i + 7 ≤ (N : Int)) (hn : 0 ≤ n ∧ n ≤ 6) (hv : (Int8.ofInt n).toInt32 = Int32.ofInt n) (d1 : decode cL_law pc = .ok (.aload_n 0, 1)) (d2 : decode cL_law (pc + 1) = .ok (.iload 4, 2)) (d3 : decode cL_law (pc + 3) = .ok (.bipush n, 2)) (d4 : decode cL_law (pc + 5) = .ok (.iadd, 1)) (d5 : decode cL_law (pc + 6) = .ok (.iaload, 1))
    (k : V l G mL_law d mc ms n1 n2 K (pc + 7) (LL G i a5 a6) ((0, scv xs (i + n)) :: st) h Q) : V l G mL_law d mc ms n1 n2 K pc (LL G i a5 a6) st h Q :=
  v_aload3_n (i := 0) d1 rfl (v_iload d2 rfl (v_bipush d3 (by unfold ok32; omega) hv (v_iaddE d4 (by omega) (v_sld X (by omega) (by omega) d5 k))))
/-- the law's call of its told -/
theorem v_tcall {As st0 : List AV} (hdg : decode cL_law pc = .ok (.invokestatic 95, 3)) (hd : 2 ≤ d) (hl : As.length = 4) (hs : csum st ≤ 8) (hst : st0 = As.reverse ++ st) (hf : n1 + 1 ≤ mc ∧ n2 + 6 ≤ ms) {L : List AV}
    (k : SpT l G (d - 1) 1 6 K As h (fun r K' h' => V l G mL_law d mc ms (n1 + 1) (n2 + 6) K' (pc + 3) L (r.toList ++ st) h' Q)) : V l G mL_law d mc ms n1 n2 K pc L st0 h Q := by
  subst hst
  intro p e s m args below meth c0 adr0 adr n0 H locs ls S
  obtain ⟨S1, S2, S3, S4, S5, S6⟩ := S
  obtain ⟨hx, hb, h3, h4, h5, h6, h7, h8, h9⟩ := id S1
  have hoA : ∀ v ∈ As, oka K.length v := fun v hv => S5 v (List.mem_append_left _ (List.mem_reverse.mpr hv))
  have hoS : ∀ v ∈ st, oka K.length v := fun v hv => S5 v (List.mem_append_right _ hv)
  have hmet := k adr H.size hoA
  refine v_after ⟨S1, S2, S3, S4, hoS, S6⟩ (vx_runSW (As := As.map (ra adr)) (rest := st.map (ra adr)) (n := 4) ⟨hx, hb, h5, h6, h8⟩ hmet
    (vx_cwSW 4 h8 (tb_good (fun w hw2 => by
      rcases List.mem_append.mp hw2 with q | q
      · simp only [List.mem_cons, List.not_mem_nil, or_false] at q
        rcases q with rfl | rfl | rfl
        · exact k_1335
        · exact kt_st
        · exact kt_ini
      · rcases List.mem_cons.mp q with q | q
        · rw [q]; exact kt_cw
        · exact q)) rfl rfl rfl (by decide +kernel) ⟨by show d - 1 + 1 ≤ d; omega, by show 8 + (5 + 11) + 64 * (d - 1) ≤ 64 * d; omega⟩)
    ⟨pre_blind, fun U hU hW => ⟨rfl, by rw [hU], by rw [hU]; exact S2, h9.warm hW⟩⟩ rfl (by rw [List.length_map]; exact hl) (by rw [← h5]; exact S6.1.trans h5.symm) (by rw [List.map_append, List.map_reverse]) (by show 2 * 0 + _ ≤ 8; rw [cat_sum]; unfold csum at hs; omega) hdg hf)
end LCELL
theorem tolF_177 {h : AH} {b w x : Int} : tolF (hset h 177 0 x) b w = tolF h b w := by
  have u : ∀ c, c ≠ 177 → hset h 177 0 x c = h c := fun c q => funext fun j => hset_ne h (fun z => q z.1)
  unfold tolF prc
  simp only [u 129 (by decide), u 130 (by decide), u 131 (by decide), u 132 (by decide), u 133 (by decide), u 134 (by decide), u 135 (by decide), u 136 (by decide), u 137 (by decide), u 145 (by decide), u 146 (by decide), u 147 (by decide), u 116 (by decide)]
theorem r_told {l : Launch} {G : GG} {d : Nat} {h : AH} {cs : Int → List (Int × List Int)} {b w : Int} {Q : Option AV → List Kd → AH → Prop} (hd : 3 ≤ d) (I : CI h cs) (q0 : ¬ ((0 ≤ b ∧ b < h 116 45) ∧ (0 ≤ w ∧ w ≤ 8)) → Q (some (0, 0)) K0 (hset h 116 0 1)) (q1 : (0 ≤ b ∧ b < h 116 45) ∧ (0 ≤ w ∧ w ≤ 8) → Q (some (0, tolF h b w)) K0 (hset h 116 0 0)) : Sp l G mX12_told d 0 0 K0 [(2, 116), (0, b), (0, w)] h Q := by
  have nb := I.W.nb
  have nm := I.W.nm
  refine s_X12_told hd nb.1 nb.2 nm.1 nm.2 ?_ ?_ ?_ ?_ ?_ ?_ ?_ ?_ ?_ ?_ ?_ ?_ ?_ ?_
  · intro c1; exact q0 (by omega)
  · intro c1 c2; exact q0 (by omega)
  · intro c1 c2 c3; exact q0 (by omega)
  · intro c1 c2 c3 c4; exact q0 (by omega)
  · intro c1 c2 c3 c4 c5 c6
    obtain rfl : w = 8 := by omega
    have := q1 ⟨⟨c1, c2⟩, c3, c4⟩
    rw [tolF_8, if_pos c6] at this
    exact this
  · intro c1 c2 c3 c4 c5 c6
    obtain rfl : w = 8 := by omega
    have := q1 ⟨⟨c1, c2⟩, c3, c4⟩
    rw [tolF_8, if_neg c6] at this
    exact this
  all_goals
    intro c1 c2 c3 c4 c5
    subst c5
    exact q1 ⟨⟨c1, c2⟩, c3, c4⟩
theorem scv_r (xs : Nat → Int32) (i : Int) : ok32 (scv xs i) := o32 _
set_option maxHeartbeats 4000000 in
set_option maxRecDepth 100000 in
theorem lc_0 {l : Launch} {G : GG} {d mc ms n1 n2 N : Nat} {xs : Nat → Int32} {i : Int} {a5 a6 : AV} {h : AH} {Q : Option AV → List Kd → AH → Prop} (hl : l.stackTraces = false) (X : SCR G N xs) (hN : N ≤ 3584) (h0 : 0 ≤ i) (h1 : i + 7 ≤ (N : Int)) (hd : 70 ≤ d) (hr : n1 + 1 ≤ mc ∧ n2 + 6 ≤ ms) (H : LI h) (nx : ∀ (h2 : AH) (b5 b6 : AV) (m1 m2 : Nat), LI h2 → m1 ≤ n1 + 1 → m2 ≤ n2 + 6 → V l G mL_law d mc ms m1 m2 K0 1908 (LL G i b5 b6) [] h2 Q) : V l G mL_law d mc ms n1 n2 K0 208 (LL G i a5 a6) [] h Q := by
  refine v_aload_n dL_law_208 rfl ?_
  refine v_cell X hN h0 h1 (by decide) dL_law_209 dL_law_210 dL_law_212 dL_law_213 dL_law_214 ?_
  refine v_callv (M' := mX11_days) (d' := d - 1) (mc' := 0) (ms' := 0) (ci := 11) (c := 0) (As := [_]) dL_law_215 k_582 cm_X11_days rfl (by omega) (by decide) kk_0 (Nat.le_of_ble_eq_true rfl) rfl ⟨by omega, by omega⟩ ?_
  refine j_days (by omega) H (fun h3 v3 hS => ?_)
  dsimp only [Option.toList, List.cons_append, List.nil_append, Nat.add_zero]
  refine v_aload_n dL_law_218 rfl ?_
  refine v_cell X hN h0 h1 (by decide) dL_law_219 dL_law_220 dL_law_222 dL_law_223 dL_law_224 ?_
  refine v_callv (M' := mX12_days) (d' := d - 1) (mc' := 0) (ms' := 0) (ci := 12) (c := 116) (As := [_]) dL_law_225 k_1695 cm_X12_days rfl (by omega) (by decide) kk_116 (Nat.le_of_ble_eq_true rfl) rfl ⟨by omega, by omega⟩ ?_
  refine hS _ (fun h4 H4 => ?_)
  dsimp only [Option.toList, List.cons_append, List.nil_append, Nat.add_zero]
  refine v_icmp_eq_t (tgt := 1908) dL_law_228 (by decide) rfl ?_
  exact nx _ _ _ _ _ H4 (by omega) (by omega)
set_option maxHeartbeats 4000000 in
set_option maxRecDepth 100000 in
theorem lc_1 {l : Launch} {G : GG} {d mc ms n1 n2 N : Nat} {xs : Nat → Int32} {i : Int} {a5 a6 : AV} {h : AH} {Q : Option AV → List Kd → AH → Prop} (hl : l.stackTraces = false) (X : SCR G N xs) (hN : N ≤ 3584) (h0 : 0 ≤ i) (h1 : i + 7 ≤ (N : Int)) (hd : 70 ≤ d) (hr : n1 + 1 ≤ mc ∧ n2 + 6 ≤ ms) (H : LI h) (nx : ∀ (h2 : AH) (b5 b6 : AV) (m1 m2 : Nat), LI h2 → m1 ≤ n1 + 1 → m2 ≤ n2 + 6 → V l G mL_law d mc ms m1 m2 K0 1908 (LL G i b5 b6) [] h2 Q) : V l G mL_law d mc ms n1 n2 K0 233 (LL G i a5 a6) [] h Q := by
  refine v_aload_n dL_law_233 rfl ?_
  refine v_cell X hN h0 h1 (by decide) dL_law_234 dL_law_235 dL_law_237 dL_law_238 dL_law_239 ?_
  refine v_cell X hN h0 h1 (by decide) dL_law_240 dL_law_241 dL_law_243 dL_law_244 dL_law_245 ?_
  refine v_cell X hN h0 h1 (by decide) dL_law_246 dL_law_247 dL_law_249 dL_law_250 dL_law_251 ?_
  refine v_callv (M' := mX11_members) (d' := d - 1) (mc' := 0) (ms' := 0) (ci := 11) (c := 0) (As := [_, _, _]) dL_law_252 k_589 cm_X11_members rfl (by omega) (by decide) kk_0 (Nat.le_of_ble_eq_true rfl) rfl ⟨by omega, by omega⟩ ?_
  refine j_members (by omega) H (fun h3 v3 hS => ?_)
  dsimp only [Option.toList, List.cons_append, List.nil_append, Nat.add_zero]
  refine v_aload_n dL_law_255 rfl ?_
  refine v_cell X hN h0 h1 (by decide) dL_law_256 dL_law_257 dL_law_259 dL_law_260 dL_law_261 ?_
  refine v_cell X hN h0 h1 (by decide) dL_law_262 dL_law_263 dL_law_265 dL_law_266 dL_law_267 ?_
  refine v_cell X hN h0 h1 (by decide) dL_law_268 dL_law_269 dL_law_271 dL_law_272 dL_law_273 ?_
  refine v_callv (M' := mX12_members) (d' := d - 1) (mc' := 0) (ms' := 0) (ci := 12) (c := 116) (As := [_, _, _]) dL_law_274 k_1703 cm_X12_members rfl (by omega) (by decide) kk_116 (Nat.le_of_ble_eq_true rfl) rfl ⟨by omega, by omega⟩ ?_
  refine hS _ (fun h4 H4 => ?_)
  dsimp only [Option.toList, List.cons_append, List.nil_append, Nat.add_zero]
  refine v_icmp_eq_t (tgt := 1908) dL_law_277 (by decide) rfl ?_
  exact nx _ _ _ _ _ H4 (by omega) (by omega)
set_option maxHeartbeats 4000000 in
set_option maxRecDepth 100000 in
theorem lc_2 {l : Launch} {G : GG} {d mc ms n1 n2 N : Nat} {xs : Nat → Int32} {i : Int} {a5 a6 : AV} {h : AH} {Q : Option AV → List Kd → AH → Prop} (hl : l.stackTraces = false) (X : SCR G N xs) (hN : N ≤ 3584) (h0 : 0 ≤ i) (h1 : i + 7 ≤ (N : Int)) (hd : 70 ≤ d) (hr : n1 + 1 ≤ mc ∧ n2 + 6 ≤ ms) (H : LI h) (nx : ∀ (h2 : AH) (b5 b6 : AV) (m1 m2 : Nat), LI h2 → m1 ≤ n1 + 1 → m2 ≤ n2 + 6 → V l G mL_law d mc ms m1 m2 K0 1908 (LL G i b5 b6) [] h2 Q) : V l G mL_law d mc ms n1 n2 K0 282 (LL G i a5 a6) [] h Q := by
  refine v_aload_n dL_law_282 rfl ?_
  refine v_cell X hN h0 h1 (by decide) dL_law_283 dL_law_284 dL_law_286 dL_law_287 dL_law_288 ?_
  refine v_cell X hN h0 h1 (by decide) dL_law_289 dL_law_290 dL_law_292 dL_law_293 dL_law_294 ?_
  refine v_cell X hN h0 h1 (by decide) dL_law_295 dL_law_296 dL_law_298 dL_law_299 dL_law_300 ?_
  refine v_callv (M' := mX11_member) (d' := d - 1) (mc' := 0) (ms' := 0) (ci := 11) (c := 0) (As := [_, _, _]) dL_law_301 k_602 cm_X11_member rfl (by omega) (by decide) kk_0 (Nat.le_of_ble_eq_true rfl) rfl ⟨by omega, by omega⟩ ?_
  refine j_member (by omega) H (fun h3 v3 hS => ?_)
  dsimp only [Option.toList, List.cons_append, List.nil_append, Nat.add_zero]
  refine v_aload_n dL_law_304 rfl ?_
  refine v_cell X hN h0 h1 (by decide) dL_law_305 dL_law_306 dL_law_308 dL_law_309 dL_law_310 ?_
  refine v_cell X hN h0 h1 (by decide) dL_law_311 dL_law_312 dL_law_314 dL_law_315 dL_law_316 ?_
  refine v_cell X hN h0 h1 (by decide) dL_law_317 dL_law_318 dL_law_320 dL_law_321 dL_law_322 ?_
  refine v_callv (M' := mX12_member) (d' := d - 1) (mc' := 0) (ms' := 0) (ci := 12) (c := 116) (As := [_, _, _]) dL_law_323 k_1716 cm_X12_member rfl (by omega) (by decide) kk_116 (Nat.le_of_ble_eq_true rfl) rfl ⟨by omega, by omega⟩ ?_
  refine hS _ (fun h4 H4 => ?_)
  dsimp only [Option.toList, List.cons_append, List.nil_append, Nat.add_zero]
  refine v_icmp_eq_t (tgt := 1908) dL_law_326 (by decide) rfl ?_
  exact nx _ _ _ _ _ H4 (by omega) (by omega)
set_option maxHeartbeats 4000000 in
set_option maxRecDepth 100000 in
theorem lc_3 {l : Launch} {G : GG} {d mc ms n1 n2 N : Nat} {xs : Nat → Int32} {i : Int} {a5 a6 : AV} {h : AH} {Q : Option AV → List Kd → AH → Prop} (hl : l.stackTraces = false) (X : SCR G N xs) (hN : N ≤ 3584) (h0 : 0 ≤ i) (h1 : i + 7 ≤ (N : Int)) (hd : 70 ≤ d) (hr : n1 + 1 ≤ mc ∧ n2 + 6 ≤ ms) (H : LI h) (nx : ∀ (h2 : AH) (b5 b6 : AV) (m1 m2 : Nat), LI h2 → m1 ≤ n1 + 1 → m2 ≤ n2 + 6 → V l G mL_law d mc ms m1 m2 K0 1908 (LL G i b5 b6) [] h2 Q) : V l G mL_law d mc ms n1 n2 K0 331 (LL G i a5 a6) [] h Q := by
  refine v_aload_n dL_law_331 rfl ?_
  refine v_cell X hN h0 h1 (by decide) dL_law_332 dL_law_333 dL_law_335 dL_law_336 dL_law_337 ?_
  refine v_cell X hN h0 h1 (by decide) dL_law_338 dL_law_339 dL_law_341 dL_law_342 dL_law_343 ?_
  refine v_cell X hN h0 h1 (by decide) dL_law_344 dL_law_345 dL_law_347 dL_law_348 dL_law_349 ?_
  refine v_cell X hN h0 h1 (by decide) dL_law_350 dL_law_351 dL_law_353 dL_law_354 dL_law_355 ?_
  refine v_cell X hN h0 h1 (by decide) dL_law_356 dL_law_357 dL_law_359 dL_law_360 dL_law_361 ?_
  refine v_callv (M' := mX11_feed) (d' := d - 1) (mc' := 0) (ms' := 0) (ci := 11) (c := 0) (As := [_, _, _, _, _]) dL_law_362 k_618 cm_X11_feed rfl (by omega) (by decide) kk_0 (Nat.le_of_ble_eq_true rfl) rfl ⟨by omega, by omega⟩ ?_
  refine j_feed (by omega) H (fun h3 v3 hS => ?_)
  dsimp only [Option.toList, List.cons_append, List.nil_append, Nat.add_zero]
  refine v_aload_n dL_law_365 rfl ?_
  refine v_cell X hN h0 h1 (by decide) dL_law_366 dL_law_367 dL_law_369 dL_law_370 dL_law_371 ?_
  refine v_cell X hN h0 h1 (by decide) dL_law_372 dL_law_373 dL_law_375 dL_law_376 dL_law_377 ?_
  refine v_cell X hN h0 h1 (by decide) dL_law_378 dL_law_379 dL_law_381 dL_law_382 dL_law_383 ?_
  refine v_cell X hN h0 h1 (by decide) dL_law_384 dL_law_385 dL_law_387 dL_law_388 dL_law_389 ?_
  refine v_cell X hN h0 h1 (by decide) dL_law_390 dL_law_391 dL_law_393 dL_law_394 dL_law_395 ?_
  refine v_callv (M' := mX12_feed) (d' := d - 1) (mc' := 0) (ms' := 0) (ci := 12) (c := 116) (As := [_, _, _, _, _]) dL_law_396 k_1728 cm_X12_feed rfl (by omega) (by decide) kk_116 (Nat.le_of_ble_eq_true rfl) rfl ⟨by omega, by omega⟩ ?_
  refine hS _ (fun h4 H4 => ?_)
  dsimp only [Option.toList, List.cons_append, List.nil_append, Nat.add_zero]
  refine v_icmp_eq_t (tgt := 1908) dL_law_399 (by decide) rfl ?_
  exact nx _ _ _ _ _ H4 (by omega) (by omega)
set_option maxHeartbeats 4000000 in
set_option maxRecDepth 100000 in
theorem lc_4 {l : Launch} {G : GG} {d mc ms n1 n2 N : Nat} {xs : Nat → Int32} {i : Int} {a5 a6 : AV} {h : AH} {Q : Option AV → List Kd → AH → Prop} (hl : l.stackTraces = false) (X : SCR G N xs) (hN : N ≤ 3584) (h0 : 0 ≤ i) (h1 : i + 7 ≤ (N : Int)) (hd : 70 ≤ d) (hr : n1 + 1 ≤ mc ∧ n2 + 6 ≤ ms) (H : LI h) (nx : ∀ (h2 : AH) (b5 b6 : AV) (m1 m2 : Nat), LI h2 → m1 ≤ n1 + 1 → m2 ≤ n2 + 6 → V l G mL_law d mc ms m1 m2 K0 1908 (LL G i b5 b6) [] h2 Q) : V l G mL_law d mc ms n1 n2 K0 404 (LL G i a5 a6) [] h Q := by
  refine v_aload_n dL_law_404 rfl ?_
  refine v_cell X hN h0 h1 (by decide) dL_law_405 dL_law_406 dL_law_408 dL_law_409 dL_law_410 ?_
  refine v_callv (M' := mX11_end) (d' := d - 1) (mc' := 0) (ms' := 0) (ci := 11) (c := 0) (As := [_]) dL_law_411 k_633 cm_X11_end rfl (by omega) (by decide) kk_0 (Nat.le_of_ble_eq_true rfl) rfl ⟨by omega, by omega⟩ ?_
  refine j_end (by omega) H (fun h3 v3 hS => ?_)
  dsimp only [Option.toList, List.cons_append, List.nil_append, Nat.add_zero]
  refine v_aload_n dL_law_414 rfl ?_
  refine v_cell X hN h0 h1 (by decide) dL_law_415 dL_law_416 dL_law_418 dL_law_419 dL_law_420 ?_
  refine v_callv (M' := mX12_end) (d' := d - 1) (mc' := 0) (ms' := 0) (ci := 12) (c := 116) (As := [_]) dL_law_421 k_1739 cm_X12_end rfl (by omega) (by decide) kk_116 (Nat.le_of_ble_eq_true rfl) rfl ⟨by omega, by omega⟩ ?_
  refine hS _ (fun h4 H4 => ?_)
  dsimp only [Option.toList, List.cons_append, List.nil_append, Nat.add_zero]
  refine v_icmp_eq_t (tgt := 1908) dL_law_424 (by decide) rfl ?_
  exact nx _ _ _ _ _ H4 (by omega) (by omega)
set_option maxHeartbeats 4000000 in
set_option maxRecDepth 100000 in
theorem lc_5 {l : Launch} {G : GG} {d mc ms n1 n2 N : Nat} {xs : Nat → Int32} {i : Int} {a5 a6 : AV} {h : AH} {Q : Option AV → List Kd → AH → Prop} (hl : l.stackTraces = false) (X : SCR G N xs) (hN : N ≤ 3584) (h0 : 0 ≤ i) (h1 : i + 7 ≤ (N : Int)) (hd : 70 ≤ d) (hr : n1 + 1 ≤ mc ∧ n2 + 6 ≤ ms) (H : LI h) (nx : ∀ (h2 : AH) (b5 b6 : AV) (m1 m2 : Nat), LI h2 → m1 ≤ n1 + 1 → m2 ≤ n2 + 6 → V l G mL_law d mc ms m1 m2 K0 1908 (LL G i b5 b6) [] h2 Q) : V l G mL_law d mc ms n1 n2 K0 429 (LL G i a5 a6) [] h Q := by
  refine v_aload_n dL_law_429 rfl ?_
  refine v_callv (M' := mX11_fault) (d' := d - 1) (mc' := 0) (ms' := 0) (ci := 11) (c := 0) (As := []) dL_law_430 k_642 cm_X11_fault rfl (by omega) (by decide) kk_0 (Nat.le_of_ble_eq_true rfl) rfl ⟨by omega, by omega⟩ ?_
  refine j_fault (by omega) H (fun h3 v3 hS => ?_)
  dsimp only [Option.toList, List.cons_append, List.nil_append, Nat.add_zero]
  refine v_aload_n dL_law_433 rfl ?_
  refine v_callv (M' := mX12_fault) (d' := d - 1) (mc' := 0) (ms' := 0) (ci := 12) (c := 116) (As := []) dL_law_434 k_1743 cm_X12_fault rfl (by omega) (by decide) kk_116 (Nat.le_of_ble_eq_true rfl) rfl ⟨by omega, by omega⟩ ?_
  refine hS _ (fun h4 H4 => ?_)
  dsimp only [Option.toList, List.cons_append, List.nil_append, Nat.add_zero]
  refine v_icmp_eq_t (tgt := 1908) dL_law_437 (by decide) rfl ?_
  exact nx _ _ _ _ _ H4 (by omega) (by omega)
set_option maxHeartbeats 4000000 in
set_option maxRecDepth 100000 in
theorem lc_6 {l : Launch} {G : GG} {d mc ms n1 n2 N : Nat} {xs : Nat → Int32} {i : Int} {a5 a6 : AV} {h : AH} {Q : Option AV → List Kd → AH → Prop} (hl : l.stackTraces = false) (X : SCR G N xs) (hN : N ≤ 3584) (h0 : 0 ≤ i) (h1 : i + 7 ≤ (N : Int)) (hd : 70 ≤ d) (hr : n1 + 1 ≤ mc ∧ n2 + 6 ≤ ms) (H : LI h) (nx : ∀ (h2 : AH) (b5 b6 : AV) (m1 m2 : Nat), LI h2 → m1 ≤ n1 + 1 → m2 ≤ n2 + 6 → V l G mL_law d mc ms m1 m2 K0 1908 (LL G i b5 b6) [] h2 Q) : V l G mL_law d mc ms n1 n2 K0 442 (LL G i a5 a6) [] h Q := by
  refine v_aload_n dL_law_442 rfl ?_
  refine v_cell X hN h0 h1 (by decide) dL_law_443 dL_law_444 dL_law_446 dL_law_447 dL_law_448 ?_
  refine v_cell X hN h0 h1 (by decide) dL_law_449 dL_law_450 dL_law_452 dL_law_453 dL_law_454 ?_
  refine v_callv (M' := mX11_protocol) (d' := d - 1) (mc' := 0) (ms' := 0) (ci := 11) (c := 0) (As := [_, _]) dL_law_455 k_805 cm_X11_protocol rfl (by omega) (by decide) kk_0 (Nat.le_of_ble_eq_true rfl) rfl ⟨by omega, by omega⟩ ?_
  refine j_protocol (by omega) H (fun h3 v3 hS => ?_)
  dsimp only [Option.toList, List.cons_append, List.nil_append, Nat.add_zero]
  refine v_aload_n dL_law_458 rfl ?_
  refine v_cell X hN h0 h1 (by decide) dL_law_459 dL_law_460 dL_law_462 dL_law_463 dL_law_464 ?_
  refine v_cell X hN h0 h1 (by decide) dL_law_465 dL_law_466 dL_law_468 dL_law_469 dL_law_470 ?_
  refine v_callv (M' := mX12_protocol) (d' := d - 1) (mc' := 0) (ms' := 0) (ci := 12) (c := 116) (As := [_, _]) dL_law_471 k_1816 cm_X12_protocol rfl (by omega) (by decide) kk_116 (Nat.le_of_ble_eq_true rfl) rfl ⟨by omega, by omega⟩ ?_
  refine hS _ (fun h4 H4 => ?_)
  dsimp only [Option.toList, List.cons_append, List.nil_append, Nat.add_zero]
  refine v_icmp_eq_t (tgt := 1908) dL_law_474 (by decide) rfl ?_
  exact nx _ _ _ _ _ H4 (by omega) (by omega)
set_option maxHeartbeats 4000000 in
set_option maxRecDepth 100000 in
theorem lc_7 {l : Launch} {G : GG} {d mc ms n1 n2 N : Nat} {xs : Nat → Int32} {i : Int} {a5 a6 : AV} {h : AH} {Q : Option AV → List Kd → AH → Prop} (hl : l.stackTraces = false) (X : SCR G N xs) (hN : N ≤ 3584) (h0 : 0 ≤ i) (h1 : i + 7 ≤ (N : Int)) (hd : 70 ≤ d) (hr : n1 + 1 ≤ mc ∧ n2 + 6 ≤ ms) (H : LI h) (nx : ∀ (h2 : AH) (b5 b6 : AV) (m1 m2 : Nat), LI h2 → m1 ≤ n1 + 1 → m2 ≤ n2 + 6 → V l G mL_law d mc ms m1 m2 K0 1908 (LL G i b5 b6) [] h2 Q) : V l G mL_law d mc ms n1 n2 K0 479 (LL G i a5 a6) [] h Q := by
  refine v_aload_n dL_law_479 rfl ?_
  refine v_cell X hN h0 h1 (by decide) dL_law_480 dL_law_481 dL_law_483 dL_law_484 dL_law_485 ?_
  refine v_cell X hN h0 h1 (by decide) dL_law_486 dL_law_487 dL_law_489 dL_law_490 dL_law_491 ?_
  refine v_cell X hN h0 h1 (by decide) dL_law_492 dL_law_493 dL_law_495 dL_law_496 dL_law_497 ?_
  refine v_callv (M' := mX11_force) (d' := d - 1) (mc' := 0) (ms' := 0) (ci := 11) (c := 0) (As := [_, _, _]) dL_law_498 k_816 cm_X11_force rfl (by omega) (by decide) kk_0 (Nat.le_of_ble_eq_true rfl) rfl ⟨by omega, by omega⟩ ?_
  refine j_force (by omega) H (fun h3 v3 hS => ?_)
  dsimp only [Option.toList, List.cons_append, List.nil_append, Nat.add_zero]
  refine v_aload_n dL_law_501 rfl ?_
  refine v_cell X hN h0 h1 (by decide) dL_law_502 dL_law_503 dL_law_505 dL_law_506 dL_law_507 ?_
  refine v_cell X hN h0 h1 (by decide) dL_law_508 dL_law_509 dL_law_511 dL_law_512 dL_law_513 ?_
  refine v_cell X hN h0 h1 (by decide) dL_law_514 dL_law_515 dL_law_517 dL_law_518 dL_law_519 ?_
  refine v_callv (M' := mX12_force) (d' := d - 1) (mc' := 0) (ms' := 0) (ci := 12) (c := 116) (As := [_, _, _]) dL_law_520 k_1820 cm_X12_force rfl (by omega) (by decide) kk_116 (Nat.le_of_ble_eq_true rfl) rfl ⟨by omega, by omega⟩ ?_
  refine hS _ (fun h4 H4 => ?_)
  dsimp only [Option.toList, List.cons_append, List.nil_append, Nat.add_zero]
  refine v_icmp_eq_t (tgt := 1908) dL_law_523 (by decide) rfl ?_
  exact nx _ _ _ _ _ H4 (by omega) (by omega)
set_option maxHeartbeats 4000000 in
set_option maxRecDepth 100000 in
theorem lc_8 {l : Launch} {G : GG} {d mc ms n1 n2 N : Nat} {xs : Nat → Int32} {i : Int} {a5 a6 : AV} {h : AH} {Q : Option AV → List Kd → AH → Prop} (hl : l.stackTraces = false) (X : SCR G N xs) (hN : N ≤ 3584) (h0 : 0 ≤ i) (h1 : i + 7 ≤ (N : Int)) (hd : 70 ≤ d) (hr : n1 + 1 ≤ mc ∧ n2 + 6 ≤ ms) (H : LI h) (nx : ∀ (h2 : AH) (b5 b6 : AV) (m1 m2 : Nat), LI h2 → m1 ≤ n1 + 1 → m2 ≤ n2 + 6 → V l G mL_law d mc ms m1 m2 K0 1908 (LL G i b5 b6) [] h2 Q) : V l G mL_law d mc ms n1 n2 K0 528 (LL G i a5 a6) [] h Q := by
  refine v_aload_n dL_law_528 rfl ?_
  refine v_cell X hN h0 h1 (by decide) dL_law_529 dL_law_530 dL_law_532 dL_law_533 dL_law_534 ?_
  refine v_cell X hN h0 h1 (by decide) dL_law_535 dL_law_536 dL_law_538 dL_law_539 dL_law_540 ?_
  refine v_cell X hN h0 h1 (by decide) dL_law_541 dL_law_542 dL_law_544 dL_law_545 dL_law_546 ?_
  refine v_callv (M' := mX11_tariff) (d' := d - 1) (mc' := 0) (ms' := 0) (ci := 11) (c := 0) (As := [_, _, _]) dL_law_547 k_821 cm_X11_tariff rfl (by omega) (by decide) kk_0 (Nat.le_of_ble_eq_true rfl) rfl ⟨by omega, by omega⟩ ?_
  refine j_tariff (by omega) H (fun h3 v3 hS => ?_)
  dsimp only [Option.toList, List.cons_append, List.nil_append, Nat.add_zero]
  refine v_aload_n dL_law_550 rfl ?_
  refine v_cell X hN h0 h1 (by decide) dL_law_551 dL_law_552 dL_law_554 dL_law_555 dL_law_556 ?_
  refine v_cell X hN h0 h1 (by decide) dL_law_557 dL_law_558 dL_law_560 dL_law_561 dL_law_562 ?_
  refine v_cell X hN h0 h1 (by decide) dL_law_563 dL_law_564 dL_law_566 dL_law_567 dL_law_568 ?_
  refine v_callv (M' := mX12_tariff) (d' := d - 1) (mc' := 0) (ms' := 0) (ci := 12) (c := 116) (As := [_, _, _]) dL_law_569 k_1828 cm_X12_tariff rfl (by omega) (by decide) kk_116 (Nat.le_of_ble_eq_true rfl) rfl ⟨by omega, by omega⟩ ?_
  refine hS _ (fun h4 H4 => ?_)
  dsimp only [Option.toList, List.cons_append, List.nil_append, Nat.add_zero]
  refine v_icmp_eq_t (tgt := 1908) dL_law_572 (by decide) rfl ?_
  exact nx _ _ _ _ _ H4 (by omega) (by omega)
set_option maxHeartbeats 4000000 in
set_option maxRecDepth 100000 in
theorem lc_9 {l : Launch} {G : GG} {d mc ms n1 n2 N : Nat} {xs : Nat → Int32} {i : Int} {a5 a6 : AV} {h : AH} {Q : Option AV → List Kd → AH → Prop} (hl : l.stackTraces = false) (X : SCR G N xs) (hN : N ≤ 3584) (h0 : 0 ≤ i) (h1 : i + 7 ≤ (N : Int)) (hd : 70 ≤ d) (hr : n1 + 1 ≤ mc ∧ n2 + 6 ≤ ms) (H : LI h) (nx : ∀ (h2 : AH) (b5 b6 : AV) (m1 m2 : Nat), LI h2 → m1 ≤ n1 + 1 → m2 ≤ n2 + 6 → V l G mL_law d mc ms m1 m2 K0 1908 (LL G i b5 b6) [] h2 Q) : V l G mL_law d mc ms n1 n2 K0 577 (LL G i a5 a6) [] h Q := by
  refine v_aload_n dL_law_577 rfl ?_
  refine v_cell X hN h0 h1 (by decide) dL_law_578 dL_law_579 dL_law_581 dL_law_582 dL_law_583 ?_
  refine v_cell X hN h0 h1 (by decide) dL_law_584 dL_law_585 dL_law_587 dL_law_588 dL_law_589 ?_
  refine v_cell X hN h0 h1 (by decide) dL_law_590 dL_law_591 dL_law_593 dL_law_594 dL_law_595 ?_
  refine v_cell X hN h0 h1 (by decide) dL_law_596 dL_law_597 dL_law_599 dL_law_600 dL_law_601 ?_
  refine v_callv (M' := mX11_grown) (d' := d - 1) (mc' := 0) (ms' := 0) (ci := 11) (c := 0) (As := [_, _, _, _]) dL_law_602 k_832 cm_X11_grown rfl (by omega) (by decide) kk_0 (Nat.le_of_ble_eq_true rfl) rfl ⟨by omega, by omega⟩ ?_
  refine j_grown (by omega) H (fun h3 v3 hS => ?_)
  dsimp only [Option.toList, List.cons_append, List.nil_append, Nat.add_zero]
  refine v_aload_n dL_law_605 rfl ?_
  refine v_cell X hN h0 h1 (by decide) dL_law_606 dL_law_607 dL_law_609 dL_law_610 dL_law_611 ?_
  refine v_cell X hN h0 h1 (by decide) dL_law_612 dL_law_613 dL_law_615 dL_law_616 dL_law_617 ?_
  refine v_cell X hN h0 h1 (by decide) dL_law_618 dL_law_619 dL_law_621 dL_law_622 dL_law_623 ?_
  refine v_cell X hN h0 h1 (by decide) dL_law_624 dL_law_625 dL_law_627 dL_law_628 dL_law_629 ?_
  refine v_callv (M' := mX12_grown) (d' := d - 1) (mc' := 0) (ms' := 0) (ci := 12) (c := 116) (As := [_, _, _, _]) dL_law_630 k_1840 cm_X12_grown rfl (by omega) (by decide) kk_116 (Nat.le_of_ble_eq_true rfl) rfl ⟨by omega, by omega⟩ ?_
  refine hS _ (fun h4 H4 => ?_)
  dsimp only [Option.toList, List.cons_append, List.nil_append, Nat.add_zero]
  refine v_icmp_eq_t (tgt := 1908) dL_law_633 (by decide) rfl ?_
  exact nx _ _ _ _ _ H4 (by omega) (by omega)
set_option maxHeartbeats 4000000 in
set_option maxRecDepth 100000 in
theorem lc_10 {l : Launch} {G : GG} {d mc ms n1 n2 N : Nat} {xs : Nat → Int32} {i : Int} {a5 a6 : AV} {h : AH} {Q : Option AV → List Kd → AH → Prop} (hl : l.stackTraces = false) (X : SCR G N xs) (hN : N ≤ 3584) (h0 : 0 ≤ i) (h1 : i + 7 ≤ (N : Int)) (hd : 70 ≤ d) (hr : n1 + 1 ≤ mc ∧ n2 + 6 ≤ ms) (H : LI h) (nx : ∀ (h2 : AH) (b5 b6 : AV) (m1 m2 : Nat), LI h2 → m1 ≤ n1 + 1 → m2 ≤ n2 + 6 → V l G mL_law d mc ms m1 m2 K0 1908 (LL G i b5 b6) [] h2 Q) : V l G mL_law d mc ms n1 n2 K0 638 (LL G i a5 a6) [] h Q := by
  refine v_aload_n dL_law_638 rfl ?_
  refine v_cell X hN h0 h1 (by decide) dL_law_639 dL_law_640 dL_law_642 dL_law_643 dL_law_644 ?_
  refine v_cell X hN h0 h1 (by decide) dL_law_645 dL_law_646 dL_law_648 dL_law_649 dL_law_650 ?_
  refine v_callv (M' := mX11_lay) (d' := d - 1) (mc' := 0) (ms' := 0) (ci := 11) (c := 0) (As := [_, _]) dL_law_651 k_843 cm_X11_lay rfl (by omega) (by decide) kk_0 (Nat.le_of_ble_eq_true rfl) rfl ⟨by omega, by omega⟩ ?_
  refine j_lay (by omega) H (fun h3 v3 hS => ?_)
  dsimp only [Option.toList, List.cons_append, List.nil_append, Nat.add_zero]
  refine v_aload_n dL_law_654 rfl ?_
  refine v_cell X hN h0 h1 (by decide) dL_law_655 dL_law_656 dL_law_658 dL_law_659 dL_law_660 ?_
  refine v_cell X hN h0 h1 (by decide) dL_law_661 dL_law_662 dL_law_664 dL_law_665 dL_law_666 ?_
  refine v_callv (M' := mX12_lay) (d' := d - 1) (mc' := 0) (ms' := 0) (ci := 12) (c := 116) (As := [_, _]) dL_law_667 k_1853 cm_X12_lay rfl (by omega) (by decide) kk_116 (Nat.le_of_ble_eq_true rfl) rfl ⟨by omega, by omega⟩ ?_
  refine hS _ (fun h4 H4 => ?_)
  dsimp only [Option.toList, List.cons_append, List.nil_append, Nat.add_zero]
  refine v_icmp_eq_t (tgt := 1908) dL_law_670 (by decide) rfl ?_
  exact nx _ _ _ _ _ H4 (by omega) (by omega)
set_option maxHeartbeats 4000000 in
set_option maxRecDepth 100000 in
theorem lc_11 {l : Launch} {G : GG} {d mc ms n1 n2 N : Nat} {xs : Nat → Int32} {i : Int} {a5 a6 : AV} {h : AH} {Q : Option AV → List Kd → AH → Prop} (hl : l.stackTraces = false) (X : SCR G N xs) (hN : N ≤ 3584) (h0 : 0 ≤ i) (h1 : i + 7 ≤ (N : Int)) (hd : 70 ≤ d) (hr : n1 + 1 ≤ mc ∧ n2 + 6 ≤ ms) (H : LI h) (nx : ∀ (h2 : AH) (b5 b6 : AV) (m1 m2 : Nat), LI h2 → m1 ≤ n1 + 1 → m2 ≤ n2 + 6 → V l G mL_law d mc ms m1 m2 K0 1908 (LL G i b5 b6) [] h2 Q) : V l G mL_law d mc ms n1 n2 K0 675 (LL G i a5 a6) [] h Q := by
  refine v_aload_n dL_law_675 rfl ?_
  refine v_cell X hN h0 h1 (by decide) dL_law_676 dL_law_677 dL_law_679 dL_law_680 dL_law_681 ?_
  refine v_cell X hN h0 h1 (by decide) dL_law_682 dL_law_683 dL_law_685 dL_law_686 dL_law_687 ?_
  refine v_cell X hN h0 h1 (by decide) dL_law_688 dL_law_689 dL_law_691 dL_law_692 dL_law_693 ?_
  refine v_callv (M' := mX11_pour) (d' := d - 1) (mc' := 0) (ms' := 0) (ci := 11) (c := 0) (As := [_, _, _]) dL_law_694 k_864 cm_X11_pour rfl (by omega) (by decide) kk_0 (Nat.le_of_ble_eq_true rfl) rfl ⟨by omega, by omega⟩ ?_
  refine j_pour (by omega) H (fun h3 v3 hS => ?_)
  dsimp only [Option.toList, List.cons_append, List.nil_append, Nat.add_zero]
  refine v_aload_n dL_law_697 rfl ?_
  refine v_cell X hN h0 h1 (by decide) dL_law_698 dL_law_699 dL_law_701 dL_law_702 dL_law_703 ?_
  refine v_cell X hN h0 h1 (by decide) dL_law_704 dL_law_705 dL_law_707 dL_law_708 dL_law_709 ?_
  refine v_cell X hN h0 h1 (by decide) dL_law_710 dL_law_711 dL_law_713 dL_law_714 dL_law_715 ?_
  refine v_callv (M' := mX12_pour) (d' := d - 1) (mc' := 0) (ms' := 0) (ci := 12) (c := 116) (As := [_, _, _]) dL_law_716 k_1869 cm_X12_pour rfl (by omega) (by decide) kk_116 (Nat.le_of_ble_eq_true rfl) rfl ⟨by omega, by omega⟩ ?_
  refine hS _ (fun h4 H4 => ?_)
  dsimp only [Option.toList, List.cons_append, List.nil_append, Nat.add_zero]
  refine v_icmp_eq_t (tgt := 1908) dL_law_719 (by decide) rfl ?_
  exact nx _ _ _ _ _ H4 (by omega) (by omega)
set_option maxHeartbeats 4000000 in
set_option maxRecDepth 100000 in
theorem lc_12 {l : Launch} {G : GG} {d mc ms n1 n2 N : Nat} {xs : Nat → Int32} {i : Int} {a5 a6 : AV} {h : AH} {Q : Option AV → List Kd → AH → Prop} (hl : l.stackTraces = false) (X : SCR G N xs) (hN : N ≤ 3584) (h0 : 0 ≤ i) (h1 : i + 7 ≤ (N : Int)) (hd : 70 ≤ d) (hr : n1 + 1 ≤ mc ∧ n2 + 6 ≤ ms) (H : LI h) (nx : ∀ (h2 : AH) (b5 b6 : AV) (m1 m2 : Nat), LI h2 → m1 ≤ n1 + 1 → m2 ≤ n2 + 6 → V l G mL_law d mc ms m1 m2 K0 1908 (LL G i b5 b6) [] h2 Q) : V l G mL_law d mc ms n1 n2 K0 724 (LL G i a5 a6) [] h Q := by
  refine v_aload_n dL_law_724 rfl ?_
  refine v_cell X hN h0 h1 (by decide) dL_law_725 dL_law_726 dL_law_728 dL_law_729 dL_law_730 ?_
  refine v_cell X hN h0 h1 (by decide) dL_law_731 dL_law_732 dL_law_734 dL_law_735 dL_law_736 ?_
  refine v_callv (M' := mX11_draw) (d' := d - 1) (mc' := 0) (ms' := 0) (ci := 11) (c := 0) (As := [_, _]) dL_law_737 k_877 cm_X11_draw rfl (by omega) (by decide) kk_0 (Nat.le_of_ble_eq_true rfl) rfl ⟨by omega, by omega⟩ ?_
  refine j_draw (by omega) H (fun h3 v3 hS => ?_)
  dsimp only [Option.toList, List.cons_append, List.nil_append, Nat.add_zero]
  refine v_aload_n dL_law_740 rfl ?_
  refine v_cell X hN h0 h1 (by decide) dL_law_741 dL_law_742 dL_law_744 dL_law_745 dL_law_746 ?_
  refine v_cell X hN h0 h1 (by decide) dL_law_747 dL_law_748 dL_law_750 dL_law_751 dL_law_752 ?_
  refine v_callv (M' := mX12_draw) (d' := d - 1) (mc' := 0) (ms' := 0) (ci := 12) (c := 116) (As := [_, _]) dL_law_753 k_1878 cm_X12_draw rfl (by omega) (by decide) kk_116 (Nat.le_of_ble_eq_true rfl) rfl ⟨by omega, by omega⟩ ?_
  refine hS _ (fun h4 H4 => ?_)
  dsimp only [Option.toList, List.cons_append, List.nil_append, Nat.add_zero]
  refine v_icmp_eq_t (tgt := 1908) dL_law_756 (by decide) rfl ?_
  exact nx _ _ _ _ _ H4 (by omega) (by omega)
set_option maxHeartbeats 4000000 in
set_option maxRecDepth 100000 in
theorem lc_13 {l : Launch} {G : GG} {d mc ms n1 n2 N : Nat} {xs : Nat → Int32} {i : Int} {a5 a6 : AV} {h : AH} {Q : Option AV → List Kd → AH → Prop} (hl : l.stackTraces = false) (X : SCR G N xs) (hN : N ≤ 3584) (h0 : 0 ≤ i) (h1 : i + 7 ≤ (N : Int)) (hd : 70 ≤ d) (hr : n1 + 1 ≤ mc ∧ n2 + 6 ≤ ms) (H : LI h) (nx : ∀ (h2 : AH) (b5 b6 : AV) (m1 m2 : Nat), LI h2 → m1 ≤ n1 + 1 → m2 ≤ n2 + 6 → V l G mL_law d mc ms m1 m2 K0 1908 (LL G i b5 b6) [] h2 Q) : V l G mL_law d mc ms n1 n2 K0 761 (LL G i a5 a6) [] h Q := by
  refine v_aload_n dL_law_761 rfl ?_
  refine v_callv (M' := mX11_clear) (d' := d - 1) (mc' := 0) (ms' := 0) (ci := 11) (c := 0) (As := []) dL_law_762 k_890 cm_X11_clear rfl (by omega) (by decide) kk_0 (Nat.le_of_ble_eq_true rfl) rfl ⟨by omega, by omega⟩ ?_
  refine j_clear (by omega) H (fun h3 v3 hS => ?_)
  dsimp only [Option.toList, List.cons_append, List.nil_append, Nat.add_zero]
  refine v_aload_n dL_law_765 rfl ?_
  refine v_callv (M' := mX12_clear) (d' := d - 1) (mc' := 0) (ms' := 0) (ci := 12) (c := 116) (As := []) dL_law_766 k_1883 cm_X12_clear rfl (by omega) (by decide) kk_116 (Nat.le_of_ble_eq_true rfl) rfl ⟨by omega, by omega⟩ ?_
  refine hS _ (fun h4 H4 => ?_)
  dsimp only [Option.toList, List.cons_append, List.nil_append, Nat.add_zero]
  refine v_icmp_eq_t (tgt := 1908) dL_law_769 (by decide) rfl ?_
  exact nx _ _ _ _ _ H4 (by omega) (by omega)
set_option maxHeartbeats 4000000 in
set_option maxRecDepth 100000 in
theorem lc_14 {l : Launch} {G : GG} {d mc ms n1 n2 N : Nat} {xs : Nat → Int32} {i : Int} {a5 a6 : AV} {h : AH} {Q : Option AV → List Kd → AH → Prop} (hl : l.stackTraces = false) (X : SCR G N xs) (hN : N ≤ 3584) (h0 : 0 ≤ i) (h1 : i + 7 ≤ (N : Int)) (hd : 70 ≤ d) (hr : n1 + 1 ≤ mc ∧ n2 + 6 ≤ ms) (H : LI h) (nx : ∀ (h2 : AH) (b5 b6 : AV) (m1 m2 : Nat), LI h2 → m1 ≤ n1 + 1 → m2 ≤ n2 + 6 → V l G mL_law d mc ms m1 m2 K0 1908 (LL G i b5 b6) [] h2 Q) : V l G mL_law d mc ms n1 n2 K0 774 (LL G i a5 a6) [] h Q := by
  refine v_aload_n dL_law_774 rfl ?_
  refine v_cell X hN h0 h1 (by decide) dL_law_775 dL_law_776 dL_law_778 dL_law_779 dL_law_780 ?_
  refine v_cell X hN h0 h1 (by decide) dL_law_781 dL_law_782 dL_law_784 dL_law_785 dL_law_786 ?_
  refine v_cell X hN h0 h1 (by decide) dL_law_787 dL_law_788 dL_law_790 dL_law_791 dL_law_792 ?_
  refine v_cell X hN h0 h1 (by decide) dL_law_793 dL_law_794 dL_law_796 dL_law_797 dL_law_798 ?_
  refine v_cell X hN h0 h1 (by decide) dL_law_799 dL_law_800 dL_law_802 dL_law_803 dL_law_804 ?_
  refine v_callv (M' := mX11_made) (d' := d - 1) (mc' := 0) (ms' := 0) (ci := 11) (c := 0) (As := [_, _, _, _, _]) dL_law_805 k_898 cm_X11_made rfl (by omega) (by decide) kk_0 (Nat.le_of_ble_eq_true rfl) rfl ⟨by omega, by omega⟩ ?_
  refine j_made (by omega) H (fun h3 v3 hS => ?_)
  dsimp only [Option.toList, List.cons_append, List.nil_append, Nat.add_zero]
  refine v_aload_n dL_law_808 rfl ?_
  refine v_cell X hN h0 h1 (by decide) dL_law_809 dL_law_810 dL_law_812 dL_law_813 dL_law_814 ?_
  refine v_cell X hN h0 h1 (by decide) dL_law_815 dL_law_816 dL_law_818 dL_law_819 dL_law_820 ?_
  refine v_cell X hN h0 h1 (by decide) dL_law_821 dL_law_822 dL_law_824 dL_law_825 dL_law_826 ?_
  refine v_cell X hN h0 h1 (by decide) dL_law_827 dL_law_828 dL_law_830 dL_law_831 dL_law_832 ?_
  refine v_cell X hN h0 h1 (by decide) dL_law_833 dL_law_834 dL_law_836 dL_law_837 dL_law_838 ?_
  refine v_callv (M' := mX12_made) (d' := d - 1) (mc' := 0) (ms' := 0) (ci := 12) (c := 116) (As := [_, _, _, _, _]) dL_law_839 k_1887 cm_X12_made rfl (by omega) (by decide) kk_116 (Nat.le_of_ble_eq_true rfl) rfl ⟨by omega, by omega⟩ ?_
  refine hS _ (fun h4 H4 => ?_)
  dsimp only [Option.toList, List.cons_append, List.nil_append, Nat.add_zero]
  refine v_icmp_eq_t (tgt := 1908) dL_law_842 (by decide) rfl ?_
  exact nx _ _ _ _ _ H4 (by omega) (by omega)
set_option maxHeartbeats 4000000 in
set_option maxRecDepth 100000 in
theorem lc_15 {l : Launch} {G : GG} {d mc ms n1 n2 N : Nat} {xs : Nat → Int32} {i : Int} {a5 a6 : AV} {h : AH} {Q : Option AV → List Kd → AH → Prop} (hl : l.stackTraces = false) (X : SCR G N xs) (hN : N ≤ 3584) (h0 : 0 ≤ i) (h1 : i + 7 ≤ (N : Int)) (hd : 70 ≤ d) (hr : n1 + 1 ≤ mc ∧ n2 + 6 ≤ ms) (H : LI h) (nx : ∀ (h2 : AH) (b5 b6 : AV) (m1 m2 : Nat), LI h2 → m1 ≤ n1 + 1 → m2 ≤ n2 + 6 → V l G mL_law d mc ms m1 m2 K0 1908 (LL G i b5 b6) [] h2 Q) : V l G mL_law d mc ms n1 n2 K0 847 (LL G i a5 a6) [] h Q := by
  refine v_aload_n dL_law_847 rfl ?_
  refine v_cell X hN h0 h1 (by decide) dL_law_848 dL_law_849 dL_law_851 dL_law_852 dL_law_853 ?_
  refine v_cell X hN h0 h1 (by decide) dL_law_854 dL_law_855 dL_law_857 dL_law_858 dL_law_859 ?_
  refine v_callv (M' := mX11_mend) (d' := d - 1) (mc' := 0) (ms' := 0) (ci := 11) (c := 0) (As := [_, _]) dL_law_860 k_910 cm_X11_mend rfl (by omega) (by decide) kk_0 (Nat.le_of_ble_eq_true rfl) rfl ⟨by omega, by omega⟩ ?_
  refine j_mend (by omega) H (fun h3 v3 hS => ?_)
  dsimp only [Option.toList, List.cons_append, List.nil_append, Nat.add_zero]
  refine v_aload_n dL_law_863 rfl ?_
  refine v_cell X hN h0 h1 (by decide) dL_law_864 dL_law_865 dL_law_867 dL_law_868 dL_law_869 ?_
  refine v_cell X hN h0 h1 (by decide) dL_law_870 dL_law_871 dL_law_873 dL_law_874 dL_law_875 ?_
  refine v_callv (M' := mX12_mend) (d' := d - 1) (mc' := 0) (ms' := 0) (ci := 12) (c := 116) (As := [_, _]) dL_law_876 k_1892 cm_X12_mend rfl (by omega) (by decide) kk_116 (Nat.le_of_ble_eq_true rfl) rfl ⟨by omega, by omega⟩ ?_
  refine hS _ (fun h4 H4 => ?_)
  dsimp only [Option.toList, List.cons_append, List.nil_append, Nat.add_zero]
  refine v_icmp_eq_t (tgt := 1908) dL_law_879 (by decide) rfl ?_
  exact nx _ _ _ _ _ H4 (by omega) (by omega)
set_option maxHeartbeats 4000000 in
set_option maxRecDepth 100000 in
theorem lc_16 {l : Launch} {G : GG} {d mc ms n1 n2 N : Nat} {xs : Nat → Int32} {i : Int} {a5 a6 : AV} {h : AH} {Q : Option AV → List Kd → AH → Prop} (hl : l.stackTraces = false) (X : SCR G N xs) (hN : N ≤ 3584) (h0 : 0 ≤ i) (h1 : i + 7 ≤ (N : Int)) (hd : 70 ≤ d) (hr : n1 + 1 ≤ mc ∧ n2 + 6 ≤ ms) (H : LI h) (nx : ∀ (h2 : AH) (b5 b6 : AV) (m1 m2 : Nat), LI h2 → m1 ≤ n1 + 1 → m2 ≤ n2 + 6 → V l G mL_law d mc ms m1 m2 K0 1908 (LL G i b5 b6) [] h2 Q) : V l G mL_law d mc ms n1 n2 K0 884 (LL G i a5 a6) [] h Q := by
  refine v_aload_n dL_law_884 rfl ?_
  refine v_cell X hN h0 h1 (by decide) dL_law_885 dL_law_886 dL_law_888 dL_law_889 dL_law_890 ?_
  refine v_callv (M' := mX11_undo) (d' := d - 1) (mc' := 0) (ms' := 0) (ci := 11) (c := 0) (As := [_]) dL_law_891 k_919 cm_X11_undo rfl (by omega) (by decide) kk_0 (Nat.le_of_ble_eq_true rfl) rfl ⟨by omega, by omega⟩ ?_
  refine j_undo (by omega) H (fun h3 v3 hS => ?_)
  dsimp only [Option.toList, List.cons_append, List.nil_append, Nat.add_zero]
  refine v_aload_n dL_law_894 rfl ?_
  refine v_cell X hN h0 h1 (by decide) dL_law_895 dL_law_896 dL_law_898 dL_law_899 dL_law_900 ?_
  refine v_callv (M' := mX12_undo) (d' := d - 1) (mc' := 0) (ms' := 0) (ci := 12) (c := 116) (As := [_]) dL_law_901 k_1896 cm_X12_undo rfl (by omega) (by decide) kk_116 (Nat.le_of_ble_eq_true rfl) rfl ⟨by omega, by omega⟩ ?_
  refine hS _ (fun h4 H4 => ?_)
  dsimp only [Option.toList, List.cons_append, List.nil_append, Nat.add_zero]
  refine v_icmp_eq_t (tgt := 1908) dL_law_904 (by decide) rfl ?_
  exact nx _ _ _ _ _ H4 (by omega) (by omega)
set_option maxHeartbeats 4000000 in
set_option maxRecDepth 100000 in
theorem lc_17 {l : Launch} {G : GG} {d mc ms n1 n2 N : Nat} {xs : Nat → Int32} {i : Int} {a5 a6 : AV} {h : AH} {Q : Option AV → List Kd → AH → Prop} (hl : l.stackTraces = false) (X : SCR G N xs) (hN : N ≤ 3584) (h0 : 0 ≤ i) (h1 : i + 7 ≤ (N : Int)) (hd : 70 ≤ d) (hr : n1 + 1 ≤ mc ∧ n2 + 6 ≤ ms) (H : LI h) (nx : ∀ (h2 : AH) (b5 b6 : AV) (m1 m2 : Nat), LI h2 → m1 ≤ n1 + 1 → m2 ≤ n2 + 6 → V l G mL_law d mc ms m1 m2 K0 1908 (LL G i b5 b6) [] h2 Q) : V l G mL_law d mc ms n1 n2 K0 909 (LL G i a5 a6) [] h Q := by
  obtain ⟨cs, I, Lc⟩ := id H
  refine v_aload_n dL_law_909 rfl ?_
  refine v_cell X hN h0 h1 (by decide) dL_law_910 dL_law_911 dL_law_913 dL_law_914 dL_law_915 ?_
  refine v_cell X hN h0 h1 (by decide) dL_law_916 dL_law_917 dL_law_919 dL_law_920 dL_law_921 ?_
  refine v_aload_n dL_law_922 rfl ?_
  refine v_tcall (As := [_, _, _, _]) dL_law_923 (by omega) rfl (Nat.le_of_ble_eq_true rfl) rfl hr ?_
  refine t_told hl (by omega) I (fun bad => ?_) (fun ok => ?_)
  · dsimp only [Option.toList, List.cons_append, List.nil_append, Nat.add_zero]
    refine v_istore_5 dL_law_926 (by decide) rfl ?_
    refine v_aload_n dL_law_928 rfl ?_
    refine v_cell X hN h0 h1 (by decide) dL_law_929 dL_law_930 dL_law_932 dL_law_933 dL_law_934 ?_
    refine v_cell X hN h0 h1 (by decide) dL_law_935 dL_law_936 dL_law_938 dL_law_939 dL_law_940 ?_
    refine v_callv (M' := mX12_told) (d' := d - 1) (mc' := 0) (ms' := 0) (ci := 12) (c := 116) (As := [_, _]) dL_law_941 k_1900 cm_X12_told rfl (by omega) (by decide) kk_116 (Nat.le_of_ble_eq_true rfl) rfl ⟨by omega, by omega⟩ ?_
    refine r_told (by omega) I (fun _ => ?_) (fun ok => absurd ok bad)
    dsimp only [Option.toList, List.cons_append, List.nil_append, Nat.add_zero]
    refine v_istore_6 dL_law_944 (by decide) rfl ?_
    refine v_aload_n dL_law_946 rfl ?_
    refine v_callv (M' := mX12_thrown) (d' := d - 1) (mc' := 0) (ms' := 0) (ci := 12) (c := 116) (As := []) dL_law_947 k_1691 cm_X12_thrown rfl (by omega) (by decide) kk_116 (Nat.le_of_ble_eq_true rfl) rfl ⟨by omega, by omega⟩ ?_
    refine s_X12_thrown (by omega) ?_
    dsimp only [Option.toList, List.cons_append, List.nil_append, Nat.add_zero]
    refine v_iload dL_law_950 rfl ?_
    refine v_icmp_eq_t (tgt := 957) dL_law_952 (by decide) (hset_same _ _ _ _) ?_
    refine v_iload dL_law_957 rfl ?_
    refine v_if_ne_t (tgt := 974) dL_law_959 (by decide) (by decide) ?_
    refine v_goto (tgt := 1908) dL_law_974 (by decide) ?_
    exact nx _ _ _ _ _ (LI_h0 I Lc) (by omega) (by omega)
  · have H3 := LI_t177 (x := tolF h (scv xs (i + 1)) (scv xs (i + 2))) I Lc
    obtain ⟨cs3, I3, L3⟩ := H3
    dsimp only [Option.toList, List.cons_append, List.nil_append, Nat.add_zero]
    refine v_istore_5 dL_law_926 (by decide) rfl ?_
    refine v_aload_n dL_law_928 rfl ?_
    refine v_cell X hN h0 h1 (by decide) dL_law_929 dL_law_930 dL_law_932 dL_law_933 dL_law_934 ?_
    refine v_cell X hN h0 h1 (by decide) dL_law_935 dL_law_936 dL_law_938 dL_law_939 dL_law_940 ?_
    refine v_callv (M' := mX12_told) (d' := d - 1) (mc' := 0) (ms' := 0) (ci := 12) (c := 116) (As := [_, _]) dL_law_941 k_1900 cm_X12_told rfl (by omega) (by decide) kk_116 (Nat.le_of_ble_eq_true rfl) rfl ⟨by omega, by omega⟩ ?_
    refine r_told (by omega) I3 (fun bad => absurd ok bad) (fun _ => ?_)
    dsimp only [Option.toList, List.cons_append, List.nil_append, Nat.add_zero]
    refine v_istore_6 dL_law_944 (by decide) rfl ?_
    refine v_aload_n dL_law_946 rfl ?_
    refine v_callv (M' := mX12_thrown) (d' := d - 1) (mc' := 0) (ms' := 0) (ci := 12) (c := 116) (As := []) dL_law_947 k_1691 cm_X12_thrown rfl (by omega) (by decide) kk_116 (Nat.le_of_ble_eq_true rfl) rfl ⟨by omega, by omega⟩ ?_
    refine s_X12_thrown (by omega) ?_
    dsimp only [Option.toList, List.cons_append, List.nil_append, Nat.add_zero]
    refine v_iload dL_law_950 rfl ?_
    refine v_icmp_eq_t (tgt := 957) dL_law_952 (by decide) (hset_same _ _ _ _) ?_
    refine v_iload dL_law_957 rfl ?_
    refine v_if_ne_f (tgt := 974) dL_law_959 (by decide) rfl ?_
    refine v_aload_n dL_law_962 rfl ?_
    refine v_iconst dL_law_963 (c32 rfl) ?_
    refine v_laloadv dL_law_964 (by decide) kk_177 (by decide) (by decide) ((hset_c (by decide)).trans (hset_same _ _ _ _)) ?_
    refine v_iload dL_law_965 rfl ?_
    refine v_i2l dL_law_967 ?_
    refine v_lcmp_eq (tgt := 974) dL_law_968 dL_law_969 (by decide) (fun _ => ?_) (fun q => absurd tolF_177.symm q)
    refine v_goto (tgt := 1908) dL_law_974 (by decide) ?_
    exact nx _ _ _ _ _ (LI_h0 I3 L3) (by omega) (by omega)
set_option maxHeartbeats 4000000 in
set_option maxRecDepth 100000 in
theorem lc_18 {l : Launch} {G : GG} {d mc ms n1 n2 N : Nat} {xs : Nat → Int32} {i : Int} {a5 a6 : AV} {h : AH} {Q : Option AV → List Kd → AH → Prop} (hl : l.stackTraces = false) (X : SCR G N xs) (hN : N ≤ 3584) (h0 : 0 ≤ i) (h1 : i + 7 ≤ (N : Int)) (hd : 70 ≤ d) (hr : n1 + 1 ≤ mc ∧ n2 + 6 ≤ ms) (H : LI h) (nx : ∀ (h2 : AH) (b5 b6 : AV) (m1 m2 : Nat), LI h2 → m1 ≤ n1 + 1 → m2 ≤ n2 + 6 → V l G mL_law d mc ms m1 m2 K0 1908 (LL G i b5 b6) [] h2 Q) : V l G mL_law d mc ms n1 n2 K0 977 (LL G i a5 a6) [] h Q := by
  refine v_aload_n dL_law_977 rfl ?_
  refine v_cell X hN h0 h1 (by decide) dL_law_978 dL_law_979 dL_law_981 dL_law_982 dL_law_983 ?_
  refine v_cell X hN h0 h1 (by decide) dL_law_984 dL_law_985 dL_law_987 dL_law_988 dL_law_989 ?_
  refine v_cell X hN h0 h1 (by decide) dL_law_990 dL_law_991 dL_law_993 dL_law_994 dL_law_995 ?_
  refine v_callv (M' := mX11_entry) (d' := d - 1) (mc' := 0) (ms' := 0) (ci := 11) (c := 0) (As := [_, _, _]) dL_law_996 k_931 cm_X11_entry rfl (by omega) (by decide) kk_0 (Nat.le_of_ble_eq_true rfl) rfl ⟨by omega, by omega⟩ ?_
  refine j_entry (by omega) H (fun h3 v3 hS => ?_)
  dsimp only [Option.toList, List.cons_append, List.nil_append, Nat.add_zero]
  refine v_aload_n dL_law_999 rfl ?_
  refine v_cell X hN h0 h1 (by decide) dL_law_1000 dL_law_1001 dL_law_1003 dL_law_1004 dL_law_1005 ?_
  refine v_cell X hN h0 h1 (by decide) dL_law_1006 dL_law_1007 dL_law_1009 dL_law_1010 dL_law_1011 ?_
  refine v_cell X hN h0 h1 (by decide) dL_law_1012 dL_law_1013 dL_law_1015 dL_law_1016 dL_law_1017 ?_
  refine v_callv (M' := mX12_entry) (d' := d - 1) (mc' := 0) (ms' := 0) (ci := 12) (c := 116) (As := [_, _, _]) dL_law_1018 k_1909 cm_X12_entry rfl (by omega) (by decide) kk_116 (Nat.le_of_ble_eq_true rfl) rfl ⟨by omega, by omega⟩ ?_
  refine hS _ (fun h4 H4 => ?_)
  dsimp only [Option.toList, List.cons_append, List.nil_append, Nat.add_zero]
  refine v_icmp_eq_t (tgt := 1908) dL_law_1021 (by decide) rfl ?_
  exact nx _ _ _ _ _ H4 (by omega) (by omega)
set_option maxHeartbeats 4000000 in
set_option maxRecDepth 100000 in
theorem lc_19 {l : Launch} {G : GG} {d mc ms n1 n2 N : Nat} {xs : Nat → Int32} {i : Int} {a5 a6 : AV} {h : AH} {Q : Option AV → List Kd → AH → Prop} (hl : l.stackTraces = false) (X : SCR G N xs) (hN : N ≤ 3584) (h0 : 0 ≤ i) (h1 : i + 7 ≤ (N : Int)) (hd : 70 ≤ d) (hr : n1 + 1 ≤ mc ∧ n2 + 6 ≤ ms) (H : LI h) (nx : ∀ (h2 : AH) (b5 b6 : AV) (m1 m2 : Nat), LI h2 → m1 ≤ n1 + 1 → m2 ≤ n2 + 6 → V l G mL_law d mc ms m1 m2 K0 1908 (LL G i b5 b6) [] h2 Q) : V l G mL_law d mc ms n1 n2 K0 1026 (LL G i a5 a6) [] h Q := by
  refine v_aload_n dL_law_1026 rfl ?_
  refine v_cell X hN h0 h1 (by decide) dL_law_1027 dL_law_1028 dL_law_1030 dL_law_1031 dL_law_1032 ?_
  refine v_cell X hN h0 h1 (by decide) dL_law_1033 dL_law_1034 dL_law_1036 dL_law_1037 dL_law_1038 ?_
  refine v_cell X hN h0 h1 (by decide) dL_law_1039 dL_law_1040 dL_law_1042 dL_law_1043 dL_law_1044 ?_
  refine v_callv (M' := mX11_own) (d' := d - 1) (mc' := 0) (ms' := 0) (ci := 11) (c := 0) (As := [_, _, _]) dL_law_1045 k_943 cm_X11_own rfl (by omega) (by decide) kk_0 (Nat.le_of_ble_eq_true rfl) rfl ⟨by omega, by omega⟩ ?_
  refine j_own (by omega) H (fun h3 v3 hS => ?_)
  dsimp only [Option.toList, List.cons_append, List.nil_append, Nat.add_zero]
  refine v_aload_n dL_law_1048 rfl ?_
  refine v_cell X hN h0 h1 (by decide) dL_law_1049 dL_law_1050 dL_law_1052 dL_law_1053 dL_law_1054 ?_
  refine v_cell X hN h0 h1 (by decide) dL_law_1055 dL_law_1056 dL_law_1058 dL_law_1059 dL_law_1060 ?_
  refine v_cell X hN h0 h1 (by decide) dL_law_1061 dL_law_1062 dL_law_1064 dL_law_1065 dL_law_1066 ?_
  refine v_callv (M' := mX12_own) (d' := d - 1) (mc' := 0) (ms' := 0) (ci := 12) (c := 116) (As := [_, _, _]) dL_law_1067 k_1913 cm_X12_own rfl (by omega) (by decide) kk_116 (Nat.le_of_ble_eq_true rfl) rfl ⟨by omega, by omega⟩ ?_
  refine hS _ (fun h4 H4 => ?_)
  dsimp only [Option.toList, List.cons_append, List.nil_append, Nat.add_zero]
  refine v_icmp_eq_t (tgt := 1908) dL_law_1070 (by decide) rfl ?_
  exact nx _ _ _ _ _ H4 (by omega) (by omega)
set_option maxHeartbeats 4000000 in
set_option maxRecDepth 100000 in
theorem lc_20 {l : Launch} {G : GG} {d mc ms n1 n2 N : Nat} {xs : Nat → Int32} {i : Int} {a5 a6 : AV} {h : AH} {Q : Option AV → List Kd → AH → Prop} (hl : l.stackTraces = false) (X : SCR G N xs) (hN : N ≤ 3584) (h0 : 0 ≤ i) (h1 : i + 7 ≤ (N : Int)) (hd : 70 ≤ d) (hr : n1 + 1 ≤ mc ∧ n2 + 6 ≤ ms) (H : LI h) (nx : ∀ (h2 : AH) (b5 b6 : AV) (m1 m2 : Nat), LI h2 → m1 ≤ n1 + 1 → m2 ≤ n2 + 6 → V l G mL_law d mc ms m1 m2 K0 1908 (LL G i b5 b6) [] h2 Q) : V l G mL_law d mc ms n1 n2 K0 1075 (LL G i a5 a6) [] h Q := by
  refine v_aload_n dL_law_1075 rfl ?_
  refine v_cell X hN h0 h1 (by decide) dL_law_1076 dL_law_1077 dL_law_1079 dL_law_1080 dL_law_1081 ?_
  refine v_cell X hN h0 h1 (by decide) dL_law_1082 dL_law_1083 dL_law_1085 dL_law_1086 dL_law_1087 ?_
  refine v_cell X hN h0 h1 (by decide) dL_law_1088 dL_law_1089 dL_law_1091 dL_law_1092 dL_law_1093 ?_
  refine v_cell X hN h0 h1 (by decide) dL_law_1094 dL_law_1095 dL_law_1097 dL_law_1098 dL_law_1099 ?_
  refine v_callv (M' := mX11_letter) (d' := d - 1) (mc' := 0) (ms' := 0) (ci := 11) (c := 0) (As := [_, _, _, _]) dL_law_1100 k_1034 cm_X11_letter rfl (by omega) (by decide) kk_0 (Nat.le_of_ble_eq_true rfl) rfl ⟨by omega, by omega⟩ ?_
  refine j_letter (by omega) H (fun h3 v3 hS => ?_)
  dsimp only [Option.toList, List.cons_append, List.nil_append, Nat.add_zero]
  refine v_aload_n dL_law_1103 rfl ?_
  refine v_cell X hN h0 h1 (by decide) dL_law_1104 dL_law_1105 dL_law_1107 dL_law_1108 dL_law_1109 ?_
  refine v_cell X hN h0 h1 (by decide) dL_law_1110 dL_law_1111 dL_law_1113 dL_law_1114 dL_law_1115 ?_
  refine v_cell X hN h0 h1 (by decide) dL_law_1116 dL_law_1117 dL_law_1119 dL_law_1120 dL_law_1121 ?_
  refine v_cell X hN h0 h1 (by decide) dL_law_1122 dL_law_1123 dL_law_1125 dL_law_1126 dL_law_1127 ?_
  refine v_callv (M' := mX12_letter) (d' := d - 1) (mc' := 0) (ms' := 0) (ci := 12) (c := 116) (As := [_, _, _, _]) dL_law_1128 k_1944 cm_X12_letter rfl (by omega) (by decide) kk_116 (Nat.le_of_ble_eq_true rfl) rfl ⟨by omega, by omega⟩ ?_
  refine hS _ (fun h4 H4 => ?_)
  dsimp only [Option.toList, List.cons_append, List.nil_append, Nat.add_zero]
  refine v_icmp_eq_t (tgt := 1908) dL_law_1131 (by decide) rfl ?_
  exact nx _ _ _ _ _ H4 (by omega) (by omega)
set_option maxHeartbeats 4000000 in
set_option maxRecDepth 100000 in
theorem lc_21 {l : Launch} {G : GG} {d mc ms n1 n2 N : Nat} {xs : Nat → Int32} {i : Int} {a5 a6 : AV} {h : AH} {Q : Option AV → List Kd → AH → Prop} (hl : l.stackTraces = false) (X : SCR G N xs) (hN : N ≤ 3584) (h0 : 0 ≤ i) (h1 : i + 7 ≤ (N : Int)) (hd : 70 ≤ d) (hr : n1 + 1 ≤ mc ∧ n2 + 6 ≤ ms) (H : LI h) (nx : ∀ (h2 : AH) (b5 b6 : AV) (m1 m2 : Nat), LI h2 → m1 ≤ n1 + 1 → m2 ≤ n2 + 6 → V l G mL_law d mc ms m1 m2 K0 1908 (LL G i b5 b6) [] h2 Q) : V l G mL_law d mc ms n1 n2 K0 1136 (LL G i a5 a6) [] h Q := by
  refine v_aload_n dL_law_1136 rfl ?_
  refine v_cell X hN h0 h1 (by decide) dL_law_1137 dL_law_1138 dL_law_1140 dL_law_1141 dL_law_1142 ?_
  refine v_cell X hN h0 h1 (by decide) dL_law_1143 dL_law_1144 dL_law_1146 dL_law_1147 dL_law_1148 ?_
  refine v_cell X hN h0 h1 (by decide) dL_law_1149 dL_law_1150 dL_law_1152 dL_law_1153 dL_law_1154 ?_
  refine v_callv (M' := mX11_failing) (d' := d - 1) (mc' := 0) (ms' := 0) (ci := 11) (c := 0) (As := [_, _, _]) dL_law_1155 k_1048 cm_X11_failing rfl (by omega) (by decide) kk_0 (Nat.le_of_ble_eq_true rfl) rfl ⟨by omega, by omega⟩ ?_
  refine j_failing (by omega) H (fun h3 v3 hS => ?_)
  dsimp only [Option.toList, List.cons_append, List.nil_append, Nat.add_zero]
  refine v_aload_n dL_law_1158 rfl ?_
  refine v_cell X hN h0 h1 (by decide) dL_law_1159 dL_law_1160 dL_law_1162 dL_law_1163 dL_law_1164 ?_
  refine v_cell X hN h0 h1 (by decide) dL_law_1165 dL_law_1166 dL_law_1168 dL_law_1169 dL_law_1170 ?_
  refine v_cell X hN h0 h1 (by decide) dL_law_1171 dL_law_1172 dL_law_1174 dL_law_1175 dL_law_1176 ?_
  refine v_callv (M' := mX12_failing) (d' := d - 1) (mc' := 0) (ms' := 0) (ci := 12) (c := 116) (As := [_, _, _]) dL_law_1177 k_1949 cm_X12_failing rfl (by omega) (by decide) kk_116 (Nat.le_of_ble_eq_true rfl) rfl ⟨by omega, by omega⟩ ?_
  refine hS _ (fun h4 H4 => ?_)
  dsimp only [Option.toList, List.cons_append, List.nil_append, Nat.add_zero]
  refine v_icmp_eq_t (tgt := 1908) dL_law_1180 (by decide) rfl ?_
  exact nx _ _ _ _ _ H4 (by omega) (by omega)
set_option maxHeartbeats 4000000 in
set_option maxRecDepth 100000 in
theorem lc_22 {l : Launch} {G : GG} {d mc ms n1 n2 N : Nat} {xs : Nat → Int32} {i : Int} {a5 a6 : AV} {h : AH} {Q : Option AV → List Kd → AH → Prop} (hl : l.stackTraces = false) (X : SCR G N xs) (hN : N ≤ 3584) (h0 : 0 ≤ i) (h1 : i + 7 ≤ (N : Int)) (hd : 70 ≤ d) (hr : n1 + 1 ≤ mc ∧ n2 + 6 ≤ ms) (H : LI h) (nx : ∀ (h2 : AH) (b5 b6 : AV) (m1 m2 : Nat), LI h2 → m1 ≤ n1 + 1 → m2 ≤ n2 + 6 → V l G mL_law d mc ms m1 m2 K0 1908 (LL G i b5 b6) [] h2 Q) : V l G mL_law d mc ms n1 n2 K0 1185 (LL G i a5 a6) [] h Q := by
  refine v_aload_n dL_law_1185 rfl ?_
  refine v_cell X hN h0 h1 (by decide) dL_law_1186 dL_law_1187 dL_law_1189 dL_law_1190 dL_law_1191 ?_
  refine v_cell X hN h0 h1 (by decide) dL_law_1192 dL_law_1193 dL_law_1195 dL_law_1196 dL_law_1197 ?_
  refine v_cell X hN h0 h1 (by decide) dL_law_1198 dL_law_1199 dL_law_1201 dL_law_1202 dL_law_1203 ?_
  refine v_cell X hN h0 h1 (by decide) dL_law_1204 dL_law_1205 dL_law_1207 dL_law_1208 dL_law_1209 ?_
  refine v_cell X hN h0 h1 (by decide) dL_law_1210 dL_law_1211 dL_law_1213 dL_law_1214 dL_law_1215 ?_
  refine v_callv (M' := mX11_ship) (d' := d - 1) (mc' := 0) (ms' := 0) (ci := 11) (c := 0) (As := [_, _, _, _, _]) dL_law_1216 k_1057 cm_X11_ship rfl (by omega) (by decide) kk_0 (Nat.le_of_ble_eq_true rfl) rfl ⟨by omega, by omega⟩ ?_
  refine j_ship (by omega) H (fun h3 v3 hS => ?_)
  dsimp only [Option.toList, List.cons_append, List.nil_append, Nat.add_zero]
  refine v_aload_n dL_law_1219 rfl ?_
  refine v_cell X hN h0 h1 (by decide) dL_law_1220 dL_law_1221 dL_law_1223 dL_law_1224 dL_law_1225 ?_
  refine v_cell X hN h0 h1 (by decide) dL_law_1226 dL_law_1227 dL_law_1229 dL_law_1230 dL_law_1231 ?_
  refine v_cell X hN h0 h1 (by decide) dL_law_1232 dL_law_1233 dL_law_1235 dL_law_1236 dL_law_1237 ?_
  refine v_cell X hN h0 h1 (by decide) dL_law_1238 dL_law_1239 dL_law_1241 dL_law_1242 dL_law_1243 ?_
  refine v_cell X hN h0 h1 (by decide) dL_law_1244 dL_law_1245 dL_law_1247 dL_law_1248 dL_law_1249 ?_
  refine v_callv (M' := mX12_ship) (d' := d - 1) (mc' := 0) (ms' := 0) (ci := 12) (c := 116) (As := [_, _, _, _, _]) dL_law_1250 k_1953 cm_X12_ship rfl (by omega) (by decide) kk_116 (Nat.le_of_ble_eq_true rfl) rfl ⟨by omega, by omega⟩ ?_
  refine hS _ (fun h4 H4 => ?_)
  dsimp only [Option.toList, List.cons_append, List.nil_append, Nat.add_zero]
  refine v_icmp_eq_t (tgt := 1908) dL_law_1253 (by decide) rfl ?_
  exact nx _ _ _ _ _ H4 (by omega) (by omega)
set_option maxHeartbeats 4000000 in
set_option maxRecDepth 100000 in
theorem lc_23 {l : Launch} {G : GG} {d mc ms n1 n2 N : Nat} {xs : Nat → Int32} {i : Int} {a5 a6 : AV} {h : AH} {Q : Option AV → List Kd → AH → Prop} (hl : l.stackTraces = false) (X : SCR G N xs) (hN : N ≤ 3584) (h0 : 0 ≤ i) (h1 : i + 7 ≤ (N : Int)) (hd : 70 ≤ d) (hr : n1 + 1 ≤ mc ∧ n2 + 6 ≤ ms) (H : LI h) (nx : ∀ (h2 : AH) (b5 b6 : AV) (m1 m2 : Nat), LI h2 → m1 ≤ n1 + 1 → m2 ≤ n2 + 6 → V l G mL_law d mc ms m1 m2 K0 1908 (LL G i b5 b6) [] h2 Q) : V l G mL_law d mc ms n1 n2 K0 1258 (LL G i a5 a6) [] h Q := by
  refine v_aload_n dL_law_1258 rfl ?_
  refine v_cell X hN h0 h1 (by decide) dL_law_1259 dL_law_1260 dL_law_1262 dL_law_1263 dL_law_1264 ?_
  refine v_cell X hN h0 h1 (by decide) dL_law_1265 dL_law_1266 dL_law_1268 dL_law_1269 dL_law_1270 ?_
  refine v_callv (M' := mX11_paper) (d' := d - 1) (mc' := 0) (ms' := 0) (ci := 11) (c := 0) (As := [_, _]) dL_law_1271 k_1066 cm_X11_paper rfl (by omega) (by decide) kk_0 (Nat.le_of_ble_eq_true rfl) rfl ⟨by omega, by omega⟩ ?_
  refine j_paper (by omega) H (fun h3 v3 hS => ?_)
  dsimp only [Option.toList, List.cons_append, List.nil_append, Nat.add_zero]
  refine v_aload_n dL_law_1274 rfl ?_
  refine v_cell X hN h0 h1 (by decide) dL_law_1275 dL_law_1276 dL_law_1278 dL_law_1279 dL_law_1280 ?_
  refine v_cell X hN h0 h1 (by decide) dL_law_1281 dL_law_1282 dL_law_1284 dL_law_1285 dL_law_1286 ?_
  refine v_callv (M' := mX12_paper) (d' := d - 1) (mc' := 0) (ms' := 0) (ci := 12) (c := 116) (As := [_, _]) dL_law_1287 k_1959 cm_X12_paper rfl (by omega) (by decide) kk_116 (Nat.le_of_ble_eq_true rfl) rfl ⟨by omega, by omega⟩ ?_
  refine hS _ (fun h4 H4 => ?_)
  dsimp only [Option.toList, List.cons_append, List.nil_append, Nat.add_zero]
  refine v_icmp_eq_t (tgt := 1908) dL_law_1290 (by decide) rfl ?_
  exact nx _ _ _ _ _ H4 (by omega) (by omega)
set_option maxHeartbeats 4000000 in
set_option maxRecDepth 100000 in
theorem lc_24 {l : Launch} {G : GG} {d mc ms n1 n2 N : Nat} {xs : Nat → Int32} {i : Int} {a5 a6 : AV} {h : AH} {Q : Option AV → List Kd → AH → Prop} (hl : l.stackTraces = false) (X : SCR G N xs) (hN : N ≤ 3584) (h0 : 0 ≤ i) (h1 : i + 7 ≤ (N : Int)) (hd : 70 ≤ d) (hr : n1 + 1 ≤ mc ∧ n2 + 6 ≤ ms) (H : LI h) (nx : ∀ (h2 : AH) (b5 b6 : AV) (m1 m2 : Nat), LI h2 → m1 ≤ n1 + 1 → m2 ≤ n2 + 6 → V l G mL_law d mc ms m1 m2 K0 1908 (LL G i b5 b6) [] h2 Q) : V l G mL_law d mc ms n1 n2 K0 1295 (LL G i a5 a6) [] h Q := by
  refine v_aload_n dL_law_1295 rfl ?_
  refine v_cell X hN h0 h1 (by decide) dL_law_1296 dL_law_1297 dL_law_1299 dL_law_1300 dL_law_1301 ?_
  refine v_cell X hN h0 h1 (by decide) dL_law_1302 dL_law_1303 dL_law_1305 dL_law_1306 dL_law_1307 ?_
  refine v_callv (M' := mX11_state) (d' := d - 1) (mc' := 0) (ms' := 0) (ci := 11) (c := 0) (As := [_, _]) dL_law_1308 k_1075 cm_X11_state rfl (by omega) (by decide) kk_0 (Nat.le_of_ble_eq_true rfl) rfl ⟨by omega, by omega⟩ ?_
  refine j_state (by omega) H (fun h3 v3 hS => ?_)
  dsimp only [Option.toList, List.cons_append, List.nil_append, Nat.add_zero]
  refine v_aload_n dL_law_1311 rfl ?_
  refine v_cell X hN h0 h1 (by decide) dL_law_1312 dL_law_1313 dL_law_1315 dL_law_1316 dL_law_1317 ?_
  refine v_cell X hN h0 h1 (by decide) dL_law_1318 dL_law_1319 dL_law_1321 dL_law_1322 dL_law_1323 ?_
  refine v_callv (M' := mX12_state) (d' := d - 1) (mc' := 0) (ms' := 0) (ci := 12) (c := 116) (As := [_, _]) dL_law_1324 k_1967 cm_X12_state rfl (by omega) (by decide) kk_116 (Nat.le_of_ble_eq_true rfl) rfl ⟨by omega, by omega⟩ ?_
  refine hS _ (fun h4 H4 => ?_)
  dsimp only [Option.toList, List.cons_append, List.nil_append, Nat.add_zero]
  refine v_icmp_eq_t (tgt := 1908) dL_law_1327 (by decide) rfl ?_
  exact nx _ _ _ _ _ H4 (by omega) (by omega)
set_option maxHeartbeats 4000000 in
set_option maxRecDepth 100000 in
theorem lc_25 {l : Launch} {G : GG} {d mc ms n1 n2 N : Nat} {xs : Nat → Int32} {i : Int} {a5 a6 : AV} {h : AH} {Q : Option AV → List Kd → AH → Prop} (hl : l.stackTraces = false) (X : SCR G N xs) (hN : N ≤ 3584) (h0 : 0 ≤ i) (h1 : i + 7 ≤ (N : Int)) (hd : 70 ≤ d) (hr : n1 + 1 ≤ mc ∧ n2 + 6 ≤ ms) (H : LI h) (nx : ∀ (h2 : AH) (b5 b6 : AV) (m1 m2 : Nat), LI h2 → m1 ≤ n1 + 1 → m2 ≤ n2 + 6 → V l G mL_law d mc ms m1 m2 K0 1908 (LL G i b5 b6) [] h2 Q) : V l G mL_law d mc ms n1 n2 K0 1332 (LL G i a5 a6) [] h Q := by
  refine v_aload_n dL_law_1332 rfl ?_
  refine v_cell X hN h0 h1 (by decide) dL_law_1333 dL_law_1334 dL_law_1336 dL_law_1337 dL_law_1338 ?_
  refine v_cell X hN h0 h1 (by decide) dL_law_1339 dL_law_1340 dL_law_1342 dL_law_1343 dL_law_1344 ?_
  refine v_callv (M' := mX11_duty) (d' := d - 1) (mc' := 0) (ms' := 0) (ci := 11) (c := 0) (As := [_, _]) dL_law_1345 k_1123 cm_X11_duty rfl (by omega) (by decide) kk_0 (Nat.le_of_ble_eq_true rfl) rfl ⟨by omega, by omega⟩ ?_
  refine j_duty (by omega) H (fun h3 v3 hS => ?_)
  dsimp only [Option.toList, List.cons_append, List.nil_append, Nat.add_zero]
  refine v_aload_n dL_law_1348 rfl ?_
  refine v_cell X hN h0 h1 (by decide) dL_law_1349 dL_law_1350 dL_law_1352 dL_law_1353 dL_law_1354 ?_
  refine v_cell X hN h0 h1 (by decide) dL_law_1355 dL_law_1356 dL_law_1358 dL_law_1359 dL_law_1360 ?_
  refine v_callv (M' := mX12_duty) (d' := d - 1) (mc' := 0) (ms' := 0) (ci := 12) (c := 116) (As := [_, _]) dL_law_1361 k_1999 cm_X12_duty rfl (by omega) (by decide) kk_116 (Nat.le_of_ble_eq_true rfl) rfl ⟨by omega, by omega⟩ ?_
  refine hS _ (fun h4 H4 => ?_)
  dsimp only [Option.toList, List.cons_append, List.nil_append, Nat.add_zero]
  refine v_lcmp_eq (tgt := 1908) dL_law_1364 dL_law_1365 (by decide) (fun _ => ?_) (fun q => absurd rfl q)
  exact nx _ _ _ _ _ H4 (by omega) (by omega)
set_option maxHeartbeats 4000000 in
set_option maxRecDepth 100000 in
theorem lc_26 {l : Launch} {G : GG} {d mc ms n1 n2 N : Nat} {xs : Nat → Int32} {i : Int} {a5 a6 : AV} {h : AH} {Q : Option AV → List Kd → AH → Prop} (hl : l.stackTraces = false) (X : SCR G N xs) (hN : N ≤ 3584) (h0 : 0 ≤ i) (h1 : i + 7 ≤ (N : Int)) (hd : 70 ≤ d) (hr : n1 + 1 ≤ mc ∧ n2 + 6 ≤ ms) (H : LI h) (nx : ∀ (h2 : AH) (b5 b6 : AV) (m1 m2 : Nat), LI h2 → m1 ≤ n1 + 1 → m2 ≤ n2 + 6 → V l G mL_law d mc ms m1 m2 K0 1908 (LL G i b5 b6) [] h2 Q) : V l G mL_law d mc ms n1 n2 K0 1370 (LL G i a5 a6) [] h Q := by
  refine v_aload_n dL_law_1370 rfl ?_
  refine v_callv (M' := mX11_book) (d' := d - 1) (mc' := 0) (ms' := 0) (ci := 11) (c := 0) (As := []) dL_law_1371 k_1144 cm_X11_book rfl (by omega) (by decide) kk_0 (Nat.le_of_ble_eq_true rfl) rfl ⟨by omega, by omega⟩ ?_
  refine j_book (by omega) H (fun h3 v3 hS => ?_)
  dsimp only [Option.toList, List.cons_append, List.nil_append, Nat.add_zero]
  refine v_aload_n dL_law_1374 rfl ?_
  refine v_callv (M' := mX12_book) (d' := d - 1) (mc' := 0) (ms' := 0) (ci := 12) (c := 116) (As := []) dL_law_1375 k_2008 cm_X12_book rfl (by omega) (by decide) kk_116 (Nat.le_of_ble_eq_true rfl) rfl ⟨by omega, by omega⟩ ?_
  refine hS _ (fun h4 H4 => ?_)
  dsimp only [Option.toList, List.cons_append, List.nil_append, Nat.add_zero]
  refine v_icmp_eq_t (tgt := 1908) dL_law_1378 (by decide) rfl ?_
  exact nx _ _ _ _ _ H4 (by omega) (by omega)
set_option maxHeartbeats 4000000 in
set_option maxRecDepth 100000 in
theorem lc_27 {l : Launch} {G : GG} {d mc ms n1 n2 N : Nat} {xs : Nat → Int32} {i : Int} {a5 a6 : AV} {h : AH} {Q : Option AV → List Kd → AH → Prop} (hl : l.stackTraces = false) (X : SCR G N xs) (hN : N ≤ 3584) (h0 : 0 ≤ i) (h1 : i + 7 ≤ (N : Int)) (hd : 70 ≤ d) (hr : n1 + 1 ≤ mc ∧ n2 + 6 ≤ ms) (H : LI h) (nx : ∀ (h2 : AH) (b5 b6 : AV) (m1 m2 : Nat), LI h2 → m1 ≤ n1 + 1 → m2 ≤ n2 + 6 → V l G mL_law d mc ms m1 m2 K0 1908 (LL G i b5 b6) [] h2 Q) : V l G mL_law d mc ms n1 n2 K0 1383 (LL G i a5 a6) [] h Q := by
  refine v_aload_n dL_law_1383 rfl ?_
  refine v_cell X hN h0 h1 (by decide) dL_law_1384 dL_law_1385 dL_law_1387 dL_law_1388 dL_law_1389 ?_
  refine v_cell X hN h0 h1 (by decide) dL_law_1390 dL_law_1391 dL_law_1393 dL_law_1394 dL_law_1395 ?_
  refine v_callv (M' := mX11_line) (d' := d - 1) (mc' := 0) (ms' := 0) (ci := 11) (c := 0) (As := [_, _]) dL_law_1396 k_1157 cm_X11_line rfl (by omega) (by decide) kk_0 (Nat.le_of_ble_eq_true rfl) rfl ⟨by omega, by omega⟩ ?_
  refine j_line (by omega) H (fun h3 v3 hS => ?_)
  dsimp only [Option.toList, List.cons_append, List.nil_append, Nat.add_zero]
  refine v_aload_n dL_law_1399 rfl ?_
  refine v_cell X hN h0 h1 (by decide) dL_law_1400 dL_law_1401 dL_law_1403 dL_law_1404 dL_law_1405 ?_
  refine v_cell X hN h0 h1 (by decide) dL_law_1406 dL_law_1407 dL_law_1409 dL_law_1410 dL_law_1411 ?_
  refine v_callv (M' := mX12_line) (d' := d - 1) (mc' := 0) (ms' := 0) (ci := 12) (c := 116) (As := [_, _]) dL_law_1412 k_2012 cm_X12_line rfl (by omega) (by decide) kk_116 (Nat.le_of_ble_eq_true rfl) rfl ⟨by omega, by omega⟩ ?_
  refine hS _ (fun h4 H4 => ?_)
  dsimp only [Option.toList, List.cons_append, List.nil_append, Nat.add_zero]
  refine v_lcmp_eq (tgt := 1908) dL_law_1415 dL_law_1416 (by decide) (fun _ => ?_) (fun q => absurd rfl q)
  exact nx _ _ _ _ _ H4 (by omega) (by omega)
set_option maxHeartbeats 4000000 in
set_option maxRecDepth 100000 in
theorem lc_28 {l : Launch} {G : GG} {d mc ms n1 n2 N : Nat} {xs : Nat → Int32} {i : Int} {a5 a6 : AV} {h : AH} {Q : Option AV → List Kd → AH → Prop} (hl : l.stackTraces = false) (X : SCR G N xs) (hN : N ≤ 3584) (h0 : 0 ≤ i) (h1 : i + 7 ≤ (N : Int)) (hd : 70 ≤ d) (hr : n1 + 1 ≤ mc ∧ n2 + 6 ≤ ms) (H : LI h) (nx : ∀ (h2 : AH) (b5 b6 : AV) (m1 m2 : Nat), LI h2 → m1 ≤ n1 + 1 → m2 ≤ n2 + 6 → V l G mL_law d mc ms m1 m2 K0 1908 (LL G i b5 b6) [] h2 Q) : V l G mL_law d mc ms n1 n2 K0 1421 (LL G i a5 a6) [] h Q := by
  refine v_aload_n dL_law_1421 rfl ?_
  refine v_cell X hN h0 h1 (by decide) dL_law_1422 dL_law_1423 dL_law_1425 dL_law_1426 dL_law_1427 ?_
  refine v_cell X hN h0 h1 (by decide) dL_law_1428 dL_law_1429 dL_law_1431 dL_law_1432 dL_law_1433 ?_
  refine v_cell X hN h0 h1 (by decide) dL_law_1434 dL_law_1435 dL_law_1437 dL_law_1438 dL_law_1439 ?_
  refine v_cell X hN h0 h1 (by decide) dL_law_1440 dL_law_1441 dL_law_1443 dL_law_1444 dL_law_1445 ?_
  refine v_cell X hN h0 h1 (by decide) dL_law_1446 dL_law_1447 dL_law_1449 dL_law_1450 dL_law_1451 ?_
  refine v_callv (M' := mX11_offer) (d' := d - 1) (mc' := 0) (ms' := 0) (ci := 11) (c := 0) (As := [_, _, _, _, _]) dL_law_1452 k_1166 cm_X11_offer rfl (by omega) (by decide) kk_0 (Nat.le_of_ble_eq_true rfl) rfl ⟨by omega, by omega⟩ ?_
  refine j_offer (by omega) H (fun h3 v3 hS => ?_)
  dsimp only [Option.toList, List.cons_append, List.nil_append, Nat.add_zero]
  refine v_aload_n dL_law_1455 rfl ?_
  refine v_cell X hN h0 h1 (by decide) dL_law_1456 dL_law_1457 dL_law_1459 dL_law_1460 dL_law_1461 ?_
  refine v_cell X hN h0 h1 (by decide) dL_law_1462 dL_law_1463 dL_law_1465 dL_law_1466 dL_law_1467 ?_
  refine v_cell X hN h0 h1 (by decide) dL_law_1468 dL_law_1469 dL_law_1471 dL_law_1472 dL_law_1473 ?_
  refine v_cell X hN h0 h1 (by decide) dL_law_1474 dL_law_1475 dL_law_1477 dL_law_1478 dL_law_1479 ?_
  refine v_cell X hN h0 h1 (by decide) dL_law_1480 dL_law_1481 dL_law_1483 dL_law_1484 dL_law_1485 ?_
  refine v_callv (M' := mX12_offer) (d' := d - 1) (mc' := 0) (ms' := 0) (ci := 12) (c := 116) (As := [_, _, _, _, _]) dL_law_1486 k_2017 cm_X12_offer rfl (by omega) (by decide) kk_116 (Nat.le_of_ble_eq_true rfl) rfl ⟨by omega, by omega⟩ ?_
  refine hS _ (fun h4 H4 => ?_)
  dsimp only [Option.toList, List.cons_append, List.nil_append, Nat.add_zero]
  refine v_icmp_eq_t (tgt := 1908) dL_law_1489 (by decide) rfl ?_
  exact nx _ _ _ _ _ H4 (by omega) (by omega)
set_option maxHeartbeats 4000000 in
set_option maxRecDepth 100000 in
theorem lc_29 {l : Launch} {G : GG} {d mc ms n1 n2 N : Nat} {xs : Nat → Int32} {i : Int} {a5 a6 : AV} {h : AH} {Q : Option AV → List Kd → AH → Prop} (hl : l.stackTraces = false) (X : SCR G N xs) (hN : N ≤ 3584) (h0 : 0 ≤ i) (h1 : i + 7 ≤ (N : Int)) (hd : 70 ≤ d) (hr : n1 + 1 ≤ mc ∧ n2 + 6 ≤ ms) (H : LI h) (nx : ∀ (h2 : AH) (b5 b6 : AV) (m1 m2 : Nat), LI h2 → m1 ≤ n1 + 1 → m2 ≤ n2 + 6 → V l G mL_law d mc ms m1 m2 K0 1908 (LL G i b5 b6) [] h2 Q) : V l G mL_law d mc ms n1 n2 K0 1494 (LL G i a5 a6) [] h Q := by
  refine v_aload_n dL_law_1494 rfl ?_
  refine v_callv (M' := mX11_offers) (d' := d - 1) (mc' := 0) (ms' := 0) (ci := 11) (c := 0) (As := []) dL_law_1495 k_1176 cm_X11_offers rfl (by omega) (by decide) kk_0 (Nat.le_of_ble_eq_true rfl) rfl ⟨by omega, by omega⟩ ?_
  refine j_offers (by omega) H (fun h3 hS => ?_)
  dsimp only [Option.toList, List.cons_append, List.nil_append, Nat.add_zero]
  refine v_aload_n dL_law_1498 rfl ?_
  refine v_callv (M' := mX12_offers) (d' := d - 1) (mc' := 0) (ms' := 0) (ci := 12) (c := 116) (As := []) dL_law_1499 k_2023 cm_X12_offers rfl (by omega) (by decide) kk_116 (Nat.le_of_ble_eq_true rfl) rfl ⟨by omega, by omega⟩ ?_
  refine hS _ (fun h4 H4 => ?_)
  dsimp only [Option.toList, List.cons_append, List.nil_append, Nat.add_zero]
  refine v_goto (tgt := 1908) dL_law_1502 (by decide) ?_
  exact nx _ _ _ _ _ H4 (by omega) (by omega)
set_option maxHeartbeats 4000000 in
set_option maxRecDepth 100000 in
theorem lc_30 {l : Launch} {G : GG} {d mc ms n1 n2 N : Nat} {xs : Nat → Int32} {i : Int} {a5 a6 : AV} {h : AH} {Q : Option AV → List Kd → AH → Prop} (hl : l.stackTraces = false) (X : SCR G N xs) (hN : N ≤ 3584) (h0 : 0 ≤ i) (h1 : i + 7 ≤ (N : Int)) (hd : 70 ≤ d) (hr : n1 + 1 ≤ mc ∧ n2 + 6 ≤ ms) (H : LI h) (nx : ∀ (h2 : AH) (b5 b6 : AV) (m1 m2 : Nat), LI h2 → m1 ≤ n1 + 1 → m2 ≤ n2 + 6 → V l G mL_law d mc ms m1 m2 K0 1908 (LL G i b5 b6) [] h2 Q) : V l G mL_law d mc ms n1 n2 K0 1505 (LL G i a5 a6) [] h Q := by
  refine v_aload_n dL_law_1505 rfl ?_
  refine v_cell X hN h0 h1 (by decide) dL_law_1506 dL_law_1507 dL_law_1509 dL_law_1510 dL_law_1511 ?_
  refine v_cell X hN h0 h1 (by decide) dL_law_1512 dL_law_1513 dL_law_1515 dL_law_1516 dL_law_1517 ?_
  refine v_cell X hN h0 h1 (by decide) dL_law_1518 dL_law_1519 dL_law_1521 dL_law_1522 dL_law_1523 ?_
  refine v_cell X hN h0 h1 (by decide) dL_law_1524 dL_law_1525 dL_law_1527 dL_law_1528 dL_law_1529 ?_
  refine v_cell X hN h0 h1 (by decide) dL_law_1530 dL_law_1531 dL_law_1533 dL_law_1534 dL_law_1535 ?_
  refine v_callv (M' := mX11_best) (d' := d - 1) (mc' := 0) (ms' := 0) (ci := 11) (c := 0) (As := [_, _, _, _, _]) dL_law_1536 k_1184 cm_X11_best rfl (by omega) (by decide) kk_0 (Nat.le_of_ble_eq_true rfl) rfl ⟨by omega, by omega⟩ ?_
  refine j_best (g := ((scv xs (i + 1)), (scv xs (i + 2)), (scv xs (i + 3)), (scv xs (i + 4)), (scv xs (i + 5)))) (by omega) H (fun h3 v3 hS => ?_)
  dsimp only [Option.toList, List.cons_append, List.nil_append, Nat.add_zero]
  refine v_aload_n dL_law_1539 rfl ?_
  refine v_cell X hN h0 h1 (by decide) dL_law_1540 dL_law_1541 dL_law_1543 dL_law_1544 dL_law_1545 ?_
  refine v_cell X hN h0 h1 (by decide) dL_law_1546 dL_law_1547 dL_law_1549 dL_law_1550 dL_law_1551 ?_
  refine v_cell X hN h0 h1 (by decide) dL_law_1552 dL_law_1553 dL_law_1555 dL_law_1556 dL_law_1557 ?_
  refine v_cell X hN h0 h1 (by decide) dL_law_1558 dL_law_1559 dL_law_1561 dL_law_1562 dL_law_1563 ?_
  refine v_cell X hN h0 h1 (by decide) dL_law_1564 dL_law_1565 dL_law_1567 dL_law_1568 dL_law_1569 ?_
  refine v_callv (M' := mX12_best) (d' := d - 1) (mc' := 0) (ms' := 0) (ci := 12) (c := 116) (As := [_, _, _, _, _]) dL_law_1570 k_2027 cm_X12_best rfl (by omega) (by decide) kk_116 (Nat.le_of_ble_eq_true rfl) rfl ⟨by omega, by omega⟩ ?_
  refine hS _ (fun h4 H4 => ?_)
  dsimp only [Option.toList, List.cons_append, List.nil_append, Nat.add_zero]
  refine v_lcmp_eq (tgt := 1908) dL_law_1573 dL_law_1574 (by decide) (fun _ => ?_) (fun q => absurd rfl q)
  exact nx _ _ _ _ _ H4 (by omega) (by omega)
set_option maxHeartbeats 4000000 in
set_option maxRecDepth 100000 in
theorem lc_31 {l : Launch} {G : GG} {d mc ms n1 n2 N : Nat} {xs : Nat → Int32} {i : Int} {a5 a6 : AV} {h : AH} {Q : Option AV → List Kd → AH → Prop} (hl : l.stackTraces = false) (X : SCR G N xs) (hN : N ≤ 3584) (h0 : 0 ≤ i) (h1 : i + 7 ≤ (N : Int)) (hd : 70 ≤ d) (hr : n1 + 1 ≤ mc ∧ n2 + 6 ≤ ms) (H : LI h) (nx : ∀ (h2 : AH) (b5 b6 : AV) (m1 m2 : Nat), LI h2 → m1 ≤ n1 + 1 → m2 ≤ n2 + 6 → V l G mL_law d mc ms m1 m2 K0 1908 (LL G i b5 b6) [] h2 Q) : V l G mL_law d mc ms n1 n2 K0 1579 (LL G i a5 a6) [] h Q := by
  refine v_aload_n dL_law_1579 rfl ?_
  refine v_cell X hN h0 h1 (by decide) dL_law_1580 dL_law_1581 dL_law_1583 dL_law_1584 dL_law_1585 ?_
  refine v_cell X hN h0 h1 (by decide) dL_law_1586 dL_law_1587 dL_law_1589 dL_law_1590 dL_law_1591 ?_
  refine v_cell X hN h0 h1 (by decide) dL_law_1592 dL_law_1593 dL_law_1595 dL_law_1596 dL_law_1597 ?_
  refine v_cell X hN h0 h1 (by decide) dL_law_1598 dL_law_1599 dL_law_1601 dL_law_1602 dL_law_1603 ?_
  refine v_cell X hN h0 h1 (by decide) dL_law_1604 dL_law_1605 dL_law_1607 dL_law_1608 dL_law_1609 ?_
  refine v_cell6 X hN h0 h1 (by decide) (by decide) dL_law_1610 dL_law_1611 dL_law_1613 dL_law_1615 dL_law_1616 ?_
  refine v_callv (M' := mX11_chosen) (d' := d - 1) (mc' := 0) (ms' := 0) (ci := 11) (c := 0) (As := [_, _, _, _, _, _]) dL_law_1617 k_1246 cm_X11_chosen rfl (by omega) (by decide) kk_0 (Nat.le_of_ble_eq_true rfl) rfl ⟨by omega, by omega⟩ ?_
  refine j_chosen (g := ((scv xs (i + 1)), (scv xs (i + 2)), (scv xs (i + 3)), (scv xs (i + 4)), (scv xs (i + 5)))) (by omega) H (fun h3 v3 hS => ?_)
  dsimp only [Option.toList, List.cons_append, List.nil_append, Nat.add_zero]
  refine v_aload_n dL_law_1620 rfl ?_
  refine v_cell X hN h0 h1 (by decide) dL_law_1621 dL_law_1622 dL_law_1624 dL_law_1625 dL_law_1626 ?_
  refine v_cell X hN h0 h1 (by decide) dL_law_1627 dL_law_1628 dL_law_1630 dL_law_1631 dL_law_1632 ?_
  refine v_cell X hN h0 h1 (by decide) dL_law_1633 dL_law_1634 dL_law_1636 dL_law_1637 dL_law_1638 ?_
  refine v_cell X hN h0 h1 (by decide) dL_law_1639 dL_law_1640 dL_law_1642 dL_law_1643 dL_law_1644 ?_
  refine v_cell X hN h0 h1 (by decide) dL_law_1645 dL_law_1646 dL_law_1648 dL_law_1649 dL_law_1650 ?_
  refine v_cell6 X hN h0 h1 (by decide) (by decide) dL_law_1651 dL_law_1652 dL_law_1654 dL_law_1656 dL_law_1657 ?_
  refine v_callv (M' := mX12_chosen) (d' := d - 1) (mc' := 0) (ms' := 0) (ci := 12) (c := 116) (As := [_, _, _, _, _, _]) dL_law_1658 k_2043 cm_X12_chosen rfl (by omega) (by decide) kk_116 (Nat.le_of_ble_eq_true rfl) rfl ⟨by omega, by omega⟩ ?_
  refine hS _ (fun h4 H4 => ?_)
  dsimp only [Option.toList, List.cons_append, List.nil_append, Nat.add_zero]
  refine v_icmp_eq_t (tgt := 1908) dL_law_1661 (by decide) rfl ?_
  exact nx _ _ _ _ _ H4 (by omega) (by omega)
set_option maxHeartbeats 4000000 in
set_option maxRecDepth 100000 in
theorem lc_32 {l : Launch} {G : GG} {d mc ms n1 n2 N : Nat} {xs : Nat → Int32} {i : Int} {a5 a6 : AV} {h : AH} {Q : Option AV → List Kd → AH → Prop} (hl : l.stackTraces = false) (X : SCR G N xs) (hN : N ≤ 3584) (h0 : 0 ≤ i) (h1 : i + 7 ≤ (N : Int)) (hd : 70 ≤ d) (hr : n1 + 1 ≤ mc ∧ n2 + 6 ≤ ms) (H : LI h) (nx : ∀ (h2 : AH) (b5 b6 : AV) (m1 m2 : Nat), LI h2 → m1 ≤ n1 + 1 → m2 ≤ n2 + 6 → V l G mL_law d mc ms m1 m2 K0 1908 (LL G i b5 b6) [] h2 Q) : V l G mL_law d mc ms n1 n2 K0 1666 (LL G i a5 a6) [] h Q := by
  refine v_aload_n dL_law_1666 rfl ?_
  refine v_cell X hN h0 h1 (by decide) dL_law_1667 dL_law_1668 dL_law_1670 dL_law_1671 dL_law_1672 ?_
  refine v_cell X hN h0 h1 (by decide) dL_law_1673 dL_law_1674 dL_law_1676 dL_law_1677 dL_law_1678 ?_
  refine v_callv (M' := mX11_moved) (d' := d - 1) (mc' := 0) (ms' := 0) (ci := 11) (c := 0) (As := [_, _]) dL_law_1679 k_1250 cm_X11_moved rfl (by omega) (by decide) kk_0 (Nat.le_of_ble_eq_true rfl) rfl ⟨by omega, by omega⟩ ?_
  refine j_moved (by omega) H (fun h3 v3 hS => ?_)
  dsimp only [Option.toList, List.cons_append, List.nil_append, Nat.add_zero]
  refine v_aload_n dL_law_1682 rfl ?_
  refine v_cell X hN h0 h1 (by decide) dL_law_1683 dL_law_1684 dL_law_1686 dL_law_1687 dL_law_1688 ?_
  refine v_cell X hN h0 h1 (by decide) dL_law_1689 dL_law_1690 dL_law_1692 dL_law_1693 dL_law_1694 ?_
  refine v_callv (M' := mX12_moved) (d' := d - 1) (mc' := 0) (ms' := 0) (ci := 12) (c := 116) (As := [_, _]) dL_law_1695 k_2047 cm_X12_moved rfl (by omega) (by decide) kk_116 (Nat.le_of_ble_eq_true rfl) rfl ⟨by omega, by omega⟩ ?_
  refine hS _ (fun h4 H4 => ?_)
  dsimp only [Option.toList, List.cons_append, List.nil_append, Nat.add_zero]
  refine v_icmp_eq_t (tgt := 1908) dL_law_1698 (by decide) rfl ?_
  exact nx _ _ _ _ _ H4 (by omega) (by omega)
set_option maxHeartbeats 4000000 in
set_option maxRecDepth 100000 in
theorem lc_33 {l : Launch} {G : GG} {d mc ms n1 n2 N : Nat} {xs : Nat → Int32} {i : Int} {a5 a6 : AV} {h : AH} {Q : Option AV → List Kd → AH → Prop} (hl : l.stackTraces = false) (X : SCR G N xs) (hN : N ≤ 3584) (h0 : 0 ≤ i) (h1 : i + 7 ≤ (N : Int)) (hd : 70 ≤ d) (hr : n1 + 1 ≤ mc ∧ n2 + 6 ≤ ms) (H : LI h) (nx : ∀ (h2 : AH) (b5 b6 : AV) (m1 m2 : Nat), LI h2 → m1 ≤ n1 + 1 → m2 ≤ n2 + 6 → V l G mL_law d mc ms m1 m2 K0 1908 (LL G i b5 b6) [] h2 Q) : V l G mL_law d mc ms n1 n2 K0 1703 (LL G i a5 a6) [] h Q := by
  refine v_aload_n dL_law_1703 rfl ?_
  refine v_cell X hN h0 h1 (by decide) dL_law_1704 dL_law_1705 dL_law_1707 dL_law_1708 dL_law_1709 ?_
  refine v_cell X hN h0 h1 (by decide) dL_law_1710 dL_law_1711 dL_law_1713 dL_law_1714 dL_law_1715 ?_
  refine v_callv (M' := mX11_word) (d' := d - 1) (mc' := 0) (ms' := 0) (ci := 11) (c := 0) (As := [_, _]) dL_law_1716 k_1264 cm_X11_word rfl (by omega) (by decide) kk_0 (Nat.le_of_ble_eq_true rfl) rfl ⟨by omega, by omega⟩ ?_
  refine j_word (by omega) H (fun h3 v3 hS => ?_)
  dsimp only [Option.toList, List.cons_append, List.nil_append, Nat.add_zero]
  refine v_aload_n dL_law_1719 rfl ?_
  refine v_cell X hN h0 h1 (by decide) dL_law_1720 dL_law_1721 dL_law_1723 dL_law_1724 dL_law_1725 ?_
  refine v_cell X hN h0 h1 (by decide) dL_law_1726 dL_law_1727 dL_law_1729 dL_law_1730 dL_law_1731 ?_
  refine v_callv (M' := mX12_word) (d' := d - 1) (mc' := 0) (ms' := 0) (ci := 12) (c := 116) (As := [_, _]) dL_law_1732 k_2051 cm_X12_word rfl (by omega) (by decide) kk_116 (Nat.le_of_ble_eq_true rfl) rfl ⟨by omega, by omega⟩ ?_
  refine hS _ (fun h4 H4 => ?_)
  dsimp only [Option.toList, List.cons_append, List.nil_append, Nat.add_zero]
  refine v_icmp_eq_t (tgt := 1908) dL_law_1735 (by decide) rfl ?_
  exact nx _ _ _ _ _ H4 (by omega) (by omega)
set_option maxHeartbeats 4000000 in
set_option maxRecDepth 100000 in
theorem lc_34 {l : Launch} {G : GG} {d mc ms n1 n2 N : Nat} {xs : Nat → Int32} {i : Int} {a5 a6 : AV} {h : AH} {Q : Option AV → List Kd → AH → Prop} (hl : l.stackTraces = false) (X : SCR G N xs) (hN : N ≤ 3584) (h0 : 0 ≤ i) (h1 : i + 7 ≤ (N : Int)) (hd : 70 ≤ d) (hr : n1 + 1 ≤ mc ∧ n2 + 6 ≤ ms) (H : LI h) (nx : ∀ (h2 : AH) (b5 b6 : AV) (m1 m2 : Nat), LI h2 → m1 ≤ n1 + 1 → m2 ≤ n2 + 6 → V l G mL_law d mc ms m1 m2 K0 1908 (LL G i b5 b6) [] h2 Q) : V l G mL_law d mc ms n1 n2 K0 1740 (LL G i a5 a6) [] h Q := by
  refine v_aload_n dL_law_1740 rfl ?_
  refine v_cell X hN h0 h1 (by decide) dL_law_1741 dL_law_1742 dL_law_1744 dL_law_1745 dL_law_1746 ?_
  refine v_callv (M' := mX11_struck) (d' := d - 1) (mc' := 0) (ms' := 0) (ci := 11) (c := 0) (As := [_]) dL_law_1747 k_1272 cm_X11_struck rfl (by omega) (by decide) kk_0 (Nat.le_of_ble_eq_true rfl) rfl ⟨by omega, by omega⟩ ?_
  refine j_struck (by omega) H (fun h3 v3 hS => ?_)
  dsimp only [Option.toList, List.cons_append, List.nil_append, Nat.add_zero]
  refine v_aload_n dL_law_1750 rfl ?_
  refine v_cell X hN h0 h1 (by decide) dL_law_1751 dL_law_1752 dL_law_1754 dL_law_1755 dL_law_1756 ?_
  refine v_callv (M' := mX12_struck) (d' := d - 1) (mc' := 0) (ms' := 0) (ci := 12) (c := 116) (As := [_]) dL_law_1757 k_2055 cm_X12_struck rfl (by omega) (by decide) kk_116 (Nat.le_of_ble_eq_true rfl) rfl ⟨by omega, by omega⟩ ?_
  refine hS _ (fun h4 H4 => ?_)
  dsimp only [Option.toList, List.cons_append, List.nil_append, Nat.add_zero]
  refine v_icmp_eq_t (tgt := 1908) dL_law_1760 (by decide) rfl ?_
  exact nx _ _ _ _ _ H4 (by omega) (by omega)
set_option maxHeartbeats 4000000 in
set_option maxRecDepth 100000 in
theorem lc_35 {l : Launch} {G : GG} {d mc ms n1 n2 N : Nat} {xs : Nat → Int32} {i : Int} {a5 a6 : AV} {h : AH} {Q : Option AV → List Kd → AH → Prop} (hl : l.stackTraces = false) (X : SCR G N xs) (hN : N ≤ 3584) (h0 : 0 ≤ i) (h1 : i + 7 ≤ (N : Int)) (hd : 70 ≤ d) (hr : n1 + 1 ≤ mc ∧ n2 + 6 ≤ ms) (H : LI h) (nx : ∀ (h2 : AH) (b5 b6 : AV) (m1 m2 : Nat), LI h2 → m1 ≤ n1 + 1 → m2 ≤ n2 + 6 → V l G mL_law d mc ms m1 m2 K0 1908 (LL G i b5 b6) [] h2 Q) : V l G mL_law d mc ms n1 n2 K0 1765 (LL G i a5 a6) [] h Q := by
  refine v_aload_n dL_law_1765 rfl ?_
  refine v_cell X hN h0 h1 (by decide) dL_law_1766 dL_law_1767 dL_law_1769 dL_law_1770 dL_law_1771 ?_
  refine v_cell X hN h0 h1 (by decide) dL_law_1772 dL_law_1773 dL_law_1775 dL_law_1776 dL_law_1777 ?_
  refine v_callv (M' := mX11_strike) (d' := d - 1) (mc' := 0) (ms' := 0) (ci := 11) (c := 0) (As := [_, _]) dL_law_1778 k_1298 cm_X11_strike rfl (by omega) (by decide) kk_0 (Nat.le_of_ble_eq_true rfl) rfl ⟨by omega, by omega⟩ ?_
  refine j_strike (by have := scv_r xs (i + 2); unfold ok32 at this; omega) (by omega) H (fun h3 v3 hS => ?_)
  dsimp only [Option.toList, List.cons_append, List.nil_append, Nat.add_zero]
  refine v_aload_n dL_law_1781 rfl ?_
  refine v_cell X hN h0 h1 (by decide) dL_law_1782 dL_law_1783 dL_law_1785 dL_law_1786 dL_law_1787 ?_
  refine v_cell X hN h0 h1 (by decide) dL_law_1788 dL_law_1789 dL_law_1791 dL_law_1792 dL_law_1793 ?_
  refine v_callv (M' := mX12_strike) (d' := d - 1) (mc' := 0) (ms' := 0) (ci := 12) (c := 116) (As := [_, _]) dL_law_1794 k_2069 cm_X12_strike rfl (by omega) (by decide) kk_116 (Nat.le_of_ble_eq_true rfl) rfl ⟨by omega, by omega⟩ ?_
  refine hS _ (fun h4 H4 => ?_)
  dsimp only [Option.toList, List.cons_append, List.nil_append, Nat.add_zero]
  refine v_icmp_eq_t (tgt := 1908) dL_law_1797 (by decide) rfl ?_
  exact nx _ _ _ _ _ H4 (by omega) (by omega)
set_option maxHeartbeats 4000000 in
set_option maxRecDepth 100000 in
theorem lc_36 {l : Launch} {G : GG} {d mc ms n1 n2 N : Nat} {xs : Nat → Int32} {i : Int} {a5 a6 : AV} {h : AH} {Q : Option AV → List Kd → AH → Prop} (hl : l.stackTraces = false) (X : SCR G N xs) (hN : N ≤ 3584) (h0 : 0 ≤ i) (h1 : i + 7 ≤ (N : Int)) (hd : 70 ≤ d) (hr : n1 + 1 ≤ mc ∧ n2 + 6 ≤ ms) (H : LI h) (nx : ∀ (h2 : AH) (b5 b6 : AV) (m1 m2 : Nat), LI h2 → m1 ≤ n1 + 1 → m2 ≤ n2 + 6 → V l G mL_law d mc ms m1 m2 K0 1908 (LL G i b5 b6) [] h2 Q) : V l G mL_law d mc ms n1 n2 K0 1802 (LL G i a5 a6) [] h Q := by
  refine v_aload_n dL_law_1802 rfl ?_
  refine v_cell X hN h0 h1 (by decide) dL_law_1803 dL_law_1804 dL_law_1806 dL_law_1807 dL_law_1808 ?_
  refine v_cell X hN h0 h1 (by decide) dL_law_1809 dL_law_1810 dL_law_1812 dL_law_1813 dL_law_1814 ?_
  refine v_i2l dL_law_1815 ?_
  refine v_bipush dL_law_1816 (c32 rfl) (by decide) ?_
  refine v_lshl dL_law_1818 ?_
  refine v_cell X hN h0 h1 (by decide) dL_law_1819 dL_law_1820 dL_law_1822 dL_law_1823 dL_law_1824 ?_
  refine v_i2l dL_law_1825 ?_
  refine v_ldc2 (n := 4294967295) dL_law_1826 k_2087 (c64 rfl) (by decide) ?_
  refine v_land dL_law_1829 ?_
  refine v_lor dL_law_1830 ?_
  refine v_cell X hN h0 h1 (by decide) dL_law_1831 dL_law_1832 dL_law_1834 dL_law_1835 dL_law_1836 ?_
  refine v_callv (M' := mX11_check) (d' := d - 1) (mc' := 0) (ms' := 0) (ci := 11) (c := 0) (As := [_, _, _]) dL_law_1837 k_1307 cm_X11_check rfl (by omega) (by decide) kk_0 (Nat.le_of_ble_eq_true rfl) rfl ⟨by omega, by omega⟩ ?_
  refine j_check (by omega) H (fun h3 v3 hS => ?_)
  dsimp only [Option.toList, List.cons_append, List.nil_append, Nat.add_zero]
  refine v_aload_n dL_law_1840 rfl ?_
  refine v_cell X hN h0 h1 (by decide) dL_law_1841 dL_law_1842 dL_law_1844 dL_law_1845 dL_law_1846 ?_
  refine v_cell X hN h0 h1 (by decide) dL_law_1847 dL_law_1848 dL_law_1850 dL_law_1851 dL_law_1852 ?_
  refine v_i2l dL_law_1853 ?_
  refine v_bipush dL_law_1854 (c32 rfl) (by decide) ?_
  refine v_lshl dL_law_1856 ?_
  refine v_cell X hN h0 h1 (by decide) dL_law_1857 dL_law_1858 dL_law_1860 dL_law_1861 dL_law_1862 ?_
  refine v_i2l dL_law_1863 ?_
  refine v_ldc2 (n := 4294967295) dL_law_1864 k_2087 (c64 rfl) (by decide) ?_
  refine v_land dL_law_1867 ?_
  refine v_lor dL_law_1868 ?_
  refine v_cell X hN h0 h1 (by decide) dL_law_1869 dL_law_1870 dL_law_1872 dL_law_1873 dL_law_1874 ?_
  refine v_callv (M' := mX12_check) (d' := d - 1) (mc' := 0) (ms' := 0) (ci := 12) (c := 116) (As := [_, _, _]) dL_law_1875 k_2073 cm_X12_check rfl (by omega) (by decide) kk_116 (Nat.le_of_ble_eq_true rfl) rfl ⟨by omega, by omega⟩ ?_
  refine hS _ (fun h4 H4 => ?_)
  dsimp only [Option.toList, List.cons_append, List.nil_append, Nat.add_zero]
  refine v_icmp_eq_t (tgt := 1908) dL_law_1878 (by decide) rfl ?_
  exact nx _ _ _ _ _ H4 (by omega) (by omega)
set_option maxHeartbeats 4000000 in
set_option maxRecDepth 100000 in
theorem lc_37 {l : Launch} {G : GG} {d mc ms n1 n2 N : Nat} {xs : Nat → Int32} {i : Int} {a5 a6 : AV} {h : AH} {Q : Option AV → List Kd → AH → Prop} (hl : l.stackTraces = false) (X : SCR G N xs) (hN : N ≤ 3584) (h0 : 0 ≤ i) (h1 : i + 7 ≤ (N : Int)) (hd : 70 ≤ d) (hr : n1 + 1 ≤ mc ∧ n2 + 6 ≤ ms) (H : LI h) (nx : ∀ (h2 : AH) (b5 b6 : AV) (m1 m2 : Nat), LI h2 → m1 ≤ n1 + 1 → m2 ≤ n2 + 6 → V l G mL_law d mc ms m1 m2 K0 1908 (LL G i b5 b6) [] h2 Q) : V l G mL_law d mc ms n1 n2 K0 1883 (LL G i a5 a6) [] h Q := by
  refine v_aload_n dL_law_1883 rfl ?_
  refine v_cell X hN h0 h1 (by decide) dL_law_1884 dL_law_1885 dL_law_1887 dL_law_1888 dL_law_1889 ?_
  refine v_callv (M' := mX11_count) (d' := d - 1) (mc' := 0) (ms' := 0) (ci := 11) (c := 0) (As := [_]) dL_law_1890 k_1330 cm_X11_count rfl (by omega) (by decide) kk_0 (Nat.le_of_ble_eq_true rfl) rfl ⟨by omega, by omega⟩ ?_
  refine j_count (by omega) H (fun h3 v3 hS => ?_)
  dsimp only [Option.toList, List.cons_append, List.nil_append, Nat.add_zero]
  refine v_aload_n dL_law_1893 rfl ?_
  refine v_cell X hN h0 h1 (by decide) dL_law_1894 dL_law_1895 dL_law_1897 dL_law_1898 dL_law_1899 ?_
  refine v_callv (M' := mX12_count) (d' := d - 1) (mc' := 0) (ms' := 0) (ci := 12) (c := 116) (As := [_]) dL_law_1900 k_2083 cm_X12_count rfl (by omega) (by decide) kk_116 (Nat.le_of_ble_eq_true rfl) rfl ⟨by omega, by omega⟩ ?_
  refine hS _ (fun h4 H4 => ?_)
  dsimp only [Option.toList, List.cons_append, List.nil_append, Nat.add_zero]
  refine v_icmp_eq_t (tgt := 1908) dL_law_1903 (by decide) rfl ?_
  exact nx _ _ _ _ _ H4 (by omega) (by omega)
set_option maxHeartbeats 4000000 in
set_option maxRecDepth 100000 in
theorem law_step {l : Launch} {G : GG} {d mc ms n1 n2 N : Nat} {xs : Nat → Int32} {i : Int} {a5 a6 : AV} {h : AH} {Q : Option AV → List Kd → AH → Prop} (hl : l.stackTraces = false) (X : SCR G N xs) (hN : N ≤ 3584) (h0 : 0 ≤ i) (h1 : i + 7 ≤ (N : Int)) (hd : 70 ≤ d) (hr : n1 + 1 ≤ mc ∧ n2 + 6 ≤ ms) (H : LI h) (nx : ∀ (h2 : AH) (b5 b6 : AV) (m1 m2 : Nat), LI h2 → m1 ≤ n1 + 1 → m2 ≤ n2 + 6 → V l G mL_law d mc ms m1 m2 K0 1908 (LL G i b5 b6) [] h2 Q) : V l G mL_law d mc ms n1 n2 K0 33 (LL G i a5 a6) [] h Q := by
  refine v_aload3_n (i := 0) dL_law_33 rfl ?_
  refine v_iload dL_law_34 rfl ?_
  refine v_sld X h0 (by omega) dL_law_36 ?_
  refine v_bipush dL_law_37 (c32 rfl) (by decide) ?_
  refine v_iand dL_law_39 ?_
  generalize iand (scv xs i) 63 = z
  by_cases c : 0 ≤ z ∧ z ≤ 37
  · have c2 : z = 0 ∨ z = 1 ∨ z = 2 ∨ z = 3 ∨ z = 4 ∨ z = 5 ∨ z = 6 ∨ z = 7 ∨ z = 8 ∨ z = 9 ∨ z = 10 ∨ z = 11 ∨ z = 12 ∨ z = 13 ∨ z = 14 ∨ z = 15 ∨ z = 16 ∨ z = 17 ∨ z = 18 ∨ z = 19 ∨ z = 20 ∨ z = 21 ∨ z = 22 ∨ z = 23 ∨ z = 24 ∨ z = 25 ∨ z = 26 ∨ z = 27 ∨ z = 28 ∨ z = 29 ∨ z = 30 ∨ z = 31 ∨ z = 32 ∨ z = 33 ∨ z = 34 ∨ z = 35 ∨ z = 36 ∨ z = 37 := by omega
    rcases c2 with rfl | rfl | rfl | rfl | rfl | rfl | rfl | rfl | rfl | rfl | rfl | rfl | rfl | rfl | rfl | rfl | rfl | rfl | rfl | rfl | rfl | rfl | rfl | rfl | rfl | rfl | rfl | rfl | rfl | rfl | rfl | rfl | rfl | rfl | rfl | rfl | rfl | rfl
    · exact v_tsw_in (off := 168) (tgt := 208) dL_law_40 (by decide) (by decide) rfl (by decide) (lc_0 hl X hN h0 h1 hd hr H nx)
    · exact v_tsw_in (off := 193) (tgt := 233) dL_law_40 (by decide) (by decide) rfl (by decide) (lc_1 hl X hN h0 h1 hd hr H nx)
    · exact v_tsw_in (off := 242) (tgt := 282) dL_law_40 (by decide) (by decide) rfl (by decide) (lc_2 hl X hN h0 h1 hd hr H nx)
    · exact v_tsw_in (off := 291) (tgt := 331) dL_law_40 (by decide) (by decide) rfl (by decide) (lc_3 hl X hN h0 h1 hd hr H nx)
    · exact v_tsw_in (off := 364) (tgt := 404) dL_law_40 (by decide) (by decide) rfl (by decide) (lc_4 hl X hN h0 h1 hd hr H nx)
    · exact v_tsw_in (off := 389) (tgt := 429) dL_law_40 (by decide) (by decide) rfl (by decide) (lc_5 hl X hN h0 h1 hd hr H nx)
    · exact v_tsw_in (off := 402) (tgt := 442) dL_law_40 (by decide) (by decide) rfl (by decide) (lc_6 hl X hN h0 h1 hd hr H nx)
    · exact v_tsw_in (off := 439) (tgt := 479) dL_law_40 (by decide) (by decide) rfl (by decide) (lc_7 hl X hN h0 h1 hd hr H nx)
    · exact v_tsw_in (off := 488) (tgt := 528) dL_law_40 (by decide) (by decide) rfl (by decide) (lc_8 hl X hN h0 h1 hd hr H nx)
    · exact v_tsw_in (off := 537) (tgt := 577) dL_law_40 (by decide) (by decide) rfl (by decide) (lc_9 hl X hN h0 h1 hd hr H nx)
    · exact v_tsw_in (off := 598) (tgt := 638) dL_law_40 (by decide) (by decide) rfl (by decide) (lc_10 hl X hN h0 h1 hd hr H nx)
    · exact v_tsw_in (off := 635) (tgt := 675) dL_law_40 (by decide) (by decide) rfl (by decide) (lc_11 hl X hN h0 h1 hd hr H nx)
    · exact v_tsw_in (off := 684) (tgt := 724) dL_law_40 (by decide) (by decide) rfl (by decide) (lc_12 hl X hN h0 h1 hd hr H nx)
    · exact v_tsw_in (off := 721) (tgt := 761) dL_law_40 (by decide) (by decide) rfl (by decide) (lc_13 hl X hN h0 h1 hd hr H nx)
    · exact v_tsw_in (off := 734) (tgt := 774) dL_law_40 (by decide) (by decide) rfl (by decide) (lc_14 hl X hN h0 h1 hd hr H nx)
    · exact v_tsw_in (off := 807) (tgt := 847) dL_law_40 (by decide) (by decide) rfl (by decide) (lc_15 hl X hN h0 h1 hd hr H nx)
    · exact v_tsw_in (off := 844) (tgt := 884) dL_law_40 (by decide) (by decide) rfl (by decide) (lc_16 hl X hN h0 h1 hd hr H nx)
    · exact v_tsw_in (off := 869) (tgt := 909) dL_law_40 (by decide) (by decide) rfl (by decide) (lc_17 hl X hN h0 h1 hd hr H nx)
    · exact v_tsw_in (off := 937) (tgt := 977) dL_law_40 (by decide) (by decide) rfl (by decide) (lc_18 hl X hN h0 h1 hd hr H nx)
    · exact v_tsw_in (off := 986) (tgt := 1026) dL_law_40 (by decide) (by decide) rfl (by decide) (lc_19 hl X hN h0 h1 hd hr H nx)
    · exact v_tsw_in (off := 1035) (tgt := 1075) dL_law_40 (by decide) (by decide) rfl (by decide) (lc_20 hl X hN h0 h1 hd hr H nx)
    · exact v_tsw_in (off := 1096) (tgt := 1136) dL_law_40 (by decide) (by decide) rfl (by decide) (lc_21 hl X hN h0 h1 hd hr H nx)
    · exact v_tsw_in (off := 1145) (tgt := 1185) dL_law_40 (by decide) (by decide) rfl (by decide) (lc_22 hl X hN h0 h1 hd hr H nx)
    · exact v_tsw_in (off := 1218) (tgt := 1258) dL_law_40 (by decide) (by decide) rfl (by decide) (lc_23 hl X hN h0 h1 hd hr H nx)
    · exact v_tsw_in (off := 1255) (tgt := 1295) dL_law_40 (by decide) (by decide) rfl (by decide) (lc_24 hl X hN h0 h1 hd hr H nx)
    · exact v_tsw_in (off := 1292) (tgt := 1332) dL_law_40 (by decide) (by decide) rfl (by decide) (lc_25 hl X hN h0 h1 hd hr H nx)
    · exact v_tsw_in (off := 1330) (tgt := 1370) dL_law_40 (by decide) (by decide) rfl (by decide) (lc_26 hl X hN h0 h1 hd hr H nx)
    · exact v_tsw_in (off := 1343) (tgt := 1383) dL_law_40 (by decide) (by decide) rfl (by decide) (lc_27 hl X hN h0 h1 hd hr H nx)
    · exact v_tsw_in (off := 1381) (tgt := 1421) dL_law_40 (by decide) (by decide) rfl (by decide) (lc_28 hl X hN h0 h1 hd hr H nx)
    · exact v_tsw_in (off := 1454) (tgt := 1494) dL_law_40 (by decide) (by decide) rfl (by decide) (lc_29 hl X hN h0 h1 hd hr H nx)
    · exact v_tsw_in (off := 1465) (tgt := 1505) dL_law_40 (by decide) (by decide) rfl (by decide) (lc_30 hl X hN h0 h1 hd hr H nx)
    · exact v_tsw_in (off := 1539) (tgt := 1579) dL_law_40 (by decide) (by decide) rfl (by decide) (lc_31 hl X hN h0 h1 hd hr H nx)
    · exact v_tsw_in (off := 1626) (tgt := 1666) dL_law_40 (by decide) (by decide) rfl (by decide) (lc_32 hl X hN h0 h1 hd hr H nx)
    · exact v_tsw_in (off := 1663) (tgt := 1703) dL_law_40 (by decide) (by decide) rfl (by decide) (lc_33 hl X hN h0 h1 hd hr H nx)
    · exact v_tsw_in (off := 1700) (tgt := 1740) dL_law_40 (by decide) (by decide) rfl (by decide) (lc_34 hl X hN h0 h1 hd hr H nx)
    · exact v_tsw_in (off := 1725) (tgt := 1765) dL_law_40 (by decide) (by decide) rfl (by decide) (lc_35 hl X hN h0 h1 hd hr H nx)
    · exact v_tsw_in (off := 1762) (tgt := 1802) dL_law_40 (by decide) (by decide) rfl (by decide) (lc_36 hl X hN h0 h1 hd hr H nx)
    · exact v_tsw_in (off := 1843) (tgt := 1883) dL_law_40 (by decide) (by decide) rfl (by decide) (lc_37 hl X hN h0 h1 hd hr H nx)
  · exact v_tsw_out (tgt := 1908) dL_law_40 (by omega) (by decide) (nx _ _ _ _ _ H (by omega) (by omega))
set_option maxHeartbeats 4000000 in
set_option maxRecDepth 100000 in
theorem law_head {l : Launch} {G : GG} {d mc ms n1 n2 N : Nat} {xs : Nat → Int32} {i : Int} {a5 a6 : AV} {h : AH} {Q : Option AV → List Kd → AH → Prop} (hl : l.stackTraces = false) (X : SCR G N xs) (hN : N ≤ 3584) (h0 : 0 ≤ i) (hi : i ≤ 4000) (hd : 70 ≤ d) (hr : n1 + 1 ≤ mc ∧ n2 + 6 ≤ ms) (H : LI h) (hq : Q (some (0, 1)) K0 h)
    (ih : i + 7 ≤ (N : Int) → ∀ (h2 : AH) (b5 b6 : AV) (m1 m2 : Nat), LI h2 → m1 ≤ n1 + 1 → m2 ≤ n2 + 6 → V l G mL_law d mc ms m1 m2 K0 23 (LL G (i + 7) b5 b6) [] h2 Q) : V l G mL_law d mc ms n1 n2 K0 23 (LL G i a5 a6) [] h Q := by
  refine v_iload dL_law_23 rfl ?_
  refine v_aload3_n (i := 0) dL_law_25 rfl ?_
  refine v_slen X hN dL_law_26 ?_
  refine v_bipush dL_law_27 (c32 rfl) (by decide) ?_
  refine v_isubE dL_law_29 (by omega) ?_
  refine v_icmp_gt (tgt := 1914) dL_law_30 (by decide) (fun _ => ?_) (fun c => ?_)
  · refine v_iconst dL_law_1914 (c32 rfl) ?_
    exact v_iretz dL_law_1915 rfl (by decide) (by omega) (by omega) hq
  · refine law_step hl X hN h0 (by omega) hd hr H (fun h2 b5 b6 m1 m2 H2 q1 q2 => ?_)
    refine v_iinc_4 dL_law_1908 (by decide) rfl ?_
    refine v_goto (tgt := 23) dL_law_1911 (by decide) ?_
    rw [iadd_eq (by unfold ok32; omega)]
    exact ih (by omega) h2 b5 b6 m1 m2 H2 q1 q2
theorem law_loop {l : Launch} {G : GG} {d mc ms N : Nat} {xs : Nat → Int32} {Q : Option AV → List Kd → AH → Prop} (hl : l.stackTraces = false) (X : SCR G N xs) (hN : N ≤ 3584) (hd : 70 ≤ d) (hr : 5000 ≤ mc ∧ 60000 ≤ ms) (hq : ∀ h, Q (some (0, 1)) K0 h) : ∀ (k : Nat) (i : Int) (a5 a6 : AV) (n1 n2 : Nat) (h : AH), (N : Int) - i ≤ k → 0 ≤ i → i ≤ 3600 → (n1 : Int) ≤ 1000 + i → (n2 : Int) ≤ 30000 + 6 * i → LI h → V l G mL_law d mc ms n1 n2 K0 23 (LL G i a5 a6) [] h Q := by
  intro k
  induction k with
  | zero =>
    intro i a5 a6 n1 n2 h hk h0 h1 q1 q2 H
    exact law_head hl X hN h0 (by omega) hd (by omega) H (hq h) (fun c => by omega)
  | succ k ih =>
    intro i a5 a6 n1 n2 h hk h0 h1 q1 q2 H
    exact law_head hl X hN h0 (by omega) hd (by omega) H (hq h) (fun c h2 b5 b6 m1 m2 H2 r1 r2 => ih (i + 7) b5 b6 m1 m2 h2 (by omega) (by omega) (by omega) (by omega) (by omega) H2)
