/-! ===== the world as it is made (written by wip/whole/p87.py) ===== -/
def P12 : List (Int × Int × Int) := [(116, 87, 176), (116, 86, 175), (116, 85, 174), (116, 78, 173), (116, 77, 172), (116, 76, 171), (116, 75, 170), (116, 74, 169), (116, 73, 168), (116, 72, 167), (116, 71, 166), (116, 70, 165), (116, 69, 164), (116, 64, 163), (116, 63, 162), (116, 62, 161), (116, 61, 160), (116, 60, 159), (116, 59, 158), (116, 58, 157), (116, 57, 156), (116, 56, 155), (116, 55, 154), (116, 54, 153), (116, 53, 152), (116, 52, 151), (116, 51, 150), (116, 50, 149), (116, 49, 148), (116, 44, 147), (116, 43, 146), (116, 42, 145), (116, 41, 144), (116, 40, 143), (116, 39, 142), (116, 38, 141), (116, 37, 140), (116, 36, 139), (116, 35, 138), (116, 34, 137), (116, 33, 136), (116, 32, 135), (116, 31, 134), (116, 30, 133), (116, 29, 132), (116, 28, 131), (116, 27, 130), (116, 26, 129), (116, 17, 127), (116, 13, 128), (116, 12, 127), (116, 11, 126), (116, 10, 125), (116, 9, 124), (116, 8, 123), (116, 7, 122), (116, 6, 121), (116, 5, 120), (116, 4, 119), (116, 3, 118), (116, 2, 117)]
def P11 : List (Int × Int × Int) := [(0, 8, 97), (97, 6, 115), (97, 5, 101), (97, 3, 100), (97, 1, 99), (97, 0, 98), (0, 7, 87), (87, 15, 96), (87, 14, 95), (87, 12, 94), (87, 11, 93), (87, 4, 92), (87, 3, 91), (87, 2, 90), (87, 1, 89), (87, 0, 88), (0, 4, 81), (81, 5, 86), (81, 4, 85), (81, 3, 84), (81, 1, 83), (81, 0, 82), (0, 3, 41), (0, 2, 6), (0, 5, 5), (0, 6, 4), (4, 17, 80), (4, 14, 79), (4, 13, 78), (4, 12, 77), (4, 11, 76), (4, 10, 75), (4, 9, 74), (4, 8, 70), (70, 2, 73), (70, 1, 72), (70, 0, 71), (4, 6, 69), (4, 5, 68), (4, 4, 67), (4, 3, 66), (4, 2, 65), (4, 1, 64), (4, 0, 5), (5, 3, 63), (5, 2, 57), (5, 1, 41), (41, 11, 53), (53, 2, 56), (53, 1, 55), (53, 0, 54), (41, 10, 52), (41, 9, 51), (41, 8, 50), (41, 7, 49), (41, 6, 48), (41, 5, 47), (41, 4, 46), (41, 3, 45), (41, 2, 44), (41, 1, 43), (41, 0, 42), (5, 0, 6), (6, 6, 40), (6, 5, 38), (38, 0, 39), (6, 4, 37), (6, 3, 16), (6, 2, 12), (12, 3, 15), (12, 2, 14), (12, 1, 13), (12, 0, 20), (6, 1, 11), (6, 0, 7), (7, 3, 10), (7, 2, 9), (7, 1, 8), (7, 0, 40), (0, 1, 1), (1, 4, 3), (1, 3, (-1)), (1, 0, 2)]
def PAL : List (Int × Int × Int) := P12 ++ P11
/-- the heap when both are made -/
def hF : AH := hfil (hfil (putL PAL hz) 74 800 100) 125 800 100
theorem hF_eq : hfil (putL P12 (hfil (putL P11 hz) 74 800 100)) 125 800 100 = hF := by
  rw [putL_fil (Ls := P12) (c := 74) (by decide), putL_app]
  rfl
theorem hF_at {c j z : Int} (q : lkP c j PAL = some z) (n74 : c ≠ 74) (n125 : c ≠ 125) : hF c j = z := by
  unfold hF
  rw [hfil_c n125, hfil_c n74]
  exact putL_at q
theorem hF_no {c j : Int} (q : lkP c j PAL = none) (n74 : c ≠ 74) (n125 : c ≠ 125) : hF c j = hz c j := by
  unfold hF
  rw [hfil_c n125, hfil_c n74]
  have key : ∀ Ls : List (Int × Int × Int), lkP c j Ls = none → putL Ls hz c j = hz c j := by
    intro Ls
    induction Ls with
    | nil => intro _; rfl
    | cons e Ls ih =>
      intro q
      show hset (putL Ls hz) e.1 e.2.1 e.2.2 c j = _
      unfold lkP at q
      by_cases y : e.1 = c ∧ e.2.1 = j
      · rw [if_pos y] at q; cases q
      · rw [if_neg y] at q
        rw [hset_ne _ (fun z => y ⟨z.1.symm, z.2.symm⟩)]
        exact ih q
  exact key _ q
theorem hz_0 {c : Int} {t : FieldType} {n : Nat} (hk : K0[c.toNat]? = some (.inr (t, n))) (ht : t = .int ∨ t = .long ∨ t = .byte ∨ t = .boolean) {j : Int} : hz c j = 0 := by
  unfold hz
  rw [hk]
  rcases ht with rfl | rfl | rfl | rfl <;> rfl
theorem hF_r {c : Int} {t : FieldType} {n : Nat} (hk : K0[c.toNat]? = some (.inr (t, n))) (ht : t = .int ∨ t = .long ∨ t = .byte ∨ t = .boolean) (q : PAL.all (fun e => decide (e.1 ≠ c)) = true) (n74 : c ≠ 74) (n125 : c ≠ 125) : hF c = fun _ => 0 := by
  funext j
  unfold hF
  rw [hfil_c n125, hfil_c n74, putL_no (fun e he => of_decide_eq_true (List.all_eq_true.mp q e he))]
  exact hz_0 hk ht
theorem hF_rr {c i : Int} {n : Nat} (hk : K0[c.toNat]? = some (.inr (.array .int, n))) (q : PAL.all (fun e => decide (e.1 ≠ c)) = true) (n74 : c ≠ 74) (n125 : c ≠ 125) : hF c i = c + 1 + i := by
  unfold hF
  rw [hfil_c n125, hfil_c n74, putL_no (fun e he => of_decide_eq_true (List.all_eq_true.mp q e he))]
  unfold hz
  rw [hk]
theorem zr_2 : hF 2 = fun _ => 0 := hF_r kk_2 (by simp) (by decide +kernel) (by decide) (by decide)
theorem zr_8 : hF 8 = fun _ => 0 := hF_r kk_8 (by simp) (by decide +kernel) (by decide) (by decide)
theorem zr_9 : hF 9 = fun _ => 0 := hF_r kk_9 (by simp) (by decide +kernel) (by decide) (by decide)
theorem zr_10 : hF 10 = fun _ => 0 := hF_r kk_10 (by simp) (by decide +kernel) (by decide) (by decide)
theorem zr_11 : hF 11 = fun _ => 0 := hF_r kk_11 (by simp) (by decide +kernel) (by decide) (by decide)
theorem zr_13 : hF 13 = fun _ => 0 := hF_r kk_13 (by simp) (by decide +kernel) (by decide) (by decide)
theorem zr_14 : hF 14 = fun _ => 0 := hF_r kk_14 (by simp) (by decide +kernel) (by decide) (by decide)
theorem zr_15 : hF 15 = fun _ => 0 := hF_r kk_15 (by simp) (by decide +kernel) (by decide) (by decide)
theorem zr_42 : hF 42 = fun _ => 0 := hF_r kk_42 (by simp) (by decide +kernel) (by decide) (by decide)
theorem zr_43 : hF 43 = fun _ => 0 := hF_r kk_43 (by simp) (by decide +kernel) (by decide) (by decide)
theorem zr_44 : hF 44 = fun _ => 0 := hF_r kk_44 (by simp) (by decide +kernel) (by decide) (by decide)
theorem zr_45 : hF 45 = fun _ => 0 := hF_r kk_45 (by simp) (by decide +kernel) (by decide) (by decide)
theorem zr_46 : hF 46 = fun _ => 0 := hF_r kk_46 (by simp) (by decide +kernel) (by decide) (by decide)
theorem zr_47 : hF 47 = fun _ => 0 := hF_r kk_47 (by simp) (by decide +kernel) (by decide) (by decide)
theorem zr_48 : hF 48 = fun _ => 0 := hF_r kk_48 (by simp) (by decide +kernel) (by decide) (by decide)
theorem zr_50 : hF 50 = fun _ => 0 := hF_r kk_50 (by simp) (by decide +kernel) (by decide) (by decide)
theorem zr_51 : hF 51 = fun _ => 0 := hF_r kk_51 (by simp) (by decide +kernel) (by decide) (by decide)
theorem zr_52 : hF 52 = fun _ => 0 := hF_r kk_52 (by simp) (by decide +kernel) (by decide) (by decide)
theorem zr_54 : hF 54 = fun _ => 0 := hF_r kk_54 (by simp) (by decide +kernel) (by decide) (by decide)
theorem zr_55 : hF 55 = fun _ => 0 := hF_r kk_55 (by simp) (by decide +kernel) (by decide) (by decide)
theorem zr_56 : hF 56 = fun _ => 0 := hF_r kk_56 (by simp) (by decide +kernel) (by decide) (by decide)
theorem zr_64 : hF 64 = fun _ => 0 := hF_r kk_64 (by simp) (by decide +kernel) (by decide) (by decide)
theorem zr_65 : hF 65 = fun _ => 0 := hF_r kk_65 (by simp) (by decide +kernel) (by decide) (by decide)
theorem zr_66 : hF 66 = fun _ => 0 := hF_r kk_66 (by simp) (by decide +kernel) (by decide) (by decide)
theorem zr_67 : hF 67 = fun _ => 0 := hF_r kk_67 (by simp) (by decide +kernel) (by decide) (by decide)
theorem zr_68 : hF 68 = fun _ => 0 := hF_r kk_68 (by simp) (by decide +kernel) (by decide) (by decide)
theorem zr_69 : hF 69 = fun _ => 0 := hF_r kk_69 (by simp) (by decide +kernel) (by decide) (by decide)
theorem zr_71 : hF 71 = fun _ => 0 := hF_r kk_71 (by simp) (by decide +kernel) (by decide) (by decide)
theorem zr_72 : hF 72 = fun _ => 0 := hF_r kk_72 (by simp) (by decide +kernel) (by decide) (by decide)
theorem zr_73 : hF 73 = fun _ => 0 := hF_r kk_73 (by simp) (by decide +kernel) (by decide) (by decide)
theorem zr_76 : hF 76 = fun _ => 0 := hF_r kk_76 (by simp) (by decide +kernel) (by decide) (by decide)
theorem zr_77 : hF 77 = fun _ => 0 := hF_r kk_77 (by simp) (by decide +kernel) (by decide) (by decide)
theorem zr_78 : hF 78 = fun _ => 0 := hF_r kk_78 (by simp) (by decide +kernel) (by decide) (by decide)
theorem zr_79 : hF 79 = fun _ => 0 := hF_r kk_79 (by simp) (by decide +kernel) (by decide) (by decide)
theorem zr_82 : hF 82 = fun _ => 0 := hF_r kk_82 (by simp) (by decide +kernel) (by decide) (by decide)
theorem zr_83 : hF 83 = fun _ => 0 := hF_r kk_83 (by simp) (by decide +kernel) (by decide) (by decide)
theorem zr_84 : hF 84 = fun _ => 0 := hF_r kk_84 (by simp) (by decide +kernel) (by decide) (by decide)
theorem zr_85 : hF 85 = fun _ => 0 := hF_r kk_85 (by simp) (by decide +kernel) (by decide) (by decide)
theorem zr_86 : hF 86 = fun _ => 0 := hF_r kk_86 (by simp) (by decide +kernel) (by decide) (by decide)
theorem zr_88 : hF 88 = fun _ => 0 := hF_r kk_88 (by simp) (by decide +kernel) (by decide) (by decide)
theorem zr_89 : hF 89 = fun _ => 0 := hF_r kk_89 (by simp) (by decide +kernel) (by decide) (by decide)
theorem zr_90 : hF 90 = fun _ => 0 := hF_r kk_90 (by simp) (by decide +kernel) (by decide) (by decide)
theorem zr_91 : hF 91 = fun _ => 0 := hF_r kk_91 (by simp) (by decide +kernel) (by decide) (by decide)
theorem zr_92 : hF 92 = fun _ => 0 := hF_r kk_92 (by simp) (by decide +kernel) (by decide) (by decide)
theorem zr_98 : hF 98 = fun _ => 0 := hF_r kk_98 (by simp) (by decide +kernel) (by decide) (by decide)
theorem zr_99 : hF 99 = fun _ => 0 := hF_r kk_99 (by simp) (by decide +kernel) (by decide) (by decide)
theorem zr_117 : hF 117 = fun _ => 0 := hF_r kk_117 (by simp) (by decide +kernel) (by decide) (by decide)
theorem zr_118 : hF 118 = fun _ => 0 := hF_r kk_118 (by simp) (by decide +kernel) (by decide) (by decide)
theorem zr_119 : hF 119 = fun _ => 0 := hF_r kk_119 (by simp) (by decide +kernel) (by decide) (by decide)
theorem zr_120 : hF 120 = fun _ => 0 := hF_r kk_120 (by simp) (by decide +kernel) (by decide) (by decide)
theorem zr_121 : hF 121 = fun _ => 0 := hF_r kk_121 (by simp) (by decide +kernel) (by decide) (by decide)
theorem zr_122 : hF 122 = fun _ => 0 := hF_r kk_122 (by simp) (by decide +kernel) (by decide) (by decide)
theorem zr_123 : hF 123 = fun _ => 0 := hF_r kk_123 (by simp) (by decide +kernel) (by decide) (by decide)
theorem zr_126 : hF 126 = fun _ => 0 := hF_r kk_126 (by simp) (by decide +kernel) (by decide) (by decide)
theorem zr_127 : hF 127 = fun _ => 0 := hF_r kk_127 (by simp) (by decide +kernel) (by decide) (by decide)
theorem zr_129 : hF 129 = fun _ => 0 := hF_r kk_129 (by simp) (by decide +kernel) (by decide) (by decide)
theorem zr_130 : hF 130 = fun _ => 0 := hF_r kk_130 (by simp) (by decide +kernel) (by decide) (by decide)
theorem zr_131 : hF 131 = fun _ => 0 := hF_r kk_131 (by simp) (by decide +kernel) (by decide) (by decide)
theorem zr_132 : hF 132 = fun _ => 0 := hF_r kk_132 (by simp) (by decide +kernel) (by decide) (by decide)
theorem zr_133 : hF 133 = fun _ => 0 := hF_r kk_133 (by simp) (by decide +kernel) (by decide) (by decide)
theorem zr_134 : hF 134 = fun _ => 0 := hF_r kk_134 (by simp) (by decide +kernel) (by decide) (by decide)
theorem zr_135 : hF 135 = fun _ => 0 := hF_r kk_135 (by simp) (by decide +kernel) (by decide) (by decide)
theorem zr_137 : hF 137 = fun _ => 0 := hF_r kk_137 (by simp) (by decide +kernel) (by decide) (by decide)
theorem zr_138 : hF 138 = fun _ => 0 := hF_r kk_138 (by simp) (by decide +kernel) (by decide) (by decide)
theorem zr_139 : hF 139 = fun _ => 0 := hF_r kk_139 (by simp) (by decide +kernel) (by decide) (by decide)
theorem zr_140 : hF 140 = fun _ => 0 := hF_r kk_140 (by simp) (by decide +kernel) (by decide) (by decide)
theorem zr_141 : hF 141 = fun _ => 0 := hF_r kk_141 (by simp) (by decide +kernel) (by decide) (by decide)
theorem zr_142 : hF 142 = fun _ => 0 := hF_r kk_142 (by simp) (by decide +kernel) (by decide) (by decide)
theorem zr_143 : hF 143 = fun _ => 0 := hF_r kk_143 (by simp) (by decide +kernel) (by decide) (by decide)
theorem zr_144 : hF 144 = fun _ => 0 := hF_r kk_144 (by simp) (by decide +kernel) (by decide) (by decide)
theorem zr_145 : hF 145 = fun _ => 0 := hF_r kk_145 (by simp) (by decide +kernel) (by decide) (by decide)
theorem zr_146 : hF 146 = fun _ => 0 := hF_r kk_146 (by simp) (by decide +kernel) (by decide) (by decide)
theorem zr_147 : hF 147 = fun _ => 0 := hF_r kk_147 (by simp) (by decide +kernel) (by decide) (by decide)
theorem zr_150 : hF 150 = fun _ => 0 := hF_r kk_150 (by simp) (by decide +kernel) (by decide) (by decide)
theorem zr_151 : hF 151 = fun _ => 0 := hF_r kk_151 (by simp) (by decide +kernel) (by decide) (by decide)
theorem zr_152 : hF 152 = fun _ => 0 := hF_r kk_152 (by simp) (by decide +kernel) (by decide) (by decide)
theorem zr_153 : hF 153 = fun _ => 0 := hF_r kk_153 (by simp) (by decide +kernel) (by decide) (by decide)
theorem zr_154 : hF 154 = fun _ => 0 := hF_r kk_154 (by simp) (by decide +kernel) (by decide) (by decide)
theorem zr_155 : hF 155 = fun _ => 0 := hF_r kk_155 (by simp) (by decide +kernel) (by decide) (by decide)
theorem zr_156 : hF 156 = fun _ => 0 := hF_r kk_156 (by simp) (by decide +kernel) (by decide) (by decide)
theorem zr_157 : hF 157 = fun _ => 0 := hF_r kk_157 (by simp) (by decide +kernel) (by decide) (by decide)
theorem zr_158 : hF 158 = fun _ => 0 := hF_r kk_158 (by simp) (by decide +kernel) (by decide) (by decide)
theorem zr_160 : hF 160 = fun _ => 0 := hF_r kk_160 (by simp) (by decide +kernel) (by decide) (by decide)
theorem zr_161 : hF 161 = fun _ => 0 := hF_r kk_161 (by simp) (by decide +kernel) (by decide) (by decide)
theorem zr_162 : hF 162 = fun _ => 0 := hF_r kk_162 (by simp) (by decide +kernel) (by decide) (by decide)
theorem zr_163 : hF 163 = fun _ => 0 := hF_r kk_163 (by simp) (by decide +kernel) (by decide) (by decide)
theorem zr_167 : hF 167 = fun _ => 0 := hF_r kk_167 (by simp) (by decide +kernel) (by decide) (by decide)
theorem zr_168 : hF 168 = fun _ => 0 := hF_r kk_168 (by simp) (by decide +kernel) (by decide) (by decide)
theorem zr_169 : hF 169 = fun _ => 0 := hF_r kk_169 (by simp) (by decide +kernel) (by decide) (by decide)
theorem zr_170 : hF 170 = fun _ => 0 := hF_r kk_170 (by simp) (by decide +kernel) (by decide) (by decide)
theorem zr_171 : hF 171 = fun _ => 0 := hF_r kk_171 (by simp) (by decide +kernel) (by decide) (by decide)
theorem zr_174 : hF 174 = fun _ => 0 := hF_r kk_174 (by simp) (by decide +kernel) (by decide) (by decide)
theorem zr_175 : hF 175 = fun _ => 0 := hF_r kk_175 (by simp) (by decide +kernel) (by decide) (by decide)
theorem fv_0_0 : hF 0 0 = 0 := (hF_no (by decide +kernel) (by decide) (by decide)).trans (by decide +kernel)
theorem fv_1_1 : hF 1 1 = 0 := (hF_no (by decide +kernel) (by decide) (by decide)).trans (by decide +kernel)
theorem fv_4_7 : hF 4 7 = 0 := (hF_no (by decide +kernel) (by decide) (by decide)).trans (by decide +kernel)
theorem fv_4_15 : hF 4 15 = 0 := (hF_no (by decide +kernel) (by decide) (by decide)).trans (by decide +kernel)
theorem fv_4_16 : hF 4 16 = 0 := (hF_no (by decide +kernel) (by decide) (by decide)).trans (by decide +kernel)
theorem fv_7_0 : hF 7 0 = 40 := hF_at (by decide +kernel) (by decide) (by decide)
theorem fv_7_4 : hF 7 4 = 0 := (hF_no (by decide +kernel) (by decide) (by decide)).trans (by decide +kernel)
theorem fv_12_0 : hF 12 0 = 20 := hF_at (by decide +kernel) (by decide) (by decide)
theorem fv_12_4 : hF 12 4 = 0 := (hF_no (by decide +kernel) (by decide) (by decide)).trans (by decide +kernel)
theorem fv_41_12 : hF 41 12 = 0 := (hF_no (by decide +kernel) (by decide) (by decide)).trans (by decide +kernel)
theorem fv_41_13 : hF 41 13 = 0 := (hF_no (by decide +kernel) (by decide) (by decide)).trans (by decide +kernel)
theorem fv_53_3 : hF 53 3 = 0 := (hF_no (by decide +kernel) (by decide) (by decide)).trans (by decide +kernel)
theorem fv_70_3 : hF 70 3 = 0 := (hF_no (by decide +kernel) (by decide) (by decide)).trans (by decide +kernel)
theorem fv_81_2 : hF 81 2 = 0 := (hF_no (by decide +kernel) (by decide) (by decide)).trans (by decide +kernel)
theorem fv_81_6 : hF 81 6 = 0 := (hF_no (by decide +kernel) (by decide) (by decide)).trans (by decide +kernel)
theorem fv_97_2 : hF 97 2 = 0 := (hF_no (by decide +kernel) (by decide) (by decide)).trans (by decide +kernel)
theorem fv_116_1 : hF 116 1 = 0 := (hF_no (by decide +kernel) (by decide) (by decide)).trans (by decide +kernel)
theorem fv_116_14 : hF 116 14 = 0 := (hF_no (by decide +kernel) (by decide) (by decide)).trans (by decide +kernel)
theorem fv_116_15 : hF 116 15 = 0 := (hF_no (by decide +kernel) (by decide) (by decide)).trans (by decide +kernel)
theorem fv_116_16 : hF 116 16 = 0 := (hF_no (by decide +kernel) (by decide) (by decide)).trans (by decide +kernel)
theorem fv_116_45 : hF 116 45 = 0 := (hF_no (by decide +kernel) (by decide) (by decide)).trans (by decide +kernel)
theorem fv_116_46 : hF 116 46 = 0 := (hF_no (by decide +kernel) (by decide) (by decide)).trans (by decide +kernel)
theorem fv_116_47 : hF 116 47 = 0 := (hF_no (by decide +kernel) (by decide) (by decide)).trans (by decide +kernel)
theorem fv_116_48 : hF 116 48 = 0 := (hF_no (by decide +kernel) (by decide) (by decide)).trans (by decide +kernel)
theorem fv_116_65 : hF 116 65 = 0 := (hF_no (by decide +kernel) (by decide) (by decide)).trans (by decide +kernel)
theorem fv_116_66 : hF 116 66 = 0 := (hF_no (by decide +kernel) (by decide) (by decide)).trans (by decide +kernel)
theorem fv_116_67 : hF 116 67 = 0 := (hF_no (by decide +kernel) (by decide) (by decide)).trans (by decide +kernel)
theorem fv_116_68 : hF 116 68 = 0 := (hF_no (by decide +kernel) (by decide) (by decide)).trans (by decide +kernel)
theorem fv_116_88 : hF 116 88 = 0 := (hF_no (by decide +kernel) (by decide) (by decide)).trans (by decide +kernel)
theorem z74 : hF 74 = hF 125 := by
  funext j
  unfold hF
  rw [hfil_c (show (74 : Int) ≠ 125 by decide)]
  unfold hfil
  rw [putL_no (c := 74) (by decide +kernel)]
  by_cases q : 0 ≤ j ∧ j < 800
  · rw [if_pos ⟨rfl, q⟩, if_pos ⟨rfl, q⟩]
  · rw [if_neg (fun z => q z.2), if_neg (fun z => q z.2), if_neg (fun z => absurd z.1 (by decide)), putL_no (c := 125) (by decide +kernel), hz_0 kk_74 (by simp), hz_0 kk_125 (by simp)]
theorem z125 {j : Int} (h0 : 0 ≤ j) (h1 : j < 800) : hF 125 j = 100 := by
  unfold hF hfil
  exact if_pos ⟨rfl, h0, h1⟩
theorem RW_F : RW hF := by
  unfold RW
  simp only [fv_116_45, fv_116_48, fv_116_14, fv_116_15]
  refine ⟨by decide, by decide, by decide, by decide, ?_, ?_, ?_, ?_, ?_, ?_, ?_, ?_, ?_⟩ <;> (intros; exfalso; omega)
theorem RS_F : RS hF := by
  unfold RS
  simp only [fv_116_65, fv_116_66]
  refine ⟨by decide, by decide, ?_, ?_⟩ <;> (intros; exfalso; omega)
theorem MN_F {A : Int → Int} {n : Int} : MN A 0 n := ⟨fun i j _ _ _ => by exfalso; omega, fun i _ _ => by exfalso; omega⟩
set_option maxHeartbeats 4000000 in
set_option maxRecDepth 100000 in
theorem CI_F : CI hF (fun _ => []) := ⟨zr_8.trans zr_117.symm,
  zr_9.trans zr_119.symm,
  zr_10.trans zr_120.symm,
  zr_11.trans zr_118.symm,
  zr_13.trans zr_121.symm,
  zr_14.trans zr_122.symm,
  zr_15.trans zr_123.symm,
  zr_42.trans zr_129.symm,
  zr_43.trans zr_130.symm,
  zr_44.trans zr_131.symm,
  zr_45.trans zr_132.symm,
  zr_46.trans zr_133.symm,
  zr_47.trans zr_134.symm,
  zr_48.trans zr_135.symm,
  zr_50.trans zr_137.symm,
  zr_51.trans zr_138.symm,
  zr_52.trans zr_139.symm,
  zr_54.trans zr_145.symm,
  zr_55.trans zr_146.symm,
  zr_56.trans zr_147.symm,
  zr_64.trans zr_150.symm,
  zr_65.trans zr_151.symm,
  zr_66.trans zr_152.symm,
  zr_67.trans zr_153.symm,
  zr_68.trans zr_154.symm,
  zr_69.trans zr_155.symm,
  zr_71.trans zr_156.symm,
  zr_72.trans zr_157.symm,
  zr_73.trans zr_158.symm,
  z74,
  zr_82.trans zr_140.symm,
  zr_83.trans zr_141.symm,
  zr_84.trans zr_143.symm,
  zr_85.trans zr_144.symm,
  zr_86.trans zr_142.symm,
  zr_88.trans zr_168.symm,
  zr_89.trans zr_169.symm,
  zr_90.trans zr_170.symm,
  zr_91.trans zr_171.symm,
  zr_92.trans zr_167.symm,
  zr_98.trans zr_174.symm,
  zr_99.trans zr_175.symm,
  fv_0_0.trans fv_116_1.symm,
  fv_7_4.trans fv_116_14.symm,
  fv_12_4.trans fv_116_15.symm,
  fv_1_1.trans fv_116_16.symm,
  fv_41_12.trans fv_116_45.symm,
  fv_53_3.trans fv_116_48.symm,
  fv_81_2.trans fv_116_46.symm,
  fv_81_6.trans fv_116_47.symm,
  fv_4_7.trans fv_116_65.symm,
  fv_70_3.trans fv_116_66.symm,
  fv_97_2.trans fv_116_88.symm,
  fv_7_0,
  fv_12_0,
  RW_F,
  RS_F,
  fun p h0 h1 => by rw [fv_116_15] at h1; exfalso; omega,
  ⟨by rw [fv_12_4]; decide, fun p h0 h1 => by rw [fv_12_4] at h1; exfalso; omega⟩,
  by rw [fv_116_1]; decide,
  fun k k0 k1 => by rw [fv_116_14] at k1; exfalso; omega,
  by rw [fv_116_48]; exact MN_F,
  by rw [fv_116_45]; exact MN_F,
  by rw [fv_116_65]; exact MN_F,
  by rw [fv_116_66]; exact MN_F,
  fun k k0 k1 => by rw [fv_116_45] at k1; exfalso; omega,
  by rw [fv_41_13, fv_116_45]; rfl,
  fun k k0 k1 => by rw [fv_116_48] at k1; exfalso; omega,
  ⟨by rw [zr_127, zr_2]; rfl, fun i => by rw [zr_2]; show (0 : Int) ≤ 0 ∧ (0 : Int) < 256; decide, by rw [fv_116_16]; decide⟩,
  ⟨by rw [fv_116_46]; decide, fun k k0 k1 => by rw [fv_116_46] at k1; exfalso; omega⟩,
  ⟨by rw [fv_116_47]; decide, fun k k0 k1 => by rw [fv_116_47] at k1; exfalso; omega⟩,
  fun k k0 k1 => by rw [fv_116_45] at k1; exfalso; omega,
  fun i _ => by rw [zr_137],
  fun i h0 h1 => by rw [z125 h0 h1]; decide,
  fun p _ _ => by rw [zr_167]; show (0 : Int) ≤ 0 ∧ (0 : Int) ≤ 4; decide,
  fun p _ _ q => by rw [zr_167] at q; exact (Int.lt_irrefl 0 q).elim,
  fun k _ _ => by rw [zr_168, zr_169, zr_170, zr_171]; show ((0 : Int) ≤ 0 ∧ (0 : Int) ≤ 1000000) ∧ ((0 : Int) ≤ 0 ∧ (0 : Int) < 100) ∧ ((0 : Int) ≤ 0 ∧ (0 : Int) < 16) ∧ ((0 : Int) ≤ 0 ∧ (0 : Int) < 8); decide,
  fun k k0 k1 => by rw [fv_116_15] at k1; exfalso; omega,
  fun k k0 k1 => by rw [fv_116_45] at k1; exfalso; omega,
  fun k k0 k1 => by rw [fv_116_65] at k1; exfalso; omega,
  ⟨by rw [fv_116_88]; decide, fun k k0 k1 => by rw [fv_116_88] at k1; exfalso; omega⟩⟩
theorem CLN_F : CLN hF := ⟨zr_76.trans zr_160.symm, zr_77.trans zr_162.symm, zr_78.trans zr_161.symm, zr_79.trans zr_163.symm, fv_4_15.trans fv_116_67.symm, fv_4_16.trans fv_116_68.symm, by rw [fv_116_67]; decide, fun s _ _ => by rw [zr_160]; show (0 : Int) ≤ 0 ∧ (0 : Int) ≤ 100000000; decide⟩
theorem LI_F : LI hF := ⟨_, CI_F, CLN_F⟩
theorem RTL_F : RTL.all (fun q => lkP q.1 q.2.1 PAL == some q.2.2 && decide (q.1 ≠ 74) && decide (q.1 ≠ 125)) = true := by decide +kernel
theorem RefOK_F : RefOK hF := by
  refine ⟨fun q hq => ?_, fun q hq i h0 h1 => ?_, fun j _ _ => by rw [zr_126]; show (-10000000 : Int) ≤ 0 ∧ (0 : Int) ≤ 10000000; decide⟩
  · have h := List.all_eq_true.mp RTL_F q hq
    rw [Bool.and_eq_true, Bool.and_eq_true] at h
    exact hF_at (eq_of_beq h.1.1) (of_decide_eq_true h.1.2) (of_decide_eq_true h.2)
  · simp only [RBL, List.mem_cons, List.not_mem_nil, or_false] at hq
    rcases hq with rfl | rfl | rfl
    · exact (hF_rr kk_16 (by decide +kernel) (by decide) (by decide)).trans (by simp)
    · exact (hF_rr kk_57 (by decide +kernel) (by decide) (by decide)).trans (by simp)
    · exact (hF_rr kk_101 (by decide +kernel) (by decide) (by decide)).trans (by simp)
theorem K0_end : K0.take 177 ++ [.inr (.long, 1)] = K0 := by
  rw [ktk (n := 177) (show K0[177]? = some (.inr (.long, 1)) by decide +kernel)]
  exact List.take_of_length_le (by have : K0.length = 178 := by decide +kernel
                                   omega)
set_option maxHeartbeats 4000000 in
set_option maxRecDepth 100000 in
theorem law_start {l : Launch} {G : GG} {d mc ms N : Nat} {xs : Nat → Int32} {Q : Option AV → List Kd → AH → Prop} (hl : l.stackTraces = false) (X : SCR G N xs) (hN : N ≤ 3584) (hd : 70 ≤ d) (hr : 5000 ≤ mc ∧ 60000 ≤ ms) (hq : ∀ h, Q (some (0, 1)) K0 h) : V l G mL_law d mc ms 0 0 (K0.take 0) 0 [(3, ((G.2.2.2.1 9 : Nat) : Int)), (9, 0), (9, 0), (9, 0), (9, 0), (9, 0), (9, 0)] [] hz Q := by
  have e11 : NF 11 = 9 := rfl
  have e12 : NF 12 = 91 := rfl
  have f0 : Fz 0 hz := fun _ _ _ => rfl
  refine n_obj (n := 0) (ci := 11) dL_law_0 (by decide +kernel) (by decide) (by decide) k_117 knew_X11 kini_X11 (by decide) hzo_0 (by omega) (by omega) ?_
  refine v_dup dL_law_3 rfl ?_
  refine v_calli (M' := mX11_init) (d' := d - 1) (mc' := 115) (ms' := 11766) (c := 0) (As := []) dL_law_4 k_119 cm_X11_init (by omega) (by decide) rfl ⟨by omega, by omega⟩ (i_X11_init_1 (by omega) (Fz_m (m := 1) f0 (by decide)) ?_)
  dsimp only [Option.toList, List.nil_append]
  have f1 : Fz 116 (hfil (putL P11 hz) 74 800 100) := Fz_f (Fz_p (Fz_m f0 (by decide)) (by decide)) (by decide)
  refine vhe (h' := hfil (putL P11 hz) 74 800 100) rfl ?_
  refine v_astore_n_1 dL_law_7 (by decide) rfl ?_
  refine n_obj (n := 116) (ci := 12) dL_law_8 (by decide +kernel) (by decide) (by decide) k_1410 knew_X12 kini_X12 (by decide) (fun j hj => (f1 116 j (by decide)).trans (hzo_116 j hj)) (by omega) (by omega) ?_
  refine v_dup dL_law_11 rfl ?_
  refine v_calli (M' := mX12_init) (d' := d - 1) (mc' := 60) (ms' := 11388) (c := 116) (As := []) dL_law_12 k_1412 cm_X12_init (by omega) (by decide) rfl ⟨by omega, by omega⟩ (i_X12_init_117 (by omega) (Fz_m f1 (by decide)) ?_)
  dsimp only [Option.toList, List.nil_append]
  refine vhe (h' := hF) hF_eq.symm ?_
  refine v_astore_n_2 dL_law_15 (by decide) rfl ?_
  refine v_iconst dL_law_16 (c32 rfl) ?_
  refine v_newarr (t := .long) (N := 1) dL_law_17 rfl karr_long (by simp) (fun _ _ q => q) rfl (by decide) (by decide) (fun j hj => ?_) (fun _ => RefOK_F) (by omega) (by omega) ?_
  · rw [kl (by decide)]
    have e0 : j = 0 := by omega
    subst e0
    exact (hF_no (c := 177) (j := 0) (by decide +kernel) (by decide) (by decide)).trans (hz_0 kk_177 (by simp))
  · rw [K0_end, kl (by decide)]
    refine v_astore_n_3 dL_law_19 (by decide) rfl ?_
    refine v_iconst dL_law_20 (c32 rfl) ?_
    refine v_istore_4 dL_law_21 (by decide) rfl ?_
    exact law_loop hl X hN hd hr hq 3600 0 _ _ _ _ _ (by omega) (by decide) (by decide) (by omega) (by omega) LI_F
