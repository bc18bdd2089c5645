/-! ===== the invariant (written by wip/whole/inv.py) ===== -/
def MN (A : Int → Int) (n now : Int) : Prop := (∀ i j, 0 ≤ i → i ≤ j → j < n → A i ≤ A j) ∧ ∀ i, 0 ≤ i → i < n → 0 ≤ A i ∧ A i ≤ now
def undF (A : Int → Int) (b : Int) : Int := if A b = 9999 then 0 else 1
/-- so many of b in a row of entries -/
def onF (of many : Int → Int) (b i : Int) : Int := if of i = b then many i else 0
def CI (h : AH) (cs : Int → List (Int × List Int)) : Prop :=
  (h 8 = h 117) ∧
  (h 9 = h 119) ∧
  (h 10 = h 120) ∧
  (h 11 = h 118) ∧
  (h 13 = h 121) ∧
  (h 14 = h 122) ∧
  (h 15 = h 123) ∧
  (h 42 = h 129) ∧
  (h 43 = h 130) ∧
  (h 44 = h 131) ∧
  (h 45 = h 132) ∧
  (h 46 = h 133) ∧
  (h 47 = h 134) ∧
  (h 48 = h 135) ∧
  (h 50 = h 137) ∧
  (h 51 = h 138) ∧
  (h 52 = h 139) ∧
  (h 54 = h 145) ∧
  (h 55 = h 146) ∧
  (h 56 = h 147) ∧
  (h 64 = h 150) ∧
  (h 65 = h 151) ∧
  (h 66 = h 152) ∧
  (h 67 = h 153) ∧
  (h 68 = h 154) ∧
  (h 69 = h 155) ∧
  (h 71 = h 156) ∧
  (h 72 = h 157) ∧
  (h 73 = h 158) ∧
  (h 74 = h 125) ∧
  (h 82 = h 140) ∧
  (h 83 = h 141) ∧
  (h 84 = h 143) ∧
  (h 85 = h 144) ∧
  (h 86 = h 142) ∧
  (h 88 = h 168) ∧
  (h 89 = h 169) ∧
  (h 90 = h 170) ∧
  (h 91 = h 171) ∧
  (h 92 = h 167) ∧
  (h 98 = h 174) ∧
  (h 99 = h 175) ∧
  (h 0 0 = h 116 1) ∧
  (h 7 4 = h 116 14) ∧
  (h 12 4 = h 116 15) ∧
  (h 1 1 = h 116 16) ∧
  (h 41 12 = h 116 45) ∧
  (h 53 3 = h 116 48) ∧
  (h 81 2 = h 116 46) ∧
  (h 81 6 = h 116 47) ∧
  (h 4 7 = h 116 65) ∧
  (h 70 3 = h 116 66) ∧
  (h 97 2 = h 116 88) ∧
  (h 7 0 = 40) ∧
  (h 12 0 = 20) ∧
  (RW h) ∧
  (RS h) ∧
  (TX h cs) ∧
  (CX h cs) ∧
  (0 ≤ h 116 1 ∧ h 116 1 ≤ 2000) ∧
  (∀ i, 0 ≤ i → i < h 116 14 → 0 ≤ h 118 i ∧ h 118 i < 256) ∧
  (MN (h 147) (h 116 48) (h 116 1)) ∧
  (MN (h 134) (h 116 45) (h 116 1)) ∧
  (MN (h 155) (h 116 65) (h 116 1)) ∧
  (MN (h 158) (h 116 66) (h 116 1)) ∧
  (∀ b, 0 ≤ b → b < h 116 45 → (h 49 b = -1 ∧ h 136 b = 9999) ∨ (h 49 b = h 136 b ∧ 0 ≤ h 49 b ∧ h 49 b ≤ h 116 1)) ∧
  (h 41 13 = sm (undF (h 136)) (h 116 45)) ∧
  (∀ k, 0 ≤ k → k < h 116 48 → 0 ≤ h 145 k ∧ h 145 k < h 116 45) ∧
  (h 127 = (fun i => s8 (h 2 i)) ∧ (∀ i, 0 ≤ h 2 i ∧ h 2 i < 256) ∧ 0 ≤ h 116 16 ∧ h 116 16 ≤ 200) ∧
  ((0 ≤ h 116 46 ∧ h 116 46 ≤ 6) ∧ ∀ i, 0 ≤ i → i < h 116 46 → (0 ≤ h 140 i ∧ h 140 i < h 116 45) ∧ (1 ≤ h 141 i ∧ h 141 i ≤ 10000)) ∧
  ((0 ≤ h 116 47 ∧ h 116 47 ≤ 100) ∧ ∀ k, 0 ≤ k → k < h 116 47 → (0 ≤ h 143 k ∧ h 143 k < 6) ∧ (0 ≤ h 144 k ∧ h 144 k < h 116 45) ∧ (0 ≤ h 142 k ∧ h 142 k ≤ 10000)) ∧
  (∀ b, 0 ≤ b → b < h 116 45 → 0 ≤ h 133 b ∧ h 133 b + sm (onF (h 140) (h 141) b) (h 116 46) + sm (onF (h 144) (h 142) b) (h 116 47) ≤ h 132 b) ∧
  (∀ i, h 116 45 ≤ i → h 137 i = 0) ∧
  (∀ i, 0 ≤ i → i < 800 → 0 ≤ h 125 i ∧ h 125 i ≤ 1000) ∧
  (∀ p, 0 ≤ p → p < 4 → 0 ≤ h 167 p ∧ h 167 p ≤ 4) ∧
  (∀ p, 0 ≤ p → p < 3 → 0 < h 167 (p + 1) → 0 < h 167 p) ∧
  (∀ k, 0 ≤ k → k < 16 → (0 ≤ h 168 k ∧ h 168 k ≤ 1000000) ∧ (0 ≤ h 169 k ∧ h 169 k < 100) ∧ (0 ≤ h 170 k ∧ h 170 k < 16) ∧ (0 ≤ h 171 k ∧ h 171 k < 8)) ∧
  (∀ p, 0 ≤ p → p < h 116 15 → 0 ≤ h 121 p ∧ h 121 p < 4) ∧
  (∀ b, 0 ≤ b → b < h 116 45 → h 135 b = -1 → h 137 b = 0) ∧
  (∀ s, 0 ≤ s → s < h 116 65 → h 134 (h 150 s) ≤ h 155 s) ∧
  ((0 ≤ h 116 88 ∧ h 116 88 ≤ 60) ∧ ∀ k, 0 ≤ k → k < h 116 88 → 1 ≤ h 175 k ∧ h 175 k ≤ 10000)
theorem CI.e8 {h : AH} {cs : Int → List (Int × List Int)} (I : CI h cs) : h 8 = h 117 := I.1
theorem CI.e9 {h : AH} {cs : Int → List (Int × List Int)} (I : CI h cs) : h 9 = h 119 := I.2.1
theorem CI.e10 {h : AH} {cs : Int → List (Int × List Int)} (I : CI h cs) : h 10 = h 120 := I.2.2.1
theorem CI.e11 {h : AH} {cs : Int → List (Int × List Int)} (I : CI h cs) : h 11 = h 118 := I.2.2.2.1
theorem CI.e13 {h : AH} {cs : Int → List (Int × List Int)} (I : CI h cs) : h 13 = h 121 := I.2.2.2.2.1
theorem CI.e14 {h : AH} {cs : Int → List (Int × List Int)} (I : CI h cs) : h 14 = h 122 := I.2.2.2.2.2.1
theorem CI.e15 {h : AH} {cs : Int → List (Int × List Int)} (I : CI h cs) : h 15 = h 123 := I.2.2.2.2.2.2.1
theorem CI.e42 {h : AH} {cs : Int → List (Int × List Int)} (I : CI h cs) : h 42 = h 129 := I.2.2.2.2.2.2.2.1
theorem CI.e43 {h : AH} {cs : Int → List (Int × List Int)} (I : CI h cs) : h 43 = h 130 := I.2.2.2.2.2.2.2.2.1
theorem CI.e44 {h : AH} {cs : Int → List (Int × List Int)} (I : CI h cs) : h 44 = h 131 := I.2.2.2.2.2.2.2.2.2.1
theorem CI.e45 {h : AH} {cs : Int → List (Int × List Int)} (I : CI h cs) : h 45 = h 132 := I.2.2.2.2.2.2.2.2.2.2.1
theorem CI.e46 {h : AH} {cs : Int → List (Int × List Int)} (I : CI h cs) : h 46 = h 133 := I.2.2.2.2.2.2.2.2.2.2.2.1
theorem CI.e47 {h : AH} {cs : Int → List (Int × List Int)} (I : CI h cs) : h 47 = h 134 := I.2.2.2.2.2.2.2.2.2.2.2.2.1
theorem CI.e48 {h : AH} {cs : Int → List (Int × List Int)} (I : CI h cs) : h 48 = h 135 := I.2.2.2.2.2.2.2.2.2.2.2.2.2.1
theorem CI.e50 {h : AH} {cs : Int → List (Int × List Int)} (I : CI h cs) : h 50 = h 137 := I.2.2.2.2.2.2.2.2.2.2.2.2.2.2.1
theorem CI.e51 {h : AH} {cs : Int → List (Int × List Int)} (I : CI h cs) : h 51 = h 138 := I.2.2.2.2.2.2.2.2.2.2.2.2.2.2.2.1
theorem CI.e52 {h : AH} {cs : Int → List (Int × List Int)} (I : CI h cs) : h 52 = h 139 := I.2.2.2.2.2.2.2.2.2.2.2.2.2.2.2.2.1
theorem CI.e54 {h : AH} {cs : Int → List (Int × List Int)} (I : CI h cs) : h 54 = h 145 := I.2.2.2.2.2.2.2.2.2.2.2.2.2.2.2.2.2.1
theorem CI.e55 {h : AH} {cs : Int → List (Int × List Int)} (I : CI h cs) : h 55 = h 146 := I.2.2.2.2.2.2.2.2.2.2.2.2.2.2.2.2.2.2.1
theorem CI.e56 {h : AH} {cs : Int → List (Int × List Int)} (I : CI h cs) : h 56 = h 147 := I.2.2.2.2.2.2.2.2.2.2.2.2.2.2.2.2.2.2.2.1
theorem CI.e64 {h : AH} {cs : Int → List (Int × List Int)} (I : CI h cs) : h 64 = h 150 := I.2.2.2.2.2.2.2.2.2.2.2.2.2.2.2.2.2.2.2.2.1
theorem CI.e65 {h : AH} {cs : Int → List (Int × List Int)} (I : CI h cs) : h 65 = h 151 := I.2.2.2.2.2.2.2.2.2.2.2.2.2.2.2.2.2.2.2.2.2.1
theorem CI.e66 {h : AH} {cs : Int → List (Int × List Int)} (I : CI h cs) : h 66 = h 152 := I.2.2.2.2.2.2.2.2.2.2.2.2.2.2.2.2.2.2.2.2.2.2.1
theorem CI.e67 {h : AH} {cs : Int → List (Int × List Int)} (I : CI h cs) : h 67 = h 153 := I.2.2.2.2.2.2.2.2.2.2.2.2.2.2.2.2.2.2.2.2.2.2.2.1
theorem CI.e68 {h : AH} {cs : Int → List (Int × List Int)} (I : CI h cs) : h 68 = h 154 := I.2.2.2.2.2.2.2.2.2.2.2.2.2.2.2.2.2.2.2.2.2.2.2.2.1
theorem CI.e69 {h : AH} {cs : Int → List (Int × List Int)} (I : CI h cs) : h 69 = h 155 := I.2.2.2.2.2.2.2.2.2.2.2.2.2.2.2.2.2.2.2.2.2.2.2.2.2.1
theorem CI.e71 {h : AH} {cs : Int → List (Int × List Int)} (I : CI h cs) : h 71 = h 156 := I.2.2.2.2.2.2.2.2.2.2.2.2.2.2.2.2.2.2.2.2.2.2.2.2.2.2.1
theorem CI.e72 {h : AH} {cs : Int → List (Int × List Int)} (I : CI h cs) : h 72 = h 157 := I.2.2.2.2.2.2.2.2.2.2.2.2.2.2.2.2.2.2.2.2.2.2.2.2.2.2.2.1
theorem CI.e73 {h : AH} {cs : Int → List (Int × List Int)} (I : CI h cs) : h 73 = h 158 := I.2.2.2.2.2.2.2.2.2.2.2.2.2.2.2.2.2.2.2.2.2.2.2.2.2.2.2.2.1
theorem CI.e74 {h : AH} {cs : Int → List (Int × List Int)} (I : CI h cs) : h 74 = h 125 := I.2.2.2.2.2.2.2.2.2.2.2.2.2.2.2.2.2.2.2.2.2.2.2.2.2.2.2.2.2.1
theorem CI.e82 {h : AH} {cs : Int → List (Int × List Int)} (I : CI h cs) : h 82 = h 140 := I.2.2.2.2.2.2.2.2.2.2.2.2.2.2.2.2.2.2.2.2.2.2.2.2.2.2.2.2.2.2.1
theorem CI.e83 {h : AH} {cs : Int → List (Int × List Int)} (I : CI h cs) : h 83 = h 141 := I.2.2.2.2.2.2.2.2.2.2.2.2.2.2.2.2.2.2.2.2.2.2.2.2.2.2.2.2.2.2.2.1
theorem CI.e84 {h : AH} {cs : Int → List (Int × List Int)} (I : CI h cs) : h 84 = h 143 := I.2.2.2.2.2.2.2.2.2.2.2.2.2.2.2.2.2.2.2.2.2.2.2.2.2.2.2.2.2.2.2.2.1
theorem CI.e85 {h : AH} {cs : Int → List (Int × List Int)} (I : CI h cs) : h 85 = h 144 := I.2.2.2.2.2.2.2.2.2.2.2.2.2.2.2.2.2.2.2.2.2.2.2.2.2.2.2.2.2.2.2.2.2.1
theorem CI.e86 {h : AH} {cs : Int → List (Int × List Int)} (I : CI h cs) : h 86 = h 142 := I.2.2.2.2.2.2.2.2.2.2.2.2.2.2.2.2.2.2.2.2.2.2.2.2.2.2.2.2.2.2.2.2.2.2.1
theorem CI.e88 {h : AH} {cs : Int → List (Int × List Int)} (I : CI h cs) : h 88 = h 168 := I.2.2.2.2.2.2.2.2.2.2.2.2.2.2.2.2.2.2.2.2.2.2.2.2.2.2.2.2.2.2.2.2.2.2.2.1
theorem CI.e89 {h : AH} {cs : Int → List (Int × List Int)} (I : CI h cs) : h 89 = h 169 := I.2.2.2.2.2.2.2.2.2.2.2.2.2.2.2.2.2.2.2.2.2.2.2.2.2.2.2.2.2.2.2.2.2.2.2.2.1
theorem CI.e90 {h : AH} {cs : Int → List (Int × List Int)} (I : CI h cs) : h 90 = h 170 := I.2.2.2.2.2.2.2.2.2.2.2.2.2.2.2.2.2.2.2.2.2.2.2.2.2.2.2.2.2.2.2.2.2.2.2.2.2.1
theorem CI.e91 {h : AH} {cs : Int → List (Int × List Int)} (I : CI h cs) : h 91 = h 171 := I.2.2.2.2.2.2.2.2.2.2.2.2.2.2.2.2.2.2.2.2.2.2.2.2.2.2.2.2.2.2.2.2.2.2.2.2.2.2.1
theorem CI.e92 {h : AH} {cs : Int → List (Int × List Int)} (I : CI h cs) : h 92 = h 167 := I.2.2.2.2.2.2.2.2.2.2.2.2.2.2.2.2.2.2.2.2.2.2.2.2.2.2.2.2.2.2.2.2.2.2.2.2.2.2.2.1
theorem CI.e98 {h : AH} {cs : Int → List (Int × List Int)} (I : CI h cs) : h 98 = h 174 := I.2.2.2.2.2.2.2.2.2.2.2.2.2.2.2.2.2.2.2.2.2.2.2.2.2.2.2.2.2.2.2.2.2.2.2.2.2.2.2.2.1
theorem CI.e99 {h : AH} {cs : Int → List (Int × List Int)} (I : CI h cs) : h 99 = h 175 := I.2.2.2.2.2.2.2.2.2.2.2.2.2.2.2.2.2.2.2.2.2.2.2.2.2.2.2.2.2.2.2.2.2.2.2.2.2.2.2.2.2.1
theorem CI.f0_0 {h : AH} {cs : Int → List (Int × List Int)} (I : CI h cs) : h 0 0 = h 116 1 := I.2.2.2.2.2.2.2.2.2.2.2.2.2.2.2.2.2.2.2.2.2.2.2.2.2.2.2.2.2.2.2.2.2.2.2.2.2.2.2.2.2.2.1
theorem CI.f7_4 {h : AH} {cs : Int → List (Int × List Int)} (I : CI h cs) : h 7 4 = h 116 14 := I.2.2.2.2.2.2.2.2.2.2.2.2.2.2.2.2.2.2.2.2.2.2.2.2.2.2.2.2.2.2.2.2.2.2.2.2.2.2.2.2.2.2.2.1
theorem CI.f12_4 {h : AH} {cs : Int → List (Int × List Int)} (I : CI h cs) : h 12 4 = h 116 15 := I.2.2.2.2.2.2.2.2.2.2.2.2.2.2.2.2.2.2.2.2.2.2.2.2.2.2.2.2.2.2.2.2.2.2.2.2.2.2.2.2.2.2.2.2.1
theorem CI.f1_1 {h : AH} {cs : Int → List (Int × List Int)} (I : CI h cs) : h 1 1 = h 116 16 := I.2.2.2.2.2.2.2.2.2.2.2.2.2.2.2.2.2.2.2.2.2.2.2.2.2.2.2.2.2.2.2.2.2.2.2.2.2.2.2.2.2.2.2.2.2.1
theorem CI.f41_12 {h : AH} {cs : Int → List (Int × List Int)} (I : CI h cs) : h 41 12 = h 116 45 := I.2.2.2.2.2.2.2.2.2.2.2.2.2.2.2.2.2.2.2.2.2.2.2.2.2.2.2.2.2.2.2.2.2.2.2.2.2.2.2.2.2.2.2.2.2.2.1
theorem CI.f53_3 {h : AH} {cs : Int → List (Int × List Int)} (I : CI h cs) : h 53 3 = h 116 48 := I.2.2.2.2.2.2.2.2.2.2.2.2.2.2.2.2.2.2.2.2.2.2.2.2.2.2.2.2.2.2.2.2.2.2.2.2.2.2.2.2.2.2.2.2.2.2.2.1
theorem CI.f81_2 {h : AH} {cs : Int → List (Int × List Int)} (I : CI h cs) : h 81 2 = h 116 46 := I.2.2.2.2.2.2.2.2.2.2.2.2.2.2.2.2.2.2.2.2.2.2.2.2.2.2.2.2.2.2.2.2.2.2.2.2.2.2.2.2.2.2.2.2.2.2.2.2.1
theorem CI.f81_6 {h : AH} {cs : Int → List (Int × List Int)} (I : CI h cs) : h 81 6 = h 116 47 := I.2.2.2.2.2.2.2.2.2.2.2.2.2.2.2.2.2.2.2.2.2.2.2.2.2.2.2.2.2.2.2.2.2.2.2.2.2.2.2.2.2.2.2.2.2.2.2.2.2.1
theorem CI.f4_7 {h : AH} {cs : Int → List (Int × List Int)} (I : CI h cs) : h 4 7 = h 116 65 := I.2.2.2.2.2.2.2.2.2.2.2.2.2.2.2.2.2.2.2.2.2.2.2.2.2.2.2.2.2.2.2.2.2.2.2.2.2.2.2.2.2.2.2.2.2.2.2.2.2.2.1
theorem CI.f70_3 {h : AH} {cs : Int → List (Int × List Int)} (I : CI h cs) : h 70 3 = h 116 66 := I.2.2.2.2.2.2.2.2.2.2.2.2.2.2.2.2.2.2.2.2.2.2.2.2.2.2.2.2.2.2.2.2.2.2.2.2.2.2.2.2.2.2.2.2.2.2.2.2.2.2.2.1
theorem CI.f97_2 {h : AH} {cs : Int → List (Int × List Int)} (I : CI h cs) : h 97 2 = h 116 88 := I.2.2.2.2.2.2.2.2.2.2.2.2.2.2.2.2.2.2.2.2.2.2.2.2.2.2.2.2.2.2.2.2.2.2.2.2.2.2.2.2.2.2.2.2.2.2.2.2.2.2.2.2.1
theorem CI.k7 {h : AH} {cs : Int → List (Int × List Int)} (I : CI h cs) : h 7 0 = 40 := I.2.2.2.2.2.2.2.2.2.2.2.2.2.2.2.2.2.2.2.2.2.2.2.2.2.2.2.2.2.2.2.2.2.2.2.2.2.2.2.2.2.2.2.2.2.2.2.2.2.2.2.2.2.1
theorem CI.k12 {h : AH} {cs : Int → List (Int × List Int)} (I : CI h cs) : h 12 0 = 20 := I.2.2.2.2.2.2.2.2.2.2.2.2.2.2.2.2.2.2.2.2.2.2.2.2.2.2.2.2.2.2.2.2.2.2.2.2.2.2.2.2.2.2.2.2.2.2.2.2.2.2.2.2.2.2.1
theorem CI.W {h : AH} {cs : Int → List (Int × List Int)} (I : CI h cs) : RW h := I.2.2.2.2.2.2.2.2.2.2.2.2.2.2.2.2.2.2.2.2.2.2.2.2.2.2.2.2.2.2.2.2.2.2.2.2.2.2.2.2.2.2.2.2.2.2.2.2.2.2.2.2.2.2.2.1
theorem CI.S {h : AH} {cs : Int → List (Int × List Int)} (I : CI h cs) : RS h := I.2.2.2.2.2.2.2.2.2.2.2.2.2.2.2.2.2.2.2.2.2.2.2.2.2.2.2.2.2.2.2.2.2.2.2.2.2.2.2.2.2.2.2.2.2.2.2.2.2.2.2.2.2.2.2.2.1
theorem CI.T {h : AH} {cs : Int → List (Int × List Int)} (I : CI h cs) : TX h cs := I.2.2.2.2.2.2.2.2.2.2.2.2.2.2.2.2.2.2.2.2.2.2.2.2.2.2.2.2.2.2.2.2.2.2.2.2.2.2.2.2.2.2.2.2.2.2.2.2.2.2.2.2.2.2.2.2.2.1
theorem CI.X {h : AH} {cs : Int → List (Int × List Int)} (I : CI h cs) : CX h cs := I.2.2.2.2.2.2.2.2.2.2.2.2.2.2.2.2.2.2.2.2.2.2.2.2.2.2.2.2.2.2.2.2.2.2.2.2.2.2.2.2.2.2.2.2.2.2.2.2.2.2.2.2.2.2.2.2.2.2.1
theorem CI.now {h : AH} {cs : Int → List (Int × List Int)} (I : CI h cs) : 0 ≤ h 116 1 ∧ h 116 1 ≤ 2000 := I.2.2.2.2.2.2.2.2.2.2.2.2.2.2.2.2.2.2.2.2.2.2.2.2.2.2.2.2.2.2.2.2.2.2.2.2.2.2.2.2.2.2.2.2.2.2.2.2.2.2.2.2.2.2.2.2.2.2.2.1
theorem CI.il {h : AH} {cs : Int → List (Int × List Int)} (I : CI h cs) : ∀ i, 0 ≤ i → i < h 116 14 → 0 ≤ h 118 i ∧ h 118 i < 256 := I.2.2.2.2.2.2.2.2.2.2.2.2.2.2.2.2.2.2.2.2.2.2.2.2.2.2.2.2.2.2.2.2.2.2.2.2.2.2.2.2.2.2.2.2.2.2.2.2.2.2.2.2.2.2.2.2.2.2.2.2.1
theorem CI.m147 {h : AH} {cs : Int → List (Int × List Int)} (I : CI h cs) : MN (h 147) (h 116 48) (h 116 1) := I.2.2.2.2.2.2.2.2.2.2.2.2.2.2.2.2.2.2.2.2.2.2.2.2.2.2.2.2.2.2.2.2.2.2.2.2.2.2.2.2.2.2.2.2.2.2.2.2.2.2.2.2.2.2.2.2.2.2.2.2.2.1
theorem CI.m134 {h : AH} {cs : Int → List (Int × List Int)} (I : CI h cs) : MN (h 134) (h 116 45) (h 116 1) := I.2.2.2.2.2.2.2.2.2.2.2.2.2.2.2.2.2.2.2.2.2.2.2.2.2.2.2.2.2.2.2.2.2.2.2.2.2.2.2.2.2.2.2.2.2.2.2.2.2.2.2.2.2.2.2.2.2.2.2.2.2.2.1
theorem CI.m155 {h : AH} {cs : Int → List (Int × List Int)} (I : CI h cs) : MN (h 155) (h 116 65) (h 116 1) := I.2.2.2.2.2.2.2.2.2.2.2.2.2.2.2.2.2.2.2.2.2.2.2.2.2.2.2.2.2.2.2.2.2.2.2.2.2.2.2.2.2.2.2.2.2.2.2.2.2.2.2.2.2.2.2.2.2.2.2.2.2.2.2.1
theorem CI.m158 {h : AH} {cs : Int → List (Int × List Int)} (I : CI h cs) : MN (h 158) (h 116 66) (h 116 1) := I.2.2.2.2.2.2.2.2.2.2.2.2.2.2.2.2.2.2.2.2.2.2.2.2.2.2.2.2.2.2.2.2.2.2.2.2.2.2.2.2.2.2.2.2.2.2.2.2.2.2.2.2.2.2.2.2.2.2.2.2.2.2.2.2.1
theorem CI.iu {h : AH} {cs : Int → List (Int × List Int)} (I : CI h cs) : ∀ b, 0 ≤ b → b < h 116 45 → (h 49 b = -1 ∧ h 136 b = 9999) ∨ (h 49 b = h 136 b ∧ 0 ≤ h 49 b ∧ h 49 b ≤ h 116 1) := I.2.2.2.2.2.2.2.2.2.2.2.2.2.2.2.2.2.2.2.2.2.2.2.2.2.2.2.2.2.2.2.2.2.2.2.2.2.2.2.2.2.2.2.2.2.2.2.2.2.2.2.2.2.2.2.2.2.2.2.2.2.2.2.2.2.1
theorem CI.un {h : AH} {cs : Int → List (Int × List Int)} (I : CI h cs) : h 41 13 = sm (undF (h 136)) (h 116 45) := I.2.2.2.2.2.2.2.2.2.2.2.2.2.2.2.2.2.2.2.2.2.2.2.2.2.2.2.2.2.2.2.2.2.2.2.2.2.2.2.2.2.2.2.2.2.2.2.2.2.2.2.2.2.2.2.2.2.2.2.2.2.2.2.2.2.2.1
theorem CI.ma {h : AH} {cs : Int → List (Int × List Int)} (I : CI h cs) : ∀ k, 0 ≤ k → k < h 116 48 → 0 ≤ h 145 k ∧ h 145 k < h 116 45 := I.2.2.2.2.2.2.2.2.2.2.2.2.2.2.2.2.2.2.2.2.2.2.2.2.2.2.2.2.2.2.2.2.2.2.2.2.2.2.2.2.2.2.2.2.2.2.2.2.2.2.2.2.2.2.2.2.2.2.2.2.2.2.2.2.2.2.2.1
theorem CI.tp {h : AH} {cs : Int → List (Int × List Int)} (I : CI h cs) : h 127 = (fun i => s8 (h 2 i)) ∧ (∀ i, 0 ≤ h 2 i ∧ h 2 i < 256) ∧ 0 ≤ h 116 16 ∧ h 116 16 ≤ 200 := I.2.2.2.2.2.2.2.2.2.2.2.2.2.2.2.2.2.2.2.2.2.2.2.2.2.2.2.2.2.2.2.2.2.2.2.2.2.2.2.2.2.2.2.2.2.2.2.2.2.2.2.2.2.2.2.2.2.2.2.2.2.2.2.2.2.2.2.2.1
theorem CI.bn {h : AH} {cs : Int → List (Int × List Int)} (I : CI h cs) : (0 ≤ h 116 46 ∧ h 116 46 ≤ 6) ∧ ∀ i, 0 ≤ i → i < h 116 46 → (0 ≤ h 140 i ∧ h 140 i < h 116 45) ∧ (1 ≤ h 141 i ∧ h 141 i ≤ 10000) := I.2.2.2.2.2.2.2.2.2.2.2.2.2.2.2.2.2.2.2.2.2.2.2.2.2.2.2.2.2.2.2.2.2.2.2.2.2.2.2.2.2.2.2.2.2.2.2.2.2.2.2.2.2.2.2.2.2.2.2.2.2.2.2.2.2.2.2.2.2.1
theorem CI.po {h : AH} {cs : Int → List (Int × List Int)} (I : CI h cs) : (0 ≤ h 116 47 ∧ h 116 47 ≤ 100) ∧ ∀ k, 0 ≤ k → k < h 116 47 → (0 ≤ h 143 k ∧ h 143 k < 6) ∧ (0 ≤ h 144 k ∧ h 144 k < h 116 45) ∧ (0 ≤ h 142 k ∧ h 142 k ≤ 10000) := I.2.2.2.2.2.2.2.2.2.2.2.2.2.2.2.2.2.2.2.2.2.2.2.2.2.2.2.2.2.2.2.2.2.2.2.2.2.2.2.2.2.2.2.2.2.2.2.2.2.2.2.2.2.2.2.2.2.2.2.2.2.2.2.2.2.2.2.2.2.2.1
theorem CI.co {h : AH} {cs : Int → List (Int × List Int)} (I : CI h cs) : ∀ b, 0 ≤ b → b < h 116 45 → 0 ≤ h 133 b ∧ h 133 b + sm (onF (h 140) (h 141) b) (h 116 46) + sm (onF (h 144) (h 142) b) (h 116 47) ≤ h 132 b := I.2.2.2.2.2.2.2.2.2.2.2.2.2.2.2.2.2.2.2.2.2.2.2.2.2.2.2.2.2.2.2.2.2.2.2.2.2.2.2.2.2.2.2.2.2.2.2.2.2.2.2.2.2.2.2.2.2.2.2.2.2.2.2.2.2.2.2.2.2.2.2.1
theorem CI.en {h : AH} {cs : Int → List (Int × List Int)} (I : CI h cs) : ∀ i, h 116 45 ≤ i → h 137 i = 0 := I.2.2.2.2.2.2.2.2.2.2.2.2.2.2.2.2.2.2.2.2.2.2.2.2.2.2.2.2.2.2.2.2.2.2.2.2.2.2.2.2.2.2.2.2.2.2.2.2.2.2.2.2.2.2.2.2.2.2.2.2.2.2.2.2.2.2.2.2.2.2.2.2.1
theorem CI.ta {h : AH} {cs : Int → List (Int × List Int)} (I : CI h cs) : ∀ i, 0 ≤ i → i < 800 → 0 ≤ h 125 i ∧ h 125 i ≤ 1000 := I.2.2.2.2.2.2.2.2.2.2.2.2.2.2.2.2.2.2.2.2.2.2.2.2.2.2.2.2.2.2.2.2.2.2.2.2.2.2.2.2.2.2.2.2.2.2.2.2.2.2.2.2.2.2.2.2.2.2.2.2.2.2.2.2.2.2.2.2.2.2.2.2.2.1
theorem CI.ofn {h : AH} {cs : Int → List (Int × List Int)} (I : CI h cs) : ∀ p, 0 ≤ p → p < 4 → 0 ≤ h 167 p ∧ h 167 p ≤ 4 := I.2.2.2.2.2.2.2.2.2.2.2.2.2.2.2.2.2.2.2.2.2.2.2.2.2.2.2.2.2.2.2.2.2.2.2.2.2.2.2.2.2.2.2.2.2.2.2.2.2.2.2.2.2.2.2.2.2.2.2.2.2.2.2.2.2.2.2.2.2.2.2.2.2.2.1
theorem CI.ofc {h : AH} {cs : Int → List (Int × List Int)} (I : CI h cs) : ∀ p, 0 ≤ p → p < 3 → 0 < h 167 (p + 1) → 0 < h 167 p := I.2.2.2.2.2.2.2.2.2.2.2.2.2.2.2.2.2.2.2.2.2.2.2.2.2.2.2.2.2.2.2.2.2.2.2.2.2.2.2.2.2.2.2.2.2.2.2.2.2.2.2.2.2.2.2.2.2.2.2.2.2.2.2.2.2.2.2.2.2.2.2.2.2.2.2.1
theorem CI.ofk {h : AH} {cs : Int → List (Int × List Int)} (I : CI h cs) : ∀ k, 0 ≤ k → k < 16 → (0 ≤ h 168 k ∧ h 168 k ≤ 1000000) ∧ (0 ≤ h 169 k ∧ h 169 k < 100) ∧ (0 ≤ h 170 k ∧ h 170 k < 16) ∧ (0 ≤ h 171 k ∧ h 171 k < 8) := I.2.2.2.2.2.2.2.2.2.2.2.2.2.2.2.2.2.2.2.2.2.2.2.2.2.2.2.2.2.2.2.2.2.2.2.2.2.2.2.2.2.2.2.2.2.2.2.2.2.2.2.2.2.2.2.2.2.2.2.2.2.2.2.2.2.2.2.2.2.2.2.2.2.2.2.2.1
theorem CI.tw {h : AH} {cs : Int → List (Int × List Int)} (I : CI h cs) : ∀ p, 0 ≤ p → p < h 116 15 → 0 ≤ h 121 p ∧ h 121 p < 4 := I.2.2.2.2.2.2.2.2.2.2.2.2.2.2.2.2.2.2.2.2.2.2.2.2.2.2.2.2.2.2.2.2.2.2.2.2.2.2.2.2.2.2.2.2.2.2.2.2.2.2.2.2.2.2.2.2.2.2.2.2.2.2.2.2.2.2.2.2.2.2.2.2.2.2.2.2.2.1
theorem CI.gr {h : AH} {cs : Int → List (Int × List Int)} (I : CI h cs) : ∀ b, 0 ≤ b → b < h 116 45 → h 135 b = -1 → h 137 b = 0 := I.2.2.2.2.2.2.2.2.2.2.2.2.2.2.2.2.2.2.2.2.2.2.2.2.2.2.2.2.2.2.2.2.2.2.2.2.2.2.2.2.2.2.2.2.2.2.2.2.2.2.2.2.2.2.2.2.2.2.2.2.2.2.2.2.2.2.2.2.2.2.2.2.2.2.2.2.2.2.1
theorem CI.sd {h : AH} {cs : Int → List (Int × List Int)} (I : CI h cs) : ∀ s, 0 ≤ s → s < h 116 65 → h 134 (h 150 s) ≤ h 155 s := I.2.2.2.2.2.2.2.2.2.2.2.2.2.2.2.2.2.2.2.2.2.2.2.2.2.2.2.2.2.2.2.2.2.2.2.2.2.2.2.2.2.2.2.2.2.2.2.2.2.2.2.2.2.2.2.2.2.2.2.2.2.2.2.2.2.2.2.2.2.2.2.2.2.2.2.2.2.2.2.1
theorem CI.wo {h : AH} {cs : Int → List (Int × List Int)} (I : CI h cs) : (0 ≤ h 116 88 ∧ h 116 88 ≤ 60) ∧ ∀ k, 0 ≤ k → k < h 116 88 → 1 ≤ h 175 k ∧ h 175 k ≤ 10000 := I.2.2.2.2.2.2.2.2.2.2.2.2.2.2.2.2.2.2.2.2.2.2.2.2.2.2.2.2.2.2.2.2.2.2.2.2.2.2.2.2.2.2.2.2.2.2.2.2.2.2.2.2.2.2.2.2.2.2.2.2.2.2.2.2.2.2.2.2.2.2.2.2.2.2.2.2.2.2.2.2
/-- a place that is no scratch, of the class or of the reference -/
abbrev lS (c j : Int) : Prop := (76 ≤ c ∧ c ≤ 79) ∨ (160 ≤ c ∧ c ≤ 163) ∨ (c = 4 ∧ (j = 15 ∨ j = 16)) ∨ (c = 116 ∧ (j = 67 ∨ j = 68))
abbrev nS (c j : Int) : Prop := (¬ cS c j ∧ ¬ kS c j ∧ ¬ (c = 148 ∨ c = 126 ∨ (c = 116 ∧ 17 ≤ j ∧ j ≤ 25))) ∧ ¬ lS c j
def Ag (h h' : AH) : Prop := ∀ c j, nS c j → h' c j = h c j
theorem Ag_0 {h : AH} : Ag h h := fun _ _ _ => rfl
theorem Ag_t {h h1 h2 : AH} (a : Ag h h1) (b : Ag h1 h2) : Ag h h2 := fun c j q => (b c j q).trans (a c j q)
theorem Ag_cst {h F : AH} : Ag h (cst h F) := fun _ _ q => cst_c q.1.1
theorem Ag_kst {h F : AH} : Ag h (kst h F) := fun _ _ q => kst_c q.1.2.1
theorem Ag_jst {h : AH} {z O L : Int → Int} : Ag h (jst h z O L) := fun c j q => by
  unfold jst
  rw [if_neg (fun e => q.1.2.2 (Or.inr (Or.inr e))), if_neg (fun e => q.1.2.2 (Or.inl e)), if_neg (fun e => q.1.2.2 (Or.inr (Or.inl e)))]
theorem Ag_s {h : AH} {c j x : Int} (q : ¬ nS c j) : Ag h (hset h c j x) := fun a b e => hset_ne h (fun z => q (by rw [← z.1, ← z.2]; exact e))
theorem Ag_hs {h h' : AH} {c j x : Int} (a : Ag h h') : Ag (hset h c j x) (hset h' c j x) := fun u v e => by
  unfold hset
  by_cases q : u = c ∧ v = j
  · rw [if_pos q, if_pos q]
  · rw [if_neg q, if_neg q]; exact a u v e
theorem Ag_ov {h h' : AH} {c : Int} {R : Int → Int} (a : Ag h h') : Ag (ov1 h c R) (ov1 h' c R) := fun u v e => by
  unfold ov1
  by_cases q : u = c
  · rw [if_pos q, if_pos q]
  · rw [if_neg q, if_neg q]; exact a u v e
abbrev rN (c : Int) : Prop := cN c ∧ (c ≠ 149 ∧ c ≠ 159 ∧ c ≠ 164 ∧ c ≠ 165 ∧ c ≠ 166 ∧ c ≠ 172 ∧ c ≠ 173 ∧ c ≠ 176 ∧ c ≠ 116) ∧ c ≠ 148 ∧ c ≠ 126 ∧ c ≠ 4 ∧ ¬ (76 ≤ c ∧ c ≤ 79) ∧ ¬ (160 ≤ c ∧ c ≤ 163)
theorem Ag.r {h h' : AH} (a : Ag h h') {c : Int} (q : rN c) : h' c = h c := funext fun j => a c j (by unfold rN cN at q; unfold nS cS kS cF lS; omega)
theorem Ag.r2 {h h' : AH} (a : Ag h h') : h' 2 = h 2 := a.r (by decide)
theorem Ag.r8 {h h' : AH} (a : Ag h h') : h' 8 = h 8 := a.r (by decide)
theorem Ag.r9 {h h' : AH} (a : Ag h h') : h' 9 = h 9 := a.r (by decide)
theorem Ag.r10 {h h' : AH} (a : Ag h h') : h' 10 = h 10 := a.r (by decide)
theorem Ag.r11 {h h' : AH} (a : Ag h h') : h' 11 = h 11 := a.r (by decide)
theorem Ag.r13 {h h' : AH} (a : Ag h h') : h' 13 = h 13 := a.r (by decide)
theorem Ag.r14 {h h' : AH} (a : Ag h h') : h' 14 = h 14 := a.r (by decide)
theorem Ag.r15 {h h' : AH} (a : Ag h h') : h' 15 = h 15 := a.r (by decide)
theorem Ag.r37 {h h' : AH} (a : Ag h h') : h' 37 = h 37 := a.r (by decide)
theorem Ag.r42 {h h' : AH} (a : Ag h h') : h' 42 = h 42 := a.r (by decide)
theorem Ag.r43 {h h' : AH} (a : Ag h h') : h' 43 = h 43 := a.r (by decide)
theorem Ag.r44 {h h' : AH} (a : Ag h h') : h' 44 = h 44 := a.r (by decide)
theorem Ag.r45 {h h' : AH} (a : Ag h h') : h' 45 = h 45 := a.r (by decide)
theorem Ag.r46 {h h' : AH} (a : Ag h h') : h' 46 = h 46 := a.r (by decide)
theorem Ag.r47 {h h' : AH} (a : Ag h h') : h' 47 = h 47 := a.r (by decide)
theorem Ag.r48 {h h' : AH} (a : Ag h h') : h' 48 = h 48 := a.r (by decide)
theorem Ag.r49 {h h' : AH} (a : Ag h h') : h' 49 = h 49 := a.r (by decide)
theorem Ag.r50 {h h' : AH} (a : Ag h h') : h' 50 = h 50 := a.r (by decide)
theorem Ag.r51 {h h' : AH} (a : Ag h h') : h' 51 = h 51 := a.r (by decide)
theorem Ag.r52 {h h' : AH} (a : Ag h h') : h' 52 = h 52 := a.r (by decide)
theorem Ag.r54 {h h' : AH} (a : Ag h h') : h' 54 = h 54 := a.r (by decide)
theorem Ag.r55 {h h' : AH} (a : Ag h h') : h' 55 = h 55 := a.r (by decide)
theorem Ag.r56 {h h' : AH} (a : Ag h h') : h' 56 = h 56 := a.r (by decide)
theorem Ag.r64 {h h' : AH} (a : Ag h h') : h' 64 = h 64 := a.r (by decide)
theorem Ag.r65 {h h' : AH} (a : Ag h h') : h' 65 = h 65 := a.r (by decide)
theorem Ag.r66 {h h' : AH} (a : Ag h h') : h' 66 = h 66 := a.r (by decide)
theorem Ag.r67 {h h' : AH} (a : Ag h h') : h' 67 = h 67 := a.r (by decide)
theorem Ag.r68 {h h' : AH} (a : Ag h h') : h' 68 = h 68 := a.r (by decide)
theorem Ag.r69 {h h' : AH} (a : Ag h h') : h' 69 = h 69 := a.r (by decide)
theorem Ag.r71 {h h' : AH} (a : Ag h h') : h' 71 = h 71 := a.r (by decide)
theorem Ag.r72 {h h' : AH} (a : Ag h h') : h' 72 = h 72 := a.r (by decide)
theorem Ag.r73 {h h' : AH} (a : Ag h h') : h' 73 = h 73 := a.r (by decide)
theorem Ag.r74 {h h' : AH} (a : Ag h h') : h' 74 = h 74 := a.r (by decide)
theorem Ag.r82 {h h' : AH} (a : Ag h h') : h' 82 = h 82 := a.r (by decide)
theorem Ag.r83 {h h' : AH} (a : Ag h h') : h' 83 = h 83 := a.r (by decide)
theorem Ag.r84 {h h' : AH} (a : Ag h h') : h' 84 = h 84 := a.r (by decide)
theorem Ag.r85 {h h' : AH} (a : Ag h h') : h' 85 = h 85 := a.r (by decide)
theorem Ag.r86 {h h' : AH} (a : Ag h h') : h' 86 = h 86 := a.r (by decide)
theorem Ag.r88 {h h' : AH} (a : Ag h h') : h' 88 = h 88 := a.r (by decide)
theorem Ag.r89 {h h' : AH} (a : Ag h h') : h' 89 = h 89 := a.r (by decide)
theorem Ag.r90 {h h' : AH} (a : Ag h h') : h' 90 = h 90 := a.r (by decide)
theorem Ag.r91 {h h' : AH} (a : Ag h h') : h' 91 = h 91 := a.r (by decide)
theorem Ag.r92 {h h' : AH} (a : Ag h h') : h' 92 = h 92 := a.r (by decide)
theorem Ag.r98 {h h' : AH} (a : Ag h h') : h' 98 = h 98 := a.r (by decide)
theorem Ag.r99 {h h' : AH} (a : Ag h h') : h' 99 = h 99 := a.r (by decide)
theorem Ag.r117 {h h' : AH} (a : Ag h h') : h' 117 = h 117 := a.r (by decide)
theorem Ag.r118 {h h' : AH} (a : Ag h h') : h' 118 = h 118 := a.r (by decide)
theorem Ag.r119 {h h' : AH} (a : Ag h h') : h' 119 = h 119 := a.r (by decide)
theorem Ag.r120 {h h' : AH} (a : Ag h h') : h' 120 = h 120 := a.r (by decide)
theorem Ag.r121 {h h' : AH} (a : Ag h h') : h' 121 = h 121 := a.r (by decide)
theorem Ag.r122 {h h' : AH} (a : Ag h h') : h' 122 = h 122 := a.r (by decide)
theorem Ag.r123 {h h' : AH} (a : Ag h h') : h' 123 = h 123 := a.r (by decide)
theorem Ag.r124 {h h' : AH} (a : Ag h h') : h' 124 = h 124 := a.r (by decide)
theorem Ag.r125 {h h' : AH} (a : Ag h h') : h' 125 = h 125 := a.r (by decide)
theorem Ag.r127 {h h' : AH} (a : Ag h h') : h' 127 = h 127 := a.r (by decide)
theorem Ag.r128 {h h' : AH} (a : Ag h h') : h' 128 = h 128 := a.r (by decide)
theorem Ag.r129 {h h' : AH} (a : Ag h h') : h' 129 = h 129 := a.r (by decide)
theorem Ag.r130 {h h' : AH} (a : Ag h h') : h' 130 = h 130 := a.r (by decide)
theorem Ag.r131 {h h' : AH} (a : Ag h h') : h' 131 = h 131 := a.r (by decide)
theorem Ag.r132 {h h' : AH} (a : Ag h h') : h' 132 = h 132 := a.r (by decide)
theorem Ag.r133 {h h' : AH} (a : Ag h h') : h' 133 = h 133 := a.r (by decide)
theorem Ag.r134 {h h' : AH} (a : Ag h h') : h' 134 = h 134 := a.r (by decide)
theorem Ag.r135 {h h' : AH} (a : Ag h h') : h' 135 = h 135 := a.r (by decide)
theorem Ag.r136 {h h' : AH} (a : Ag h h') : h' 136 = h 136 := a.r (by decide)
theorem Ag.r137 {h h' : AH} (a : Ag h h') : h' 137 = h 137 := a.r (by decide)
theorem Ag.r138 {h h' : AH} (a : Ag h h') : h' 138 = h 138 := a.r (by decide)
theorem Ag.r139 {h h' : AH} (a : Ag h h') : h' 139 = h 139 := a.r (by decide)
theorem Ag.r140 {h h' : AH} (a : Ag h h') : h' 140 = h 140 := a.r (by decide)
theorem Ag.r141 {h h' : AH} (a : Ag h h') : h' 141 = h 141 := a.r (by decide)
theorem Ag.r142 {h h' : AH} (a : Ag h h') : h' 142 = h 142 := a.r (by decide)
theorem Ag.r143 {h h' : AH} (a : Ag h h') : h' 143 = h 143 := a.r (by decide)
theorem Ag.r144 {h h' : AH} (a : Ag h h') : h' 144 = h 144 := a.r (by decide)
theorem Ag.r145 {h h' : AH} (a : Ag h h') : h' 145 = h 145 := a.r (by decide)
theorem Ag.r146 {h h' : AH} (a : Ag h h') : h' 146 = h 146 := a.r (by decide)
theorem Ag.r147 {h h' : AH} (a : Ag h h') : h' 147 = h 147 := a.r (by decide)
theorem Ag.r150 {h h' : AH} (a : Ag h h') : h' 150 = h 150 := a.r (by decide)
theorem Ag.r151 {h h' : AH} (a : Ag h h') : h' 151 = h 151 := a.r (by decide)
theorem Ag.r152 {h h' : AH} (a : Ag h h') : h' 152 = h 152 := a.r (by decide)
theorem Ag.r153 {h h' : AH} (a : Ag h h') : h' 153 = h 153 := a.r (by decide)
theorem Ag.r154 {h h' : AH} (a : Ag h h') : h' 154 = h 154 := a.r (by decide)
theorem Ag.r155 {h h' : AH} (a : Ag h h') : h' 155 = h 155 := a.r (by decide)
theorem Ag.r156 {h h' : AH} (a : Ag h h') : h' 156 = h 156 := a.r (by decide)
theorem Ag.r157 {h h' : AH} (a : Ag h h') : h' 157 = h 157 := a.r (by decide)
theorem Ag.r158 {h h' : AH} (a : Ag h h') : h' 158 = h 158 := a.r (by decide)
theorem Ag.r167 {h h' : AH} (a : Ag h h') : h' 167 = h 167 := a.r (by decide)
theorem Ag.r168 {h h' : AH} (a : Ag h h') : h' 168 = h 168 := a.r (by decide)
theorem Ag.r169 {h h' : AH} (a : Ag h h') : h' 169 = h 169 := a.r (by decide)
theorem Ag.r170 {h h' : AH} (a : Ag h h') : h' 170 = h 170 := a.r (by decide)
theorem Ag.r171 {h h' : AH} (a : Ag h h') : h' 171 = h 171 := a.r (by decide)
theorem Ag.r174 {h h' : AH} (a : Ag h h') : h' 174 = h 174 := a.r (by decide)
theorem Ag.r175 {h h' : AH} (a : Ag h h') : h' 175 = h 175 := a.r (by decide)
theorem Ag.f0_0 {h h' : AH} (a : Ag h h') : h' 0 0 = h 0 0 := a 0 0 (by decide)
theorem Ag.f1_1 {h h' : AH} (a : Ag h h') : h' 1 1 = h 1 1 := a 1 1 (by decide)
theorem Ag.f4_7 {h h' : AH} (a : Ag h h') : h' 4 7 = h 4 7 := a 4 7 (by decide)
theorem Ag.f7_0 {h h' : AH} (a : Ag h h') : h' 7 0 = h 7 0 := a 7 0 (by decide)
theorem Ag.f7_4 {h h' : AH} (a : Ag h h') : h' 7 4 = h 7 4 := a 7 4 (by decide)
theorem Ag.f12_0 {h h' : AH} (a : Ag h h') : h' 12 0 = h 12 0 := a 12 0 (by decide)
theorem Ag.f12_4 {h h' : AH} (a : Ag h h') : h' 12 4 = h 12 4 := a 12 4 (by decide)
theorem Ag.f41_12 {h h' : AH} (a : Ag h h') : h' 41 12 = h 41 12 := a 41 12 (by decide)
theorem Ag.f41_13 {h h' : AH} (a : Ag h h') : h' 41 13 = h 41 13 := a 41 13 (by decide)
theorem Ag.f53_3 {h h' : AH} (a : Ag h h') : h' 53 3 = h 53 3 := a 53 3 (by decide)
theorem Ag.f70_3 {h h' : AH} (a : Ag h h') : h' 70 3 = h 70 3 := a 70 3 (by decide)
theorem Ag.f81_2 {h h' : AH} (a : Ag h h') : h' 81 2 = h 81 2 := a 81 2 (by decide)
theorem Ag.f81_6 {h h' : AH} (a : Ag h h') : h' 81 6 = h 81 6 := a 81 6 (by decide)
theorem Ag.f97_2 {h h' : AH} (a : Ag h h') : h' 97 2 = h 97 2 := a 97 2 (by decide)
theorem Ag.f116_1 {h h' : AH} (a : Ag h h') : h' 116 1 = h 116 1 := a 116 1 (by decide)
theorem Ag.f116_14 {h h' : AH} (a : Ag h h') : h' 116 14 = h 116 14 := a 116 14 (by decide)
theorem Ag.f116_15 {h h' : AH} (a : Ag h h') : h' 116 15 = h 116 15 := a 116 15 (by decide)
theorem Ag.f116_16 {h h' : AH} (a : Ag h h') : h' 116 16 = h 116 16 := a 116 16 (by decide)
theorem Ag.f116_45 {h h' : AH} (a : Ag h h') : h' 116 45 = h 116 45 := a 116 45 (by decide)
theorem Ag.f116_46 {h h' : AH} (a : Ag h h') : h' 116 46 = h 116 46 := a 116 46 (by decide)
theorem Ag.f116_47 {h h' : AH} (a : Ag h h') : h' 116 47 = h 116 47 := a 116 47 (by decide)
theorem Ag.f116_48 {h h' : AH} (a : Ag h h') : h' 116 48 = h 116 48 := a 116 48 (by decide)
theorem Ag.f116_65 {h h' : AH} (a : Ag h h') : h' 116 65 = h 116 65 := a 116 65 (by decide)
theorem Ag.f116_66 {h h' : AH} (a : Ag h h') : h' 116 66 = h 116 66 := a 116 66 (by decide)
theorem Ag.f116_88 {h h' : AH} (a : Ag h h') : h' 116 88 = h 116 88 := a 116 88 (by decide)
theorem CX_ag {h h' : AH} {cs : Int → List (Int × List Int)} (a : Ag h h') (X : CX h cs) : CX h' cs := by
  refine ⟨by rw [a.f12_4]; exact X.1, fun p h0 h1 => ?_⟩
  rw [a.f12_4] at h1
  have q := X.2 p h0 h1
  have hp := X.1.2
  rw [a.r (c := 17 + p) (by unfold rN cN cR; omega), a.r37]
  exact q
theorem TX_ag {h h' : AH} {cs : Int → List (Int × List Int)} (a : Ag h h') (X : TX h cs) : TX h' cs := by
  intro p h0 h1
  rw [a.f116_15] at h1
  obtain ⟨u, q1, q2⟩ := X p h0 h1
  refine ⟨u, ?_, by rw [a.r124]; exact q2⟩
  unfold PT at q1 ⊢
  rw [a.r124, a.r128]
  exact q1
theorem RW_ag {h h' : AH} (a : Ag h h') (W : RW h) : RW h' := by
  unfold RW
  simp only [a.r129, a.r130, a.r131, a.r132, a.r135, a.r137, a.r138, a.r139, a.r146, a.f116_45, a.f116_48, a.f116_14, a.f116_15]
  exact W
theorem RS_ag {h h' : AH} (a : Ag h h') (W : RS h) : RS h' := by
  unfold RS
  simp only [a.r150, a.r151, a.r152, a.r153, a.r154, a.r155, a.r157, a.f116_65, a.f116_66, a.f116_45]
  exact W
theorem CI_ag {h h' : AH} {cs : Int → List (Int × List Int)} (a : Ag h h') (I : CI h cs) : CI h' cs :=
  ⟨by simp only [a.r8, a.r117]; exact I.e8,
   by simp only [a.r9, a.r119]; exact I.e9,
   by simp only [a.r10, a.r120]; exact I.e10,
   by simp only [a.r11, a.r118]; exact I.e11,
   by simp only [a.r13, a.r121]; exact I.e13,
   by simp only [a.r14, a.r122]; exact I.e14,
   by simp only [a.r15, a.r123]; exact I.e15,
   by simp only [a.r42, a.r129]; exact I.e42,
   by simp only [a.r43, a.r130]; exact I.e43,
   by simp only [a.r44, a.r131]; exact I.e44,
   by simp only [a.r45, a.r132]; exact I.e45,
   by simp only [a.r46, a.r133]; exact I.e46,
   by simp only [a.r47, a.r134]; exact I.e47,
   by simp only [a.r48, a.r135]; exact I.e48,
   by simp only [a.r50, a.r137]; exact I.e50,
   by simp only [a.r51, a.r138]; exact I.e51,
   by simp only [a.r52, a.r139]; exact I.e52,
   by simp only [a.r54, a.r145]; exact I.e54,
   by simp only [a.r55, a.r146]; exact I.e55,
   by simp only [a.r56, a.r147]; exact I.e56,
   by simp only [a.r64, a.r150]; exact I.e64,
   by simp only [a.r65, a.r151]; exact I.e65,
   by simp only [a.r66, a.r152]; exact I.e66,
   by simp only [a.r67, a.r153]; exact I.e67,
   by simp only [a.r68, a.r154]; exact I.e68,
   by simp only [a.r69, a.r155]; exact I.e69,
   by simp only [a.r71, a.r156]; exact I.e71,
   by simp only [a.r72, a.r157]; exact I.e72,
   by simp only [a.r73, a.r158]; exact I.e73,
   by simp only [a.r74, a.r125]; exact I.e74,
   by simp only [a.r82, a.r140]; exact I.e82,
   by simp only [a.r83, a.r141]; exact I.e83,
   by simp only [a.r84, a.r143]; exact I.e84,
   by simp only [a.r85, a.r144]; exact I.e85,
   by simp only [a.r86, a.r142]; exact I.e86,
   by simp only [a.r88, a.r168]; exact I.e88,
   by simp only [a.r89, a.r169]; exact I.e89,
   by simp only [a.r90, a.r170]; exact I.e90,
   by simp only [a.r91, a.r171]; exact I.e91,
   by simp only [a.r92, a.r167]; exact I.e92,
   by simp only [a.r98, a.r174]; exact I.e98,
   by simp only [a.r99, a.r175]; exact I.e99,
   by simp only [a.f0_0, a.f116_1]; exact I.f0_0,
   by simp only [a.f7_4, a.f116_14]; exact I.f7_4,
   by simp only [a.f12_4, a.f116_15]; exact I.f12_4,
   by simp only [a.f1_1, a.f116_16]; exact I.f1_1,
   by simp only [a.f41_12, a.f116_45]; exact I.f41_12,
   by simp only [a.f53_3, a.f116_48]; exact I.f53_3,
   by simp only [a.f81_2, a.f116_46]; exact I.f81_2,
   by simp only [a.f81_6, a.f116_47]; exact I.f81_6,
   by simp only [a.f4_7, a.f116_65]; exact I.f4_7,
   by simp only [a.f70_3, a.f116_66]; exact I.f70_3,
   by simp only [a.f97_2, a.f116_88]; exact I.f97_2,
   by simp only [a.f7_0]; exact I.k7,
   by simp only [a.f12_0]; exact I.k12,
   RW_ag a I.W,
   RS_ag a I.S,
   TX_ag a I.T,
   CX_ag a I.X,
   by simp only [a.f116_1]; exact I.now,
   by simp only [a.f116_14, a.r118]; exact I.il,
   by simp only [a.f116_1, a.f116_48, a.r147]; exact I.m147,
   by simp only [a.f116_1, a.f116_45, a.r134]; exact I.m134,
   by simp only [a.f116_1, a.f116_65, a.r155]; exact I.m155,
   by simp only [a.f116_1, a.f116_66, a.r158]; exact I.m158,
   by simp only [a.f116_1, a.f116_45, a.r49, a.r136]; exact I.iu,
   by simp only [a.f41_13, a.f116_45, a.r136]; exact I.un,
   by simp only [a.f116_45, a.f116_48, a.r145]; exact I.ma,
   by simp only [a.f116_16, a.r2, a.r127]; exact I.tp,
   by simp only [a.f116_45, a.f116_46, a.r140, a.r141]; exact I.bn,
   by simp only [a.f116_45, a.f116_47, a.r142, a.r143, a.r144]; exact I.po,
   by simp only [a.f116_45, a.f116_46, a.f116_47, a.r132, a.r133, a.r140, a.r141, a.r142, a.r144]; exact I.co,
   by simp only [a.f116_45, a.r137]; exact I.en,
   by simp only [a.r125]; exact I.ta,
   by simp only [a.r167]; exact I.ofn,
   by simp only [a.r167]; exact I.ofc,
   by simp only [a.r168, a.r169, a.r170, a.r171]; exact I.ofk,
   by simp only [a.f116_15, a.r121]; exact I.tw,
   by simp only [a.f116_45, a.r135, a.r137]; exact I.gr,
   by simp only [a.f116_65, a.r134, a.r150, a.r155]; exact I.sd,
   by simp only [a.f116_88, a.r175]; exact I.wo⟩
/-- the lines that are booked -/
def CLN (h : AH) : Prop :=
  (h 76 = h 160) ∧
  (h 77 = h 162) ∧
  (h 78 = h 161) ∧
  (h 79 = h 163) ∧
  (h 4 15 = h 116 67) ∧
  (h 4 16 = h 116 68) ∧
  (0 ≤ h 116 67 ∧ h 116 67 ≤ 400) ∧
  (∀ s, 0 ≤ s → s < 100 → 0 ≤ h 160 s ∧ h 160 s ≤ 100000000)
theorem CLN.e76 {h : AH} (I : CLN h) : h 76 = h 160 := I.1
theorem CLN.e77 {h : AH} (I : CLN h) : h 77 = h 162 := I.2.1
theorem CLN.e78 {h : AH} (I : CLN h) : h 78 = h 161 := I.2.2.1
theorem CLN.e79 {h : AH} (I : CLN h) : h 79 = h 163 := I.2.2.2.1
theorem CLN.f4_15 {h : AH} (I : CLN h) : h 4 15 = h 116 67 := I.2.2.2.2.1
theorem CLN.f4_16 {h : AH} (I : CLN h) : h 4 16 = h 116 68 := I.2.2.2.2.2.1
theorem CLN.li {h : AH} (I : CLN h) : 0 ≤ h 116 67 ∧ h 116 67 ≤ 400 := I.2.2.2.2.2.2.1
theorem CLN.bk {h : AH} (I : CLN h) : ∀ s, 0 ≤ s → s < 100 → 0 ≤ h 160 s ∧ h 160 s ≤ 100000000 := I.2.2.2.2.2.2.2
theorem CLN_ag {h h' : AH} (a : ∀ c j, lS c j → h' c j = h c j) (I : CLN h) : CLN h' := by
  have r : ∀ c, (76 ≤ c ∧ c ≤ 79) ∨ (160 ≤ c ∧ c ≤ 163) → h' c = h c := fun c q => funext fun j => a c j (by unfold lS; omega)
  unfold CLN
  simp only [r 76 (by decide), r 77 (by decide), r 78 (by decide), r 79 (by decide), r 160 (by decide), r 161 (by decide), r 162 (by decide), r 163 (by decide), a 4 15 (by decide), a 4 16 (by decide), a 116 67 (by decide), a 116 68 (by decide)]
  exact I
theorem lS_cst {h F : AH} : ∀ c j, lS c j → cst h F c j = h c j := fun c j q => cst_c (by unfold lS at q; unfold cS cR cF; omega)
theorem lS_kst {h F : AH} : ∀ c j, lS c j → kst h F c j = h c j := fun c j q => kst_c (by unfold lS at q; unfold kS; omega)
theorem lS_jst {h : AH} {z O L : Int → Int} : ∀ c j, lS c j → jst h z O L c j = h c j := fun c j q => by
  unfold lS at q
  unfold jst
  rw [if_neg (by omega), if_neg (by omega), if_neg (by omega)]
theorem laF_cut {ab tl vl : Int → Int} {b q p m n : Int} (h0 : 0 ≤ m) (h1 : m ≤ n) (hq : ∀ i, m ≤ i → i < n → q < tl i) : laF ab tl vl b q p n = laF ab tl vl b q p m := by
  have key : ∀ k : Nat, m + k ≤ n → laF ab tl vl b q p (m + k) = laF ab tl vl b q p m := by
    intro k
    induction k with
    | zero => intro _; rw [show m + ((0 : Nat) : Int) = m by omega]
    | succ k ih =>
      intro hk
      rw [show m + ((k + 1 : Nat) : Int) = (m + k) + 1 by omega, laF_s (by omega)]
      unfold laSt
      rw [if_neg (fun z => by have := hq (m + k) (by omega) (by omega); omega)]
      exact ih (by omega)
  have := key (n - m).toNat (by omega)
  rw [show m + ((n - m).toNat : Int) = n by omega] at this
  exact this
theorem MN.cut {A : Int → Int} {n now k q : Int} (M : MN A n now) (h0 : 0 ≤ k) (h1 : q < A k) : ∀ i, k ≤ i → i < n → q < A i := fun i hi hn => by
  have := M.1 k i h0 hi hn
  omega
theorem mOn_rng {h : AH} {cs : Int → List (Int × List Int)} (I : CI h cs) {w day q : Int} : 0 ≤ mOn h w day q ∧ mOn h w day q < 256 := by
  have e := @ifc_rng (h 117) (h 119) (h 120) w day q (h 116 14) I.W.nw.1
  unfold mOn
  split
  · omega
  · exact I.il _ (by omega) (by omega)
theorem own_eq {h : AH} {cs : Int → List (Int × List Int)} {w q al b : Int} (W : RW h) (h0 : 0 ≤ b) (h1 : b < h 116 45) : own h cs w q al b = jv h cs w q al (own h cs w q al) b := by
  have e : own h cs w q al b = jv h cs w q al (fset (jO h cs w q al (fun _ => 0) b) b 0) b := jO_at h0
  rw [e]
  exact jv_O W h0 h1 (fun e e0 e1 => by
    rw [fset_ne (by omega)]
    exact jO_own W (by omega) e0 e1)
