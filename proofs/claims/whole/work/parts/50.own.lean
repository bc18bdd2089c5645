/-! ===== what is own doesn't depend on what stood there ===== -/
section OI
variable {h : AH} {cs : Int → List (Int × List Int)} {w q al b : Int} {O O' : Int → Int}
theorem mLt_O (W : RW h) (h0 : 0 ≤ b) (h1 : b < h 116 45) (hO : ∀ e, 0 ≤ e → e < b → O e = O' e) : mLt h O b q = mLt h O' b q := by
  have hk : ∀ k, 0 ≤ k → k < h 137 b → O (eB h b k) = O' (eB h b k) := fun k k0 k1 => by
    have a := W.eo b h0 h1 k k0 k1
    exact hO _ a.1 a.2
  have e1 : sm (fO h O b q) (h 137 b) = sm (fO h O' b q) (h 137 b) := sm_congr fun k k0 k1 => by unfold fO; rw [hk k k0 k1]
  have e2 : sm (fK h O b q) (h 137 b) = sm (fK h O' b q) (h 137 b) := sm_congr fun k k0 k1 => by unfold fK; rw [hk k k0 k1]
  have e3 : sm (fB h O b q) (h 137 b) = sm (fB h O' b q) (h 137 b) := sm_congr fun k k0 k1 => by unfold fB; rw [hk k k0 k1]
  have e4 : sm (fC h O b) (h 137 b) = sm (fC h O' b) (h 137 b) := sm_congr fun k k0 k1 => by unfold fC; rw [hk k k0 k1]
  funext i
  unfold mLt
  rw [e1, e2, e3, e4]
theorem jv_O (W : RW h) (h0 : 0 ≤ b) (h1 : b < h 116 45) (hO : ∀ e, 0 ≤ e → e < b → O e = O' e) : jv h cs w q al O b = jv h cs w q al O' b := by
  unfold jv
  rw [mLt_O W h0 h1 hO]
/-- whether b is own of w as known in q -/
def own (h : AH) (cs : Int → List (Int × List Int)) (w q al b : Int) : Int := jO h cs w q al (fun _ => 0) (b + 1) b
theorem jO_keep {O0 : Int → Int} {k : Int} (hk : 0 ≤ k) (hb : b ≠ k) : jO h cs w q al O0 (k + 1) b = jO h cs w q al O0 k b := by
  rw [jO_s hk, fset_ne hb]
theorem jO_at {O0 : Int → Int} {k : Int} (hk : 0 ≤ k) : jO h cs w q al O0 (k + 1) k = jv h cs w q al (fset (jO h cs w q al O0 k) k 0) k := by
  rw [jO_s hk, fset_same]
theorem jO_val (W : RW h) {O0 : Int → Int} : ∀ (m : Nat), (m : Int) ≤ h 116 45 → ∀ b : Int, 0 ≤ b → b < m → jO h cs w q al O0 m b = own h cs w q al b := by
  have key : ∀ (m : Nat), (m : Int) ≤ h 116 45 → ∀ (O0 O1 : Int → Int) (b : Int), 0 ≤ b → b < m → jO h cs w q al O0 m b = jO h cs w q al O1 (b + 1) b := by
    intro m
    induction m with
    | zero => intro _ O0 O1 b h0 h1; exact absurd h1 (by omega)
    | succ m ih =>
      intro hm O0 O1 b h0 h1
      rw [show ((m + 1 : Nat) : Int) = (m : Int) + 1 by omega]
      by_cases e : b = m
      · subst e
        rw [jO_at (by omega), jO_at (by omega)]
        refine jv_O W (by omega) (by omega) (fun e e0 e1 => ?_)
        rw [fset_ne (by omega), fset_ne (by omega), ih (by omega) O0 O1 e e0 e1, ih (by omega) O1 O1 e e0 e1]
      · rw [jO_keep (by omega) e]
        exact ih (by omega) O0 O1 b h0 (by omega)
  intro m hm b h0 h1
  exact key m hm O0 _ b h0 h1
theorem jO_own (W : RW h) {O0 : Int → Int} {k : Int} (hk : k ≤ h 116 45) (h0 : 0 ≤ b) (h1 : b < k) : jO h cs w q al O0 k b = own h cs w q al b := by
  have := jO_val (cs := cs) (w := w) (q := q) (al := al) W (O0 := O0) k.toNat (by omega) b h0 (by omega)
  rw [show ((k.toNat : Nat) : Int) = k by omega] at this
  exact this
theorem own_rng (h0 : 0 ≤ b) : 0 ≤ own h cs w q al b ∧ own h cs w q al b < 2 := by
  unfold own
  rw [jO_at h0]
  unfold jv
  split
  · omega
  · split
    · split <;> omega
    · split <;> omega
/-- a shipment's state but for its quota -/
def fst1 (h : AH) (cs : Int → List (Int × List Int)) (s q : Int) : Int := fS h cs (fun _ => own h cs (h 153 s) q (-1) (h 150 s)) s q
theorem fst1_eq {OW : Int → Int} {s : Int} (e : h 153 s ≠ -1 → OW (100 * h 153 s + h 150 s) = own h cs (h 153 s) q (-1) (h 150 s)) : fS h cs OW s q = fst1 h cs s q := by
  unfold fst1 fS
  by_cases c : h 153 s = -1
  · rw [if_pos c, if_pos c]
  · rw [if_neg c, if_neg c, e c]
end OI
/-! ===== what findFirst leaves ===== -/
def I1 (h : AH) (cs : Int → List (Int × List Int)) (q w : Int) (F : AH) : Prop := F 116 0 = 0 ∧ ∀ x b, 0 ≤ x → x < w → 0 ≤ b → b < h 116 45 → F 164 (100 * x + b) = own h cs x q (-1) b
def I2 (h : AH) (cs : Int → List (Int × List Int)) (q w k : Int) (F : AH) : Prop := I1 h cs q w F ∧ ∀ b, 0 ≤ b → b < k → F 164 (100 * w + b) = own h cs w q (-1) b
def I3 (h : AH) (cs : Int → List (Int × List Int)) (q k : Int) (F : AH) : Prop := I1 h cs q 4 F ∧ ∀ s, 0 ≤ s → s < k → F 165 s = if h 155 s ≤ q then fst1 h cs s q else -1
section II
variable {h F : AH} {cs : Int → List (Int × List Int)} {q w k : Int}
theorem I2_s (W : RW h) (hI : I2 h cs q w k F) (h0 : 0 ≤ k) (h1 : k < h 116 45) : I2 h cs q w (k + 1) (hset F 164 (100 * w + k) (own h cs w q (-1) k)) := by
  have nb := W.nb
  refine ⟨⟨by rw [hset_c (by decide)]; exact hI.1.1, fun x b x0 x1 b0 b1 => ?_⟩, fun b b0 b1 => ?_⟩
  · rw [hset_j (by omega)]
    exact hI.1.2 x b x0 x1 b0 b1
  · by_cases e : b = k
    · subst e; rw [hset_same]
    · rw [hset_j (by omega)]
      exact hI.2 b b0 (by omega)
theorem I2_e (hI : I2 h cs q w (h 116 45) F) : I1 h cs q (w + 1) F := ⟨hI.1.1, fun x b x0 x1 b0 b1 => by
  by_cases e : x = w
  · subst e; exact hI.2 b b0 b1
  · exact hI.1.2 x b x0 (by omega) b0 b1⟩
theorem I3_s (hI : I3 h cs q k F) (v : Int) (hv : v = if h 155 k ≤ q then fst1 h cs k q else -1) : I3 h cs q (k + 1) (hset F 165 k v) := by
  refine ⟨⟨by rw [hset_c (by decide)]; exact hI.1.1, fun x b x0 x1 b0 b1 => ?_⟩, fun s s0 s1 => ?_⟩
  · rw [hset_c (by decide)]
    exact hI.1.2 x b x0 x1 b0 b1
  · by_cases e : s = k
    · subst e; rw [hset_same]; exact hv
    · rw [hset_j e]
      exact hI.2 s s0 (by omega)
theorem fS_I (S : RS h) (hI : I1 h cs q 4 F) (h0 : 0 ≤ k) (h1 : k < h 116 65) : fS h cs (F 164) k q = fst1 h cs k q := by
  have a := S.2.2.1 k h0 h1
  exact fst1_eq (fun e => hI.2 _ _ (by omega) (by omega) a.1.1 a.1.2)
end II
