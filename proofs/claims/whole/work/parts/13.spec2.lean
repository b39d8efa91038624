/-! a stretch of a cell written -/
def rngM (M : xMem) (c : Nat) (off : Int) (v : Nat → Int) (i : Int) : xMem := fun a j => if a = c ∧ off ≤ (j : Int) ∧ (j : Int) < off + i then v (j - off.toNat) else M a j
theorem rng_0 (M : xMem) (c : Nat) (off : Int) (v : Nat → Int) : M = rngM M c off v 0 := by
  funext a j
  unfold rngM
  rw [if_neg (by omega)]
theorem rng_s {M : xMem} {c : Nat} {off i x : Int} {v : Nat → Int} (h : 0 ≤ off ∧ 0 ≤ i) (hx : x = v i.toNat) : mS (rngM M c off v i) c (off + i).toNat x = rngM M c off v (i + 1) := by
  subst hx
  funext a j
  unfold mS rngM
  by_cases h1 : a = c
  · by_cases h2 : j = (off + i).toNat
    · rw [if_pos ⟨h1, h2⟩, if_pos ⟨h1, by omega⟩, h2, show (off + i).toNat - off.toNat = i.toNat by omega]
    · rw [if_neg (fun q => h2 q.2)]
      by_cases h3 : off ≤ (j : Int) ∧ (j : Int) < off + i
      · rw [if_pos ⟨h1, h3⟩, if_pos ⟨h1, by omega⟩]
      · rw [if_neg (fun q => h3 q.2), if_neg (by omega)]
  · rw [if_neg (fun q => h1 q.1), if_neg (fun q => h1 q.1), if_neg (fun q => h1 q.1)]
theorem rng_ne {M : xMem} {c a j : Nat} {off i : Int} {v : Nat → Int} (h : a ≠ c) : rngM M c off v i a j = M a j := if_neg (fun q => h q.1)
theorem rng_0s {M : xMem} {c : Nat} {i x : Int} {v : Nat → Int} (h : 0 ≤ i) (hx : x = v i.toNat) : mS (rngM M c 0 v i) c i.toNat x = rngM M c 0 v (i + 1) := by
  have := rng_s (M := M) (c := c) (off := 0) (i := i) (v := v) ⟨Int.le_refl 0, h⟩ hx
  rw [Int.zero_add] at this
  exact this
theorem stCp_ne {M : xMem} {k j a i : Nat} (h : a < k ∨ k + 4 ≤ a) : stCp M k j a i = M a i := by
  unfold stCp mCp
  rw [if_neg (by omega), if_neg (by omega), if_neg (by omega)]
  simp (disch := omega) only [mS_ne]
theorem twCp_ne {M : xMem} {k j a i : Nat} (h : a < k ∨ k + 6 ≤ a) : twCp M k j a i = M a i := by
  unfold twCp mCp
  rw [if_neg (by omega), if_neg (by omega), if_neg (by omega), if_neg (by omega), if_neg (by omega)]
  simp (disch := omega) only [mS_ne]
/-! rows -/
def rowM (M : xMem) (k : Nat) (lane n : Int) : xMem := rngM (mS (mS (mS M k 1 1) k 2 lane) k 3 n) (k + 1) 0 (fun _ => 0) 40
def laneV (lane v : Int) : Int := if lane = 0 then i8 v else if lane = 1 then i16 v else v
def allW (g : Nat → Int) (lo hi : Int) : Nat → Int → Bool
  | 0, _ => true
  | k + 1, i => decide (lo ≤ g i.toNat ∧ g i.toNat ≤ hi) && allW g lo hi k (i + 1)
theorem allW_step {g : Nat → Int} {lo hi i e : Int} (h : i < e) : allW g lo hi (e - i).toNat i = (decide (lo ≤ g i.toNat ∧ g i.toNat ≤ hi) && allW g lo hi (e - (i + 1)).toNat (i + 1)) := by
  rw [show (e - i).toNat = (e - (i + 1)).toNat + 1 by omega]
  rfl
/-! thrift -/
def rstF (F : Nat → Int) (price b : Int) : Int → Int → Int := fun n r => if ¬ F (b - n).toNat = -1000000 ∧ n * price ≤ F (b - n).toNat then max r (F (b - n).toNat - n * price) else r
def rstT (F : Nat → Int) (price ration b : Int) : Int := foldI (rstF F price b) (min ration b + 1).toNat 0 (-1000000)
def nvT (F : Nat → Int) (price ration income b : Int) : Int := if rstT F price ration b = -1000000 then -1000000 else min 99 (rstT F price ration b + income)
def thB (M : xMem) (purse w : Int) : xMem := mS (rngM (mS M 147 1 w) 148 0 (fun _ => -1000000) 61) 148 0 purse
def thW (M : xMem) (price ration income b : Int) : xMem := fun a j => if a = 148 ∧ b < (j : Int) ∧ (j : Int) ≤ M 147 1 then nvT (M 148) price ration income j else M a j
theorem thW_0 (M : xMem) (price ration income : Int) : M = thW M price ration income (M 147 1) := by
  funext a j
  unfold thW
  rw [if_neg (by omega)]
theorem thW_s {M : xMem} {price ration income b : Int} (h : 0 ≤ b ∧ b ≤ M 147 1) : mS (thW M price ration income b) 148 b.toNat (nvT (M 148) price ration income b) = thW M price ration income (b - 1) := by
  funext a j
  unfold mS thW
  by_cases h1 : a = 148
  · by_cases h2 : j = b.toNat
    · rw [if_pos ⟨h1, h2⟩, if_pos ⟨h1, by omega⟩, h2, show ((b.toNat : Nat) : Int) = b by omega]
    · rw [if_neg (fun q => h2 q.2)]
      by_cases h3 : b < (j : Int) ∧ (j : Int) ≤ M 147 1
      · rw [if_pos ⟨h1, h3⟩, if_pos ⟨h1, by omega⟩]
      · rw [if_neg (fun q => h3 q.2), if_neg (by omega)]
  · rw [if_neg (fun q => h1 q.1), if_neg (fun q => h1 q.1), if_neg (fun q => h1 q.1)]
def FI (F : Nat → Int) : Prop := ∀ j : Nat, j < 61 → F j = -1000000 ∨ (0 ≤ F j ∧ F j ≤ 99)
theorem rst_b {F : Nat → Int} (hF : FI F) {price ration b : Int} (hp : 1 ≤ price ∧ price ≤ 9) (hr : 0 ≤ ration) (hb : 0 ≤ b ∧ b ≤ 60) : rstT F price ration b = -1000000 ∨ (0 ≤ rstT F price ration b ∧ rstT F price ration b ≤ 99) := by
  have key := foldI_inv (f := rstF F price b) (fun i a => a = -1000000 ∨ (0 ≤ a ∧ a ≤ 99)) (n := min ration b + 1) (fun i a h0 h1 q => by
    have hf := hF (b - i).toNat (by omega)
    have hm := mul_b (a := i) (A := 60) (b := price) (B := 9) (by omega) (by omega)
    dsimp only [rstF]
    split <;> omega) (min ration b + 1).toNat 0 (-1000000) (by omega) (by omega) (by omega)
  exact key
/-! what was done -/
def kpM (M : xMem) : xMem := mS (mS (stCp M (19 + 4 * (M 17 1).toNat) 9) 17 1 (if M 17 1 + 1 < 24 then M 17 1 + 1 else 0)) 17 2 (min 24 (M 17 2 + 1))
def gbN (M : xMem) : Int := if 0 < M 17 1 then M 17 1 - 1 else 23
def gbM (M : xMem) : xMem := if M 17 2 = 0 then M else stCp (mS (mS M 17 1 (gbN M)) 17 2 (M 17 2 - 1)) 9 (19 + 4 * (gbN M).toNat)
/-! asks -/
def lvM (M : xMem) (b : Int) : xMem := if M 161 3 < 16 then mS (mS M 162 (M 161 3).toNat b) 161 3 (M 161 3 + 1) else M
theorem lvM_b {M : xMem} {b : Int} (h : 0 ≤ M 161 3 ∧ M 161 3 ≤ 16) : 0 ≤ lvM M b 161 3 ∧ lvM M b 161 3 ≤ 16 := by
  unfold lvM
  split
  · rw [mS_eq]
    omega
  · exact h
theorem lvM_ne {M : xMem} {b : Int} {a j : Nat} (h : a < 161) : lvM M b a j = M a j := by
  unfold lvM
  split
  · rw [mS_ne (Or.inl (by omega)), mS_ne (Or.inl (by omega))]
  · rfl
def szwT (T : xMem) (s : Int) : Int := if T 2 s.toNat = 4 then T 4 s.toNat - 100 else 2 * (T 4 s.toNat - 100)
def mrkT (T S : xMem) (s : Int) : Int := if T 2 s.toNat = 1 then s + S 0 7 else if T 2 s.toNat = 2 then 2 * (s + S 0 7) else if T 2 s.toNat = 3 then s + S 0 7 - 1000 else s - szwT T s
def sizT (T S : xMem) (s : Int) : Int := if T 2 s.toNat = 1 then T 4 s.toNat + mrkT T S s else if T 2 s.toNat = 2 then 0 - (T 4 s.toNat + mrkT T S s) else if T 2 s.toNat = 3 then T 4 s.toNat + mrkT T S s else szwT T s
def trc (k w : Int) : List Int := if w = 0 then (if k = 1 then [11, 10, 21, 20] else if k = 2 then [12, 11, 10, 24, 21, 20] else if k = 3 then [11, 10, 22, 21, 20] else if k = 4 then [13, 10] else [14, 13, 10])
  else (if k = 1 then [21, 20] else if k = 2 then [24, 21, 20] else if k = 3 then [22, 21, 20] else if k = 4 then [23, 20, 13, 10] else [23, 20, 14, 13, 10])
