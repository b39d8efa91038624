/-! the tape read -/
abbrev figB (c : Int) : Prop := 48 ≤ c ∧ c ≤ 57
def figL (g : Nat → Int) (L : Int) : Nat → Int → Int → Int → Int × Int × Int
  | 0, i, c, n => (i, c, n)
  | k + 1, i, c, n => if i < L ∧ figB (g i.toNat) then figL g L k (i + 1) (c + 1) (if 2 < c + 1 then 0 else n * 10 + g i.toNat - 48) else (i, c, n)
def fgT (g : Nat → Int) (L i : Int) : Int × Int × Int := figL g L (L - i).toNat i 0 0
def tkT (g : Nat → Int) (L i : Int) : Int := if L ≤ i then -1 else if figB (g i.toNat) then (if 2 < (fgT g L i).2.1 then -2 else -3) else if (97 ≤ g i.toNat ∧ g i.toNat ≤ 122) ∨ g i.toNat = 44 ∨ g i.toNat = 59 then g i.toNat else -2
def nxP (g : Nat → Int) (L i : Int) : Int := if L ≤ i then i else if figB (g i.toNat) then (fgT g L i).1 else i + 1
def nuT (g : Nat → Int) (L i o : Int) : Int := if L ≤ i then o else if figB (g i.toNat) then (fgT g L i).2.2 else o
def rdM (M : xMem) (p tk nx nu : Int) : xMem := mS (mS (mS (mS M 149 5 p) 149 9 nu) 149 7 nx) 149 8 tk
def advM (M : xMem) : xMem := rdM M (M 149 7) (tkT (M 150) (M 149 6) (M 149 7)) (nxP (M 150) (M 149 6) (M 149 7)) (nuT (M 150) (M 149 6) (M 149 7) (M 149 9))
theorem figL_b {g : Nat → Int} {L : Int} : ∀ (k : Nat) (i c n : Int), i ≤ L → i ≤ (figL g L k i c n).1 ∧ (figL g L k i c n).1 ≤ L
  | 0, i, c, n, h => ⟨Int.le_refl _, h⟩
  | k + 1, i, c, n, h => by
    unfold figL
    split
    · rename_i hq
      have hq1 := hq.1
      have := figL_b (g := g) k (i + 1) (c + 1) (if 2 < c + 1 then 0 else n * 10 + g i.toNat - 48) (by omega)
      omega
    · exact ⟨Int.le_refl _, h⟩
theorem mS_self (M : xMem) (k f : Nat) : mS M k f (M k f) = M := by
  funext a j
  unfold mS
  split
  · rename_i h
    rw [h.1, h.2]
  · rfl
theorem mS_2 {M : xMem} {k f : Nat} {v w : Int} : mS (mS M k f v) k f w = mS M k f w := by
  funext a j
  unfold mS
  split
  · rfl
  · rename_i h
    first | rfl | rw [if_neg h]
theorem mS_cm {M : xMem} {k f l g : Nat} {v w : Int} (h : k ≠ l ∨ f ≠ g) : mS (mS M k f v) l g w = mS (mS M l g w) k f v := by
  funext a j
  unfold mS
  by_cases h1 : a = k ∧ j = f
  · by_cases h2 : a = l ∧ j = g
    · omega
    · rw [if_neg h2, if_pos h1, if_pos h1]
  · rw [if_neg h1, if_neg h1]
theorem rf_step {M : xMem} {n i n' i' : Int} : mS (mS (mS (mS M 149 9 n) 149 7 i) 149 9 n') 149 7 i' = mS (mS M 149 9 n') 149 7 i' := by
  rw [mS_cm (M := mS M 149 9 n) (Or.inr (by decide)), mS_2, mS_2]
/-- the reader as it can be -/
def RI (M : xMem) : Prop := (0 ≤ M 149 6 ∧ M 149 6 ≤ 120) ∧ (0 ≤ M 149 7 ∧ M 149 7 ≤ M 149 6) ∧ ∀ j : Nat, j < 120 → 0 ≤ M 150 j ∧ M 150 j ≤ 255
theorem RI_mS {M : xMem} {k f : Nat} {v : Int} (hk : k ≠ 150 ∧ (k = 149 → f ≠ 6 ∧ f ≠ 7)) (h : RI M) : RI (mS M k f v) := by
  obtain ⟨h1, h2, h3⟩ := h
  refine ⟨?_, ?_, fun j hj => ?_⟩
  · rw [mS_ne (by omega)]; exact h1
  · rw [mS_ne (by omega), mS_ne (by omega)]; exact h2
  · rw [mS_ne (by omega)]; exact h3 j hj
theorem adv_lo {M : xMem} {a j : Nat} (h : a ≠ 149) : advM M a j = M a j := by
  unfold advM rdM
  simp (disch := omega) only [mS_ne]
theorem adv_o {M : xMem} {j : Nat} (h : j ≠ 5 ∧ j ≠ 7 ∧ j ≠ 8 ∧ j ≠ 9) : advM M 149 j = M 149 j := by
  unfold advM rdM
  simp (disch := omega) only [mS_ne]
theorem adv_7 {M : xMem} : advM M 149 7 = nxP (M 150) (M 149 6) (M 149 7) := by
  unfold advM rdM
  rw [mS_ne (Or.inr (by decide)), mS_eq]
theorem adv_8 {M : xMem} : advM M 149 8 = tkT (M 150) (M 149 6) (M 149 7) := by
  unfold advM rdM
  rw [mS_eq]
theorem adv_9 {M : xMem} : advM M 149 9 = nuT (M 150) (M 149 6) (M 149 7) (M 149 9) := by
  unfold advM rdM
  rw [mS_ne (Or.inr (by decide)), mS_ne (Or.inr (by decide)), mS_eq]
theorem adv_5 {M : xMem} : advM M 149 5 = M 149 7 := by
  unfold advM rdM
  rw [mS_ne (Or.inr (by decide)), mS_ne (Or.inr (by decide)), mS_ne (Or.inr (by decide)), mS_eq]
theorem nxP_b {g : Nat → Int} {L i : Int} (h : i ≤ L) : i ≤ nxP g L i ∧ nxP g L i ≤ L := by
  unfold nxP
  split
  · omega
  · split
    · exact figL_b _ _ _ _ h
    · omega
theorem RI_adv {M : xMem} (h : RI M) : RI (advM M) := by
  obtain ⟨h1, h2, h3⟩ := h
  have hb := nxP_b (g := M 150) h2.2
  refine ⟨by rw [adv_o (by decide)]; exact h1, by rw [adv_7, adv_o (by decide)]; omega, fun j hj => by rw [adv_lo (by decide)]; exact h3 j hj⟩
def exS (M : xMem) (x : Int) (k : xMem → Bool × xMem) : Bool × xMem := if M 149 8 = x then k (advM M) else (false, mS M 149 4 1)
def exN (M : xMem) (lo hi : Int) (k : Int → xMem → Bool × xMem) : Bool × xMem := if ¬ M 149 8 = -3 then (false, mS M 149 4 1) else if ¬ (lo ≤ M 149 9 ∧ M 149 9 ≤ hi) then (false, mS M 149 4 2) else k (M 149 9) (advM (mS M 149 10 (M 149 9)))
def rdLaw (M : xMem) : Bool × xMem := exS M 99 fun A => exN A 1 60 fun v B => exS (mS (mS B 151 5 v) 157 5 v) 44 fun C => exN C 1 9 fun u D => exS (mS D 157 7 u) 59 fun F => (true, F)
def rdPer (M : xMem) : Bool × xMem := if M 149 8 = 122 ∧ 5 ≤ M 151 6 then (false, mS M 149 4 3) else exS M 122 fun A => exN A 0 99 fun v B => exS (mS B 158 (M 151 6).toNat v) 44 fun C => exN C 0 20 fun u D => exS (mS (mS D 152 (M 151 6).toNat u) 151 6 (M 151 6 + 1)) 59 fun F => (true, F)
def sortT (c : Int) : Int := if c = 110 then 1 else if c = 98 then 2 else if c = 115 then 3 else if c = 119 then 4 else if c = 101 then 5 else 0
def rdSpe (M : xMem) : Bool × xMem := if sortT (M 149 8) = 0 then (false, mS M 149 4 1) else if 6 ≤ M 151 7 then (false, mS M 149 4 3) else
  exN (advM (mS M 153 (M 151 7).toNat (sortT (M 149 8)))) 0 (M 151 6 - 1) fun v B => exS (mS B 154 (M 151 7).toNat v) 44 fun C => exN C 1 30 fun u D => exS (mS D 155 (M 151 7).toNat u) 44 fun F => exN F 0 (M 151 7) fun t G => exS (mS (mS G 156 (M 151 7).toNat t) 151 7 (M 151 7 + 1)) 59 fun H => (true, H)
def rpL : Nat → Int → xMem → Bool × xMem
  | 0, _, M => (true, M)
  | k + 1, p, M => if p = 0 ∨ M 149 8 = 122 then (if (rdPer M).1 = true then rpL k (p + 1) (rdPer M).2 else (false, (rdPer M).2)) else (true, M)
def rsL : Nat → Int → xMem → Bool × xMem
  | 0, _, M => (true, M)
  | k + 1, p, M => if p = 0 ∨ ¬ M 149 8 = -1 then (if (rdSpe M).1 = true then rsL k (p + 1) (rdSpe M).2 else (false, (rdSpe M).2)) else (true, M)
def rdAll (M : xMem) : Bool × xMem := if (rdLaw M).1 = true then (if (rpL 6 0 (rdLaw M).2).1 = true then rsL 7 0 (rpL 6 0 (rdLaw M).2).2 else (false, (rpL 6 0 (rdLaw M).2).2)) else (false, (rdLaw M).2)
def rdTape (M : xMem) : Bool × xMem := rdAll (advM (mS (mS (mS (mS (mS M 149 6 (M 149 3)) 149 3 0) 149 7 0) 151 6 0) 151 7 0))
def xDuchy (M : xMem) : Int × xMem := if (rdTape M).1 = true then (stCp (twCp (rdTape M).2 3 151) 9 157 3 7, mS (stCp (twCp (rdTape M).2 3 151) 9 157) 17 2 0) else (-1000100 - (rdTape M).2 149 5, (rdTape M).2)
theorem figL_out {g : Nat → Int} {L i c n : Int} (h : ¬ (i < L ∧ figB (g i.toNat))) : ∀ k, figL g L k i c n = (i, c, n)
  | 0 => rfl
  | k + 1 => if_neg h
