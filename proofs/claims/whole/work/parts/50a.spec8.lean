/-! the tape read -/
abbrev figB (c : Int) : Prop := 48 ≤ c ∧ c ≤ 57
def figL (g : Nat → Int) (L : Int) : Nat → Int → Int → Int → Int × Int × Int
  | 0, i, c, n => (i, c, n)
  | k + 1, i, c, n => if i < L ∧ figB (g i.toNat) then figL g L k (i + 1) (c + 1) (if 2 < c + 1 then 0 else n * 10 + g i.toNat - 48) else (i, c, n)
def fgT (g : Nat → Int) (L i : Int) : Int × Int × Int := figL g L (L - i).toNat i 0 0
def tkT (g : Nat → Int) (L i : Int) : Int := if L ≤ i then -1 else if figB (g i.toNat) then (if 2 < (fgT g L i).2.1 then -2 else -3) else if (97 ≤ g i.toNat ∧ g i.toNat ≤ 122) ∨ g i.toNat = 44 ∨ g i.toNat = 59 then g i.toNat else -2
def nxP (g : Nat → Int) (L i : Int) : Int := if L ≤ i then i else if figB (g i.toNat) then (fgT g L i).1 else i + 1
def nuT (g : Nat → Int) (L i o : Int) : Int := if L ≤ i then o else if figB (g i.toNat) then (fgT g L i).2.2 else o
def rdM (M : xMem) (p tk nx nu : Int) : xMem := mS (mS (mS (mS M 149 5 p) 149 9 nu) 149 7 nx) 149 8 tk
def advM (M : xMem) : xMem := rdM M (M 149 7) (tkT (M 150) (M 149 6) (M 149 7)) (nxP (M 150) (M 149 6) (M 149 7)) (nuT (M 150) (M 149 6) (M 149 7) (M 149 9))
theorem figL_b {g : Nat → Int} {L : Int} : ∀ (k : Nat) (i c n : Int), i ≤ L → i ≤ (figL g L k i c n).1 ∧ (figL g L k i c n).1 ≤ L
  | 0, i, c, n, h => ⟨Int.le_refl _, h⟩
  | k + 1, i, c, n, h => by
    by_cases hq : i < L ∧ figB (g i.toNat)
    · have hq1 : i < L := hq.1
      have he : figL g L (k + 1) i c n = figL g L k (i + 1) (c + 1) (if 2 < c + 1 then 0 else n * 10 + g i.toNat - 48) := if_pos hq
      have h2 : i + 1 ≤ L := hq1
      have h3 := figL_b (g := g) k (i + 1) (c + 1) (if 2 < c + 1 then 0 else n * 10 + g i.toNat - 48) h2
      rw [he]
      exact ⟨by have := h3.1; omega, h3.2⟩
    · have he : figL g L (k + 1) i c n = (i, c, n) := if_neg hq
      rw [he]
      exact ⟨Int.le_refl _, h⟩
theorem mS_self (M : xMem) (k f : Nat) : mS M k f (M k f) = M := by
  funext a j
  unfold mS
  split
  · rename_i h
    rw [h.1, h.2]
  · rfl
theorem mS_2 {M : xMem} {k f : Nat} {v w : Int} : mS (mS M k f v) k f w = mS M k f w := by
  funext a j
  unfold mS
  split
  · rfl
  · rename_i h
    first | rfl | rw [if_neg h]
theorem mS_cm {M : xMem} {k f l g : Nat} {v w : Int} (h : k ≠ l ∨ f ≠ g) : mS (mS M k f v) l g w = mS (mS M l g w) k f v := by
  funext a j
  unfold mS
  by_cases h1 : a = k ∧ j = f
  · by_cases h2 : a = l ∧ j = g
    · omega
    · rw [if_neg h2, if_pos h1, if_pos h1]
  · rw [if_neg h1, if_neg h1]
theorem rf_step {M : xMem} {n i n' i' : Int} : mS (mS (mS (mS M 149 9 n) 149 7 i) 149 9 n') 149 7 i' = mS (mS M 149 9 n') 149 7 i' := by
  rw [mS_cm (M := mS M 149 9 n) (Or.inr (by decide)), mS_2, mS_2]
/-- the reader as it can be -/
def RI (M : xMem) : Prop := (0 ≤ M 149 6 ∧ M 149 6 ≤ 120) ∧ (0 ≤ M 149 7 ∧ M 149 7 ≤ M 149 6) ∧ ∀ j : Nat, j < 120 → 0 ≤ M 150 j ∧ M 150 j ≤ 255
theorem RI_mS {M : xMem} {k f : Nat} {v : Int} (hk : k ≠ 150 ∧ (k = 149 → f ≠ 6 ∧ f ≠ 7)) (h : RI M) : RI (mS M k f v) := by
  obtain ⟨h1, h2, h3⟩ := h
  refine ⟨?_, ?_, fun j hj => ?_⟩
  · rw [mS_ne (by omega)]; exact h1
  · rw [mS_ne (by omega), mS_ne (by omega)]; exact h2
  · rw [mS_ne (by omega)]; exact h3 j hj
theorem adv_lo {M : xMem} {a j : Nat} (h : a ≠ 149) : advM M a j = M a j := by
  unfold advM rdM
  simp (disch := omega) only [mS_ne]
theorem adv_o {M : xMem} {j : Nat} (h : j ≠ 5 ∧ j ≠ 7 ∧ j ≠ 8 ∧ j ≠ 9) : advM M 149 j = M 149 j := by
  unfold advM rdM
  simp (disch := omega) only [mS_ne]
theorem adv_7 {M : xMem} : advM M 149 7 = nxP (M 150) (M 149 6) (M 149 7) := by
  unfold advM rdM
  rw [mS_ne (Or.inr (by decide)), mS_eq]
theorem adv_8 {M : xMem} : advM M 149 8 = tkT (M 150) (M 149 6) (M 149 7) := by
  unfold advM rdM
  rw [mS_eq]
theorem adv_9 {M : xMem} : advM M 149 9 = nuT (M 150) (M 149 6) (M 149 7) (M 149 9) := by
  unfold advM rdM
  rw [mS_ne (Or.inr (by decide)), mS_ne (Or.inr (by decide)), mS_eq]
theorem adv_5 {M : xMem} : advM M 149 5 = M 149 7 := by
  unfold advM rdM
  rw [mS_ne (Or.inr (by decide)), mS_ne (Or.inr (by decide)), mS_ne (Or.inr (by decide)), mS_eq]
theorem nxP_b {g : Nat → Int} {L i : Int} (h : i ≤ L) : i ≤ nxP g L i ∧ nxP g L i ≤ L := by
  unfold nxP
  split
  · omega
  · split
    · exact figL_b _ _ _ _ h
    · omega
theorem RI_adv {M : xMem} (h : RI M) : RI (advM M) := by
  obtain ⟨h1, h2, h3⟩ := h
  have hb := nxP_b (g := M 150) h2.2
  refine ⟨by rw [adv_o (by decide)]; exact h1, by rw [adv_7, adv_o (by decide)]; omega, fun j hj => by rw [adv_lo (by decide)]; exact h3 j hj⟩
def exS (M : xMem) (x : Int) (k : xMem → Bool × xMem) : Bool × xMem := if M 149 8 = x then k (advM M) else (false, mS M 149 4 1)
abbrev nG (M : xMem) (lo hi : Int) : Prop := M 149 8 = -3 ∧ lo ≤ M 149 9 ∧ M 149 9 ≤ hi
def nF (M : xMem) : xMem := if M 149 8 = -3 then mS M 149 4 2 else mS M 149 4 1
def exN (M : xMem) (lo hi : Int) (k : Int → xMem → Bool × xMem) : Bool × xMem := if nG M lo hi then k (M 149 9) (advM (mS M 149 10 (M 149 9))) else (false, nF M)
theorem exS_t {M : xMem} {x : Int} {k : xMem → Bool × xMem} (h : M 149 8 = x) : exS M x k = k (advM M) := if_pos h
theorem exS_f {M : xMem} {x : Int} {k : xMem → Bool × xMem} (h : ¬ M 149 8 = x) : exS M x k = (false, mS M 149 4 1) := if_neg h
theorem exN_t {M : xMem} {lo hi : Int} {k : Int → xMem → Bool × xMem} (h : nG M lo hi) : exN M lo hi k = k (M 149 9) (advM (mS M 149 10 (M 149 9))) := if_pos h
theorem exN_f {M : xMem} {lo hi : Int} {k : Int → xMem → Bool × xMem} (h : ¬ nG M lo hi) : exN M lo hi k = (false, nF M) := if_neg h
theorem exS_ok {M : xMem} {x : Int} {k : xMem → Bool × xMem} (h : (exS M x k).1 = true) : M 149 8 = x ∧ exS M x k = k (advM M) := by
  by_cases hq : M 149 8 = x
  · exact ⟨hq, exS_t hq⟩
  · rw [exS_f hq] at h
    exact absurd (show false = true from h) (by decide)
theorem exN_ok {M : xMem} {lo hi : Int} {k : Int → xMem → Bool × xMem} (h : (exN M lo hi k).1 = true) : nG M lo hi ∧ exN M lo hi k = k (M 149 9) (advM (mS M 149 10 (M 149 9))) := by
  by_cases hq : nG M lo hi
  · exact ⟨hq, exN_t hq⟩
  · rw [exN_f hq] at h
    exact absurd (show false = true from h) (by decide)
theorem exS_end {M : xMem} {x : Int} : exS M x (fun F => (true, F)) = (decide (M 149 8 = x), if M 149 8 = x then advM M else mS M 149 4 1) := by
  unfold exS
  split
  · rename_i h
    rw [decide_eq_true h]
  · rename_i h
    rw [decide_eq_false h]
theorem b2i_d {P : Prop} [Decidable P] : b2i P = b2i (decide P = true) := b2i_cg (by simp)
def rdLaw (M : xMem) : Bool × xMem := exS M 99 fun A => exN A 1 60 fun v B => exS (mS (mS B 151 5 v) 157 5 v) 44 fun C => exN C 1 9 fun u D => exS (mS D 157 7 u) 59 fun F => (true, F)
def rdPer (M : xMem) : Bool × xMem := if M 149 8 = 122 ∧ 5 ≤ M 151 6 then (false, mS M 149 4 3) else exS M 122 fun A => exN A 0 99 fun v B => exS (mS B 158 (M 151 6).toNat v) 44 fun C => exN C 0 20 fun u D => exS (mS (mS D 152 (M 151 6).toNat u) 151 6 (M 151 6 + 1)) 59 fun F => (true, F)
def sortT (c : Int) : Int := if c = 110 then 1 else if c = 98 then 2 else if c = 115 then 3 else if c = 119 then 4 else if c = 101 then 5 else 0
def rdSpe (M : xMem) : Bool × xMem := if sortT (M 149 8) = 0 then (false, mS M 149 4 1) else if 6 ≤ M 151 7 then (false, mS M 149 4 3) else
  exN (advM (mS M 153 (M 151 7).toNat (sortT (M 149 8)))) 0 (M 151 6 - 1) fun v B => exS (mS B 154 (M 151 7).toNat v) 44 fun C => exN C 1 30 fun u D => exS (mS D 155 (M 151 7).toNat u) 44 fun F => exN F 0 (M 151 7) fun t G => exS (mS (mS G 156 (M 151 7).toNat t) 151 7 (M 151 7 + 1)) 59 fun H => (true, H)
def rpL : Nat → Int → xMem → Bool × xMem
  | 0, _, M => (true, M)
  | k + 1, p, M => if p = 0 ∨ M 149 8 = 122 then (if (rdPer M).1 = true then rpL k (p + 1) (rdPer M).2 else (false, (rdPer M).2)) else (true, M)
def rsL : Nat → Int → xMem → Bool × xMem
  | 0, _, M => (true, M)
  | k + 1, p, M => if p = 0 ∨ ¬ M 149 8 = -1 then (if (rdSpe M).1 = true then rsL k (p + 1) (rdSpe M).2 else (false, (rdSpe M).2)) else (true, M)
def rdAll (M : xMem) : Bool × xMem := if (rdLaw M).1 = true then (if (rpL 6 0 (rdLaw M).2).1 = true then rsL 7 0 (rpL 6 0 (rdLaw M).2).2 else (false, (rpL 6 0 (rdLaw M).2).2)) else (false, (rdLaw M).2)
def rdTape (M : xMem) : Bool × xMem := rdAll (advM (mS (mS (mS (mS (mS M 149 6 (M 149 3)) 149 3 0) 149 7 0) 151 6 0) 151 7 0))
def xDuchy (M : xMem) : Int × xMem := if (rdTape M).1 = true then (stCp (twCp (rdTape M).2 3 151) 9 157 3 7, mS (stCp (twCp (rdTape M).2 3 151) 9 157) 17 2 0) else (-1000100 - (rdTape M).2 149 5, (rdTape M).2)
theorem figL_out {g : Nat → Int} {L i c n : Int} (h : ¬ (i < L ∧ figB (g i.toNat))) : ∀ k, figL g L k i c n = (i, c, n)
  | 0 => rfl
  | k + 1 => if_neg h
theorem mS_row {M : xMem} {k f a : Nat} {v : Int} (h : a ≠ k) : mS M k f v a = M a := by
  funext j
  exact mS_ne (Or.inl h)
theorem adv_end {M : xMem} (h : M 149 6 ≤ M 149 7) : mS (mS M 149 5 (M 149 7)) 149 8 (-1) = advM M := by
  unfold advM tkT nxP nuT rdM
  rw [if_pos h, if_pos h, if_pos h]
  have h9 := mS_self (mS M 149 5 (M 149 7)) 149 9
  rw [mS_ne (Or.inr (by decide))] at h9
  have h7 := mS_self (mS M 149 5 (M 149 7)) 149 7
  rw [mS_ne (Or.inr (by decide))] at h7
  rw [h9, h7]
theorem adv_fig {M : xMem} (h : M 149 7 < M 149 6) (hf : figB (M 150 (M 149 7).toNat)) : mS (mS (mS (mS M 149 5 (M 149 7)) 149 9 (fgT (M 150) (M 149 6) (M 149 7)).2.2) 149 7 (fgT (M 150) (M 149 6) (M 149 7)).1) 149 8 (if 2 < (fgT (M 150) (M 149 6) (M 149 7)).2.1 then -2 else -3) = advM M := by
  unfold advM tkT nxP nuT rdM
  rw [if_neg (show ¬ M 149 6 ≤ M 149 7 by omega), if_neg (show ¬ M 149 6 ≤ M 149 7 by omega), if_neg (show ¬ M 149 6 ≤ M 149 7 by omega), if_pos hf, if_pos hf, if_pos hf]
theorem adv_one {M : xMem} {t : Int} (h : M 149 7 < M 149 6) (hf : ¬ figB (M 150 (M 149 7).toNat)) (ht : t = if (97 ≤ M 150 (M 149 7).toNat ∧ M 150 (M 149 7).toNat ≤ 122) ∨ M 150 (M 149 7).toNat = 44 ∨ M 150 (M 149 7).toNat = 59 then M 150 (M 149 7).toNat else -2) :
    mS (mS (mS M 149 5 (M 149 7)) 149 8 t) 149 7 (M 149 7 + 1) = advM M := by
  subst ht
  unfold advM tkT nxP nuT rdM
  rw [if_neg (show ¬ M 149 6 ≤ M 149 7 by omega), if_neg (show ¬ M 149 6 ≤ M 149 7 by omega), if_neg (show ¬ M 149 6 ≤ M 149 7 by omega), if_neg hf, if_neg hf, if_neg hf]
  have h9 := mS_self (mS M 149 5 (M 149 7)) 149 9
  rw [mS_ne (Or.inr (by decide))] at h9
  rw [h9]
  exact mS_cm (Or.inr (by decide))
theorem rdPer_ok {M : xMem} (hR : RI M) (h : (rdPer M).1 = true) : RI (rdPer M).2 ∧ (rdPer M).2 151 6 = M 151 6 + 1 ∧ (rdPer M).2 151 7 = M 151 7 ∧ M 151 6 < 5 := by
  have hk : rdPer M = if M 149 8 = 122 ∧ 5 ≤ M 151 6 then (false, mS M 149 4 3) else exS M 122 fun A => exN A 0 99 fun v B => exS (mS B 158 (M 151 6).toNat v) 44 fun C => exN C 0 20 fun u D => exS (mS (mS D 152 (M 151 6).toNat u) 151 6 (M 151 6 + 1)) 59 fun F => (true, F) := rfl
  by_cases h0 : M 149 8 = 122 ∧ 5 ≤ M 151 6
  · rw [hk, if_pos h0] at h
    exact absurd (show false = true from h) (by decide)
  · have hk := hk.trans (if_neg h0)
    rw [hk] at h
    obtain ⟨e1, k1⟩ := exS_ok h
    have hk := hk.trans k1
    rw [k1] at h
    obtain ⟨e2, k2⟩ := exN_ok h
    have hk := hk.trans k2
    rw [k2] at h
    obtain ⟨e3, k3⟩ := exS_ok h
    have hk := hk.trans k3
    rw [k3] at h
    obtain ⟨e4, k4⟩ := exN_ok h
    have hk := hk.trans k4
    rw [k4] at h
    obtain ⟨e5, k5⟩ := exS_ok h
    have hk := hk.trans k5
    rw [hk]
    refine ⟨?_, ?_, ?_, by omega⟩
    · show RI (advM _)
      repeat (first | assumption | apply RI_adv | (refine RI_mS (by omega) ?_))
    · show advM _ 151 6 = _
      simp (disch := omega) only [adv_lo, mS_ne, mS_eq]
    · show advM _ 151 7 = _
      simp (disch := omega) only [adv_lo, mS_ne]
theorem rdSpe_ok {M : xMem} (hR : RI M) (h : (rdSpe M).1 = true) : RI (rdSpe M).2 ∧ (rdSpe M).2 151 7 = M 151 7 + 1 ∧ (rdSpe M).2 151 6 = M 151 6 ∧ M 151 7 < 6 := by
  have hk : rdSpe M = if sortT (M 149 8) = 0 then (false, mS M 149 4 1) else if 6 ≤ M 151 7 then (false, mS M 149 4 3) else
    exN (advM (mS M 153 (M 151 7).toNat (sortT (M 149 8)))) 0 (M 151 6 - 1) fun v B => exS (mS B 154 (M 151 7).toNat v) 44 fun C => exN C 1 30 fun u D => exS (mS D 155 (M 151 7).toNat u) 44 fun F => exN F 0 (M 151 7) fun t G => exS (mS (mS G 156 (M 151 7).toNat t) 151 7 (M 151 7 + 1)) 59 fun H => (true, H) := rfl
  by_cases h0 : sortT (M 149 8) = 0
  · rw [hk, if_pos h0] at h
    exact absurd (show false = true from h) (by decide)
  · have hk := hk.trans (if_neg h0)
    by_cases h1 : 6 ≤ M 151 7
    · rw [hk, if_pos h1] at h
      exact absurd (show false = true from h) (by decide)
    · have hk := hk.trans (if_neg h1)
      rw [hk] at h
      obtain ⟨e1, k1⟩ := exN_ok h
      have hk := hk.trans k1
      rw [k1] at h
      obtain ⟨e2, k2⟩ := exS_ok h
      have hk := hk.trans k2
      rw [k2] at h
      obtain ⟨e3, k3⟩ := exN_ok h
      have hk := hk.trans k3
      rw [k3] at h
      obtain ⟨e4, k4⟩ := exS_ok h
      have hk := hk.trans k4
      rw [k4] at h
      obtain ⟨e5, k5⟩ := exN_ok h
      have hk := hk.trans k5
      rw [k5] at h
      obtain ⟨e6, k6⟩ := exS_ok h
      have hk := hk.trans k6
      rw [hk]
      refine ⟨?_, ?_, ?_, by omega⟩
      · show RI (advM _)
        repeat (first | assumption | apply RI_adv | (refine RI_mS (by omega) ?_))
      · show advM _ 151 7 = _
        simp (disch := omega) only [adv_lo, mS_ne, mS_eq]
      · show advM _ 151 6 = _
        simp (disch := omega) only [adv_lo, mS_ne]
theorem rdLaw_ok {M : xMem} (hR : RI M) (h : (rdLaw M).1 = true) : RI (rdLaw M).2 ∧ (rdLaw M).2 151 7 = M 151 7 ∧ (rdLaw M).2 151 6 = M 151 6 := by
  have hk : rdLaw M = exS M 99 fun A => exN A 1 60 fun v B => exS (mS (mS B 151 5 v) 157 5 v) 44 fun C => exN C 1 9 fun u D => exS (mS D 157 7 u) 59 fun F => (true, F) := rfl
  rw [hk] at h
  obtain ⟨e1, k1⟩ := exS_ok h
  have hk := hk.trans k1
  rw [k1] at h
  obtain ⟨e2, k2⟩ := exN_ok h
  have hk := hk.trans k2
  rw [k2] at h
  obtain ⟨e3, k3⟩ := exS_ok h
  have hk := hk.trans k3
  rw [k3] at h
  obtain ⟨e4, k4⟩ := exN_ok h
  have hk := hk.trans k4
  rw [k4] at h
  obtain ⟨e5, k5⟩ := exS_ok h
  have hk := hk.trans k5
  rw [hk]
  refine ⟨?_, ?_, ?_⟩
  · show RI (advM _)
    repeat (first | assumption | apply RI_adv | (refine RI_mS (by omega) ?_))
  · show advM _ 151 7 = _
    simp (disch := omega) only [adv_lo, mS_ne]
  · show advM _ 151 6 = _
    simp (disch := omega) only [adv_lo, mS_ne]
theorem rpL_t {k : Nat} {p : Int} {M : xMem} (h : p = 0 ∨ M 149 8 = 122) (h1 : (rdPer M).1 = true) : rpL (k + 1) p M = rpL k (p + 1) (rdPer M).2 := by
  show (if p = 0 ∨ M 149 8 = 122 then (if (rdPer M).1 = true then rpL k (p + 1) (rdPer M).2 else (false, (rdPer M).2)) else (true, M)) = _
  rw [if_pos h, if_pos h1]
theorem rpL_f {k : Nat} {p : Int} {M : xMem} (h : p = 0 ∨ M 149 8 = 122) (h1 : ¬ (rdPer M).1 = true) : rpL (k + 1) p M = (false, (rdPer M).2) := by
  show (if p = 0 ∨ M 149 8 = 122 then (if (rdPer M).1 = true then rpL k (p + 1) (rdPer M).2 else (false, (rdPer M).2)) else (true, M)) = _
  rw [if_pos h, if_neg h1]
theorem rpL_e {k : Nat} {p : Int} {M : xMem} (h : ¬ (p = 0 ∨ M 149 8 = 122)) : rpL k p M = (true, M) := by
  cases k with
  | zero => rfl
  | succ k => exact if_neg h
theorem rsL_t {k : Nat} {p : Int} {M : xMem} (h : p = 0 ∨ ¬ M 149 8 = -1) (h1 : (rdSpe M).1 = true) : rsL (k + 1) p M = rsL k (p + 1) (rdSpe M).2 := by
  show (if p = 0 ∨ ¬ M 149 8 = -1 then (if (rdSpe M).1 = true then rsL k (p + 1) (rdSpe M).2 else (false, (rdSpe M).2)) else (true, M)) = _
  rw [if_pos h, if_pos h1]
theorem rsL_f {k : Nat} {p : Int} {M : xMem} (h : p = 0 ∨ ¬ M 149 8 = -1) (h1 : ¬ (rdSpe M).1 = true) : rsL (k + 1) p M = (false, (rdSpe M).2) := by
  show (if p = 0 ∨ ¬ M 149 8 = -1 then (if (rdSpe M).1 = true then rsL k (p + 1) (rdSpe M).2 else (false, (rdSpe M).2)) else (true, M)) = _
  rw [if_pos h, if_neg h1]
theorem rsL_e {k : Nat} {p : Int} {M : xMem} (h : ¬ (p = 0 ∨ ¬ M 149 8 = -1)) : rsL k p M = (true, M) := by
  cases k with
  | zero => rfl
  | succ k => exact if_neg h
theorem rpL_ok : ∀ (k : Nat) (p : Int) (M : xMem), RI M → M 151 6 = p → 0 ≤ p → (p = 0 → 0 < k) → (rpL k p M).1 = true → RI (rpL k p M).2 ∧ (1 ≤ (rpL k p M).2 151 6 ∧ (rpL k p M).2 151 6 ≤ max p 5) ∧ (rpL k p M).2 151 7 = M 151 7
  | 0, p, M, hR, e, h0, hp, h => ⟨hR, by show 1 ≤ M 151 6 ∧ M 151 6 ≤ _; omega, rfl⟩
  | k + 1, p, M, hR, e, h0, hp, h => by
    by_cases hq : p = 0 ∨ M 149 8 = 122
    · by_cases h1 : (rdPer M).1 = true
      · rw [rpL_t hq h1] at h ⊢
        have ho := rdPer_ok hR h1
        have := rpL_ok k (p + 1) (rdPer M).2 ho.1 (by omega) (by omega) (by omega) h
        refine ⟨this.1, by omega, this.2.2.trans ho.2.2.1⟩
      · rw [rpL_f hq h1] at h
        exact absurd (show false = true from h) (by decide)
    · rw [rpL_e hq]
      exact ⟨hR, by show 1 ≤ M 151 6 ∧ M 151 6 ≤ _; omega, rfl⟩
theorem RI_0 {M : xMem} (hL : 0 ≤ M 149 3 ∧ M 149 3 ≤ 120) (hT : ∀ j : Nat, j < 120 → 0 ≤ M 150 j ∧ M 150 j ≤ 255) : RI (mS (mS (mS (mS (mS M 149 6 (M 149 3)) 149 3 0) 149 7 0) 151 6 0) 151 7 0) := by
  refine ⟨?_, ?_, fun j hj => ?_⟩
  · simp (disch := omega) only [mS_ne, mS_eq]
    exact hL
  · simp (disch := omega) only [mS_ne, mS_eq]
    omega
  · simp (disch := omega) only [mS_ne, mS_eq]
    exact hT j hj
