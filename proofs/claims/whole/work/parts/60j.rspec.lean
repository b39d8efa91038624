section RSP
/-! ===== the tape, the model's way ===== -/
def byT (g : Nat → Int) (L i : Int) : Int := if i < L then g i.toNat else 0
theorem by_fig {g : Nat → Int} {L i : Int} : figB (byT g L i) ↔ (i < L ∧ figB (g i.toNat)) := by
  unfold byT
  by_cases h : i < L
  · rw [if_pos h]
    exact ⟨fun q => ⟨h, q⟩, fun q => q.2⟩
  · rw [if_neg h]
    exact ⟨fun q => absurd q.1 (by decide), fun q => absurd q.1 h⟩
def fyL (g : Nat → Int) (L : Int) : Nat → Int → Int → Int × Int
  | 0, i, n => (i, n)
  | k + 1, i, n => if i < L ∧ figB (g i.toNat) then fyL g L k (i + 1) (if 99 < n then n else 10 * n + g i.toNat - 48) else (i, n)
def fyT (g : Nat → Int) (L i : Int) : Int × Int := fyL g L (L - i).toNat i 0
def tkY (g : Nat → Int) (L i : Int) : Int := if L ≤ i then -1 else if figB (g i.toNat) then (if 2 < (fyT g L i).1 - i then 0 else 48) else if (97 ≤ g i.toNat ∧ g i.toNat ≤ 122) ∨ g i.toNat = 44 ∨ g i.toNat = 59 then g i.toNat else 0
def nxY (g : Nat → Int) (L i : Int) : Int := if L ≤ i then i else if figB (g i.toNat) then (fyT g L i).1 else i + 1
def nuY (g : Nat → Int) (L i o : Int) : Int := if L ≤ i then o else if figB (g i.toNat) then (fyT g L i).2 else o
def rsM (M : xMem) : xMem := mS (mS (mS (mS M 201 9 (M 201 6)) 201 8 (nuY (M 205) (M 201 4) (M 201 6) (M 201 8))) 201 6 (nxY (M 205) (M 201 4) (M 201 6))) 201 7 (tkY (M 205) (M 201 4) (M 201 6))
def RY (M : xMem) : Prop := (0 ≤ M 201 4 ∧ M 201 4 ≤ 120) ∧ (0 ≤ M 201 6 ∧ M 201 6 ≤ M 201 4) ∧ ∀ j : Nat, j < 120 → 0 ≤ M 205 j ∧ M 205 j ≤ 255
theorem fyL_b {g : Nat → Int} {L : Int} : ∀ (k : Nat) (i n : Int), i ≤ L → i ≤ (fyL g L k i n).1 ∧ (fyL g L k i n).1 ≤ L
  | 0, i, n, h => ⟨Int.le_refl _, h⟩
  | k + 1, i, n, h => by
    unfold fyL
    split
    · rename_i q
      have := fyL_b (g := g) (L := L) k (i + 1) (if 99 < n then n else 10 * n + g i.toNat - 48) (by omega)
      omega
    · exact ⟨Int.le_refl _, h⟩
theorem fyL_out {g : Nat → Int} {L i n : Int} (h : ¬ (i < L ∧ figB (g i.toNat))) : ∀ k, fyL g L k i n = (i, n)
  | 0 => rfl
  | k + 1 => if_neg h
theorem ry_step {M : xMem} {n i n' i' : Int} : mS (mS (mS (mS M 201 8 n) 201 6 i) 201 8 n') 201 6 i' = mS (mS M 201 8 n') 201 6 i' := by
  rw [mS_cm (M := mS M 201 8 n) (Or.inr (by decide)), mS_2, mS_2]
theorem rs_end {M : xMem} (h : M 201 4 ≤ M 201 6) : mS (mS M 201 9 (M 201 6)) 201 7 (-1) = rsM M := by
  unfold rsM tkY nxY nuY
  rw [if_pos h, if_pos h, if_pos h]
  have h8 := mS_self (mS M 201 9 (M 201 6)) 201 8
  rw [mS_ne (Or.inr (by decide))] at h8
  have h6 := mS_self (mS M 201 9 (M 201 6)) 201 6
  rw [mS_ne (Or.inr (by decide))] at h6
  rw [h8, h6]
theorem rs_fig {M : xMem} (h : M 201 6 < M 201 4) (hf : figB (M 205 (M 201 6).toNat)) : mS (mS (mS (mS M 201 9 (M 201 6)) 201 8 (fyT (M 205) (M 201 4) (M 201 6)).2) 201 6 (fyT (M 205) (M 201 4) (M 201 6)).1) 201 7 (if 2 < (fyT (M 205) (M 201 4) (M 201 6)).1 - M 201 6 then 0 else 48) = rsM M := by
  unfold rsM tkY nxY nuY
  rw [if_neg (show ¬ M 201 4 ≤ M 201 6 by omega), if_neg (show ¬ M 201 4 ≤ M 201 6 by omega), if_neg (show ¬ M 201 4 ≤ M 201 6 by omega), if_pos hf, if_pos hf, if_pos hf]
theorem rs_one {M : xMem} {t : Int} (h : M 201 6 < M 201 4) (hf : ¬ figB (M 205 (M 201 6).toNat)) (ht : t = if (97 ≤ M 205 (M 201 6).toNat ∧ M 205 (M 201 6).toNat ≤ 122) ∨ M 205 (M 201 6).toNat = 44 ∨ M 205 (M 201 6).toNat = 59 then M 205 (M 201 6).toNat else 0) : mS (mS (mS M 201 9 (M 201 6)) 201 6 (M 201 6 + 1)) 201 7 t = rsM M := by
  subst ht
  unfold rsM tkY nxY nuY
  rw [if_neg (show ¬ M 201 4 ≤ M 201 6 by omega), if_neg (show ¬ M 201 4 ≤ M 201 6 by omega), if_neg (show ¬ M 201 4 ≤ M 201 6 by omega), if_neg hf, if_neg hf, if_neg hf]
  have h8 := mS_self (mS M 201 9 (M 201 6)) 201 8
  rw [mS_ne (Or.inr (by decide))] at h8
  rw [h8]
theorem rs_row {M : xMem} {a : Nat} (h : a ≠ 201) : rsM M a = M a := by
  unfold rsM
  rw [mS_row h, mS_row h, mS_row h, mS_row h]
theorem rs_lo {M : xMem} {a j : Nat} (h : a ≠ 201) : rsM M a j = M a j := by rw [rs_row h]
theorem rs_o {M : xMem} {j : Nat} (h : j ≠ 6 ∧ j ≠ 7 ∧ j ≠ 8 ∧ j ≠ 9) : rsM M 201 j = M 201 j := by
  unfold rsM
  simp (disch := omega) only [mS_ne]
theorem rs_6 {M : xMem} : rsM M 201 6 = nxY (M 205) (M 201 4) (M 201 6) := by
  unfold rsM
  rw [mS_ne (Or.inr (by decide)), mS_eq]
theorem rs_7 {M : xMem} : rsM M 201 7 = tkY (M 205) (M 201 4) (M 201 6) := by
  unfold rsM
  rw [mS_eq]
theorem rs_8 {M : xMem} : rsM M 201 8 = nuY (M 205) (M 201 4) (M 201 6) (M 201 8) := by
  unfold rsM
  rw [mS_ne (Or.inr (by decide)), mS_ne (Or.inr (by decide)), mS_eq]
theorem rs_9 {M : xMem} : rsM M 201 9 = M 201 6 := by
  unfold rsM
  rw [mS_ne (Or.inr (by decide)), mS_ne (Or.inr (by decide)), mS_ne (Or.inr (by decide)), mS_eq]
theorem nxY_b {g : Nat → Int} {L i : Int} (h : i ≤ L) : i ≤ nxY g L i ∧ nxY g L i ≤ L := by
  unfold nxY
  split
  · omega
  · split
    · exact fyL_b _ _ _ h
    · omega
theorem RY_rs {M : xMem} (h : RY M) : RY (rsM M) := by
  obtain ⟨h1, h2, h3⟩ := h
  have hb := nxY_b (g := M 205) h2.2
  refine ⟨by rw [rs_o (by decide)]; exact h1, by rw [rs_6, rs_o (by decide)]; omega, fun j hj => by rw [rs_lo (by decide)]; exact h3 j hj⟩
theorem RY_mS {M : xMem} {k f : Nat} {v : Int} (hk : k ≠ 205 ∧ (k = 201 → f ≠ 4 ∧ f ≠ 6)) (h : RY M) : RY (mS M k f v) := by
  obtain ⟨h1, h2, h3⟩ := h
  refine ⟨?_, ?_, fun j hj => ?_⟩
  · rw [mS_ne (by omega)]; exact h1
  · rw [mS_ne (by omega), mS_ne (by omega)]; exact h2
  · rw [mS_ne (by omega)]; exact h3 j hj
/-! told and signs -/
abbrev toldB (M : xMem) (lo hi : Int) : Prop := rsM M 201 7 = 48 ∧ lo ≤ rsM M 201 8 ∧ rsM M 201 8 ≤ hi
def toldM (M : xMem) (a j : Nat) (lo hi : Int) : xMem := if rsM M 201 7 = 48 then (if lo ≤ rsM M 201 8 ∧ rsM M 201 8 ≤ hi then mS (rsM M) a j (rsM M 201 8) else mS (mS (rsM M) a j (rsM M 201 8)) 201 10 2) else mS (rsM M) 201 10 1
def signM (M : xMem) (x : Int) : xMem := if rsM M 201 7 = x then rsM M else mS (rsM M) 201 10 1
theorem RY_told {M : xMem} {a j : Nat} {lo hi : Int} (ha : a ≠ 205 ∧ a ≠ 201) (h : RY M) : RY (toldM M a j lo hi) := by
  have h0 := RY_rs h
  unfold toldM
  split
  · split
    · exact RY_mS (by omega) h0
    · exact RY_mS (by decide) (RY_mS (by omega) h0)
  · exact RY_mS (by decide) h0
theorem RY_sign {M : xMem} {x : Int} (h : RY M) : RY (signM M x) := by
  have h0 := RY_rs h
  unfold signM
  split
  · exact h0
  · exact RY_mS (by decide) h0
theorem told_ne {M : xMem} {a j b i : Nat} {lo hi : Int} (hb : b ≠ 201) (h : b ≠ a ∨ i ≠ j) : toldM M a j lo hi b i = M b i := by
  unfold toldM
  split
  · split
    · rw [mS_ne h, rs_lo hb]
    · rw [mS_ne (Or.inl hb), mS_ne h, rs_lo hb]
  · rw [mS_ne (Or.inl hb), rs_lo hb]
theorem told_o {M : xMem} {a j i : Nat} {lo hi : Int} (ha : a ≠ 201) (hi' : i ≠ 10 ∧ i ≠ 6 ∧ i ≠ 7 ∧ i ≠ 8 ∧ i ≠ 9) : toldM M a j lo hi 201 i = M 201 i := by
  unfold toldM
  split
  · split
    · rw [mS_ne (Or.inl (Ne.symm ha)), rs_o (by omega)]
    · rw [mS_ne (by omega), mS_ne (Or.inl (Ne.symm ha)), rs_o (by omega)]
  · rw [mS_ne (by omega), rs_o (by omega)]
theorem sign_ne {M : xMem} {x : Int} {b i : Nat} (hb : b ≠ 201) : signM M x b i = M b i := by
  unfold signM
  split
  · rw [rs_lo hb]
  · rw [mS_ne (Or.inl hb), rs_lo hb]
theorem sign_o {M : xMem} {x : Int} {i : Nat} (hi' : i ≠ 10 ∧ i ≠ 6 ∧ i ≠ 7 ∧ i ≠ 8 ∧ i ≠ 9) : signM M x 201 i = M 201 i := by
  unfold signM
  split
  · rw [rs_o (by omega)]
  · rw [mS_ne (by omega), rs_o (by omega)]
theorem told_t {M : xMem} {a j : Nat} {lo hi : Int} (h : toldB M lo hi) : toldM M a j lo hi = mS (rsM M) a j (rsM M 201 8) := by
  unfold toldM
  rw [if_pos h.1, if_pos h.2]
theorem sign_t {M : xMem} {x : Int} (h : rsM M 201 7 = x) : signM M x = rsM M := if_pos h
def eyS (M : xMem) (x : Int) (k : xMem → Bool × xMem) : Bool × xMem := if rsM M 201 7 = x then k (signM M x) else (false, signM M x)
def eyN (M : xMem) (a j : Nat) (lo hi : Int) (k : xMem → Bool × xMem) : Bool × xMem := if toldB M lo hi then k (toldM M a j lo hi) else (false, toldM M a j lo hi)
theorem eyS_t {M : xMem} {x : Int} {k : xMem → Bool × xMem} (h : rsM M 201 7 = x) : eyS M x k = k (signM M x) := if_pos h
theorem eyS_f {M : xMem} {x : Int} {k : xMem → Bool × xMem} (h : ¬ rsM M 201 7 = x) : eyS M x k = (false, signM M x) := if_neg h
theorem eyN_t {M : xMem} {a j : Nat} {lo hi : Int} {k : xMem → Bool × xMem} (h : toldB M lo hi) : eyN M a j lo hi k = k (toldM M a j lo hi) := if_pos h
theorem eyN_f {M : xMem} {a j : Nat} {lo hi : Int} {k : xMem → Bool × xMem} (h : ¬ toldB M lo hi) : eyN M a j lo hi k = (false, toldM M a j lo hi) := if_neg h
theorem eyS_ok {M : xMem} {x : Int} {k : xMem → Bool × xMem} (h : (eyS M x k).1 = true) : rsM M 201 7 = x ∧ eyS M x k = k (signM M x) := by
  by_cases hq : rsM M 201 7 = x
  · exact ⟨hq, eyS_t hq⟩
  · rw [eyS_f hq] at h
    exact absurd (show false = true from h) (by decide)
theorem eyN_ok {M : xMem} {a j : Nat} {lo hi : Int} {k : xMem → Bool × xMem} (h : (eyN M a j lo hi k).1 = true) : toldB M lo hi ∧ eyN M a j lo hi k = k (toldM M a j lo hi) := by
  by_cases hq : toldB M lo hi
  · exact ⟨hq, eyN_t hq⟩
  · rw [eyN_f hq] at h
    exact absurd (show false = true from h) (by decide)
theorem eyS_end {M : xMem} {x : Int} : eyS M x (fun F => (true, F)) = (decide (rsM M 201 7 = x), signM M x) := by
  unfold eyS
  split
  · rename_i h
    rw [decide_eq_true h]
  · rename_i h
    rw [decide_eq_false h]
def ryLI (M : xMem) : Bool × xMem := eyN M 206 2 1 60 fun A => eyS A 44 fun B => eyN B 208 0 1 9 fun C => eyS C 59 fun D => (true, D)
def ryLaw (M : xMem) : Bool × xMem := if M 201 7 = 99 then ((ryLI M).1, mS (ryLI M).2 201 12 ((ryLI M).2 208 0)) else (false, mS M 201 10 1)
def ryPer (M : xMem) : Bool × xMem := if M 206 0 = 5 then (false, mS M 201 10 3) else eyN (mS M 206 0 (M 206 0 + 1)) 207 (M 206 0).toNat 0 99 fun A => eyS A 44 fun B => eyN B 206 (3 + M 206 0).toNat 0 20 fun C => eyS C 59 fun D => (true, D)
def nnT (v s : Int) : Int := if v = s then -1000000 else v
def rySpe (M : xMem) : Bool × xMem := if sortT (M 201 7) = 0 then (false, mS M 201 10 1) else if M 206 1 = 6 then (false, mS M 201 10 3) else
  eyN (mS (mS M 206 1 (M 206 1 + 1)) 206 (8 + M 206 1).toNat (sortT (M 201 7))) 206 (14 + M 206 1).toNat 0 (M 206 0 - 1) fun A => eyS A 44 fun B => eyN B 206 (20 + M 206 1).toNat 1 30 fun C => eyS C 44 fun D => eyN D 206 (26 + M 206 1).toNat 0 (M 206 1) fun F => eyS (mS F 206 (26 + M 206 1).toNat (nnT (F 206 (26 + M 206 1).toNat) (M 206 1))) 59 fun G => (true, G)
def ryPL : Nat → xMem → Bool × xMem
  | 0, M => (true, M)
  | k + 1, M => if M 201 7 = 122 ∧ M 206 1 = 0 then (if (ryPer M).1 = true then ryPL k (rsM (ryPer M).2) else (false, (ryPer M).2)) else (true, M)
def rySL : Nat → xMem → Bool × xMem
  | 0, M => (true, M)
  | k + 1, M => if ¬ M 201 7 = -1 ∨ M 206 1 = 0 then (if (rySpe M).1 = true then rySL k (rsM (rySpe M).2) else (false, (rySpe M).2)) else (true, M)
def ryM0 (M : xMem) : xMem := rsM (mS (mS (mS M 201 6 0) 206 0 0) 206 1 0)
def ryTail (P : Bool × xMem) : Bool × xMem := if P.1 = true then (if P.2 206 0 = 0 then (false, mS P.2 201 10 1) else rySL 7 P.2) else (false, P.2)
def ryAll (M : xMem) : Bool × xMem := if (ryLaw (ryM0 M)).1 = true then ryTail (ryPL 6 (rsM (ryLaw (ryM0 M)).2)) else (false, (ryLaw (ryM0 M)).2)
def yNew (X : xMem) : xMem := mS (rngM (mS (mS (rngM (rngM (mS X 201 16 1) 209 0 (X 206) 32) 210 0 (fun _ => 0) 21) 210 1 (X 206 2)) 210 3 (X 201 12)) 210 5 (X 207) (X 206 0)) 201 20 0
def yDuchy (M : xMem) : Int × xMem := if (ryAll M).1 = true then ((ryAll M).2 206 1, yNew (mS (ryAll M).2 201 4 0)) else (-1000100 - (if (ryAll M).2 201 7 = -1 then (ryAll M).2 201 4 else (ryAll M).2 201 9), mS (mS (ryAll M).2 201 4 0) 201 11 ((ryAll M).2 201 10))
theorem ryLaw_ok {M : xMem} (hR : RY M) (h : (ryLaw M).1 = true) : RY (ryLaw M).2 ∧ (ryLaw M).2 206 0 = M 206 0 ∧ (ryLaw M).2 206 1 = M 206 1 := by
  have hk : ryLaw M = if M 201 7 = 99 then ((ryLI M).1, mS (ryLI M).2 201 12 ((ryLI M).2 208 0)) else (false, mS M 201 10 1) := rfl
  by_cases h0 : M 201 7 = 99
  · have hk := hk.trans (if_pos h0)
    rw [hk] at h
    have h : (ryLI M).1 = true := h
    rw [hk]
    have hk : ryLI M = eyN M 206 2 1 60 fun A => eyS A 44 fun B => eyN B 208 0 1 9 fun C => eyS C 59 fun D => (true, D) := rfl
    rw [hk] at h
    obtain ⟨e1, k1⟩ := eyN_ok h
    have hk := hk.trans k1
    rw [k1] at h
    obtain ⟨e2, k2⟩ := eyS_ok h
    have hk := hk.trans k2
    rw [k2] at h
    obtain ⟨e3, k3⟩ := eyN_ok h
    have hk := hk.trans k3
    rw [k3] at h
    obtain ⟨e4, k4⟩ := eyS_ok h
    have hk := hk.trans k4
    rw [hk]
    refine ⟨?_, ?_, ?_⟩
    · show RY (mS (signM _ _) 201 12 _)
      repeat (first | assumption | apply RY_told (by decide) | apply RY_sign | (refine RY_mS (by decide) ?_))
    · dsimp only
      simp (disch := decide) only [told_ne, sign_ne, mS_ne]
    · dsimp only
      simp (disch := decide) only [told_ne, sign_ne, mS_ne]
  · rw [hk, if_neg h0] at h
    exact absurd (show false = true from h) (by decide)
theorem ryPer_ok {M : xMem} (hR : RY M) (hn : 0 ≤ M 206 0) (h : (ryPer M).1 = true) : RY (ryPer M).2 ∧ (ryPer M).2 206 0 = M 206 0 + 1 ∧ (ryPer M).2 206 1 = M 206 1 ∧ ¬ M 206 0 = 5 := by
  have hk : ryPer M = if M 206 0 = 5 then (false, mS M 201 10 3) else eyN (mS M 206 0 (M 206 0 + 1)) 207 (M 206 0).toNat 0 99 fun A => eyS A 44 fun B => eyN B 206 (3 + M 206 0).toNat 0 20 fun C => eyS C 59 fun D => (true, D) := rfl
  by_cases h0 : M 206 0 = 5
  · rw [hk, if_pos h0] at h
    exact absurd (show false = true from h) (by decide)
  · have hk := hk.trans (if_neg h0)
    rw [hk] at h
    obtain ⟨e1, k1⟩ := eyN_ok h
    have hk := hk.trans k1
    rw [k1] at h
    obtain ⟨e2, k2⟩ := eyS_ok h
    have hk := hk.trans k2
    rw [k2] at h
    obtain ⟨e3, k3⟩ := eyN_ok h
    have hk := hk.trans k3
    rw [k3] at h
    obtain ⟨e4, k4⟩ := eyS_ok h
    have hk := hk.trans k4
    rw [hk]
    refine ⟨?_, ?_, ?_, h0⟩
    · show RY (signM _ _)
      repeat (first | assumption | apply RY_told (by decide) | apply RY_sign | (refine RY_mS (by decide) ?_))
    · show signM _ _ 206 0 = _
      simp (disch := omega) only [told_ne, sign_ne, mS_eq]
    · show signM _ _ 206 1 = _
      simp (disch := omega) only [told_ne, sign_ne, mS_ne]
theorem rySpe_ok {M : xMem} (hR : RY M) (hn : 0 ≤ M 206 1) (h : (rySpe M).1 = true) : RY (rySpe M).2 ∧ (rySpe M).2 206 1 = M 206 1 + 1 ∧ (rySpe M).2 206 0 = M 206 0 ∧ ¬ M 206 1 = 6 := by
  have hk : rySpe M = if sortT (M 201 7) = 0 then (false, mS M 201 10 1) else if M 206 1 = 6 then (false, mS M 201 10 3) else
    eyN (mS (mS M 206 1 (M 206 1 + 1)) 206 (8 + M 206 1).toNat (sortT (M 201 7))) 206 (14 + M 206 1).toNat 0 (M 206 0 - 1) fun A => eyS A 44 fun B => eyN B 206 (20 + M 206 1).toNat 1 30 fun C => eyS C 44 fun D => eyN D 206 (26 + M 206 1).toNat 0 (M 206 1) fun F => eyS (mS F 206 (26 + M 206 1).toNat (nnT (F 206 (26 + M 206 1).toNat) (M 206 1))) 59 fun G => (true, G) := rfl
  by_cases h0 : sortT (M 201 7) = 0
  · rw [hk, if_pos h0] at h
    exact absurd (show false = true from h) (by decide)
  · have hk := hk.trans (if_neg h0)
    by_cases h1 : M 206 1 = 6
    · rw [hk, if_pos h1] at h
      exact absurd (show false = true from h) (by decide)
    · have hk := hk.trans (if_neg h1)
      rw [hk] at h
      obtain ⟨e1, k1⟩ := eyN_ok h
      have hk := hk.trans k1
      rw [k1] at h
      obtain ⟨e2, k2⟩ := eyS_ok h
      have hk := hk.trans k2
      rw [k2] at h
      obtain ⟨e3, k3⟩ := eyN_ok h
      have hk := hk.trans k3
      rw [k3] at h
      obtain ⟨e4, k4⟩ := eyS_ok h
      have hk := hk.trans k4
      rw [k4] at h
      obtain ⟨e5, k5⟩ := eyN_ok h
      have hk := hk.trans k5
      rw [k5] at h
      obtain ⟨e6, k6⟩ := eyS_ok h
      have hk := hk.trans k6
      rw [hk]
      refine ⟨?_, ?_, ?_, h1⟩
      · show RY (signM _ _)
        repeat (first | assumption | apply RY_told (by decide) | apply RY_sign | (refine RY_mS (by decide) ?_))
      · show signM _ _ 206 1 = _
        simp (disch := omega) only [told_ne, sign_ne, mS_ne, mS_eq]
      · show signM _ _ 206 0 = _
        simp (disch := omega) only [told_ne, sign_ne, mS_ne]
theorem ryPL_t {k : Nat} {M : xMem} (h : M 201 7 = 122 ∧ M 206 1 = 0) (h1 : (ryPer M).1 = true) : ryPL (k + 1) M = ryPL k (rsM (ryPer M).2) := by
  show (if M 201 7 = 122 ∧ M 206 1 = 0 then (if (ryPer M).1 = true then ryPL k (rsM (ryPer M).2) else (false, (ryPer M).2)) else (true, M)) = _
  rw [if_pos h, if_pos h1]
theorem ryPL_f {k : Nat} {M : xMem} (h : M 201 7 = 122 ∧ M 206 1 = 0) (h1 : ¬ (ryPer M).1 = true) : ryPL (k + 1) M = (false, (ryPer M).2) := by
  show (if M 201 7 = 122 ∧ M 206 1 = 0 then (if (ryPer M).1 = true then ryPL k (rsM (ryPer M).2) else (false, (ryPer M).2)) else (true, M)) = _
  rw [if_pos h, if_neg h1]
theorem ryPL_e {k : Nat} {M : xMem} (h : ¬ (M 201 7 = 122 ∧ M 206 1 = 0)) : ryPL k M = (true, M) := by
  cases k with
  | zero => rfl
  | succ k => exact if_neg h
theorem rySL_t {k : Nat} {M : xMem} (h : ¬ M 201 7 = -1 ∨ M 206 1 = 0) (h1 : (rySpe M).1 = true) : rySL (k + 1) M = rySL k (rsM (rySpe M).2) := by
  show (if ¬ M 201 7 = -1 ∨ M 206 1 = 0 then (if (rySpe M).1 = true then rySL k (rsM (rySpe M).2) else (false, (rySpe M).2)) else (true, M)) = _
  rw [if_pos h, if_pos h1]
theorem rySL_f {k : Nat} {M : xMem} (h : ¬ M 201 7 = -1 ∨ M 206 1 = 0) (h1 : ¬ (rySpe M).1 = true) : rySL (k + 1) M = (false, (rySpe M).2) := by
  show (if ¬ M 201 7 = -1 ∨ M 206 1 = 0 then (if (rySpe M).1 = true then rySL k (rsM (rySpe M).2) else (false, (rySpe M).2)) else (true, M)) = _
  rw [if_pos h, if_neg h1]
theorem rySL_e {k : Nat} {M : xMem} (h : ¬ (¬ M 201 7 = -1 ∨ M 206 1 = 0)) : rySL k M = (true, M) := by
  cases k with
  | zero => rfl
  | succ k => exact if_neg h
end RSP
