/-! ===== the model's calls ===== -/
def MD (M : xMem) : Prop := (M 201 16 = 0 ∧ M 209 0 = 0 ∧ M 209 1 = 0) ∨ (M 201 16 = 1 ∧ TI (tg (M 209)) ∧ GI (tg (M 209)) (sk (M 210)) 999 ∧ NN (M 209))
theorem MD_n {M : xMem} (h : MD M) : (0 ≤ M 209 0 ∧ M 209 0 ≤ 5) ∧ (0 ≤ M 209 1 ∧ M 209 1 ≤ 6) := by
  rcases h with h | h
  · omega
  · have h1 : 1 ≤ M 209 0 ∧ M 209 0 ≤ 5 := h.2.1.1
    have h2 : 1 ≤ M 209 1 ∧ M 209 1 ≤ 6 := h.2.1.2.1
    omega
theorem MD_g {M : xMem} (h : MD M) (hs : 0 < M 209 0 ∨ 0 < M 209 1 ∨ ¬ M 201 16 = 0) : M 201 16 = 1 ∧ TI (tg (M 209)) ∧ GI (tg (M 209)) (sk (M 210)) 999 ∧ NN (M 209) := by
  rcases h with h | h
  · omega
  · exact h
theorem re_row {M : xMem} {a : Nat} (h : a ≠ 201 ∧ a ≠ 212) : reM M a = M a := by
  unfold reM
  rw [mS_row h.1, mS_row h.1]
  funext j
  rw [rng_ne h.2]
theorem re_at {M : xMem} {a j : Nat} (h : a ≠ 201 ∧ a ≠ 212) : reM M a j = M a j := by rw [re_row h]
theorem re_b {M : xMem} (h1 : 0 ≤ M 201 21 ∧ M 201 21 < 24) (h2 : 0 ≤ M 201 20 ∧ M 201 20 ≤ 24) : (0 ≤ reM M 201 21 ∧ reM M 201 21 < 24) ∧ (0 ≤ reM M 201 20 ∧ reM M 201 20 ≤ 24) := by
  unfold reM
  rw [mS_ne (Or.inr (by omega)), mS_eq, mS_eq]
  constructor
  · omega
  · split <;> omega
theorem cn_row {M : xMem} {a : Nat} (h : a ≠ 211) : cnM M a = M a := by
  funext j
  exact rng_ne h
theorem cn_SA {M : xMem} {T : xMem} (hT : TI T) : SA T (sk (cnM M 211)) (sk (M 210)) := by
  have hn := hT.1
  have hN := hT.2.1
  have e : ∀ j : Nat, j < 21 → cnM M 211 j = M 210 j := fun j hj => by
    unfold cnM
    rw [rng_in (by omega)]
    rfl
  exact ⟨⟨e 0 (by decide), e 1 (by decide), e 2 (by decide), e 3 (by decide), e 4 (by decide)⟩, fun i hi => ⟨e _ (by omega), e _ (by omega)⟩, fun s hs => e _ (by omega)⟩
def ahM : Nat → xMem → xMem
  | 0, M => M
  | k + 1, M => ahM k (psM M 211)
def ywk : Nat → xMem → xMem
  | 0, M => M
  | k + 1, M => ywk k (psM (reM M) 210)
def yWeeks (M : xMem) (n : Int) : Int × xMem := if M 201 16 = 0 then (-1000002, M) else if ¬ (1 ≤ n ∧ n ≤ 24) then (-1000001, M) else if 999 < M 210 0 + n then (-1000003, M) else (ywk n.toNat M 210 2, ywk n.toNat M)
def ySay (M : xMem) (s : Int) : Int × xMem := if ¬ (0 ≤ s ∧ s < M 209 1) then (-1000001, M) else if ¬ canT (tg (M 209)) (sk (M 210)) s then (-1000002, M) else (wolT (tg (M 209)) (sk (M 210)) s, saM (reM M) 210 s)
def byM (M : xMem) (p n : Int) : xMem := mS (mS (mS M 210 1 (M 210 1 - n)) 210 (5 + p).toNat (M 210 (5 + p).toNat - n * M 210 3)) 210 (10 + p).toNat (M 210 (10 + p).toNat + n)
def yBuy (M : xMem) (p n : Int) : Int × xMem := if ¬ (0 ≤ p ∧ p < M 209 0) ∨ ¬ (1 ≤ n ∧ n ≤ 60) then (-1000001, M) else if ¬ (n ≤ M 210 1 ∧ n * M 210 3 ≤ M 210 (5 + p).toNat ∧ M 210 (10 + p).toNat + n ≤ 99) then (-1000002, M) else (M 210 (10 + p).toNat + n, byM (reM M) p n)
def yLet (M : xMem) (n : Int) : Int × xMem := if M 201 16 = 0 then (-1000002, M) else if ¬ (1 ≤ n ∧ n ≤ 99) then (-1000001, M) else if M 210 2 < n ∨ 99 < M 210 1 + n then (-1000002, M) else (M 210 1 + n, mS (mS (reM M) 210 2 (M 210 2 - n)) 210 1 (M 210 1 + n))
def yPrice (M : xMem) (v : Int) : Int × xMem := if M 201 16 = 0 then (-1000002, M) else if ¬ (1 ≤ v ∧ v ≤ 9) then (-1000001, M) else (M 210 3, mS (reM M) 210 3 v)
def gSpeech (T S : xMem) (s w : Int) : Int := if ¬ (0 ≤ s ∧ s < T 0 7) then -1000001 else if w = 0 then T 3 s.toNat else if w = 1 then T 4 s.toNat else if w = 2 then (if T 5 s.toNat = s then -1000000 else T 5 s.toNat) else if w = 3 then wordsT T s else
  if w = 4 then crnT T S s else if w = 5 then b2i (canT T S s) else if w = 6 then S 3 s.toNat else if w = 7 then understT T S s else if w = 8 then b2i (bitI (S 0 8) s = 1) else -1000001
def gPerson (T S : xMem) (p w : Int) : Int := if ¬ (0 ≤ p ∧ p < T 0 6) then -1000001 else if w = 0 then S 1 p.toNat else if w = 1 then T 1 p.toNat else if w = 2 then S 2 p.toNat else if w = 3 then knownToT T S p else if w = 4 then undByT T S (1 * 2 ^ p.toNat) else -1000001
def gStand (M : xMem) (w : Int) : Int := if M 201 16 = 0 then -1000002 else if w = 0 then M 210 1 else if w = 1 then M 210 2 else if w = 2 then M 210 3 else if w = 3 then M 209 2 else if w = 4 then M 210 4 else -1000001
def yPurse (M : xMem) (p n : Int) : Int × xMem := if ¬ (0 ≤ p ∧ p < M 209 0) ∨ ¬ (0 ≤ n ∧ n ≤ 60) then (-1000001, M) else (ahM n.toNat (cnM M) 211 (5 + p).toNat, ahM n.toNat (cnM M))
def yHill (M : xMem) (n : Int) : Int × xMem := if M 201 16 = 0 then (-1000002, M) else if ¬ (0 ≤ n ∧ n ≤ 60) then (-1000001, M) else (ahM n.toNat (cnM M) 211 2, ahM n.toNat (cnM M))
def yKnown (M : xMem) (s n : Int) : Int × xMem := if ¬ (0 ≤ s ∧ s < M 209 1) ∨ ¬ (0 ≤ n ∧ n ≤ 60) then (-1000001, M) else (ahM n.toNat (cnM M) 211 (15 + s).toNat, ahM n.toNat (cnM M))
def ayL (s : Int) : Nat → Int → xMem → Int × xMem
  | 0, _, M => (-1000000, M)
  | k + 1, n, M => if M 211 (15 + s).toNat = 2 ^ (M 209 0).toNat - 1 then (n, M) else ayL s k (n + 1) (psM M 211)
def yAllKnow (M : xMem) (s : Int) : Int × xMem := if ¬ (0 ≤ s ∧ s < M 209 1) then (-1000001, M) else ayL s 61 0 (cnM M)
def ywL (s : Int) : Nat → Int → xMem → Int × xMem
  | 0, _, M => (-1000000, M)
  | k + 1, n, M => if canT (tg (M 209)) (sk (M 211)) s then (n, M) else ywL s k (n + 1) (psM M 211)
def yWhen (M : xMem) (s : Int) : Int × xMem := if ¬ (0 ≤ s ∧ s < M 209 1) then (-1000001, M) else if bitI (M 210 4) s = 1 then (-1000002, M) else ywL s 61 0 (cnM M)
def gClear (M : xMem) : Int := if M 201 16 = 0 then -1000002 else undByT (tg (M 209)) (sk (M 210)) (2 ^ (M 209 0).toNat - 1)
def yKind (M : xMem) (s : Int) : Int := if 0 ≤ s ∧ s < M 209 1 then tg (M 209) 2 s.toNat else -1000001
def isT (kind sort : Int) : Prop := kind = 0 ∨ kind = sort ∨ (kind = 1 ∧ (sort = 2 ∨ sort = 3)) ∨ (kind = 4 ∧ sort = 5)
def yAs (M : xMem) (s k : Int) : Int × xMem := if ¬ (0 ≤ s ∧ s < M 209 1) ∨ ¬ (0 ≤ k ∧ k ≤ 5) then (-1000001, M) else if k = 0 ∨ k = tg (M 209) 2 s.toNat ∨ (k = 1 ∧ (tg (M 209) 2 s.toNat = 2 ∨ tg (M 209) 2 s.toNat = 3)) ∨ (k = 4 ∧ tg (M 209) 2 s.toNat = 5) then mfi M s else mfn M 3
def lvY (M : xMem) (b : Int) : xMem := if M 201 29 < 16 then mS (mS M 219 (M 201 29).toNat b) 201 29 (M 201 29 + 1) else M
theorem lvY_b {M : xMem} {b : Int} (h : 0 ≤ M 201 29 ∧ M 201 29 ≤ 16) : 0 ≤ lvY M b 201 29 ∧ lvY M b 201 29 ≤ 16 := by
  unfold lvY
  split
  · rw [mS_eq]
    omega
  · exact h
theorem lvY_row {M : xMem} {b : Int} {a : Nat} (h : a ≠ 201 ∧ a ≠ 219) : lvY M b a = M a := by
  unfold lvY
  split
  · rw [mS_row h.1, mS_row h.2]
  · rfl
theorem lvL_b : ∀ (l : List Int) (M : xMem), (0 ≤ M 201 29 ∧ M 201 29 ≤ 16) → 0 ≤ l.foldl lvY M 201 29 ∧ l.foldl lvY M 201 29 ≤ 16
  | [], _, h => h
  | b :: l, M, h => lvL_b l (lvY M b) (lvY_b h)
theorem lvL_row {a : Nat} (h : a ≠ 201 ∧ a ≠ 219) : ∀ (l : List Int) (M : xMem), l.foldl lvY M a = M a
  | [], _ => rfl
  | b :: l, M => (lvL_row h l (lvY M b)).trans (lvY_row h)
def yAsk (M : xMem) (s w : Int) : Int × xMem := if ¬ (0 ≤ s ∧ s < M 209 1) ∨ ¬ (0 ≤ w ∧ w ≤ 1) then (-1000001, M) else (if w = 0 then sizT (tg (M 209)) (sk (M 210)) s else mrkT (tg (M 209)) (sk (M 210)) s, (trc (tg (M 209) 2 s.toNat) w).foldl lvY (mS M 201 29 0))
def yImage (M : xMem) (k : Int) : Int × xMem := if ¬ (0 ≤ k ∧ k ≤ 1) then (-1000001, M) else if M 201 16 = 0 then (-1000002, M) else (1, rngM (rngM (mS M 216 k.toNat 1) 217 (32 * k) (M 209) 32) 218 (21 * k) (M 210) 21)
def yRestore (M : xMem) (k : Int) : Int × xMem := if ¬ (0 ≤ k ∧ k ≤ 1) then (-1000001, M) else if M 216 k.toNat = 0 then (-1000002, M) else (1, rngM (rngM (mS M 201 20 0) 209 0 (fun j => M 217 (32 * k + j).toNat) 32) 210 0 (fun j => M 218 (21 * k + j).toNat) 21)
theorem and_one {x p : Int} (hx : 0 ≤ x ∧ x ≤ 31) (hp : 0 ≤ p ∧ p ≤ 4) : xand x (1 * 2 ^ p.toNat) = 1 * 2 ^ p.toNat ↔ bitI x p = 1 := by
  have key : ∀ x : Nat, x < 32 → ∀ p : Nat, p < 5 → (xand (x : Int) (1 * 2 ^ p) = 1 * 2 ^ p ↔ bitI (x : Int) (p : Int) = 1) := by decide +kernel
  have := key x.toNat (by omega) p.toNat (by omega)
  rw [show ((x.toNat : Nat) : Int) = x by omega, show ((p.toNat : Nat) : Int) = p by omega] at this
  exact this
theorem and_all {x n : Int} (hn : 1 ≤ n ∧ n ≤ 5) (hx : 0 ≤ x ∧ x < 2 ^ n.toNat) : xand x (2 ^ n.toNat - 1) = 2 ^ n.toNat - 1 ↔ x = 2 ^ n.toNat - 1 := by
  have key : ∀ n : Nat, n < 6 → ∀ x : Nat, x < 2 ^ n → (xand (x : Int) (2 ^ n - 1) = 2 ^ n - 1 ↔ (x : Int) = 2 ^ n - 1) := by decide +kernel
  have h2 := p2n (n := n)
  have := key n.toNat (by omega) x.toNat (by omega)
  rw [show ((x.toNat : Nat) : Int) = x by omega] at this
  exact this
theorem xor2_0 {a : Int} (h : 0 ≤ a) : xor2 a 0 = a := by
  unfold xor2
  simp
  omega
theorem und_n {T S : xMem} (hT : TI T) (hS : SI T S) (hK : KI T S) {s : Int} (hs : 0 ≤ s ∧ s < T 0 7) : understT T S s < 2 ^ (T 0 6).toNat := by
  have h1 := hS.2.2.2.2.2.2 s hs
  have h2 := (hK s hs).1
  unfold understT
  split
  · exact h2
  · have := xand_bl (a := S 3 s.toNat) (b := S 3 (T 5 s.toNat).toNat) (B := S 3 s.toNat) ⟨h1.1, Int.le_refl _⟩
    omega
theorem b01 {P : Prop} [Decidable P] : b2i P = 0 ∨ b2i P = 1 := by
  unfold b2i
  split <;> simp
