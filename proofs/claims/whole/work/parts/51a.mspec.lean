/-! ===== the model: views ===== -/
def tg (g : Nat → Int) : xMem
  | 0, j => if j = 5 then g 2 else if j = 6 then g 0 else if j = 7 then g 1 else 0
  | 1, j => g (3 + j)
  | 2, j => g (8 + j)
  | 3, j => g (14 + j)
  | 4, j => g (20 + j)
  | 5, j => if g (26 + j) = -1000000 then j else g (26 + j)
  | _, _ => 0
def sk (g : Nat → Int) : xMem
  | 0, j => if j = 4 then g 0 else if j = 5 then g 1 else if j = 6 then g 2 else if j = 7 then g 3 else if j = 8 then g 4 else 0
  | 1, j => g (5 + j)
  | 2, j => g (10 + j)
  | 3, j => g (15 + j)
  | _, _ => 0
/-- what is needed is told as none or as an earlier one -/
def NN (g : Nat → Int) : Prop := ∀ s : Int, 0 ≤ s ∧ s < g 1 → g (26 + s.toNat) = -1000000 ∨ (0 ≤ g (26 + s.toNat) ∧ g (26 + s.toNat) < s)
/-- who knows is of the town, and nobody knows what isn't said -/
def KI (T S : xMem) : Prop := ∀ s : Int, 0 ≤ s ∧ s < T 0 7 → (S 3 s.toNat < 2 ^ (T 0 6).toNat) ∧ (¬ bitI (S 0 8) s = 1 → S 3 s.toNat = 0)
theorem ix {g : Nat → Int} {c : Nat} {s : Int} (h : 0 ≤ s) : g ((c : Int) + s).toNat = g (c + s.toNat) := by
  rw [show ((c : Int) + s).toNat = c + s.toNat by omega]
theorem ix3 {g : Nat → Int} {s : Int} (h : 0 ≤ s) : g (3 + s).toNat = tg g 1 s.toNat := ix (c := 3) h
theorem ix8 {g : Nat → Int} {s : Int} (h : 0 ≤ s) : g (8 + s).toNat = tg g 2 s.toNat := ix (c := 8) h
theorem ix14 {g : Nat → Int} {s : Int} (h : 0 ≤ s) : g (14 + s).toNat = tg g 3 s.toNat := ix (c := 14) h
theorem ix20 {g : Nat → Int} {s : Int} (h : 0 ≤ s) : g (20 + s).toNat = tg g 4 s.toNat := ix (c := 20) h
theorem ix26 {g : Nat → Int} {s : Int} (h : 0 ≤ s) : g (26 + s).toNat = g (26 + s.toNat) := ix (c := 26) h
theorem iy5 {g : Nat → Int} {s : Int} (h : 0 ≤ s) : g (5 + s).toNat = sk g 1 s.toNat := ix (c := 5) h
theorem iy10 {g : Nat → Int} {s : Int} (h : 0 ≤ s) : g (10 + s).toNat = sk g 2 s.toNat := ix (c := 10) h
theorem iy15 {g : Nat → Int} {s : Int} (h : 0 ≤ s) : g (15 + s).toNat = sk g 3 s.toNat := ix (c := 15) h
/-! bits -/
theorem pc_step {s : Int} (h : 1 ≤ s ∧ s ≤ 63) : pcT (xand s (s - 1)) = pcT s - 1 ∧ (0 ≤ xand s (s - 1) ∧ xand s (s - 1) < s) := by
  have key : ∀ n : Nat, n < 64 → 1 ≤ n → pcT (xand (n : Int) ((n : Int) - 1)) = pcT (n : Int) - 1 ∧ (0 ≤ xand (n : Int) ((n : Int) - 1) ∧ xand (n : Int) ((n : Int) - 1) < (n : Int)) := by decide +kernel
  have := key s.toNat (by omega) (by omega)
  rw [show ((s.toNat : Nat) : Int) = s by omega] at this
  exact this
theorem pc_0 : pcT 0 = 0 := by decide
/-! the ring, the model's way -/
def besF (n set : Int) (i on : Int) : Int := xor2 on (if bitI set i = 1 then xor2 (1 * 2 ^ ((i + 1) % n).toNat) (1 * 2 ^ ((i + n - 1) % n).toNat) else 0)
theorem bes_all : ∀ n : Nat, n < 6 → ∀ s : Nat, s < 2 ^ n → foldI (besF (n : Int) (s : Int)) n 0 (s : Int) = wbT (n : Int) (s : Int) := by decide +kernel
theorem p2n {n : Int} : ((2 ^ n.toNat : Nat) : Int) = 2 ^ n.toNat := by rw [Int.natCast_pow]; rfl
theorem bes_wb {n s : Int} (hn : 1 ≤ n ∧ n ≤ 5) (hs : 0 ≤ s ∧ s < 2 ^ n.toNat) : foldI (besF n s) n.toNat 0 s = wbT n s := by
  have h2 := p2n (n := n)
  have := bes_all n.toNat (by omega) s.toNat (by omega)
  rw [show ((s.toNat : Nat) : Int) = s by omega, show ((n.toNat : Nat) : Int) = n by omega] at this
  exact this
theorem p2_mono {a b : Int} (h : 0 ≤ a ∧ a ≤ b) : (2 : Int) ^ a.toNat ≤ 2 ^ b.toNat := by
  rw [← p2n, ← p2n]
  exact Int.ofNat_le.mpr (Nat.pow_le_pow_right (by decide) (by omega))
theorem or_n {k : Nat} {a b : Int} (ha : 0 ≤ a ∧ a < 2 ^ k) (hb : 0 ≤ b ∧ b < 2 ^ k) : 0 ≤ xor2 a b ∧ xor2 a b < 2 ^ k := by
  have e : ((2 ^ k : Nat) : Int) = 2 ^ k := by rw [Int.natCast_pow]; rfl
  have : a.toNat ||| b.toNat < 2 ^ k := Nat.or_lt_two_pow (by omega) (by omega)
  unfold xor2
  omega
theorem bnd_n {k : Nat} {a b : Int} (ha : 0 ≤ a ∧ a < 2 ^ k) : 0 ≤ xbnd a b ∧ xbnd a b < 2 ^ k := by
  have e : ((2 ^ k : Nat) : Int) = 2 ^ k := by rw [Int.natCast_pow]; rfl
  have h1 : a.toNat &&& b.toNat ≤ a.toNat := Nat.and_le_left
  have : a.toNat ^^^ (a.toNat &&& b.toNat) < 2 ^ k := Nat.xor_lt_two_pow (by omega) (by omega)
  unfold xbnd
  omega
theorem wb_n {n s : Int} (hn : 0 ≤ n ∧ n ≤ 5) : 0 ≤ wbT n s ∧ wbT n s < 2 ^ n.toNat := by
  have h5 := p2_5 hn
  have := xand_b (a := xor2 (xor2 s (xor2 (s * 2 ^ (1 : Int).toNat) (s / 2 ^ (n - 1).toNat))) (xor2 (s / 2 ^ (1 : Int).toNat) (s * 2 ^ (n - 1).toNat))) (b := 2 ^ n.toNat - 1) (B := 2 ^ n.toNat - 1) (by omega)
  unfold wbT
  omega
theorem hop_n {n a d : Int} (hn : 0 ≤ n ∧ n ≤ 5) (ha : 0 ≤ a ∧ a < 2 ^ n.toNat) : 0 ≤ hopT n a d ∧ hopT n a d < 2 ^ n.toNat := or_n ha (bnd_n (wb_n hn))
theorem hops_n {n d : Int} (hn : 0 ≤ n ∧ n ≤ 5) : ∀ (k : Nat) (a : Int), (0 ≤ a ∧ a < 2 ^ n.toNat) → 0 ≤ hopsT n d k a ∧ hopsT n d k a < 2 ^ n.toNat
  | 0, a, h => h
  | k + 1, a, h => hops_n hn k _ (hop_n hn h)
theorem onw_n {n k a d w : Int} (hn : 0 ≤ n ∧ n ≤ 5) (ha : 0 ≤ a ∧ a < 2 ^ n.toNat) : 0 ≤ onwT n k a d w ∧ onwT n k a d w < 2 ^ n.toNat := hops_n hn _ _ ha
theorem reach_n {n k sp d : Int} (hn : 0 ≤ n ∧ n ≤ 5) (hs : 0 ≤ sp ∧ sp < n) : 0 ≤ reachT n k sp d ∧ reachT n k sp d < 2 ^ n.toNat := by
  have h5 := p2_5 hn
  unfold reachT
  split
  · have h4 := p2_4 (n := sp) (by omega)
    have hm : (2 : Int) ^ (sp + 1).toNat ≤ 2 ^ n.toNat := p2_mono (by omega)
    rw [show (sp + 1).toNat = sp.toNat + 1 by omega, Int.pow_succ] at hm
    exact hop_n hn (by omega)
  · omega
theorem onw_1 {n k a d : Int} : onwT n k a d 1 = if k = 4 then hopT n a d else if k = 5 then hopT n (hopT n a d) d else a := by
  unfold onwT hpw
  split
  · rfl
  · split <;> rfl
/-! acts, the model's way -/
def saM (M : xMem) (k : Nat) (s : Int) : xMem :=
  mS (mS (mS (mS (mS M k (5 + tg (M 209) 3 s.toNat).toNat (sk (M k) 1 (tg (M 209) 3 s.toNat).toNat - crnT (tg (M 209)) (sk (M k)) s)) k (10 + tg (M 209) 3 s.toNat).toNat (sk (M k) 2 (tg (M 209) 3 s.toNat).toNat - (wordsT (tg (M 209)) s - wolT (tg (M 209)) (sk (M k)) s)))
    k 1 (M k 1 - wolT (tg (M 209)) (sk (M k)) s)) k 4 (xor2 (M k 4) (1 * 2 ^ s.toNat))) k (15 + s).toNat (reachT (M 209 0) (tg (M 209) 2 s.toNat) (tg (M 209) 3 s.toNat) 0)
def pv1 (T : xMem) (g : Nat → Int) (i : Nat) : Int := if bitI (g 4) i = 1 then onwT (T 0 6) (T 2 i) (g (15 + i)) 0 1 else g (15 + i)
def pv2 (T : xMem) (g : Nat → Int) (i : Nat) : Int := min 99 (g (5 + i) + T 1 i)
def psM (M : xMem) (k : Nat) : xMem :=
  mS (rngM (mS (mS (rngM M k 15 (pv1 (tg (M 209)) (M k)) (M 209 1)) k 2 (min 999 (M k 2 + M k 1))) k 1 (M 209 2)) k 5 (pv2 (tg (M 209)) (M k)) (M 209 0)) k 0 (M k 0 + 1)
def reM (M : xMem) : xMem := mS (mS (rngM M 212 (21 * M 201 21) (M 210) 21) 201 21 ((M 201 21 + 1) % 24)) 201 20 (if M 201 20 < 24 then M 201 20 + 1 else M 201 20)
def yUndo (M : xMem) : Int × xMem := if M 201 20 = 0 then (-1000002, M) else (M 201 20 - 1, rngM (mS (mS M 201 21 ((M 201 21 + 24 - 1) % 24)) 201 20 (M 201 20 - 1)) 210 0 (fun j => M 212 (21 * ((M 201 21 + 24 - 1) % 24) + j).toNat) 21)
def cnM (M : xMem) : xMem := rngM M 211 0 (M 210) 21
/-! rows, the model's way -/
def mfn (M : xMem) (f : Int) : Int × xMem := (-1000010 - f, mS M 201 3 f)
def mfi (M : xMem) (v : Int) : Int × xMem := (v, mS M 201 3 0)
abbrev prt (M : xMem) (r i n : Int) : Prop := 0 ≤ n ∧ 0 ≤ i ∧ i ≤ M 202 r.toNat - n
def yRow (M : xMem) (r l n : Int) : Int × xMem := if ¬ (0 ≤ r ∧ r ≤ 7) ∨ ¬ (0 ≤ l ∧ l ≤ 2) ∨ 40 < n then (-1000001, M) else if n < 0 then mfn M 4 else mfi (rngM (mS (mS M 202 r.toNat n) 203 r.toNat l) 204 (40 * r) (fun _ => 0) n) n
def ySet (M : xMem) (r i v : Int) : Int × xMem := if ¬ (0 ≤ r ∧ r ≤ 7) then (-1000001, M) else if M 202 r.toNat < 0 then mfn M 1 else if ¬ (0 ≤ i ∧ i ≤ M 202 r.toNat - 1) then mfn M 2 else mfi (mS M 204 (40 * r + i).toNat (laneV (M 203 r.toNat) v)) (laneV (M 203 r.toNat) v)
def cpR (M : xMem) (d s lo hi : Int) : xMem := fun a x => if a = 204 ∧ d + lo ≤ (x : Int) ∧ (x : Int) < d + hi then M 204 (s + (x - d)).toNat else M a x
theorem cpR_0 {M : xMem} {d s lo : Int} : M = cpR M d s lo lo := by
  funext a x
  unfold cpR
  rw [if_neg (by omega)]
theorem cpR_u {M : xMem} {d s lo hi : Int} (h : 0 ≤ d ∧ 0 ≤ s ∧ 0 ≤ lo ∧ lo ≤ hi) : mS (cpR M d s lo hi) 204 (d + hi).toNat (M 204 (s + hi).toNat) = cpR M d s lo (hi + 1) := by
  funext a x
  unfold mS cpR
  by_cases h1 : a = 204 ∧ x = (d + hi).toNat
  · rw [if_pos h1, if_pos (by omega), show s + ((x : Int) - d) = s + hi by omega]
  · rw [if_neg h1]
    by_cases h2 : a = 204 ∧ d + lo ≤ (x : Int) ∧ (x : Int) < d + hi
    · rw [if_pos h2, if_pos (by omega)]
    · rw [if_neg h2, if_neg (by omega)]
theorem cpR_d {M : xMem} {d s lo hi : Int} (h : 0 ≤ d ∧ 0 ≤ s ∧ 0 ≤ lo ∧ lo < hi) : mS (cpR M d s (lo + 1) hi) 204 (d + lo).toNat (M 204 (s + lo).toNat) = cpR M d s lo hi := by
  funext a x
  unfold mS cpR
  by_cases h1 : a = 204 ∧ x = (d + lo).toNat
  · rw [if_pos h1, if_pos (by omega), show s + ((x : Int) - d) = s + lo by omega]
  · rw [if_neg h1]
    by_cases h2 : a = 204 ∧ d + (lo + 1) ≤ (x : Int) ∧ (x : Int) < d + hi
    · rw [if_pos h2, if_pos (by omega)]
    · rw [if_neg h2, if_neg (by omega)]
def yCopy (M : xMem) (a i b j n : Int) : Int × xMem := if ¬ (0 ≤ a ∧ a ≤ 7) ∨ ¬ (0 ≤ b ∧ b ≤ 7) then (-1000001, M) else if M 202 a.toNat < 0 ∨ M 202 b.toNat < 0 then mfn M 1 else if ¬ M 203 a.toNat = M 203 b.toNat then mfn M 5 else
  if ¬ prt M a i n ∨ ¬ prt M b j n then mfn M 2 else mfi (cpR M (40 * b + j) (40 * a + i) 0 n) n
def yDrop (M : xMem) (r : Int) : Int × xMem := if ¬ (0 ≤ r ∧ r ≤ 7) then (-1000001, M) else if M 202 r.toNat < 0 then mfn M 1 else mfi (mS M 202 r.toNat (-1)) (M 202 r.toNat)
def yFeed (M : xMem) (c : Int) : Int × xMem := if ¬ (0 ≤ c ∧ c ≤ 255) then (-1000001, M) else if M 201 4 = 120 then (-1000003, M) else (M 201 4 + 1, mS (mS M 205 (M 201 4).toNat c) 201 4 (M 201 4 + 1))
def yThere (M : xMem) : Int := foldI (fun i a => if 0 ≤ M 202 i.toNat then a + 1 else a) 8 0 0
def yCount (M : xMem) (w : Int) : Int := if w = 0 then yThere M else if w = 1 then M 209 0 else if w = 2 then M 209 1 else if w = 3 then M 210 0 else if w = 4 then M 210 1 else if w = 5 then M 210 2 else if w = 6 then M 201 20 else if w = 7 then M 201 4 else -1000001
def yTrace (M : xMem) (i : Int) : Int := if 0 ≤ i ∧ i < M 201 29 then M 219 i.toNat else -1000000
def needT (M : xMem) (P : Prop) [Decidable P] : Int := if M 201 16 = 0 then -1000002 else if P then 0 else -1000001
def needV (M : xMem) (v : Int) : Int := if M 201 16 = 0 then -1000002 else if v = 0 then -1000001 else 0
theorem need_b (M : xMem) (P : Prop) [Decidable P] : (M 201 16 = 0 ∧ needV M (b2i P) = -1000002) ∨ (¬ M 201 16 = 0 ∧ ¬ P ∧ needV M (b2i P) = -1000001) ∨ (¬ M 201 16 = 0 ∧ P ∧ needV M (b2i P) = 0) := by
  unfold needV b2i
  by_cases h : M 201 16 = 0
  · left
    rw [if_pos h]
    exact ⟨h, rfl⟩
  · rw [if_neg h]
    by_cases hp : P
    · rw [if_pos hp]
      exact Or.inr (Or.inr ⟨h, hp, rfl⟩)
    · rw [if_neg hp]
      exact Or.inr (Or.inl ⟨h, hp, rfl⟩)
