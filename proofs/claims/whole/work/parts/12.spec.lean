/-! ===== views and words of the specification ===== -/
def tw (M : xMem) : xMem
  | 0, j => M 3 j
  | 1, j => M 4 j
  | 2, j => M 5 j
  | 3, j => M 6 j
  | 4, j => M 7 j
  | 5, j => M 8 j
  | _, _ => 0
def sv (M : xMem) (k : Nat) : xMem
  | 0, j => M k j
  | 1, j => M (k + 1) j
  | 2, j => M (k + 2) j
  | 3, j => M (k + 3) j
  | _, _ => 0
theorem mS_ne {M : xMem} {k f a j : Nat} {v : Int} (h : a ≠ k ∨ j ≠ f) : mS M k f v a j = M a j := if_neg (by omega)
theorem mS_eq {M : xMem} {k f : Nat} {v : Int} : mS M k f v k f = v := if_pos ⟨rfl, rfl⟩
theorem tw_mS {M : xMem} {k f : Nat} {v : Int} (h : 9 ≤ k ∨ k < 3) : tw (mS M k f v) = tw M := by
  funext o j
  unfold tw
  split <;> first | rfl | exact mS_ne (Or.inl (by omega))
theorem sv_mS {M : xMem} {a k f : Nat} {v : Int} (h : a + 4 ≤ k ∨ k < a) : sv (mS M k f v) a = sv M a := by
  funext o j
  unfold sv
  split <;> first | rfl | exact mS_ne (Or.inl (by omega))
theorem p2_b {n : Int} (h : 0 ≤ n ∧ n ≤ 6) : 1 ≤ (2 : Int) ^ n.toNat ∧ (2 : Int) ^ n.toNat ≤ 64 := by
  have key : ∀ k : Nat, k < 7 → 1 ≤ (2 : Int) ^ k ∧ (2 : Int) ^ k ≤ 64 := by decide +kernel
  exact key n.toNat (by omega)
theorem p2_5 {n : Int} (h : 0 ≤ n ∧ n ≤ 5) : 1 ≤ (2 : Int) ^ n.toNat ∧ (2 : Int) ^ n.toNat ≤ 32 := by
  have key : ∀ k : Nat, k < 6 → 1 ≤ (2 : Int) ^ k ∧ (2 : Int) ^ k ≤ 32 := by decide +kernel
  exact key n.toNat (by omega)
theorem p2_4 {n : Int} (h : 0 ≤ n ∧ n ≤ 4) : 1 ≤ (2 : Int) ^ n.toNat ∧ (2 : Int) ^ n.toNat ≤ 16 := by
  have key : ∀ k : Nat, k < 5 → 1 ≤ (2 : Int) ^ k ∧ (2 : Int) ^ k ≤ 16 := by decide +kernel
  exact key n.toNat (by omega)
theorem mul_b {a b A B : Int} (ha : 0 ≤ a ∧ a ≤ A) (hb : 0 ≤ b ∧ b ≤ B) : 0 ≤ a * b ∧ a * b ≤ A * B :=
  ⟨Int.mul_nonneg ha.1 hb.1, Int.mul_le_mul ha.2 hb.2 hb.1 (by omega)⟩
theorem div_b {a b A : Int} (ha : 0 ≤ a ∧ a ≤ A) (hb : 1 ≤ b) : 0 ≤ a / b ∧ a / b ≤ A :=
  ⟨Int.ediv_nonneg ha.1 (by omega), Int.le_trans (Int.ediv_le_self b ha.1) ha.2⟩
theorem xand_b {a b B : Int} (hb : 0 ≤ b ∧ b ≤ B) : 0 ≤ xand a b ∧ xand a b ≤ B := by
  have : a.toNat &&& b.toNat ≤ b.toNat := Nat.and_le_right
  unfold xand
  omega
theorem xand_bl {a b B : Int} (hb : 0 ≤ a ∧ a ≤ B) : 0 ≤ xand a b ∧ xand a b ≤ B := by
  have : a.toNat &&& b.toNat ≤ a.toNat := Nat.and_le_left
  unfold xand
  omega
theorem xor2_31 {a b : Int} (ha : 0 ≤ a ∧ a ≤ 31) (hb : 0 ≤ b ∧ b ≤ 31) : 0 ≤ xor2 a b ∧ xor2 a b ≤ 31 := by
  have : a.toNat ||| b.toNat < 2 ^ 5 := Nat.or_lt_two_pow (by omega) (by omega)
  unfold xor2
  omega
theorem xor2_63 {a b : Int} (ha : 0 ≤ a ∧ a ≤ 63) (hb : 0 ≤ b ∧ b ≤ 63) : 0 ≤ xor2 a b ∧ xor2 a b ≤ 63 := by
  have : a.toNat ||| b.toNat < 2 ^ 6 := Nat.or_lt_two_pow (by omega) (by omega)
  unfold xor2
  omega
theorem xbnd_31 {a b : Int} (ha : 0 ≤ a ∧ a ≤ 31) : 0 ≤ xbnd a b ∧ xbnd a b ≤ 31 := by
  have h1 : a.toNat &&& b.toNat ≤ a.toNat := Nat.and_le_left
  have : a.toNat ^^^ (a.toNat &&& b.toNat) < 2 ^ 5 := Nat.xor_lt_two_pow (by omega) (by omega)
  unfold xbnd
  omega
/-! the ring -/
def wbT (n s : Int) : Int := xand (xor2 (xor2 s (xor2 (s * 2 ^ (1 : Int).toNat) (s / 2 ^ (n - 1).toNat))) (xor2 (s / 2 ^ (1 : Int).toNat) (s * 2 ^ (n - 1).toNat))) (2 ^ n.toNat - 1)
def hopT (n a d : Int) : Int := xor2 a (xbnd (wbT n a) d)
def hopsT (n d : Int) : Nat → Int → Int
  | 0, a => a
  | k + 1, a => hopsT n d k (hopT n a d)
def hpw (kind : Int) : Int := if kind = 4 then 1 else if kind = 5 then 2 else 0
def onwT (n kind a d w : Int) : Int := hopsT n d (min 5 (w * hpw kind)).toNat a
def reachT (n kind sp d : Int) : Int := if kind = 4 ∨ kind = 5 then hopT n (1 * 2 ^ sp.toNat) d else 2 ^ n.toNat - 1
theorem wbT_b {n s : Int} (hn : 0 ≤ n ∧ n ≤ 5) : 0 ≤ wbT n s ∧ wbT n s ≤ 31 := xand_b (by have := p2_5 hn; omega)
theorem hopT_b {n a d : Int} (hn : 0 ≤ n ∧ n ≤ 5) (ha : 0 ≤ a ∧ a ≤ 31) : 0 ≤ hopT n a d ∧ hopT n a d ≤ 31 := xor2_31 ha (xbnd_31 (wbT_b hn))
theorem hopsT_b {n d : Int} (hn : 0 ≤ n ∧ n ≤ 5) : ∀ (k : Nat) (a : Int), (0 ≤ a ∧ a ≤ 31) → 0 ≤ hopsT n d k a ∧ hopsT n d k a ≤ 31
  | 0, a, h => h
  | k + 1, a, h => hopsT_b hn k _ (hopT_b hn h)
theorem onwT_b {n k a d w : Int} (hn : 0 ≤ n ∧ n ≤ 5) (ha : 0 ≤ a ∧ a ≤ 31) : 0 ≤ onwT n k a d w ∧ onwT n k a d w ≤ 31 := hopsT_b hn _ _ ha
theorem reachT_b {n k sp d : Int} (hn : 0 ≤ n ∧ n ≤ 5) (hs : 0 ≤ sp ∧ sp ≤ 4) : 0 ≤ reachT n k sp d ∧ reachT n k sp d ≤ 31 := by
  unfold reachT
  split
  · have := p2_4 hs
    exact hopT_b hn (by omega)
  · have := p2_5 hn
    omega
theorem hpw_b (k : Int) : 0 ≤ hpw k ∧ hpw k ≤ 2 := by unfold hpw; split <;> (try split) <;> omega
/-! speeches -/
def bitI (x s : Int) : Int := xand (x / 2 ^ s.toNat) 1
theorem bitI_b {x s : Int} : 0 ≤ bitI x s ∧ bitI x s ≤ 1 := xand_b (by omega)
def wordsT (T : xMem) (s : Int) : Int := if T 2 s.toNat = 1 then T 4 s.toNat else if T 2 s.toNat = 2 then (T 4 s.toNat + 1) / 2 else if T 2 s.toNat = 3 then 2 * T 4 s.toNat else 0
def wolT (T S : xMem) (s : Int) : Int := max 0 (wordsT T s - S 2 (T 3 s.toNat).toNat)
def crnT (T S : xMem) (s : Int) : Int := if T 2 s.toNat = 4 then 1 else if T 2 s.toNat = 5 then 1 + T 4 s.toNat else wolT T S s * S 0 7
abbrev canT (T S : xMem) (s : Int) : Prop := ¬ bitI (S 0 8) s = 1 ∧ wolT T S s ≤ S 0 5 ∧ crnT T S s ≤ S 1 (T 3 s.toNat).toNat
/-- a town as it can be -/
def TI (T : xMem) : Prop := (1 ≤ T 0 6 ∧ T 0 6 ≤ 5) ∧ (1 ≤ T 0 7 ∧ T 0 7 ≤ 6) ∧ (1 ≤ T 0 5 ∧ T 0 5 ≤ 60) ∧ (∀ i : Int, 0 ≤ i ∧ i < T 0 6 → 0 ≤ T 1 i.toNat ∧ T 1 i.toNat ≤ 20) ∧
  (∀ s : Int, 0 ≤ s ∧ s < T 0 7 → (1 ≤ T 2 s.toNat ∧ T 2 s.toNat ≤ 5) ∧ (0 ≤ T 3 s.toNat ∧ T 3 s.toNat < T 0 6) ∧ (1 ≤ T 4 s.toNat ∧ T 4 s.toNat ≤ 30) ∧ (0 ≤ T 5 s.toNat ∧ T 5 s.toNat ≤ s))
/-- a stand as it can be -/
def SI (T S : xMem) : Prop := (0 ≤ S 0 4 ∧ S 0 4 ≤ 100000) ∧ (0 ≤ S 0 5 ∧ S 0 5 ≤ 99) ∧ (0 ≤ S 0 6 ∧ S 0 6 ≤ 999) ∧ (1 ≤ S 0 7 ∧ S 0 7 ≤ 9) ∧ (0 ≤ S 0 8 ∧ S 0 8 ≤ 63) ∧
  (∀ i : Int, 0 ≤ i ∧ i < T 0 6 → (0 ≤ S 1 i.toNat ∧ S 1 i.toNat ≤ 99) ∧ (0 ≤ S 2 i.toNat ∧ S 2 i.toNat ≤ 99)) ∧ (∀ s : Int, 0 ≤ s ∧ s < T 0 7 → (0 ≤ S 3 s.toNat ∧ S 3 s.toNat ≤ 31))
theorem words_b {T : xMem} (h : TI T) {s : Int} (hs : 0 ≤ s ∧ s < T 0 7) : 0 ≤ wordsT T s ∧ wordsT T s ≤ 60 := by
  have := (h.2.2.2.2 s hs).2.2.1
  unfold wordsT
  split
  · omega
  · split
    · omega
    · split <;> omega
theorem wol_b {T S : xMem} (h : TI T) (hS : SI T S) {s : Int} (hs : 0 ≤ s ∧ s < T 0 7) : 0 ≤ wolT T S s ∧ wolT T S s ≤ wordsT T s := by
  have h1 := words_b h hs
  have h2 := (hS.2.2.2.2.2.1 _ (h.2.2.2.2 s hs).2.1).2
  unfold wolT
  omega
theorem crn_b {T S : xMem} (h : TI T) (hS : SI T S) {s : Int} (hs : 0 ≤ s ∧ s < T 0 7) : 0 ≤ crnT T S s ∧ crnT T S s ≤ 540 := by
  have h1 := wol_b h hS hs
  have h2 := words_b h hs
  have h3 := hS.2.2.2.1
  have h4 := (h.2.2.2.2 s hs).2.2.1
  have := mul_b (a := wolT T S s) (A := 60) (b := S 0 7) (B := 9) (by omega) (by omega)
  unfold crnT
  split
  · omega
  · split <;> omega
theorem look_def : ∀ {ps : List (Int × Int)} {dflt a : Int}, (∀ q ∈ ps, q.1 ≠ a) → Op.lookupswitch.offset ps dflt a = dflt
  | [], _, _, _ => rfl
  | (x, o) :: r, dflt, a, h => by
    rw [Op.lookupswitch.offset_cons, if_neg (h (x, o) List.mem_cons_self)]
    exact look_def (fun q hq => h q (List.mem_cons_of_mem _ hq))
/-! folds over numbers -/
def foldI {α : Type} (f : Int → α → α) : Nat → Int → α → α
  | 0, _, a => a
  | k + 1, i, a => foldI f k (i + 1) (f i a)
theorem foldI_step {α : Type} {f : Int → α → α} {n i : Int} {a : α} (h : i < n) : foldI f (n - i).toNat i a = foldI f (n - (i + 1)).toNat (i + 1) (f i a) := by
  rw [show (n - i).toNat = (n - (i + 1)).toNat + 1 by omega]
  rfl
theorem foldI_end {α : Type} {f : Int → α → α} {n i : Int} {a : α} (h : n ≤ i) : foldI f (n - i).toNat i a = a := by
  rw [show (n - i).toNat = 0 by omega]
  rfl
theorem foldI_0 {α : Type} {f : Int → α → α} {n : Int} {a : α} : foldI f n.toNat 0 a = foldI f (n - 0).toNat 0 a := by
  rw [Int.sub_zero]
/-- what holds of each step holds of the whole -/
theorem foldI_inv {α : Type} {f : Int → α → α} (P : Int → α → Prop) {n : Int} (hs : ∀ i a, 0 ≤ i → i < n → P i a → P (i + 1) (f i a)) : ∀ (k : Nat) (i : Int) (a : α), 0 ≤ i → i + k = n → P i a → P n (foldI f k i a)
  | 0, i, a, _, h, p => by
    have : i = n := by omega
    subst this
    exact p
  | k + 1, i, a, h0, h, p => foldI_inv P hs k (i + 1) (f i a) (by omega) (by omega) (hs i a h0 (by omega) p)
def understT (T S : xMem) (s : Int) : Int := if T 5 s.toNat = s then S 3 s.toNat else xand (S 3 s.toNat) (S 3 (T 5 s.toNat).toNat)
def undAllT (T S : xMem) (set : Int) : Int := foldI (fun s a => if bitI set s = 1 then xand a (understT T S s) else a) (T 0 7).toNat 0 (2 ^ (T 0 6).toNat - 1)
def knownToT (T S : xMem) (p : Int) : Int := foldI (fun s a => xor2 a (bitI (S 3 s.toNat) p * 2 ^ s.toNat)) (T 0 7).toNat 0 0
def undByT (T S : xMem) (set : Int) : Int := foldI (fun s a => if xand (understT T S s) set = set then xor2 a (1 * 2 ^ s.toNat) else a) (T 0 7).toNat 0 0
def passT (T S : xMem) (s deaf w : Int) : Int :=
  onwT (T 0 6) (T 2 s.toNat) (if bitI (S 0 8) s = 1 then S 3 s.toNat else reachT (T 0 6) (T 2 s.toNat) (T 3 s.toNat) (xbnd deaf (1 * 2 ^ (T 3 s.toNat).toNat))) (xbnd deaf (1 * 2 ^ (T 3 s.toNat).toNat)) w
def claimT (T S : xMem) (p : Int) : Int := max 0 (foldI (fun s a => if T 3 s.toNat = p ∧ ¬ bitI (S 0 8) s = 1 then a + wordsT T s else a) (T 0 7).toNat 0 0 - S 2 p.toNat)
def purT (T S : xMem) (p w : Int) : Int := min 99 (S 1 p.toNat + w * T 1 p.toNat)
def hillT (T S : xMem) (w : Int) : Int := if w = 0 then S 0 6 else min 999 (S 0 6 + S 0 5 + (w - 1) * T 0 5)
def knwT (T S : xMem) (s w : Int) : Int := onwT (T 0 6) (T 2 s.toNat) (S 3 s.toNat) 0 w
def earnT (T : xMem) (s lack : Int) : Int := if lack ≤ 0 then 0 else if 0 < T 1 (T 3 s.toNat).toNat then (lack + T 1 (T 3 s.toNat).toNat - 1) / T 1 (T 3 s.toNat).toNat else 1000000
def waitT (T S : xMem) (s : Int) : Int := if wolT T S s ≤ S 0 5 ∧ crnT T S s - S 1 (T 3 s.toNat).toNat ≤ 0 then 0 else max 1 (earnT T s (crnT T S s - S 1 (T 3 s.toNat).toNat))
def tillT (T S : xMem) (s most : Int) : Int := if (waitT T S s = 0 ∨ wolT T S s ≤ T 0 5 ∧ crnT T S s ≤ 99) ∧ waitT T S s ≤ most then waitT T S s else -1000000
theorem underst_b {T S : xMem} (h : TI T) (hS : SI T S) {s : Int} (hs : 0 ≤ s ∧ s < T 0 7) : 0 ≤ understT T S s ∧ understT T S s ≤ 31 := by
  have h1 := hS.2.2.2.2.2.2 s hs
  unfold understT
  split
  · exact h1
  · exact xand_bl h1
theorem earn_b {T : xMem} (h : TI T) {s lack : Int} (hs : 0 ≤ s ∧ s < T 0 7) (hl : lack ≤ 1000) : 0 ≤ earnT T s lack ∧ earnT T s lack ≤ 1000000 := by
  have h1 := h.2.2.2.1 _ (h.2.2.2.2 s hs).2.1
  unfold earnT
  split
  · omega
  · split
    · have := div_b (a := lack + T 1 (T 3 s.toNat).toNat - 1) (A := 2000) (b := T 1 (T 3 s.toNat).toNat) (by omega) (by omega)
      omega
    · omega
/-- the memory behind Town.takeFrom, Stand.takeFrom, as the code lays it -/
def twCp (M : xMem) (k j : Nat) : xMem :=
  let M1 := mS M k 5 (M j 5)
  let M2 := mS M1 k 6 (M1 j 6)
  let M3 := mS M2 k 7 (M2 j 7)
  mCp (mCp (mCp (mCp (mCp M3 (k + 1) (j + 1) 0 0 5) (k + 2) (j + 2) 0 0 6) (k + 3) (j + 3) 0 0 6) (k + 4) (j + 4) 0 0 6) (k + 5) (j + 5) 0 0 6
def stCp (M : xMem) (k j : Nat) : xMem :=
  let M1 := mS M k 4 (M j 4)
  let M2 := mS M1 k 5 (M1 j 5)
  let M3 := mS M2 k 6 (M2 j 6)
  let M4 := mS M3 k 7 (M3 j 7)
  let M5 := mS M4 k 8 (M4 j 8)
  mCp (mCp (mCp M5 (k + 1) (j + 1) 0 0 5) (k + 2) (j + 2) 0 0 5) (k + 3) (j + 3) 0 0 6

/-- the memory behind Stand.speak, bank, passWeeks -/
def spkM (M : xMem) (k : Nat) (s : Int) : xMem :=
  mS (mS (mS (mS (mS M (k + 1) (M 6 s.toNat).toNat (M (k + 1) (M 6 s.toNat).toNat - crnT (tw M) (sv M k) s)) (k + 2) (M 6 s.toNat).toNat (M (k + 2) (M 6 s.toNat).toNat - (wordsT (tw M) s - wolT (tw M) (sv M k) s)))
    k 5 (M k 5 - wolT (tw M) (sv M k) s)) k 8 (xor2 (M k 8) (1 * 2 ^ s.toNat))) (k + 3) s.toNat (reachT (M 3 6) (M 5 s.toNat) (M 6 s.toNat) 0)
def bnkM (M : xMem) (k : Nat) (p n : Int) : xMem :=
  mS (mS (mS M k 5 (M k 5 - n)) (k + 1) p.toNat (M (k + 1) p.toNat - n * M k 7)) (k + 2) p.toNat (M (k + 2) p.toNat + n)
def pw1 (M : xMem) (k : Nat) (w s : Int) : xMem := fun a j => if a = k + 3 ∧ (j : Int) < s then knwT (tw M) (sv M k) j w else M a j
def pw2 (M : xMem) (k : Nat) (w s p : Int) : xMem := fun a j => if a = k + 1 ∧ (j : Int) < p then purT (tw M) (sv M k) j w else pw1 M k w s a j
def pasM (M : xMem) (k : Nat) (w : Int) : xMem := mS (mS (mS (pw2 M k w (M 3 7) (M 3 6)) k 6 (hillT (tw M) (sv M k) w)) k 5 (if w = 0 then M k 5 else M 3 5)) k 4 (M k 4 + w)
theorem pw1_0 (M : xMem) (k : Nat) (w : Int) : M = pw1 M k w 0 := by
  funext a j
  unfold pw1
  rw [if_neg (by omega)]
theorem pw2_0 (M : xMem) (k : Nat) (w s : Int) : pw1 M k w s = pw2 M k w s 0 := by
  funext a j
  unfold pw2
  rw [if_neg (by omega)]
theorem pw1_s {M : xMem} {k : Nat} {w s : Int} (hs : 0 ≤ s) : mS (pw1 M k w s) (k + 3) s.toNat (knwT (tw M) (sv M k) s w) = pw1 M k w (s + 1) := by
  funext a j
  unfold mS pw1
  by_cases h : a = k + 3
  · by_cases h1 : j = s.toNat
    · rw [if_pos ⟨h, h1⟩, if_pos ⟨h, by omega⟩, h1, show ((s.toNat : Nat) : Int) = s by omega]
    · rw [if_neg (fun q => h1 q.2)]
      by_cases h2 : (j : Int) < s
      · rw [if_pos ⟨h, h2⟩, if_pos ⟨h, by omega⟩]
      · rw [if_neg (fun q => h2 q.2), if_neg (by omega)]
  · rw [if_neg (fun q => h q.1), if_neg (fun q => h q.1), if_neg (fun q => h q.1)]
theorem pw2_s {M : xMem} {k : Nat} {w s p : Int} (hp : 0 ≤ p) : mS (pw2 M k w s p) (k + 1) p.toNat (purT (tw M) (sv M k) p w) = pw2 M k w s (p + 1) := by
  funext a j
  unfold mS pw2
  by_cases h : a = k + 1
  · by_cases h1 : j = p.toNat
    · rw [if_pos ⟨h, h1⟩, if_pos ⟨h, by omega⟩, h1, show ((p.toNat : Nat) : Int) = p by omega]
    · rw [if_neg (fun q => h1 q.2)]
      by_cases h2 : (j : Int) < p
      · rw [if_pos ⟨h, h2⟩, if_pos ⟨h, by omega⟩]
      · rw [if_neg (fun q => h2 q.2), if_neg (by omega)]
  · rw [if_neg (fun q => h q.1), if_neg (fun q => h q.1), if_neg (fun q => h q.1)]
def clmF (T S : xMem) (p : Int) : Int → Int → Int := fun s a => if T 3 s.toNat = p ∧ ¬ bitI (S 0 8) s = 1 then a + wordsT T s else a
theorem claim_b {T S : xMem} (h : TI T) (hS : SI T S) {p : Int} (hp : 0 ≤ p ∧ p < T 0 6) : 0 ≤ claimT T S p ∧ claimT T S p ≤ 360 := by
  have hN := h.2.1
  have hb := (hS.2.2.2.2.2.1 p hp).2
  have key := foldI_inv (f := clmF T S p) (fun i a => 0 ≤ a ∧ a ≤ 60 * i) (n := T 0 7) (fun i a h0 h1 q => by
    have := words_b h (s := i) ⟨h0, h1⟩
    dsimp only [clmF]
    split <;> omega) (T 0 7).toNat 0 0 (by omega) (by omega) (by omega)
  have e : claimT T S p = max 0 (foldI (clmF T S p) (T 0 7).toNat 0 0 - S 2 p.toNat) := rfl
  rw [e]
  omega
def clsT (T S : xMem) : Int := foldI (fun q a => a + claimT T S q) (T 0 6).toNat 0 0
def ovrF (T S : xMem) (p w : Int) : Int → Int × Int → Int × Int := fun q a => (a.1 - w * claimT T S q / clsT T S, if q < p ∧ 0 < claimT T S q then a.2 + 1 else a.2)
def ovrT (T S : xMem) (p w : Int) : Int × Int := foldI (ovrF T S p w) (T 0 6).toNat 0 (w, 0)
def shareT (T S : xMem) (p w : Int) : Int := if clsT T S = 0 ∨ claimT T S p = 0 then 0 else w * claimT T S p / clsT T S + (if (ovrT T S p w).2 < (ovrT T S p w).1 then 1 else 0)
theorem bitI_mul {x p s : Int} (hs : 0 ≤ s ∧ s ≤ 5) : 0 ≤ bitI x p * 2 ^ s.toNat ∧ bitI x p * 2 ^ s.toNat ≤ 32 := by
  have h1 := bitI_b (x := x) (s := p)
  have h2 := p2_5 hs
  have := mul_b (a := bitI x p) (A := 1) (b := 2 ^ s.toNat) (B := 32) h1 (by omega)
  omega
theorem foldI_go {α : Type} {f : Int → α → α} {n i : Int} {a b t : α} (h : i < n) (hi : foldI f (n - i).toNat i a = t) (e : f i a = b) : foldI f (n - (i + 1)).toNat (i + 1) b = t := by
  rw [foldI_step h, e] at hi
  exact hi
theorem tw_pw1 {M : xMem} {k : Nat} {w s : Int} (h : 9 ≤ k) : tw (pw1 M k w s) = tw M := by
  funext o j
  unfold tw
  split <;> first | rfl | exact if_neg (by omega)
theorem tw_pw2 {M : xMem} {k : Nat} {w s p : Int} (h : 9 ≤ k) : tw (pw2 M k w s p) = tw M := by
  funext o j
  unfold tw
  split <;> first | rfl | (unfold pw2 pw1; rw [if_neg (by omega), if_neg (by omega)])
