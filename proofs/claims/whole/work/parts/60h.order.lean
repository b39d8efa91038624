section RLH
/-! the order by which all is said soonest -/
abbrev badS (T S : xMem) (w s : Int) : Prop := bitI (S 0 8) s = 1 ∨ tillT T S s (60 - w) = -1000000
def nxS (T S : xMem) (w s : Int) : xMem := spkS T (pasS T S (tillT T S s (60 - w))) s
def VL (T : xMem) (o : Nat → Int) : Nat → Nat → xMem → Int → Int
  | 0, _, _, w => w
  | f + 1, k, S, w => if badS T S w (o k) then -1 else VL T o f (k + 1) (nxS T S w (o k)) (w + tillT T S (o k) (60 - w))
def srF (T S : xMem) (w c : Int) (g : xMem → Int → Int → Int × Int → Int × Int) (s : Int) (q : Int × Int) : Int × Int := if badS T S w s then q else g (nxS T S w s) (w + tillT T S s (60 - w)) (c * T 0 7 + s) q
def srch (T : xMem) : Nat → xMem → Int → Int → Int × Int → Int × Int
  | 0, _, w, c, q => if w < q.2 then (c, w) else q
  | f + 1, S, w, c, q => foldI (srF T S w c (srch T f)) (T 0 7).toNat 0 q
theorem pc_or {a s : Int} (ha : 0 ≤ a ∧ a ≤ 63) (hs : 0 ≤ s ∧ s ≤ 5) (h : ¬ bitI a s = 1) : pcT (xor2 a (1 * 2 ^ s.toNat)) = pcT a + 1 := by
  have key : ∀ a : Nat, a < 64 → ∀ s : Nat, s < 6 → ¬ bitI (a : Int) (s : Int) = 1 → pcT (xor2 (a : Int) (1 * 2 ^ s)) = pcT (a : Int) + 1 := by decide +kernel
  have := key a.toNat (by omega) s.toNat (by omega)
  rw [show ((a.toNat : Nat) : Int) = a by omega, show ((s.toNat : Nat) : Int) = s by omega] at this
  exact this h
theorem pc_full {a n : Int} (hn : 1 ≤ n ∧ n ≤ 6) (ha : 0 ≤ a ∧ a < 2 ^ n.toNat) : pcT a = n ↔ a = 1 * 2 ^ n.toNat - 1 := by
  have key : ∀ n : Nat, n < 7 → 1 ≤ n → ∀ a : Nat, a < 2 ^ n → decide (pcT (a : Int) = (n : Int)) = decide ((a : Int) = 1 * 2 ^ n - 1) := by decide +kernel
  have h2 := p2n (n := n)
  have := key n.toNat (by omega) (by omega) a.toNat (by omega)
  rw [show ((a.toNat : Nat) : Int) = a by omega, show ((n.toNat : Nat) : Int) = n by omega] at this
  exact decide_eq_decide.mp this
theorem pc_le {a n : Int} (hn : 1 ≤ n ∧ n ≤ 6) (ha : 0 ≤ a ∧ a < 2 ^ n.toNat) : pcT a ≤ n := by
  have key : ∀ n : Nat, n < 7 → 1 ≤ n → ∀ a : Nat, a < 2 ^ n → pcT (a : Int) ≤ (n : Int) := by decide +kernel
  have h2 := p2n (n := n)
  have := key n.toNat (by omega) (by omega) a.toNat (by omega)
  rw [show ((a.toNat : Nat) : Int) = a by omega, show ((n.toNat : Nat) : Int) = n by omega] at this
  exact this
theorem GI_pasn {T S : xMem} {w t : Int} (hT : TI T) (hw : w ≤ 90000) (ht : 0 ≤ t ∧ t ≤ 100) (g : GI T S w) : GI T (pasS T S t) (w + t) := ⟨SI_pas hT g.1 ht (by have := g.2.2.1; omega), KI_pas hT g.1 g.2.1, by show S 0 4 + t ≤ w + t; have := g.2.2.1; omega, g.2.2.2⟩
theorem nx_ok {T S : xMem} {w s : Int} (hT : TI T) (g : GI T S (999 + w)) (hw : 0 ≤ w ∧ w ≤ 60) (hs : 0 ≤ s ∧ s < T 0 7) (h : ¬ badS T S w s) :
    (0 ≤ tillT T S s (60 - w) ∧ tillT T S s (60 - w) ≤ 60 - w) ∧ canT T (pasS T S (tillT T S s (60 - w))) s ∧ GI T (nxS T S w s) (999 + (w + tillT T S s (60 - w))) ∧ pcT (nxS T S w s 0 8) = pcT (S 0 8) + 1 ∧ nxS T S w s 0 8 = xor2 (S 0 8) (1 * 2 ^ s.toNat) := by
  have hN := hT.2.1
  have h1 : ¬ bitI (S 0 8) s = 1 := fun z => h (Or.inl z)
  have h2 : ¬ tillT T S s (60 - w) = -1000000 := fun z => h (Or.inr z)
  obtain ⟨q1, q2⟩ := till_can hT g.1 hs h1 (show 60 - w ≤ 60 by omega) rfl h2
  have g1 := GI_pasn hT (by omega) (t := tillT T S s (60 - w)) (by omega) g
  have g2 := GI_spk hT g1 hs q2
  rw [Int.add_assoc] at g2
  exact ⟨q1, q2, g2, pc_or g.1.2.2.2.2.1 (by omega) h1, rfl⟩
theorem sr_le {T : xMem} (hT : TI T) : ∀ (f : Nat) (S : xMem) (w c : Int) (q : Int × Int), GI T S (999 + w) → (0 ≤ w ∧ w ≤ 60) → q.2 ≤ w → srch T f S w c q = q
  | 0, S, w, c, q, g, hw, h => by
    show (if w < q.2 then (c, w) else q) = q
    rw [if_neg (by omega)]
  | f + 1, S, w, c, q, g, hw, h => by
    have key : ∀ (k : Nat) (i : Int), 0 ≤ i → i + k ≤ T 0 7 → foldI (srF T S w c (srch T f)) k i q = q := by
      intro k
      induction k with
      | zero => intro i _ _; rfl
      | succ k ih =>
        intro i h0 h1
        show foldI (srF T S w c (srch T f)) k (i + 1) (srF T S w c (srch T f) i q) = q
        have e : srF T S w c (srch T f) i q = q := by
          unfold srF
          by_cases b : badS T S w i
          · rw [if_pos b]
          · rw [if_neg b]
            obtain ⟨q1, q2, q3, q4, q5⟩ := nx_ok hT g hw ⟨h0, by omega⟩ b
            exact sr_le hT f _ _ _ q q3 (by omega) (by omega)
        rw [e]
        exact ih (i + 1) (by omega) (by omega)
    exact key _ 0 (by decide) (by have := hT.2.1; omega)
/-! the model: codes one behind another -/
def dg (N : Int) (m : Nat) (code : Int) (j : Nat) : Int := (code / N ^ (m - 1 - j)) % N
def vF (v : Int → Int) (code : Int) (q : Int × Int) : Int × Int := if 0 ≤ v code ∧ v code < q.2 then (code, v code) else q
theorem foldI_add {α : Type} {f : Int → α → α} : ∀ (a b : Nat) (i : Int) (x : α), foldI f (a + b) i x = foldI f b (i + a) (foldI f a i x)
  | 0, b, i, x => by
    rw [Nat.zero_add, show i + ((0 : Nat) : Int) = i by omega]
    rfl
  | a + 1, b, i, x => by
    rw [show a + 1 + b = (a + b) + 1 by omega]
    show foldI f (a + b) (i + 1) (f i x) = foldI f b (i + ((a + 1 : Nat) : Int)) (foldI f a (i + 1) (f i x))
    rw [foldI_add a b (i + 1), show i + 1 + (a : Int) = i + ((a + 1 : Nat) : Int) by omega]
theorem foldI_blk {α : Type} {f : Int → α → α} {B : Nat} {base : Int} : ∀ (k : Nat) (s : Int) (x : α), foldI f (k * B) (base + s * B) x = foldI (fun s x => foldI f B (base + s * B) x) k s x
  | 0, s, x => by
    rw [Nat.zero_mul]
    rfl
  | k + 1, s, x => by
    rw [show (k + 1) * B = B + k * B by rw [Nat.succ_mul, Nat.add_comm], foldI_add, show base + s * (B : Int) + (B : Int) = base + (s + 1) * (B : Int) by rw [Int.add_mul, Int.one_mul]; omega, foldI_blk k (s + 1)]
    rfl
theorem mod_N {N c s : Int} (hN : 1 ≤ N ∧ N ≤ 6) (hs : 0 ≤ s ∧ s < N) : (c * N + s) % N = s ∧ (c * N + s) / N = c := by
  rcases (show N = 1 ∨ N = 2 ∨ N = 3 ∨ N = 4 ∨ N = 5 ∨ N = 6 by omega) with rfl | rfl | rfl | rfl | rfl | rfl <;> omega
theorem div_blk {x d P : Int} (hP : 0 < P) (h1 : d * P ≤ x) (h2 : x < (d + 1) * P) : x / P = d := by
  have a1 : d ≤ x / P := Int.le_ediv_of_mul_le hP h1
  have a2 : x / P < d + 1 := Int.ediv_lt_of_lt_mul hP h2
  omega
theorem mo_srch {T : xMem} (hT : TI T) {m : Nat} {v : Int → Int} : ∀ (f : Nat) (S : xMem) (w c : Int) (dep : Nat) (q : Int × Int), dep + f = m → 0 ≤ c → GI T S (999 + w) → (0 ≤ w ∧ w ≤ 60) → (∀ code, c * T 0 7 ^ f ≤ code → code < (c + 1) * T 0 7 ^ f → v code = VL T (dg (T 0 7) m code) f dep S w) → foldI (vF v) (T 0 7 ^ f).toNat (c * T 0 7 ^ f) q = srch T f S w c q
  | 0, S, w, c, dep, q, hd, hc, g, hw, hv => by
    have e := hv c (by rw [Int.pow_zero, Int.mul_one]; exact Int.le_refl _) (by rw [Int.pow_zero, Int.mul_one]; omega)
    rw [Int.pow_zero, Int.mul_one]
    show vF v c q = if w < q.2 then (c, w) else q
    unfold vF
    rw [e]
    show (if 0 ≤ w ∧ w < q.2 then (c, w) else q) = _
    by_cases z : w < q.2
    · rw [if_pos ⟨hw.1, z⟩, if_pos z]
    · rw [if_neg (fun y => z y.2), if_neg z]
  | f + 1, S, w, c, dep, q, hd, hc, g, hw, hv => by
    have hN := hT.2.1
    have hP : 0 < T 0 7 ^ f := Int.pow_pos (by omega)
    obtain ⟨B, hB⟩ := Int.eq_ofNat_of_zero_le (show 0 ≤ T 0 7 ^ f by omega)
    have hB1 : 1 ≤ (B : Int) := by omega
    have e1 : T 0 7 ^ (f + 1) = T 0 7 * B := by rw [Int.pow_succ, hB, Int.mul_comm]
    have e2 : (T 0 7 * (B : Int)).toNat = (T 0 7).toNat * B := by
      obtain ⟨n, hn⟩ := Int.eq_ofNat_of_zero_le (show 0 ≤ T 0 7 by omega)
      rw [hn, ← Int.natCast_mul, Int.toNat_natCast, Int.toNat_natCast]
    have e3 : c * T 0 7 ^ (f + 1) = c * (T 0 7 * B) + 0 * (B : Int) := by rw [e1, Int.zero_mul, Int.add_zero]
    rw [e3, e1, e2, foldI_blk]
    show _ = foldI (srF T S w c (srch T f)) (T 0 7).toNat 0 q
    refine foldI_cg2 _ _ _ (fun s x h0 h1 => ?_)
    have hs : 0 ≤ s ∧ s < T 0 7 := by omega
    have hst : c * (T 0 7 * (B : Int)) + s * (B : Int) = (c * T 0 7 + s) * (B : Int) := by rw [Int.add_mul, Int.mul_assoc]
    have hin : ∀ code, (c * T 0 7 + s) * (B : Int) ≤ code → code < (c * T 0 7 + s + 1) * (B : Int) → v code = VL T (dg (T 0 7) m code) (f + 1) dep S w ∧ dg (T 0 7) m code dep = s := by
      intro code l1 l2
      refine ⟨hv code ?_ ?_, ?_⟩
      · rw [e1, ← Int.mul_assoc]
        have z : c * T 0 7 * (B : Int) ≤ (c * T 0 7 + s) * (B : Int) := Int.mul_le_mul_of_nonneg_right (by omega) (by omega)
        omega
      · rw [e1, ← Int.mul_assoc]
        have z : (c * T 0 7 + s + 1) * (B : Int) ≤ (c + 1) * T 0 7 * (B : Int) := Int.mul_le_mul_of_nonneg_right (by rw [Int.add_mul, Int.one_mul]; omega) (by omega)
        omega
      · unfold dg
        rw [show m - 1 - dep = f by omega, hB, div_blk (by omega) l1 l2]
        exact (mod_N hN hs).1
    unfold srF
    rw [hst]
    by_cases b : badS T S w s
    · rw [if_pos b]
      have key : ∀ (k : Nat) (i : Int), (c * T 0 7 + s) * (B : Int) ≤ i → i + k ≤ (c * T 0 7 + s + 1) * (B : Int) → foldI (vF v) k i x = x := by
        intro k
        induction k with
        | zero => intro i _ _; rfl
        | succ k ih =>
          intro i l1 l2
          show foldI (vF v) k (i + 1) (vF v i x) = x
          obtain ⟨z1, z2⟩ := hin i l1 (by omega)
          have e : v i = -1 := by
            rw [z1]
            unfold VL
            rw [z2, if_pos b]
          have e' : vF v i x = x := by
            unfold vF
            rw [e, if_neg (by omega)]
          rw [e']
          exact ih (i + 1) (by omega) (by omega)
      exact key B _ (Int.le_refl _) (by rw [Int.add_mul _ 1, Int.one_mul]; omega)
    · rw [if_neg b]
      obtain ⟨q1, q2, q3, q4, q5⟩ := nx_ok hT g hw hs b
      have z := mo_srch hT (m := m) (v := v) f (nxS T S w s) (w + tillT T S s (60 - w)) (c * T 0 7 + s) (dep + 1) x (by omega) (by have := Int.mul_nonneg hc (show 0 ≤ T 0 7 by omega); omega) q3 (by omega) (fun code l1 l2 => by
        rw [hB] at l1 l2
        obtain ⟨z1, z2⟩ := hin code l1 l2
        rw [z1]
        show (if badS T S w (dg (T 0 7) m code dep) then -1 else VL T (dg (T 0 7) m code) f (dep + 1) (nxS T S w (dg (T 0 7) m code dep)) (w + tillT T S (dg (T 0 7) m code dep) (60 - w))) = _
        rw [z2, if_neg b])
      rw [hB, Int.toNat_natCast] at z
      exact z
/-! digits -/
theorem dg_hi {N : Int} : ∀ (k : Nat) (l u : Int) (g : Bool) (M : xMem) (j : Nat), k ≤ j → (dgL N k l u g M).2 213 j = M 213 j
  | 0, _, _, _, _, _, _ => rfl
  | k + 1, l, u, g, M, j, h => (dg_hi k _ _ _ _ j (by omega)).trans (mS_ne (Or.inr (by omega)))
theorem dg_at {N : Int} (hN : 1 ≤ N) : ∀ (k : Nat) (l u : Int) (g : Bool) (M : xMem) (j : Nat), j < k → (dgL N k l u g M).2 213 j = dg N k l j
  | 0, _, _, _, _, _, h => absurd h (by omega)
  | k + 1, l, u, g, M, j, h => by
    show (dgL N k (l / N) (xor2 u (1 * 2 ^ (l % N).toNat)) (g && !decide (bitI u (l % N) = 1)) (mS M 213 k (l % N))).2 213 j = _
    rcases (show j = k ∨ j < k by omega) with e | e
    · subst e
      rw [dg_hi j _ _ _ _ j (Nat.le_refl _), mS_eq]
      unfold dg
      rw [show j + 1 - 1 - j = 0 by omega, Int.pow_zero, Int.ediv_one]
    · rw [dg_at hN k _ _ _ _ j e]
      unfold dg
      rw [show k + 1 - 1 - j = (k - 1 - j) + 1 by omega, Int.pow_succ, Int.mul_comm, Int.ediv_ediv_of_nonneg (by omega)]
theorem dg_fl {N : Int} (hN : 1 ≤ N ∧ N ≤ 6) : ∀ (k : Nat) (l u : Int) (g : Bool) (M : xMem), (0 ≤ u ∧ u ≤ 63) → ((dgL N k l u g M).1 = true ↔ (g = true ∧ (∀ j, j < k → ¬ bitI u ((dgL N k l u g M).2 213 j) = 1) ∧ ∀ i j, i < j → j < k → (dgL N k l u g M).2 213 i ≠ (dgL N k l u g M).2 213 j))
  | 0, l, u, g, M, hu => ⟨fun h => ⟨h, fun j hj => absurd hj (by omega), fun i j _ hj => absurd hj (by omega)⟩, fun h => h.1⟩
  | k + 1, l, u, g, M, hu => by
    have hx1 := Int.emod_nonneg l (show N ≠ 0 by omega)
    have hx2 := Int.emod_lt_of_pos l (show 0 < N by omega)
    have hp := p2_5 (n := l % N) (by omega)
    have hu2 := xor2_63 (a := u) (b := 1 * 2 ^ (l % N).toNat) hu (by omega)
    have ih := dg_fl hN k (l / N) (xor2 u (1 * 2 ^ (l % N).toNat)) (g && !decide (bitI u (l % N) = 1)) (mS M 213 k (l % N)) hu2
    have hb := dg_b (N := N) hN.1 k (l / N) (xor2 u (1 * 2 ^ (l % N).toNat)) (g && !decide (bitI u (l % N) = 1)) (mS M 213 k (l % N)) k (fun i h1 h2 => absurd h2 (by omega))
    have hk := dg_hi (N := N) k (l / N) (xor2 u (1 * 2 ^ (l % N).toNat)) (g && !decide (bitI u (l % N) = 1)) (mS M 213 k (l % N)) k (Nat.le_refl _)
    rw [mS_eq] at hk
    rw [show dgL N (k + 1) l u g M = dgL N k (l / N) (xor2 u (1 * 2 ^ (l % N).toNat)) (g && !decide (bitI u (l % N) = 1)) (mS M 213 k (l % N)) from rfl, ih]
    generalize dgL N k (l / N) (xor2 u (1 * 2 ^ (l % N).toNat)) (g && !decide (bitI u (l % N) = 1)) (mS M 213 k (l % N)) = D at *
    have eb : ∀ j, j < k → (bitI (xor2 u (1 * 2 ^ (l % N).toNat)) (D.2 213 j) = if D.2 213 j = l % N then 1 else bitI u (D.2 213 j)) := fun j hj => by
      have := hb j hj
      exact bit_or hu (by omega) (by omega)
    constructor
    · rintro ⟨h1, h2, h3⟩
      rw [Bool.and_eq_true] at h1
      have h1b : ¬ bitI u (l % N) = 1 := by
        have := h1.2
        simpa using this
      refine ⟨h1.1, fun j hj => ?_, fun i j hij hj => ?_⟩
      · rcases (show j = k ∨ j < k by omega) with e | e
        · subst e; rw [hk]; exact h1b
        · have z := h2 j e
          rw [eb j e] at z
          by_cases c : D.2 213 j = l % N
          · rw [if_pos c] at z; exact absurd rfl z
          · rw [if_neg c] at z; exact z
      · rcases (show j = k ∨ j < k by omega) with e | e
        · subst e
          rw [hk]
          have z := h2 i hij
          rw [eb i hij] at z
          intro c
          rw [if_pos c] at z
          exact z rfl
        · exact h3 i j hij e
    · rintro ⟨h1, h2, h3⟩
      refine ⟨?_, fun j hj => ?_, fun i j hij hj => h3 i j hij (by omega)⟩
      · have z := h2 k (by omega)
        rw [hk] at z
        rw [h1]
        simpa using z
      · rw [eb j hj]
        have z := h3 j k hj (by omega)
        rw [hk] at z
        rw [if_neg z]
        exact h2 j (by omega)
/-! the model's walk through an order -/
theorem VL_cg {T : xMem} {o o' : Nat → Int} : ∀ (f k : Nat) (S : xMem) (w : Int), (∀ j, k ≤ j → j < k + f → o j = o' j) → VL T o f k S w = VL T o' f k S w
  | 0, _, _, _, _ => rfl
  | f + 1, k, S, w, h => by
    unfold VL
    rw [h k (by omega) (by omega), VL_cg f (k + 1) _ _ (fun j h1 h2 => h j (by omega) (by omega))]
theorem VL_good {T : xMem} (hT : TI T) {o : Nat → Int} : ∀ (f k : Nat) (S : xMem) (w : Int), GI T S (999 + w) → (0 ≤ w ∧ w ≤ 60) → (∀ j, k ≤ j → j < k + f → 0 ≤ o j ∧ o j < T 0 7) → ¬ VL T o f k S w = -1 → (∀ j, k ≤ j → j < k + f → ¬ bitI (S 0 8) (o j) = 1) ∧ ∀ i j, k ≤ i → i < j → j < k + f → o i ≠ o j
  | 0, k, S, w, g, hw, ho, h => ⟨fun j h1 h2 => absurd h2 (by omega), fun i j h1 h2 h3 => absurd h3 (by omega)⟩
  | f + 1, k, S, w, g, hw, ho, h => by
    have hN := hT.2.1
    have hk := ho k (by omega) (by omega)
    unfold VL at h
    by_cases b : badS T S w (o k)
    · rw [if_pos b] at h
      exact absurd rfl h
    · rw [if_neg b] at h
      obtain ⟨q1, q2, q3, q4, q5⟩ := nx_ok hT g hw hk b
      obtain ⟨z1, z2⟩ := VL_good hT f (k + 1) _ _ q3 (by omega) (fun j h1 h2 => ho j (by omega) (by omega)) h
      have key : ∀ j, k + 1 ≤ j → j < k + 1 + f → ¬ bitI (S 0 8) (o j) = 1 ∧ o k ≠ o j := fun j h1 h2 => by
        have hj := ho j (by omega) (by omega)
        have y := z1 j h1 h2
        rw [q5, bit_or g.1.2.2.2.2.1 (by omega) (by omega)] at y
        by_cases c : o j = o k
        · rw [if_pos c] at y; exact absurd rfl y
        · rw [if_neg c] at y; exact ⟨y, fun e => c e.symm⟩
      refine ⟨fun j h1 h2 => ?_, fun i j h1 h2 h3 => ?_⟩
      · rcases (show j = k ∨ k + 1 ≤ j by omega) with e | e
        · subst e; exact fun c => b (Or.inl c)
        · exact (key j e (by omega)).1
      · rcases (show i = k ∨ k + 1 ≤ i by omega) with e | e
        · subst e; exact (key j (by omega) (by omega)).2
        · exact z2 i j e h2 (by omega)
theorem VL_b {T : xMem} (hT : TI T) {o : Nat → Int} : ∀ (f k : Nat) (S : xMem) (w : Int), GI T S (999 + w) → (0 ≤ w ∧ w ≤ 60) → (∀ j, k ≤ j → j < k + f → 0 ≤ o j ∧ o j < T 0 7) → VL T o f k S w = -1 ∨ (0 ≤ VL T o f k S w ∧ VL T o f k S w ≤ 60)
  | 0, k, S, w, g, hw, ho => Or.inr hw
  | f + 1, k, S, w, g, hw, ho => by
    have hk := ho k (by omega) (by omega)
    unfold VL
    by_cases b : badS T S w (o k)
    · rw [if_pos b]; exact Or.inl rfl
    · rw [if_neg b]
      obtain ⟨q1, q2, q3, q4, q5⟩ := nx_ok hT g hw hk b
      exact VL_b hT f (k + 1) _ _ q3 (by omega) (fun j h1 h2 => ho j (by omega) (by omega))
theorem ww_till {T S : xMem} {w s : Int} (hT : TI T) (g : GI T S (999 + w)) (hw : 0 ≤ w ∧ w ≤ 60) (hs : 0 ≤ s ∧ s < T 0 7) (hsd : ¬ bitI (S 0 8) s = 1) : ∀ (fu : Nat) (n : Int) (M : xMem), TA T (tg (M 209)) → SA T (pasS T S n) (sk (M 211)) → 0 ≤ n → w + n ≤ 61 → fu = (62 - (w + n)).toNat → (∀ m : Int, 0 ≤ m → m < n → ¬ canT T (pasS T S m) s) →
    (tillT T S s (60 - w) = -1000000 → (wwL s fu (w + n) M).1 = 61) ∧ (¬ tillT T S s (60 - w) = -1000000 → (wwL s fu (w + n) M).1 = w + tillT T S s (60 - w) ∧ SA T (pasS T S (tillT T S s (60 - w))) (sk ((wwL s fu (w + n) M).2 211))) ∧ ∀ a, a ≠ 211 → (wwL s fu (w + n) M).2 a = M a
  | 0, n, M, ht, hsa, h0, h1, hf, hno => absurd hf (by omega)
  | fu + 1, n, M, ht, hsa, h0, h1, hf, hno => by
    have ec := can_cg hT ht hsa hs
    unfold wwL
    rcases (show w + n = 61 ∨ w + n ≤ 60 by omega) with e | e
    · have hnone : tillT T S s (60 - w) = -1000000 := till_no hT g.1 hs hsd (by omega) (fun m q1 q2 => hno m q1 (by omega))
      rw [if_pos (Or.inr (by omega))]
      exact ⟨fun _ => e, fun z => absurd hnone z, fun _ _ => rfl⟩
    · by_cases c : canT T (pasS T S n) s
      · have ht2 : tillT T S s (60 - w) = n := till_is hT g.1 hs hsd (by omega) (by omega) c hno
        rw [if_pos (Or.inl (ec.mpr c)), ht2]
        exact ⟨fun z => absurd z (by omega), fun _ => ⟨rfl, hsa⟩, fun _ _ => rfl⟩
      · rw [if_neg (fun z => by rcases z with z | z; exact c (ec.mp z); omega)]
        have z := ww_till hT g hw hs hsd fu (n + 1) (psM M 211) (by rw [ps_lo (by decide)]; exact ht) (ps_step hT ht g hsa (by omega)) (by omega) (by omega) (by omega) (fun m q1 q2 => by
          rcases (show m < n ∨ m = n by omega) with y | y
          · exact hno m q1 y
          · rw [y]; exact c)
        rw [show w + n + 1 = w + (n + 1) by omega]
        exact ⟨z.1, z.2.1, fun a ha => (z.2.2 a ha).trans (ps_lo ha)⟩
theorem wo_VL {T : xMem} (hT : TI T) : ∀ (f k : Nat) (w : Int) (M S : xMem), TA T (tg (M 209)) → SA T S (sk (M 211)) → GI T S (999 + w) → (0 ≤ w ∧ w ≤ 60) → (∀ j, k ≤ j → j < k + f → 0 ≤ M 213 j ∧ M 213 j < T 0 7) → (∀ j, k ≤ j → j < k + f → ¬ bitI (S 0 8) (M 213 j) = 1) → (∀ i j, k ≤ i → i < j → j < k + f → M 213 i ≠ M 213 j) →
    (woL f (k : Int) w M).1 = VL T (M 213) f k S w
  | 0, k, w, M, S, ht, hsa, g, hw, ho, h1, h2 => rfl
  | f + 1, k, w, M, S, ht, hsa, g, hw, ho, h1, h2 => by
    have hN := hT.2.1
    have hs := ho k (by omega) (by omega)
    have hsd := h1 k (by omega) (by omega)
    obtain ⟨w1, w2, w3⟩ := ww_till hT g hw hs hsd (62 - w).toNat 0 M ht ((pas_0 g.1).symm.trans hsa) (by decide) (by omega) (by rw [Int.add_zero]) (fun m q1 q2 => by omega)
    rw [Int.add_zero] at w1 w2 w3
    unfold woL VL
    rw [show ((k : Int)).toNat = k by omega]
    by_cases b : tillT T S (M 213 k) (60 - w) = -1000000
    · rw [w1 b, if_neg (by decide), if_pos (Or.inr b)]
    · have nb : ¬ badS T S w (M 213 k) := fun z => by rcases z with z | z; exact hsd z; exact b z
      obtain ⟨q1, q2, q3, q4, q5⟩ := nx_ok hT g hw hs nb
      obtain ⟨v1, v2⟩ := w2 b
      rw [v1, if_pos (by omega), if_neg nb]
      have e9 := w3 209 (by decide)
      have e13 := w3 213 (by decide)
      have hs' : 0 ≤ M 213 k ∧ M 213 k < (wwL (M 213 k) (62 - w).toNat w M).2 209 1 := by
        rw [e9]
        have : tg (M 209) 0 7 = M 209 1 := rfl
        rw [← this, ← ht.2.2.1]
        exact hs
      have y1 := sa_SA (M := (wwL (M 213 k) (62 - w).toNat w M).2) (k := 211) (s := M 213 k) (by rw [e9]; exact ht.TI hT) hs'
      rw [e9] at y1
      have f13 : saM (wwL (M 213 k) (62 - w).toNat w M).2 211 (M 213 k) 213 = M 213 := (sa_lo (by decide)).trans e13
      have z := wo_VL hT f (k + 1) (w + tillT T S (M 213 k) (60 - w)) (saM (wwL (M 213 k) (62 - w).toNat w M).2 211 (M 213 k)) (nxS T S w (M 213 k)) (by rw [sa_lo (by decide), e9]; exact ht) ((spk_cg hT ht v2 hs).trans (SA_ta ht.symm y1.symm)) q3 (by omega) (by rw [f13]; exact fun j a1 a2 => ho j (by omega) (by omega)) (by
        rw [f13]
        intro j a1 a2
        have hj := ho j (by omega) (by omega)
        rw [q5, bit_or g.1.2.2.2.2.1 (by omega) (by omega), if_neg (fun c => h2 k j (by omega) (by omega) (by omega) c.symm)]
        exact h1 j (by omega) (by omega)) (by rw [f13]; exact fun i j a1 a2 a3 => h2 i j (by omega) a2 (by omega))
      rw [f13] at z
      exact z
theorem wwL_row {s : Int} {a : Nat} (h : a ≠ 211) : ∀ (f : Nat) (w : Int) (M : xMem), (wwL s f w M).2 a = M a
  | 0, _, _ => rfl
  | f + 1, w, M => by
    unfold wwL
    split
    · rfl
    · exact (wwL_row h f (w + 1) _).trans (ps_lo h)
theorem woL_row {a : Nat} (h : a ≠ 211) : ∀ (f : Nat) (k w : Int) (M : xMem), (woL f k w M).2 a = M a
  | 0, _, _, _ => rfl
  | f + 1, k, w, M => by
    unfold woL
    split
    · exact (woL_row h f (k + 1) _ _).trans ((sa_lo h).trans (wwL_row h _ _ _))
    · exact wwL_row h _ _ _
/-- an order's weeks, by its code -/
theorem wo_val {T S Q : xMem} (hT : TI T) (g : GI T S 999) (ht : TA T (tg (Q 209))) (hs : SA T S (sk (Q 210))) {code : Int} {m : Nat} (hm : m ≤ 6) : (woT Q code m).1 = VL T (dg (T 0 7) m code) m 0 S 0 ∧ (∀ j, j < m → (woT Q code m).2 213 j = dg (T 0 7) m code j) ∧ ∀ b, b ≠ 211 → b ≠ 213 → (woT Q code m).2 b = Q b := by
  have hN := hT.2.1
  have e1 : Q 209 1 = T 0 7 := ht.2.2.1.symm
  have e8 : Q 210 4 = S 0 8 := hs.1.2.2.2.2.symm
  have hok := woT_ok (M := Q) (ht.TI hT) (GI_ta ht hs g) code m
  have dat := dg_at (N := T 0 7) hN.1 m code (S 0 8) true Q
  have dfl := dg_fl (N := T 0 7) hN m code (S 0 8) true Q g.1.2.2.2.2.1
  have dbb := dg_b (N := T 0 7) hN.1 m code (S 0 8) true Q m (fun i h1 h2 => absurd h2 (by omega))
  have drow : ∀ b, b ≠ 213 → (dgL (T 0 7) m code (S 0 8) true Q).2 b = Q b := fun b hb => dg_row hb _ _ _ _ _
  have g0 : GI T S (999 + 0) := by rw [Int.add_zero]; exact g
  have key : (woT Q code m).1 = VL T (dg (T 0 7) m code) m 0 S 0 ∧ ∀ j, j < m → (woT Q code m).2 213 j = dg (T 0 7) m code j := by
    unfold woT
    rw [e1, e8, Int.toNat_natCast]
    generalize dgL (T 0 7) m code (S 0 8) true Q = D at *
    have cdat : ∀ j, j < m → cnM D.2 213 j = dg (T 0 7) m code j := fun j hj => by rw [cn_row (by decide)]; exact dat j hj
    have e9 : cnM D.2 209 = Q 209 := (cn_row (by decide)).trans (drow 209 (by decide))
    have hsa : SA T S (sk (cnM D.2 211)) := hs.trans (by have z := (cn_SA (M := D.2) hT).symm; rw [drow 210 (by decide)] at z; exact z)
    by_cases c : D.1 = true
    · rw [if_pos c]
      obtain ⟨-, f1, f2⟩ := dfl.mp c
      have c13 : cnM D.2 213 = D.2 213 := cn_row (by decide)
      have z := wo_VL hT m 0 0 (cnM D.2) S (by rw [e9]; exact ht) hsa g0 (by decide) (by rw [c13]; exact fun j _ h => dbb j (by omega)) (by rw [c13]; exact fun j _ h => f1 j (by omega)) (by rw [c13]; exact fun i j _ h1 h2 => f2 i j h1 (by omega))
      refine ⟨?_, fun j hj => ?_⟩
      · rw [← VL_cg (o := cnM D.2 213) m 0 S 0 (fun j _ h => cdat j (by omega))]
        exact z
      · rw [woL_row (by decide)]
        exact cdat j hj
    · rw [if_neg c]
      refine ⟨?_, fun j hj => cdat j hj⟩
      show -1 = _
      by_cases e : VL T (dg (T 0 7) m code) m 0 S 0 = -1
      · exact e.symm
      · have z := VL_good hT m 0 S 0 g0 (by decide) (fun j _ h => by rw [← dat j (by omega)]; exact dbb j (by omega)) e
        exact absurd (dfl.mpr ⟨rfl, fun j hj => by rw [dat j hj]; exact z.1 j (by omega) (by omega), fun i j h1 h2 => by rw [dat i (by omega), dat j h2]; exact z.2 i j (by omega) h1 (by omega)⟩) c
  exact ⟨key.1, key.2, hok.2.1⟩
end RLH
