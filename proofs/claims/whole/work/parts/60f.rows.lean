section RLF
/-! who must be deaf -/
theorem bit_and {x w : Int} (hx : 0 ≤ x ∧ x ≤ 31) (hw : 0 ≤ w ∧ w ≤ 4) : (xand x (1 * 2 ^ w.toNat) = 0 ↔ ¬ bitI x w = 1) ∧ (xbnd x (1 * 2 ^ w.toNat) = x ↔ ¬ bitI x w = 1) := by
  have key : ∀ x : Nat, x < 32 → ∀ w : Nat, w < 5 → decide (xand (x : Int) (1 * 2 ^ w) = 0) = decide (¬ bitI (x : Int) (w : Int) = 1) ∧ decide (xbnd (x : Int) (1 * 2 ^ w) = (x : Int)) = decide (¬ bitI (x : Int) (w : Int) = 1) := by decide +kernel
  have := key x.toNat (by omega) w.toNat (by omega)
  rw [show ((x.toNat : Nat) : Int) = x by omega, show ((w.toNat : Nat) : Int) = w by omega] at this
  exact ⟨decide_eq_decide.mp this.1, decide_eq_decide.mp this.2⟩
theorem bit_and2 {x p w : Int} (hx : 0 ≤ x ∧ x ≤ 31) (hp : 0 ≤ p ∧ p ≤ 4) (hw : 0 ≤ w ∧ w ≤ 4) : xand x (xor2 (1 * 2 ^ p.toNat) (1 * 2 ^ w.toNat)) = 0 ↔ (¬ bitI x p = 1 ∧ ¬ bitI x w = 1) := by
  have key : ∀ x : Nat, x < 32 → ∀ p : Nat, p < 5 → ∀ w : Nat, w < 5 → decide (xand (x : Int) (xor2 (1 * 2 ^ p) (1 * 2 ^ w)) = 0) = decide (¬ bitI (x : Int) (p : Int) = 1 ∧ ¬ bitI (x : Int) (w : Int) = 1) := by decide +kernel
  have := key x.toNat (by omega) p.toNat (by omega) w.toNat (by omega)
  rw [show ((x.toNat : Nat) : Int) = x by omega, show ((w.toNat : Nat) : Int) = w by omega, show ((p.toNat : Nat) : Int) = p by omega] at this
  exact decide_eq_decide.mp this
theorem pas_pasY {T S : xMem} {s d w : Int} (hT : TI T) (hs : 0 ≤ s ∧ s < T 0 7) (hd : 0 ≤ d ∧ d ≤ 31) (hb : ¬ bitI d (T 3 s.toNat) = 1) : passT T S s d w = pasY T S s d w := by
  have hn := hT.1
  have hq := (hT.2.2.2.2 s hs).2.1
  unfold passT pasY
  rw [(bit_and hd (by omega)).2.mpr hb]
theorem pasY_cg {T U S R : xMem} (ht : TA T U) (hs : SA T S R) {s d w : Int} (h : 0 ≤ s ∧ s < T 0 7) : pasY U R s d w = pasY T S s d w := by
  obtain ⟨c1, c2, c3, c4⟩ := ht.2.2.2.2 s h
  unfold pasY
  rw [← ht.2.1, ← c1, ← c2, hs.2.2 s h, hs.1.2.2.2.2]
/-- the best of those that fit: the fewest, of these the least -/
def isB (Q : Int → Prop) (N b : Int) : Prop := (b = -1000000 ∧ ∀ x, 0 ≤ x → x < N → ¬ Q x) ∨ ((0 ≤ b ∧ b < N) ∧ Q b ∧ ∀ x, 0 ≤ x → x < N → Q x → pcT b < pcT x ∨ (pcT b = pcT x ∧ b ≤ x))
theorem isB_u {Q : Int → Prop} {N b c : Int} (h : isB Q N b) (k : isB Q N c) : b = c := by
  rcases h with ⟨h1, h2⟩ | ⟨h1, h2, h3⟩
  · rcases k with ⟨k1, k2⟩ | ⟨k1, k2, k3⟩
    · omega
    · exact absurd k2 (h2 c k1.1 k1.2)
  · rcases k with ⟨k1, k2⟩ | ⟨k1, k2, k3⟩
    · exact absurd h2 (k2 b h1.1 h1.2)
    · have a1 := h3 c k1.1 k1.2 k2
      have a2 := k3 b h1.1 h1.2 h2
      omega
/-- upwards, a fewer one is taken -/
theorem fd_is {T S : xMem} {s p n ap : Int} {Q : Int → Prop} {N : Int} (hQ : ∀ x, 0 ≤ x → x < N → ((xand x ap = 0 ∧ bitI (passT T S s x n) p = 0) ↔ Q x)) : ∀ (k : Nat) (i b : Int), 0 ≤ i → i + k = N → isB (fun x => x < i ∧ Q x) N b → isB Q N (foldI (fdF T S s p n ap) k i b)
  | 0, i, b, h0, h1, h => by
    have hi : i = N := by omega
    show isB Q N b
    rcases h with ⟨a1, a2⟩ | ⟨a1, a2, a3⟩
    · exact Or.inl ⟨a1, fun x q1 q2 q3 => a2 x q1 q2 ⟨by omega, q3⟩⟩
    · exact Or.inr ⟨a1, a2.2, fun x q1 q2 q3 => a3 x q1 q2 ⟨by omega, q3⟩⟩
  | k + 1, i, b, h0, h1, h => by
    show isB Q N (foldI (fdF T S s p n ap) k (i + 1) (fdF T S s p n ap i b))
    refine fd_is hQ k (i + 1) _ (by omega) (by omega) ?_
    have hq := hQ i h0 (by omega)
    have hpc := pcT_b i
    unfold fdF
    by_cases c : xand i ap = 0 ∧ (b = -1000000 ∨ pcT i < pcT b) ∧ bitI (passT T S s i n) p = 0
    · rw [if_pos c]
      have qi : Q i := hq.mp ⟨c.1, c.2.2⟩
      refine Or.inr ⟨by omega, ⟨by omega, qi⟩, fun x q1 q2 q3 => ?_⟩
      rcases (show x = i ∨ x < i by omega) with e | e
      · subst e; omega
      · rcases h with ⟨a1, a2⟩ | ⟨a1, a2, a3⟩
        · exact absurd ⟨e, q3.2⟩ (a2 x q1 q2)
        · have := a3 x q1 q2 ⟨e, q3.2⟩
          have := c.2.1
          omega
    · rw [if_neg c]
      rcases h with ⟨a1, a2⟩ | ⟨a1, a2, a3⟩
      · refine Or.inl ⟨a1, fun x q1 q2 q3 => ?_⟩
        rcases (show x = i ∨ x < i by omega) with e | e
        · subst e
          have z := hq.mpr q3.2
          exact c ⟨z.1, Or.inl a1, z.2⟩
        · exact a2 x q1 q2 ⟨e, q3.2⟩
      · refine Or.inr ⟨a1, ⟨by omega, a2.2⟩, fun x q1 q2 q3 => ?_⟩
        rcases (show x = i ∨ x < i by omega) with e | e
        · subst e
          have z := hq.mpr q3.2
          have : ¬ pcT x < pcT b := fun y => c ⟨z.1, Or.inr y, z.2⟩
          have := a2.1
          omega
        · exact a3 x q1 q2 ⟨e, q3.2⟩
/-- downwards, one that is no more is taken -/
theorem dy_is {T S : xMem} {s p n : Int} {Q : Int → Prop} {N : Int} (hN : N = 2 ^ (T 0 6).toNat) (hQ : ∀ x, 0 ≤ x → x < N → ((¬ bitI x p = 1 ∧ ¬ bitI x (T 3 s.toNat) = 1 ∧ ¬ bitI (pasY T S s x n) p = 1) ↔ Q x)) : ∀ (k : Nat) (i b : Int), 0 ≤ i → i + k = N → isB (fun x => N - 1 - i < x ∧ Q x) N b → isB Q N (foldI (dyF T S s p n) k i b)
  | 0, i, b, h0, h1, h => by
    have hi : i = N := by omega
    show isB Q N b
    rcases h with ⟨a1, a2⟩ | ⟨a1, a2, a3⟩
    · exact Or.inl ⟨a1, fun x q1 q2 q3 => a2 x q1 q2 ⟨by omega, q3⟩⟩
    · exact Or.inr ⟨a1, a2.2, fun x q1 q2 q3 => a3 x q1 q2 ⟨by omega, q3⟩⟩
  | k + 1, i, b, h0, h1, h => by
    show isB Q N (foldI (dyF T S s p n) k (i + 1) (dyF T S s p n i b))
    refine dy_is hN hQ k (i + 1) _ (by omega) (by omega) ?_
    unfold dyF
    rw [← hN]
    generalize hj : N - 1 - i = j at *
    have hj2 : N - 1 - (i + 1) = j - 1 := by omega
    rw [hj2]
    have hq := hQ j (by omega) (by omega)
    have hpc := pcT_b j
    by_cases c : (¬ bitI j p = 1 ∧ ¬ bitI j (T 3 s.toNat) = 1 ∧ ¬ bitI (pasY T S s j n) p = 1) ∧ (b = -1000000 ∨ pcT j ≤ pcT b)
    · rw [if_pos c]
      have qi : Q j := hq.mp c.1
      refine Or.inr ⟨by omega, ⟨by omega, qi⟩, fun x q1 q2 q3 => ?_⟩
      rcases (show x = j ∨ j < x by omega) with e | e
      · subst e; omega
      · rcases h with ⟨a1, a2⟩ | ⟨a1, a2, a3⟩
        · exact absurd ⟨e, q3.2⟩ (a2 x q1 q2)
        · have := a3 x q1 q2 ⟨e, q3.2⟩
          have := c.2
          omega
    · rw [if_neg c]
      rcases h with ⟨a1, a2⟩ | ⟨a1, a2, a3⟩
      · refine Or.inl ⟨a1, fun x q1 q2 q3 => ?_⟩
        rcases (show x = j ∨ j < x by omega) with e | e
        · subst e
          exact c ⟨hq.mpr q3.2, Or.inl a1⟩
        · exact a2 x q1 q2 ⟨e, q3.2⟩
      · refine Or.inr ⟨a1, ⟨by omega, a2.2⟩, fun x q1 q2 q3 => ?_⟩
        rcases (show x = j ∨ j < x by omega) with e | e
        · subst e
          have : ¬ pcT x ≤ pcT b := fun y => c ⟨hq.mpr q3.2, Or.inr y⟩
          omega
        · exact a3 x q1 q2 ⟨e, q3.2⟩
theorem deaf_eq {T S : xMem} (hT : TI T) {s p n : Int} (hs : 0 ≤ s ∧ s < T 0 7) (hp : 0 ≤ p ∧ p < T 0 6) : fdT T S s p n = dyT T S s p n := by
  have hn := hT.1
  have hq := (hT.2.2.2.2 s hs).2.1
  have h5 := p2_5 (n := T 0 6) (by omega)
  refine isB_u (Q := fun x => ¬ bitI x p = 1 ∧ ¬ bitI x (T 3 s.toNat) = 1 ∧ ¬ bitI (pasY T S s x n) p = 1) (N := 2 ^ (T 0 6).toNat) ?_ ?_
  · refine fd_is (N := 2 ^ (T 0 6).toNat) (fun x h0 h1 => ?_) _ 0 _ (by decide) (by omega) (Or.inl ⟨rfl, fun x q1 q2 q3 => by omega⟩)
    rw [bit_and2 (by omega) (by omega) (by omega)]
    have hb := bit01 (passT T S s x n) p
    constructor
    · rintro ⟨⟨z1, z2⟩, z3⟩
      rw [pas_pasY hT hs (by omega) z2] at z3
      exact ⟨z1, z2, by omega⟩
    · rintro ⟨z1, z2, z3⟩
      rw [← pas_pasY hT hs (by omega) z2] at z3
      exact ⟨⟨z1, z2⟩, by omega⟩
  · exact dy_is (N := 2 ^ (T 0 6).toNat) rfl (fun x h0 h1 => Iff.rfl) _ 0 _ (by decide) (by omega) (Or.inl ⟨rfl, fun x q1 q2 q3 => by omega⟩)
theorem dyT_cg {T U S R : xMem} (hT : TI T) (ht : TA T U) (hs : SA T S R) {s p n : Int} (h : 0 ≤ s ∧ s < T 0 7) : dyT U R s p n = dyT T S s p n := by
  have h5 := p2_5 (n := T 0 6) (by have := hT.1; omega)
  unfold dyT
  rw [← ht.2.1]
  refine foldI_cg (n := 2 ^ (T 0 6).toNat) _ _ _ (by omega) (by omega) (fun x b h0 h1 => ?_)
  unfold dyF
  rw [← ht.2.1, pasY_cg ht hs h, ← (ht.2.2.2.2 s h).2.1]
theorem an_deaf {A B : xMem} (h : Rl A B) (s p n w : Int) : xDeaf A s p n w = yDeaf B s p n w := by
  unfold xDeaf yDeaf
  rcases h.cases with ⟨a1, a2, a3, a4, a5⟩ | ⟨d1, hT, hG, ht, hs, hNN, hn, hb1, hb2⟩
  · rw [if_pos (by omega), if_pos (by omega)]
  · rw [← hn.1, ← hn.2.1]
    by_cases g : ¬ (0 ≤ s ∧ s < A 3 7) ∨ ¬ (0 ≤ p ∧ p < A 3 6) ∨ ¬ (0 ≤ n ∧ n ≤ 30) ∨ ¬ (0 ≤ w ∧ w ≤ 1)
    · rw [if_pos g, if_pos g]
    · rw [if_neg g, if_neg g]
      have gs : 0 ≤ s ∧ s < tw A 0 7 := by show 0 ≤ s ∧ s < A 3 7; omega
      have gp : 0 ≤ p ∧ p < tw A 0 6 := by show 0 ≤ p ∧ p < A 3 6; omega
      rw [dyT_cg hT ht hs gs, deaf_eq hT gs gp]
      generalize dyT (tw A) (sv A 9) s p n = x
      by_cases c : x = -1000000
      · rw [if_pos (Or.inl c), if_pos c]; exact c
      · rw [if_neg c]
        by_cases c2 : w = 1
        · rw [if_pos (Or.inr c2), if_neg (show ¬ w = 0 by omega)]
        · rw [if_neg (show ¬ (x = -1000000 ∨ w = 1) by omega), if_pos (show w = 0 by omega)]
/-! who knows, by how many -/
theorem fit_all : ∀ n : Nat, n < 6 → ∀ k : Nat, k < 6 → 1 ≤ k → ∀ p : Nat, p < n → onwT (n : Int) (k : Int) (reachT (n : Int) (k : Int) (p : Int) 0) 0 1 = 2 ^ n - 1 ∧ onwT (n : Int) (k : Int) (2 ^ n - 1) 0 1 = 2 ^ n - 1 := by decide +kernel
def fsL (n : Int) (g : Nat → Int) : Nat → Int → Bool
  | 0, _ => true
  | k + 1, i => if pcT (2 ^ n.toNat - 1) = g i.toNat then fsL n g k (i + 1) else false
theorem fc_all {n kd : Int} {g : Nat → Int} (h : onwT n kd (2 ^ n.toNat - 1) 0 1 = 2 ^ n.toNat - 1) : ∀ (k : Nat) (i a : Int), onwT n kd a 0 1 = 2 ^ n.toNat - 1 → fcL n kd g k i a = fsL n g k i
  | 0, _, _, _ => rfl
  | k + 1, i, a, e => by
    unfold fcL fsL
    rw [e, fc_all h k (i + 1) _ h]
theorem fit_eq {n kd p : Int} {g : Nat → Int} {k : Nat} {i : Int} (hn : 1 ≤ n ∧ n ≤ 5) (hk : 1 ≤ kd ∧ kd ≤ 5) (hp : 0 ≤ p ∧ p < n) : fcL n kd g k i (reachT n kd p 0) = fsL n g k i := by
  have := fit_all n.toNat (by omega) kd.toNat (by omega) (by omega) p.toNat (by omega)
  rw [show ((n.toNat : Nat) : Int) = n by omega, show ((kd.toNat : Nat) : Int) = kd by omega, show ((p.toNat : Nat) : Int) = p by omega] at this
  exact fc_all this.2 k i _ this.1
theorem fs_cg {n : Int} {f g : Nat → Int} : ∀ (k : Nat) (i : Int), (∀ x : Int, i ≤ x → x < i + k → f x.toNat = g x.toNat) → fsL n f k i = fsL n g k i
  | 0, _, _ => rfl
  | k + 1, i, h => by
    unfold fsL
    rw [h i (by omega) (by omega), fs_cg k (i + 1) (fun x h1 h2 => h x (by omega) (by omega))]
theorem foldI_cg2 {α : Type} {f g : Int → α → α} : ∀ (k : Nat) (i : Int) (a : α), (∀ x b, i ≤ x → x < i + k → f x b = g x b) → foldI f k i a = foldI g k i a
  | 0, _, _, _ => rfl
  | k + 1, i, a, h => by
    show foldI f k (i + 1) (f i a) = foldI g k (i + 1) (g i a)
    rw [h i a (by omega) (by omega)]
    exact foldI_cg2 k (i + 1) _ (fun x b h1 h2 => h x b (by omega) (by omega))
def wcF (n w : Int) (kind a : Int) : Int := foldI (fun p a => xor2 a (1 * 2 ^ (if w = 0 then kind else p).toNat)) n.toNat 0 a
theorem who_all : ∀ n : Nat, n < 6 → 1 ≤ n → ∀ w : Nat, w < 2 → foldI (wcF (n : Int) (w : Int)) 5 1 0 = foldI (fun k a => xor2 a (if ((w : Int) = 0 ∧ 0 < k) ∨ (¬ (w : Int) = 0 ∧ (0 ≤ k ∧ k < (n : Int))) then 1 * 2 ^ k.toNat else 0)) 6 0 0 := by decide +kernel
theorem fold_id {α : Type} {f : Int → α → α} (h : ∀ i a, f i a = a) : ∀ (k : Nat) (i : Int) (a : α), foldI f k i a = a
  | 0, _, _ => rfl
  | k + 1, i, a => by
    show foldI f k (i + 1) (f i a) = a
    rw [h, fold_id h k]
theorem fold_id2 {f : Int → Int → Int} {n : Int} {P : Int → Prop} (h : ∀ i a, 0 ≤ i → i < n → P a → f i a = a) : ∀ (k : Nat) (i : Int) (a : Int), 0 ≤ i → i + k ≤ n → P a → foldI f k i a = a
  | 0, _, _, _, _, _ => rfl
  | k + 1, i, a, h0, h1, hp => by
    show foldI f k (i + 1) (f i a) = a
    rw [h i a h0 (by omega) hp, fold_id2 h k (i + 1) a (by omega) (by omega) hp]
/-- rows of both, where they are there -/
theorem row_at {A B : xMem} (h : Rl A B) {r i n : Int} (hr : 0 ≤ r ∧ r ≤ 7) (hp : prt B r i n) (ht : A (163 + 2 * r.toNat) 1 = 1) : ∀ x : Int, i ≤ x → x < i + n → A (163 + 2 * r.toNat + 1) x.toNat = itG B r x.toNat := by
  obtain ⟨k1, k2, k3, k4, k5, k6⟩ := h.1 r.toNat (by omega)
  obtain ⟨e2, e3, e4⟩ := k6 ht
  unfold prt at hp
  intro x h1 h2
  unfold itG
  rw [show (40 * r + ((x.toNat : Nat) : Int)).toNat = 40 * r.toNat + x.toNat by omega]
  exact (e4 x.toNat (by omega)).symm
theorem allW_cg {f g : Nat → Int} {lo hi : Int} : ∀ (k : Nat) (i : Int), (∀ x : Int, i ≤ x → x < i + k → f x.toNat = g x.toNat) → allW f lo hi k i = allW g lo hi k i
  | 0, _, _ => rfl
  | k + 1, i, h => by
    unfold allW
    rw [h i (by omega) (by omega), allW_cg k (i + 1) (fun x h1 h2 => h x (by omega) (by omega))]
theorem st_who {A B : xMem} (h : Rl A B) (s w r i n : Int) : (xWho A s w r i n).1 = (yWho B s w r i n).1 ∧ Rl (xWho A s w r i n).2 (yWho B s w r i n).2 := by
  unfold xWho yWho
  rcases h.cases with ⟨a1, a2, a3, a4, a5⟩ | ⟨d1, hT, hG, ht, hs, hNN, hn, hb1, hb2⟩
  · rw [if_pos (by omega), if_pos (by omega)]; exact ⟨rfl, h⟩
  · rw [← hn.2.1]
    by_cases g : ¬ (0 ≤ s ∧ s < A 3 7) ∨ ¬ (0 ≤ w ∧ w ≤ 1) ∨ ¬ (0 ≤ r ∧ r ≤ 7) ∨ ¬ (1 ≤ n ∧ n ≤ 12)
    · rw [if_pos g, if_pos g]; exact ⟨rfl, h⟩
    · rw [if_neg g, if_neg g]
      rcases sf_eq h (r := r) (i := i) (n := n) (by omega) with ⟨q1, q2⟩ | ⟨q1, q2, q3⟩ | ⟨q1, q2, q3, q4⟩
      · rw [q2, if_pos (by decide), if_pos q1]; exact ⟨rfl, h.st 1⟩
      · rw [q3, if_pos (by decide), if_neg q1, if_pos q2]; exact ⟨rfl, h.st 2⟩
      · rw [q3, if_neg (by decide), if_neg q1, if_neg (not_not_intro q2)]
        refine ⟨?_, h.st 0⟩
        show whoT A w r i n = foldI (wyF B s w r i n) 6 0 0
        have gs : 0 ≤ s ∧ s < tw A 0 7 := by show 0 ≤ s ∧ s < A 3 7; omega
        have hq := hT.2.2.2.2 s gs
        obtain ⟨c1, c2, c3, c4⟩ := ht.2.2.2.2 s gs
        have hn6 : 1 ≤ B 209 0 ∧ B 209 0 ≤ 5 := by omega
        have hra := row_at h (r := r) (i := i) (n := n) (by omega) q2 q4
        have ex : ∀ kd p, 1 ≤ kd ∧ kd ≤ 5 → 0 ≤ p ∧ p < A 3 6 → fitT A kd p (A (163 + 2 * r.toNat + 1)) i n = fsL (B 209 0) (itG B r) n.toNat i := fun kd p z1 z2 => by
          unfold fitT
          rw [fit_eq (by omega) z1 z2, hn.1]
          exact fs_cg _ _ (fun x h1 h2 => hra x h1 (by omega))
        have ey : ∀ kd p, 1 ≤ kd ∧ kd ≤ 5 → 0 ≤ p ∧ p < B 209 0 → fitY B kd p r i n = fsL (B 209 0) (itG B r) n.toNat i := fun kd p z1 z2 => by
          unfold fitY
          exact fit_eq hn6 z1 z2
        have hsp : 0 ≤ tg (B 209) 3 s.toNat ∧ tg (B 209) 3 s.toNat < B 209 0 := by rw [← c2, ← hn.1]; exact hq.2.1
        have hsk : 1 ≤ tg (B 209) 2 s.toNat ∧ tg (B 209) 2 s.toNat ≤ 5 := by rw [← c1]; exact hq.1
        unfold whoT
        by_cases c : fsL (B 209 0) (itG B r) n.toNat i = true
        · have e1 : foldI (fun kind a => foldI (whoP A w r i n kind) (A 3 6).toNat 0 a) 5 1 0 = foldI (wcF (B 209 0) w) 5 1 0 := by
            refine foldI_cg2 5 1 0 (fun kd a z1 z2 => ?_)
            unfold wcF
            rw [hn.1]
            refine foldI_cg2 _ 0 a (fun p b z3 z4 => ?_)
            unfold whoP
            rw [if_pos (by rw [ex kd p (by omega) (by omega)]; exact c)]
          have e2 : foldI (wyF B s w r i n) 6 0 0 = foldI (fun k a => xor2 a (if (w = 0 ∧ 0 < k) ∨ (¬ w = 0 ∧ (0 ≤ k ∧ k < B 209 0)) then 1 * 2 ^ k.toNat else 0)) 6 0 0 := by
            refine foldI_cg2 6 0 0 (fun k a z1 z2 => ?_)
            unfold wyF
            by_cases z : (w = 0 ∧ 0 < k) ∨ (¬ w = 0 ∧ (0 ≤ k ∧ k < B 209 0))
            · rw [if_pos z, if_pos (by
                rcases z with z | z
                · exact Or.inl ⟨z.1, z.2, by rw [ey k _ (by omega) hsp]; exact c⟩
                · exact Or.inr ⟨z.1, z.2, by rw [ey _ k hsk z.2]; exact c⟩)]
            · rw [if_neg z, if_neg (fun y => z (by
                rcases y with y | y
                · exact Or.inl ⟨y.1, y.2.1⟩
                · exact Or.inr ⟨y.1, y.2.1⟩))]
          rw [e1, e2]
          have z := who_all (B 209 0).toNat (by omega) (by omega) w.toNat (by omega)
          rw [show (((B 209 0).toNat : Nat) : Int) = B 209 0 by omega, show ((w.toNat : Nat) : Int) = w by omega] at z
          exact z
        · have e1 : foldI (fun kind a => foldI (whoP A w r i n kind) (A 3 6).toNat 0 a) 5 1 0 = foldI (fun _ a => a) 5 1 0 := by
            refine foldI_cg2 5 1 0 (fun kd a z1 z2 => ?_)
            have z : foldI (whoP A w r i n kd) (A 3 6).toNat 0 a = foldI (fun _ a => a) (A 3 6).toNat 0 a := by
              refine foldI_cg2 _ 0 a (fun p b z3 z4 => ?_)
              unfold whoP
              rw [if_neg (by rw [ex kd p (by omega) (by omega)]; exact c)]
            rw [z, fold_id (fun _ _ => rfl)]
          rw [e1, fold_id (fun _ _ => rfl), fold_id2 (n := 6) (P := fun a => a = 0) (fun k a z1 z2 z3 => ?_) 6 0 0 (by decide) (by decide) rfl]
          unfold wyF
          rw [if_neg (fun y => c (by
            rcases y with y | y
            · rw [← ey k _ (by omega) hsp]; exact y.2.2
            · rw [← ey _ k hsk y.2.1]; exact y.2.2)), z3]
          rfl
theorem st_priced {A B : xMem} (h : Rl A B) (r i q j n : Int) : (xPriced A r i q j n).1 = (yPriced B r i q j n).1 ∧ Rl (xPriced A r i q j n).2 (yPriced B r i q j n).2 := by
  unfold xPriced yPriced
  by_cases g : ¬ (0 ≤ r ∧ r ≤ 7) ∨ ¬ (0 ≤ q ∧ q ≤ 7) ∨ ¬ (1 ≤ n ∧ n ≤ 12)
  · rw [if_pos g, if_pos g]; exact ⟨rfl, h⟩
  · rw [if_neg g, if_neg g]
    rcases sf_eq h (r := r) (i := i) (n := n) (by omega) with ⟨q1, q2⟩ | ⟨q1, q2, q3⟩ | ⟨q1, q2, q3, q4⟩
    · rw [q2, if_pos (by decide), if_pos q1]; exact ⟨rfl, h.st 1⟩
    · rw [q3, if_pos (by decide), if_neg q1, if_pos q2]; exact ⟨rfl, h.st 2⟩
    · rw [q3, if_neg (by decide), if_neg q1, if_neg (not_not_intro q2)]
      rcases sf_eq h (r := q) (i := j) (n := n) (by omega) with ⟨p1, p2⟩ | ⟨p1, p2, p3⟩ | ⟨p1, p2, p3, p4⟩
      · rw [p2, if_pos (by decide), if_pos p1]; exact ⟨rfl, h.st 1⟩
      · rw [p3, if_pos (by decide), if_neg p1, if_pos p2]; exact ⟨rfl, h.st 2⟩
      · rw [p3, if_neg (by decide), if_neg p1, if_neg (not_not_intro p2)]
        have hra := row_at h (r := r) (i := i) (n := n) (by omega) q2 q4
        have hrb := row_at h (r := q) (i := j) (n := n) (by omega) p2 p4
        rw [allW_cg (f := A (163 + 2 * r.toNat + 1)) (g := itG B r) _ _ (fun x h1 h2 => hra x h1 (by omega)), allW_cg (f := A (163 + 2 * q.toNat + 1)) (g := itG B q) _ _ (fun x h1 h2 => hrb x h1 (by omega))]
        by_cases g2 : allW (itG B r) 0 999 n.toNat i = true ∧ allW (itG B q) 1 9 n.toNat j = true
        · rw [if_neg (not_not_intro g2), if_neg (not_not_intro g2)]
          refine ⟨?_, h.st 0⟩
          show foldI _ _ _ _ = foldI _ _ _ _
          refine foldI_cg2 _ _ _ (fun x b h1 h2 => ?_)
          unfold prcF
          rw [hra (i + x) (by omega) (by omega), hrb (j + x) (by omega) (by omega)]
        · rw [if_pos g2, if_pos g2]; exact ⟨rfl, h.st 3⟩
/-! how likely one knows -/
theorem by_all : ∀ n : Nat, n < 6 → ∀ w : Nat, w < n → ∀ s : Nat, s < 2 ^ n → bitI (s : Int) (w : Int) = 0 → ∀ p : Nat, p < 11 → foldI (byF (w : Int) (s : Int) (p : Int)) n 0 1 = (p : Int) ^ (pcT (s : Int)).toNat * (10 - (p : Int)) ^ ((n : Int) - 1 - pcT (s : Int)).toNat := by decide +kernel
theorem hc_hy {T S : xMem} (hT : TI T) {s p n pr : Int} (hs : 0 ≤ s ∧ s < T 0 7) (hpr : 0 ≤ pr ∧ pr ≤ 10) : hcT T S s p n pr = hyT T S s p n pr := by
  have hn := hT.1
  have hq := (hT.2.2.2.2 s hs).2.1
  have h5 := p2_5 (n := T 0 6) (by omega)
  have e2 := p2n (n := T 0 6)
  unfold hcT hyT
  refine foldI_cg2 _ _ _ (fun x a h0 h1 => ?_)
  unfold hcF hyF
  have ha := (bit_and (x := x) (w := T 3 s.toNat) (by omega) (by omega)).1
  by_cases c : bitI x (T 3 s.toNat) = 1
  · rw [if_neg (fun z => ha.mp z.1 c), if_neg (fun z => z.1 c)]
  · rw [pas_pasY hT hs (by omega) c]
    by_cases c2 : bitI (pasY T S s x n) p = 1
    · rw [if_pos ⟨ha.mpr c, c2⟩, if_pos ⟨c, c2⟩]
      have z := by_all (T 0 6).toNat (by omega) (T 3 s.toNat).toNat (by omega) x.toNat (by omega) (by
        rw [show ((x.toNat : Nat) : Int) = x by omega, show (((T 3 s.toNat).toNat : Nat) : Int) = T 3 s.toNat by omega]
        have := bit01 x (T 3 s.toNat)
        omega) pr.toNat (by omega)
      rw [show ((x.toNat : Nat) : Int) = x by omega, show (((T 3 s.toNat).toNat : Nat) : Int) = T 3 s.toNat by omega, show (((T 0 6).toNat : Nat) : Int) = T 0 6 by omega, show ((pr.toNat : Nat) : Int) = pr by omega] at z
      rw [z]
    · rw [if_neg (fun z => c2 z.2), if_neg (fun z => c2 z.2)]
theorem hy_cg {T U S R : xMem} (hT : TI T) (ht : TA T U) (hs : SA T S R) {s p n pr : Int} (h : 0 ≤ s ∧ s < T 0 7) : hyT U R s p n pr = hyT T S s p n pr := by
  unfold hyT
  rw [← ht.2.1]
  refine foldI_cg2 _ _ _ (fun x b h0 h1 => ?_)
  unfold hyF
  rw [← ht.2.1, pasY_cg ht hs h, ← (ht.2.2.2.2 s h).2.1]
theorem an_heard {A B : xMem} (h : Rl A B) (s p n pr w : Int) : xHeard A s p n pr w = yHeard B s p n pr w := by
  unfold xHeard yHeard
  rcases h.cases with ⟨a1, a2, a3, a4, a5⟩ | ⟨d1, hT, hG, ht, hs, hNN, hn, hb1, hb2⟩
  · rw [if_pos (by omega), if_pos (by omega)]
  · rw [← hn.1, ← hn.2.1]
    by_cases g : ¬ (0 ≤ s ∧ s < A 3 7) ∨ ¬ (0 ≤ p ∧ p < A 3 6) ∨ ¬ (0 ≤ n ∧ n ≤ 30) ∨ ¬ (0 ≤ pr ∧ pr ≤ 10) ∨ ¬ (0 ≤ w ∧ w ≤ 1)
    · rw [if_pos g, if_pos g]
    · rw [if_neg g, if_neg g]
      have gs : 0 ≤ s ∧ s < tw A 0 7 := by show 0 ≤ s ∧ s < A 3 7; omega
      have h5 := p2_5 (n := tw A 0 6) (by have := hT.1; omega)
      rw [hy_cg hT ht hs gs, hc_hy hT gs (by omega)]
      have hb := hy_b (S := sv A 9) hT (s := s) (p := p) (n := n) (pr := pr) (by omega) (2 ^ (tw A 0 6).toNat : Int).toNat 0 0 (by decide) (by omega) (by decide)
      have hb0 : 0 ≤ hyT (tw A) (sv A 9) s p n pr := hb.1
      have h1 : 1 ≤ cdL 100 (hyT (tw A) (sv A 9) s p n pr) (10 ^ (A 3 6 - 1).toNat) := cd_one2 (n := 99) hb0 (ten1 (A 3 6 - 1).toNat)
      rw [if_neg (by omega)]
end RLF
