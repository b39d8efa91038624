theorem pasY_b {T S : xMem} (hT : TI T) (hG : GI T S 999) {s d w : Int} (hs : 0 ≤ s ∧ s < T 0 7) : 0 ≤ pasY T S s d w ∧ pasY T S s d w < 2 ^ (T 0 6).toNat := by
  have hn := hT.1
  have hq := hT.2.2.2.2 s hs
  refine onw_n (by omega) ?_
  split
  · exact ⟨(hG.1.2.2.2.2.2.2 s hs).1, (hG.2.1 s hs).1⟩
  · exact reach_n (by omega) hq.2.1
theorem dy_b {T S : xMem} {s p n : Int} (hT : TI T) : ∀ (k : Nat) (i b : Int), 0 ≤ i → i + k ≤ 2 ^ (T 0 6).toNat → (b = -1000000 ∨ (0 ≤ b ∧ b ≤ 31)) → (foldI (dyF T S s p n) k i b = -1000000 ∨ (0 ≤ foldI (dyF T S s p n) k i b ∧ foldI (dyF T S s p n) k i b ≤ 31))
  | 0, i, b, _, _, h => h
  | k + 1, i, b, h0, h1, h => dy_b hT k (i + 1) _ (by omega) (by omega) (by
    have h5 := p2_5 (n := T 0 6) (by have := hT.1; omega)
    unfold dyF
    split <;> omega)
theorem by_b {who set pr : Int} (hpr : 0 ≤ pr ∧ pr ≤ 10) : ∀ (k : Nat) (i a B : Int), (0 ≤ a ∧ a ≤ B) → 0 ≤ foldI (byF who set pr) k i a ∧ foldI (byF who set pr) k i a ≤ B * 10 ^ k
  | 0, i, a, B, h => by
    show 0 ≤ a ∧ a ≤ B * 10 ^ 0
    rw [Int.pow_zero, Int.mul_one]
    exact h
  | k + 1, i, a, B, h => by
    have h1 : 0 ≤ byF who set pr i a ∧ byF who set pr i a ≤ B * 10 := by
      unfold byF
      refine mul_b h ?_
      split
      · decide
      · split <;> omega
    have := by_b (who := who) (set := set) hpr k (i + 1) (byF who set pr i a) (B * 10) h1
    rw [Int.pow_succ, Int.mul_comm (10 ^ k) 10, ← Int.mul_assoc]
    exact this
theorem hy_b {T S : xMem} (hT : TI T) {s p n pr : Int} (hpr : 0 ≤ pr ∧ pr ≤ 10) : ∀ (k : Nat) (i a : Int), 0 ≤ i → i + k ≤ 32 → (0 ≤ a ∧ a ≤ 1000000 * i) → 0 ≤ foldI (hyF T S s p n pr) k i a ∧ foldI (hyF T S s p n pr) k i a ≤ 32000000
  | 0, i, a, _, h1, h => by
    show 0 ≤ a ∧ a ≤ 32000000
    omega
  | k + 1, i, a, h0, h1, h => hy_b hT hpr k (i + 1) _ (by omega) (by omega) (by
    have hn := hT.1
    have h2 := by_b (who := T 3 s.toNat) (set := i) hpr (T 0 6).toNat 0 1 1 (by decide)
    have h3 := ten_b (k := (T 0 6).toNat) (by omega)
    unfold hyF
    split <;> omega)
theorem cd_one : ∀ (n : Nat) (x y : Int), 1 ≤ x → 0 ≤ y → 1 ≤ cdL n x y
  | 0, x, _, hx, _ => hx
  | n + 1, x, y, hx, hy => by
    unfold cdL
    split
    · exact hx
    · exact cd_one n y (x % y) (by omega) (Int.emod_nonneg x (by omega))
theorem cd_one2 {n : Nat} {x y : Int} (hx : 0 ≤ x) (hy : 1 ≤ y) : 1 ≤ cdL (n + 1) x y := by
  unfold cdL
  rw [if_neg (by omega)]
  exact cd_one n y (x % y) hy (Int.emod_nonneg x (by omega))
theorem ten1 (k : Nat) : (1 : Int) ≤ 10 ^ k := by
  induction k with
  | zero => decide
  | succ k ih => rw [Int.pow_succ]; omega
