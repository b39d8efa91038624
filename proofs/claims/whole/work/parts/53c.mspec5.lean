theorem cd_pos {x y : Int} {f : Nat} (hy0 : ¬ y = 0) (hx : 0 ≤ x ∧ x ≤ 100000000000000) (hy : 0 ≤ y ∧ y ≤ 1000000) (hf : (f = 99 ∧ 0 < y) ∨ (f ≤ 98 ∧ y < x ∧ x * y < 2 ^ (f + 1))) : 1 ≤ f := by
  rcases hf with h | ⟨h1, h2, h3⟩
  · omega
  · rcases Nat.eq_zero_or_pos f with h | h
    · subst h
      have : 2 * 1 ≤ x * y := Int.mul_le_mul (by omega) (by omega) (by omega) (by omega)
      omega
    · exact h
theorem cd_step {x y : Int} {f : Nat} (hy0 : ¬ y = 0) (hx : 0 ≤ x ∧ x ≤ 100000000000000) (hy : 0 ≤ y ∧ y ≤ 1000000) (hf : (f = 99 ∧ 0 < y) ∨ (f ≤ 98 ∧ y < x ∧ x * y < 2 ^ (f + 1))) : (f - 1 = 99 ∧ 0 < x % y) ∨ (f - 1 ≤ 98 ∧ x % y < y ∧ y * (x % y) < 2 ^ (f - 1 + 1)) := by
  have hp := cd_pos hy0 hx hy hf
  have h1 := Int.emod_nonneg x hy0
  have h2 := Int.emod_lt_of_pos x (show 0 < y by omega)
  right
  rcases hf with ⟨h, h0⟩ | ⟨h3, h4, h5⟩
  · refine ⟨by omega, h2, ?_⟩
    have := mul_b (a := y) (A := 1000000) (b := x % y) (B := 1000000) (by omega) (by omega)
    rw [h]
    have e : (2 : Int) ^ (99 - 1 + 1) = 633825300114114700748351602688 := by decide +kernel
    rw [e]
    omega
  · refine ⟨by omega, h2, ?_⟩
    rw [show f - 1 + 1 = f by omega]
    have hd : x % y = x - y * (x / y) := Int.emod_def x y
    have hq : 1 ≤ x / y := Int.le_ediv_of_mul_le (by omega) (by omega)
    have hm : y * 1 ≤ y * (x / y) := Int.mul_le_mul_of_nonneg_left hq (by omega)
    have h6 : 2 * (x % y) ≤ x := by omega
    have h7 : y * (2 * (x % y)) ≤ y * x := Int.mul_le_mul_of_nonneg_left h6 (by omega)
    rw [Int.pow_succ] at h5
    rw [Int.mul_comm x y] at h5
    have h8 : y * (2 * (x % y)) = 2 * (y * (x % y)) := by rw [← Int.mul_assoc, Int.mul_comm y 2, Int.mul_assoc]
    omega
theorem allW_s {g : Nat → Int} {lo hi i n k : Int} (h : k < n) (hg : lo ≤ g (i + k).toNat ∧ g (i + k).toNat ≤ hi) : allW g lo hi (n - k).toNat (i + k) = allW g lo hi (n - (k + 1)).toNat (i + (k + 1)) := by
  rw [show (n - k).toNat = (n - (k + 1)).toNat + 1 by omega, show i + (k + 1) = i + k + 1 by omega]
  show (decide (lo ≤ g (i + k).toNat ∧ g (i + k).toNat ≤ hi) && allW g lo hi (n - (k + 1)).toNat (i + k + 1)) = _
  rw [decide_eq_true hg, Bool.true_and]
theorem allW_0 {g : Nat → Int} {lo hi i n k : Int} (h : n ≤ k) : allW g lo hi (n - k).toNat (i + k) = true := by
  rw [show (n - k).toNat = 0 by omega]
  rfl
theorem allW_f {g : Nat → Int} {lo hi i n k : Int} (h : k < n) (hg : ¬ (lo ≤ g (i + k).toNat ∧ g (i + k).toNat ≤ hi)) : allW g lo hi (n - k).toNat (i + k) = false := by
  rw [show (n - k).toNat = (n - (k + 1)).toNat + 1 by omega]
  show (decide (lo ≤ g (i + k).toNat ∧ g (i + k).toNat ≤ hi) && allW g lo hi (n - (k + 1)).toNat (i + k + 1)) = _
  rw [decide_eq_false hg, Bool.false_and]
theorem allW_x {f g : Nat → Int} {l1 h1 l2 h2 i j n k : Int} (hw : allW f l1 h1 n.toNat i = allW f l1 h1 (n - k).toNat (i + k) ∧ allW g l2 h2 n.toNat j = allW g l2 h2 (n - k).toNat (j + k)) (h : k < n) (hg : ¬ (l1 ≤ f (i + k).toNat ∧ f (i + k).toNat ≤ h1) ∨ ¬ (l2 ≤ g (j + k).toNat ∧ g (j + k).toNat ≤ h2)) (z : allW f l1 h1 n.toNat i = true ∧ allW g l2 h2 n.toNat j = true) : False := by
  rcases hg with q | q
  · rw [hw.1, allW_f h q] at z
    exact absurd z.1 (by decide)
  · rw [hw.2, allW_f h q] at z
    exact absurd z.2 (by decide)
