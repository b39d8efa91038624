/-! ===== numbers: Int32 by Int ===== -/
theorem xI_add (a b : Int) : xI a + xI b = xI (a + b) := (Int32.ofInt_add a b).symm
theorem xI_sub (a b : Int) : xI a - xI b = xI (a - b) := (Int32.ofInt_sub a b).symm
theorem xI_mul (a b : Int) : xI a * xI b = xI (a * b) := (Int32.ofInt_mul a b).symm
theorem xI_neg (a : Int) : - xI a = xI (-a) := (Int32.ofInt_neg a).symm
theorem xI_toInt {a : Int} (h : -2147483648 ≤ a ∧ a < 2147483648) : (xI a).toInt = a := Int32.toInt_ofInt_of_le h.1 h.2
theorem xI_of (x : Int32) : xI x.toInt = x := Int32.ofInt_toInt x
theorem xI_rg (x : Int32) : -2147483648 ≤ x.toInt ∧ x.toInt < 2147483648 := ⟨x.le_toInt, x.toInt_lt⟩
theorem xI_lt {a b : Int} (ha : -2147483648 ≤ a ∧ a < 2147483648) (hb : -2147483648 ≤ b ∧ b < 2147483648) : xI a < xI b ↔ a < b := by
  rw [Int32.lt_iff_toInt_lt, xI_toInt ha, xI_toInt hb]
theorem xI_le {a b : Int} (ha : -2147483648 ≤ a ∧ a < 2147483648) (hb : -2147483648 ≤ b ∧ b < 2147483648) : xI a ≤ xI b ↔ a ≤ b := by
  rw [Int32.le_iff_toInt_le, xI_toInt ha, xI_toInt hb]
theorem xI_eq {a b : Int} (ha : -2147483648 ≤ a ∧ a < 2147483648) (hb : -2147483648 ≤ b ∧ b < 2147483648) : xI a = xI b ↔ a = b := by
  rw [← Int32.toInt_inj, xI_toInt ha, xI_toInt hb]
theorem xI_nat (n : Nat) : xI (n : Int) = nI n := Int32.ofInt_eq_ofNat
theorem xI_clamp {a : Int} (h : -2147483648 ≤ a ∧ a < 2147483648) : (xI a).toNatClampNeg = a.toNat := by
  show (xI a).toInt.toNat = a.toNat
  rw [xI_toInt h]
theorem xI_in {a : Int} {n : Nat} (h0 : 0 ≤ a) (h1 : a < n) (h2 : a < 2147483648) : vp_in (xI a) n := by
  rw [vp_in_iff, xI_toInt ⟨by omega, h2⟩]
  exact ⟨h0, h1⟩
theorem xI_div {a b : Int} (ha : 0 ≤ a ∧ a < 2147483648) (hb : 0 < b ∧ b < 2147483648) : xI a / xI b = xI (a / b) := by
  obtain ⟨m, rfl⟩ := Int.eq_ofNat_of_zero_le ha.1
  obtain ⟨k, rfl⟩ := Int.eq_ofNat_of_zero_le (Int.le_of_lt hb.1)
  rw [xI_nat, xI_nat, pk_div (by omega) (by omega) (by omega), ← xI_nat]
  congr 1
theorem xI_rem {a b : Int} (ha : 0 ≤ a ∧ a < 2147483648) (hb : 0 < b ∧ b < 2147483648) : xI a - xI a / xI b * xI b = xI (a % b) := by
  obtain ⟨m, rfl⟩ := Int.eq_ofNat_of_zero_le ha.1
  obtain ⟨k, rfl⟩ := Int.eq_ofNat_of_zero_le (Int.le_of_lt hb.1)
  rw [xI_nat, xI_nat, pk_rem (by omega) (by omega) (by omega), ← xI_nat]
  congr 1
def xand (a b : Int) : Int := ((a.toNat &&& b.toNat : Nat) : Int)
def xor2 (a b : Int) : Int := ((a.toNat ||| b.toNat : Nat) : Int)
def xbnd (a b : Int) : Int := ((a.toNat ^^^ (a.toNat &&& b.toNat) : Nat) : Int)
theorem xI_tn {n : Nat} (h : n < 2147483648) : (xI (n : Int)).toBitVec.toNat = n := by
  rw [xI_nat]
  exact pk_tn (by omega)
theorem xI_ext {x y : Int32} (h : x.toBitVec.toNat = y.toBitVec.toNat) : x = y := Int32.toBitVec_inj.mp (BitVec.eq_of_toNat_eq h)
theorem xand_rg {a b : Int} (ha : 0 ≤ a ∧ a < 2147483648) : 0 ≤ xand a b ∧ xand a b < 2147483648 := by
  have : a.toNat &&& b.toNat ≤ a.toNat := Nat.and_le_left
  unfold xand
  omega
theorem xor2_rg {a b : Int} (ha : 0 ≤ a ∧ a < 2147483648) (hb : 0 ≤ b ∧ b < 2147483648) : 0 ≤ xor2 a b ∧ xor2 a b < 2147483648 := by
  have : a.toNat ||| b.toNat < 2 ^ 31 := Nat.or_lt_two_pow (by omega) (by omega)
  unfold xor2
  omega
theorem xbnd_rg {a b : Int} (ha : 0 ≤ a ∧ a < 2147483648) : 0 ≤ xbnd a b ∧ xbnd a b < 2147483648 := by
  have h1 : a.toNat &&& b.toNat ≤ a.toNat := Nat.and_le_left
  have : a.toNat ^^^ (a.toNat &&& b.toNat) < 2 ^ 31 := Nat.xor_lt_two_pow (by omega) (by omega)
  unfold xbnd
  omega
theorem xI_and {a b : Int} (ha : 0 ≤ a ∧ a < 2147483648) (hb : 0 ≤ b ∧ b < 2147483648) : xI a &&& xI b = xI (xand a b) := by
  have hr := xand_rg (b := b) ha
  obtain ⟨m, rfl⟩ := Int.eq_ofNat_of_zero_le ha.1
  obtain ⟨k, rfl⟩ := Int.eq_ofNat_of_zero_le hb.1
  unfold xand at hr ⊢
  apply xI_ext
  rw [xI_tn (by omega), Int32.toBitVec_and, BitVec.toNat_and, xI_tn (by omega), xI_tn (by omega)]
  simp
theorem xI_or {a b : Int} (ha : 0 ≤ a ∧ a < 2147483648) (hb : 0 ≤ b ∧ b < 2147483648) : xI a ||| xI b = xI (xor2 a b) := by
  have hr := xor2_rg ha hb
  obtain ⟨m, rfl⟩ := Int.eq_ofNat_of_zero_le ha.1
  obtain ⟨k, rfl⟩ := Int.eq_ofNat_of_zero_le hb.1
  unfold xor2 at hr ⊢
  apply xI_ext
  rw [xI_tn (by omega), Int32.toBitVec_or, BitVec.toNat_or, xI_tn (by omega), xI_tn (by omega)]
  simp
theorem xI_not (b : Int) : xI b ^^^ xI (-1) = xI (-1 - b) := by
  have h : xI (-1 - b) = ~~~ (xI b) := by
    rw [← xI_sub]
    apply Int32.toBitVec_inj.mp
    rw [Int32.toBitVec_sub, Int32.toBitVec_not]
    generalize (xI b).toBitVec = x
    show BitVec.ofInt 32 (-1) - x = ~~~ x
    rw [show BitVec.ofInt 32 (-1) = BitVec.allOnes 32 from by decide +kernel, BitVec.allOnes_sub_eq_not]
  rw [h]
  apply Int32.toBitVec_inj.mp
  rw [Int32.toBitVec_xor, Int32.toBitVec_not]
  show _ ^^^ BitVec.ofInt 32 (-1) = _
  rw [show BitVec.ofInt 32 (-1) = BitVec.allOnes 32 from by decide +kernel, BitVec.xor_allOnes]
theorem xI_bnd {a b : Int} (ha : 0 ≤ a ∧ a < 2147483648) (hb : 0 ≤ b ∧ b < 2147483648) : xI a &&& xI (-1 - b) = xI (xbnd a b) := by
  have hr := xbnd_rg (b := b) ha
  have h1 : xI a &&& xI (-1 - b) = xI a ^^^ (xI a &&& xI b) := by
    rw [← xI_not]
    apply Int32.toBitVec_inj.mp
    simp only [Int32.toBitVec_and, Int32.toBitVec_xor]
    generalize (xI a).toBitVec = x
    generalize (xI b).toBitVec = y
    show x &&& (y ^^^ BitVec.ofInt 32 (-1)) = _
    rw [show BitVec.ofInt 32 (-1) = BitVec.allOnes 32 from by decide +kernel, BitVec.xor_allOnes]
    ext i hi
    simp
    cases x[i] <;> cases y[i] <;> rfl
  rw [h1]
  obtain ⟨m, rfl⟩ := Int.eq_ofNat_of_zero_le ha.1
  obtain ⟨k, rfl⟩ := Int.eq_ofNat_of_zero_le hb.1
  unfold xbnd at hr ⊢
  apply xI_ext
  rw [xI_tn (by omega), Int32.toBitVec_xor, BitVec.toNat_xor, Int32.toBitVec_and, BitVec.toNat_and, xI_tn (by omega), xI_tn (by omega)]
  simp
theorem xI_bvn (a : Int) : (xI a).toBitVec.toNat = (a % 4294967296).toNat := by
  show (BitVec.ofInt 32 a).toNat = _
  rw [BitVec.toNat_ofInt]
  rfl
theorem xI_and63 (a : Int) : xI a &&& xI 63 = xI (a % 64) := by
  rw [pk_and (xI a) (m := xI 63) 6 (by decide +kernel), xI_bvn, ← xI_nat]
  congr 1
  omega
theorem xI_sh {s : Int} (h : 0 ≤ s ∧ s < 32) : ((xI s &&& 31).toBitVec.smod 32).toNat = s.toNat := by
  obtain ⟨k, rfl⟩ := Int.eq_ofNat_of_zero_le h.1
  rw [xI_nat]
  have hk : k < 32 := by omega
  have key : ∀ n, n < 32 → ((nI n &&& 31).toBitVec.smod 32).toNat = n := by decide +kernel
  rw [key k hk]
  simp
theorem xI_shl {a s : Int} (h : 0 ≤ s ∧ s < 32) : xI a <<< (xI s &&& 31) = xI (a * 2 ^ s.toNat) := by
  apply xI_ext
  rw [pk_shl _ _ s.toNat (xI_sh h), xI_bvn, xI_bvn]
  have e : ((a % 4294967296).toNat * 2 ^ s.toNat % 2 ^ 32 : Nat) = (((a % 4294967296) * 2 ^ s.toNat) % 4294967296).toNat := by
    have h0 : 0 ≤ a % 4294967296 := Int.emod_nonneg _ (by decide)
    obtain ⟨m, hm⟩ := Int.eq_ofNat_of_zero_le h0
    rw [hm]
    have hk : ((2 ^ s.toNat : Nat) : Int) = 2 ^ s.toNat := by rw [Int.natCast_pow]; rfl
    have e2 : ((m : Int) * 2 ^ s.toNat) % 4294967296 = ((m * 2 ^ s.toNat % 4294967296 : Nat) : Int) := by
      rw [← hk, Int.natCast_emod, Int.natCast_mul]
      rfl
    rw [e2, Int.toNat_natCast, Int.toNat_natCast]
  rw [e]
  congr 1
  rw [Int.mul_emod, Int.emod_emod_of_dvd _ (Int.dvd_refl _), ← Int.mul_emod]
theorem xI_shr {a s : Int} (ha : -2147483648 ≤ a ∧ a < 2147483648) (h : 0 ≤ s ∧ s < 32) : xI a >>> (xI s &&& 31) = xI (a / 2 ^ s.toNat) := by
  apply Int32.toInt_inj.mp
  rw [pk_shr _ _ s.toNat (xI_sh h), xI_toInt ha, Int.shiftRight_eq_div_pow]
  have h1 : (0 : Int) < 2 ^ s.toNat := Int.pow_pos (by decide)
  have hcast : ((2 ^ s.toNat : Nat) : Int) = 2 ^ s.toNat := by rw [Int.natCast_pow]; rfl
  rw [hcast, xI_toInt]
  have hp : (1 : Int) ≤ 2 ^ s.toNat := h1
  constructor
  · have : a / 2 ^ s.toNat ≥ -2147483648 := by
      rw [ge_iff_le, Int.le_ediv_iff_mul_le h1]
      have : (-2147483648 : Int) * 2 ^ s.toNat ≤ -2147483648 * 1 := Int.mul_le_mul_of_nonpos_left (by decide) hp
      omega
    exact this
  · rw [Int.ediv_lt_iff_lt_mul h1]
    have : (2147483648 : Int) * 1 ≤ 2147483648 * 2 ^ s.toNat := Int.mul_le_mul_of_nonneg_left hp (by decide)
    omega
def i8 (v : Int) : Int := (xI v).toInt8.toInt32.toInt
def i16 (v : Int) : Int := (xI v).toInt16.toInt32.toInt
theorem i8_rg (v : Int) : -2147483648 ≤ i8 v ∧ i8 v < 2147483648 := xI_rg _
theorem i16_rg (v : Int) : -2147483648 ≤ i16 v ∧ i16 v < 2147483648 := xI_rg _
/-! longs -/
theorem xJ_add (a b : Int) : xJ a + xJ b = xJ (a + b) := (Int64.ofInt_add a b).symm
theorem xJ_mul (a b : Int) : xJ a * xJ b = xJ (a * b) := (Int64.ofInt_mul a b).symm
theorem xJ_toInt {a : Int} (h : -9223372036854775808 ≤ a ∧ a < 9223372036854775808) : (xJ a).toInt = a := Int64.toInt_ofInt_of_le h.1 h.2
theorem xJ_nat (n : Nat) : xJ (n : Int) = lN n := Int64.ofInt_eq_ofNat
theorem xJ_eq {a b : Int} (ha : -9223372036854775808 ≤ a ∧ a < 9223372036854775808) (hb : -9223372036854775808 ≤ b ∧ b < 9223372036854775808) : xJ a = xJ b ↔ a = b := by
  rw [← Int64.toInt_inj, xJ_toInt ha, xJ_toInt hb]
theorem xJ_div {a b : Int} (ha : 0 ≤ a ∧ a < 9223372036854775808) (hb : 0 < b ∧ b < 9223372036854775808) : xJ a / xJ b = xJ (a / b) := by
  obtain ⟨m, rfl⟩ := Int.eq_ofNat_of_zero_le ha.1
  obtain ⟨k, rfl⟩ := Int.eq_ofNat_of_zero_le (Int.le_of_lt hb.1)
  rw [xJ_nat, xJ_nat, pk_lDiv (by omega) (by omega) (by omega), ← xJ_nat]
  congr 1
theorem xJ_rem {a b : Int} (ha : 0 ≤ a ∧ a < 9223372036854775808) (hb : 0 < b ∧ b < 9223372036854775808) : xJ a - xJ a / xJ b * xJ b = xJ (a % b) := by
  obtain ⟨m, rfl⟩ := Int.eq_ofNat_of_zero_le ha.1
  obtain ⟨k, rfl⟩ := Int.eq_ofNat_of_zero_le (Int.le_of_lt hb.1)
  rw [xJ_nat, xJ_nat, pk_lRem (by omega) (by omega) (by omega), ← xJ_nat]
  congr 1
theorem xJ_of {a : Int} (h : -2147483648 ≤ a ∧ a < 2147483648) : (xI a).toInt64 = xJ a := Int32.toInt64_ofInt (by rw [show Int32.minValue.toInt = -2147483648 from rfl]; exact h.1) (by rw [show Int32.maxValue.toInt = 2147483647 from rfl]; omega)
theorem xJ_i (a : Int) : (xJ a).toInt32 = xI a := Int64.toInt32_ofInt
theorem xJ_cmp {a b : Int} (ha : -9223372036854775808 ≤ a ∧ a < 9223372036854775808) (hb : -9223372036854775808 ≤ b ∧ b < 9223372036854775808) : lg_cmp (xJ a) (xJ b) = xI (if b < a then 1 else if a = b then 0 else -1) := by
  unfold lg_cmp
  simp only [gt_iff_lt, Int64.lt_iff_toInt_lt, ← Int64.toInt_inj, xJ_toInt ha, xJ_toInt hb]
  split
  · rfl
  · split <;> rfl
def b2i (P : Prop) [Decidable P] : Int := if P then 1 else 0
theorem b2i_t {P : Prop} [Decidable P] (h : P) : b2i P = 1 := if_pos h
theorem b2i_f {P : Prop} [Decidable P] (h : ¬ P) : b2i P = 0 := if_neg h
theorem b2i_rg {P : Prop} [Decidable P] : 0 ≤ b2i P ∧ b2i P ≤ 1 := by
  unfold b2i
  split <;> omega
theorem b2i_cg {P P' : Prop} [Decidable P] [Decidable P'] (h : P ↔ P') : b2i P = b2i P' := by
  unfold b2i
  by_cases hp : P
  · rw [if_pos hp, if_pos (h.mp hp)]
  · rw [if_neg hp, if_neg (fun q => hp (h.mpr q))]
