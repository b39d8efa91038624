set_option maxHeartbeats 4000000 in
theorem c_J6_bitCount_0f7a4 (E : xE) {M : xMem} {a : Int} (ha : 0 ≤ a ∧ a ≤ 63) : Ct E mJ6_bitCount_0f7a4 1 0 [xi a] M (some (xi (pcT a))) (M) := by
  refine Ct.of 0 1 (by rfl) (by decide +kernel) (fun hM => ?_)
  show VS E mJ6_bitCount_0f7a4 0 _ _ 0 [some (xi a)] [] M
  refine r_ild0 dJ6_bitCount_0f7a4_0 ?_
  refine r_ild0 dJ6_bitCount_0f7a4_1 ?_
  refine r_iconst dJ6_bitCount_0f7a4_2 ?_
  refine q_iushr dJ6_bitCount_0f7a4_3 ?_
  refine r_ldcw (1431655765) dJ6_bitCount_0f7a4_4 wC_J6_265 ?_
  refine q_iand dJ6_bitCount_0f7a4_7 ?_
  refine q_isub dJ6_bitCount_0f7a4_8 ?_
  refine r_ist0 dJ6_bitCount_0f7a4_9 ?_
  refine r_ild0 dJ6_bitCount_0f7a4_10 ?_
  refine r_ldcw (858993459) dJ6_bitCount_0f7a4_11 wC_J6_266 ?_
  refine q_iand dJ6_bitCount_0f7a4_14 ?_
  refine r_ild0 dJ6_bitCount_0f7a4_15 ?_
  refine r_iconst dJ6_bitCount_0f7a4_16 ?_
  refine q_iushr dJ6_bitCount_0f7a4_17 ?_
  refine r_ldcw (858993459) dJ6_bitCount_0f7a4_18 wC_J6_266 ?_
  refine q_iand dJ6_bitCount_0f7a4_21 ?_
  refine q_iadd dJ6_bitCount_0f7a4_22 ?_
  refine r_ist0 dJ6_bitCount_0f7a4_23 ?_
  refine r_ild0 dJ6_bitCount_0f7a4_24 ?_
  refine r_ild0 dJ6_bitCount_0f7a4_25 ?_
  refine r_iconst dJ6_bitCount_0f7a4_26 ?_
  refine q_iushr dJ6_bitCount_0f7a4_27 ?_
  refine q_iadd dJ6_bitCount_0f7a4_28 ?_
  refine r_ldcw (252645135) dJ6_bitCount_0f7a4_29 wC_J6_267 ?_
  refine q_iand dJ6_bitCount_0f7a4_32 ?_
  refine r_ist0 dJ6_bitCount_0f7a4_33 ?_
  refine r_ild0 dJ6_bitCount_0f7a4_34 ?_
  refine r_ild0 dJ6_bitCount_0f7a4_35 ?_
  refine r_bipush dJ6_bitCount_0f7a4_36 (by decide +kernel) ?_
  refine q_iushr dJ6_bitCount_0f7a4_38 ?_
  refine q_iadd dJ6_bitCount_0f7a4_39 ?_
  refine r_ist0 dJ6_bitCount_0f7a4_40 ?_
  refine r_ild0 dJ6_bitCount_0f7a4_41 ?_
  refine r_ild0 dJ6_bitCount_0f7a4_42 ?_
  refine r_bipush dJ6_bitCount_0f7a4_43 (by decide +kernel) ?_
  refine q_iushr dJ6_bitCount_0f7a4_45 ?_
  refine q_iadd dJ6_bitCount_0f7a4_46 ?_
  refine r_ist0 dJ6_bitCount_0f7a4_47 ?_
  refine r_ild0 dJ6_bitCount_0f7a4_48 ?_
  refine r_bipush dJ6_bitCount_0f7a4_49 (by decide +kernel) ?_
  refine q_iand dJ6_bitCount_0f7a4_51 ?_
  exact s_iretw hM rfl dJ6_bitCount_0f7a4_52 (by exact bcW_eq ha) (by rfl)
set_option maxHeartbeats 4000000 in
theorem c_X9_power (E : xE) {M : xMem} {b t : Int} (hb : 0 ≤ b ∧ b ≤ 10) (ht : 0 ≤ t ∧ t ≤ 10) : Ct E mX9_power 5 0 [xi b, xi t] M (some (xl (b ^ t.toNat))) (M) := by
  refine Ct.of 3 5 (by rfl) (by decide +kernel) (fun hM => ?_)
  show VS E mX9_power 0 _ _ 0 [some (xi b), some (xi t), none, none, none] [] M
  have L5 : ∀ (fu : Nat) (pr k : Int), (0 ≤ k ∧ k ≤ t) → (pr = b ^ k.toNat) → (t - k).toNat < fu → VS E mX9_power 0 (some (xl (b ^ t.toNat))) (M) 5 [some (xi b), some (xi t), some (xl pr), none, some (xi k)] [] M := by
    intro fu
    induction fu with
    | zero => intro pr k  hk hp hme; exact absurd hme (Nat.not_lt_zero _)
    | succ fu ih =>
      intro pr k  hk hp hme
      refine r_ild4 dX9_power_5 ?_
      refine r_ild1 dX9_power_7 ?_
      refine r_icmp_ge 22 dX9_power_8 (by decide) (by omega) (by omega) (fun c8 => ?_) (fun c8 => ?_)
      · skip
        refine r_lld2 dX9_power_22 ?_
        exact s_lret hM rfl dX9_power_23 (by rw [hp, show k = t by omega]) (by rfl)
      refine r_lld2 dX9_power_11 ?_
      refine r_ild0 dX9_power_12 ?_
      refine r_i2l dX9_power_13 (by omega) ?_
      refine r_lmul dX9_power_14 ?_
      refine r_lst2 dX9_power_15 rfl ?_
      refine r_iinc4 dX9_power_16 rfl ?_
      refine r_goto 5 dX9_power_19 (by decide) ?_
      exact ih _ _  (by omega) (by rw [hp, show (k + 1).toNat = k.toNat + 1 by omega, Int.pow_succ]) (by omega)
  refine r_lconst1 dX9_power_0 ?_
  refine r_lst2 dX9_power_1 rfl ?_
  refine r_iconst dX9_power_2 ?_
  refine r_ist4 dX9_power_3 rfl ?_
  exact L5 11 _ _  (by omega) (by rw [show (0 : Int).toNat = 0 from rfl, Int.pow_zero]) (by omega)
set_option maxHeartbeats 4000000 in
theorem c_X9_commonDivisor (E : xE) {M : xMem} {a b : Int} (ha : 0 ≤ a ∧ a ≤ 100000000000000) (hb : 0 ≤ b ∧ b ≤ 100000000000000) : Ct E mX9_commonDivisor 11 0 [xl a, xl b] M (some (xl (cdL 100 a b))) (M) := by
  refine Ct.of 7 11 (by rfl) (by decide +kernel) (fun hM => ?_)
  show VS E mX9_commonDivisor 0 _ _ 0 [some (xl a), none, some (xl b), none, none, none, none, none, none, none, none] [] M
  have L9 : ∀ (fu : Nat) (x y i : Int), (0 ≤ i ∧ i ≤ 100) → (0 ≤ x ∧ x ≤ 100000000000000) → (0 ≤ y ∧ y ≤ 100000000000000) → (cdL (100 - i).toNat x y = cdL 100 a b) → (100 - i).toNat < fu → VS E mX9_commonDivisor 0 (some (xl (cdL 100 a b))) (M) 9 [some (xl a), none, some (xl b), none, some (xl x), none, some (xl y), none, some (xi i), none, none] [] M := by
    intro fu
    induction fu with
    | zero => intro x y i  hi hx hy he hme; exact absurd hme (Nat.not_lt_zero _)
    | succ fu ih =>
      intro x y i  hi hx hy he hme
      refine r_ild8 dX9_commonDivisor_9 ?_
      refine r_bipush dX9_commonDivisor_11 (by decide +kernel) ?_
      refine r_icmp_ge 44 dX9_commonDivisor_13 (by decide) (by omega) (by omega) (fun c13 => ?_) (fun c13 => ?_)
      · skip
        refine r_lld4 dX9_commonDivisor_44 ?_
        exact s_lret hM rfl dX9_commonDivisor_46 (by rw [← he]; first | (rw [show (100 - i).toNat = 0 by omega]; rfl) | (rw [show (100 - i).toNat = (100 - (i + 1)).toNat + 1 by omega, cdL, if_pos hy0])) (by rfl)
      refine r_lld6 dX9_commonDivisor_16 ?_
      refine r_lconst0 dX9_commonDivisor_18 ?_
      refine r_lcmp dX9_commonDivisor_19 (by omega) (by omega) ?_
      refine r_if_eq 44 dX9_commonDivisor_20 (by decide) (by split <;> (try split) <;> omega) (fun c20 => ?_) (fun c20 => ?_)
      · skip
        have hy0 : y = 0 := by split at c20 <;> (try split at c20) <;> omega
        refine r_lld4 dX9_commonDivisor_44 ?_
        exact s_lret hM rfl dX9_commonDivisor_46 (by rw [← he]; first | (rw [show (100 - i).toNat = 0 by omega]; rfl) | (rw [show (100 - i).toNat = (100 - (i + 1)).toNat + 1 by omega, cdL, if_pos hy0])) (by rfl)
      have hy0 : ¬ y = 0 := by split at c20 <;> (try split at c20) <;> omega
      refine r_lld4 dX9_commonDivisor_23 ?_
      refine r_lld6 dX9_commonDivisor_25 ?_
      refine r_lrem dX9_commonDivisor_27 (by omega) (by omega) ?_
      refine r_lst9 dX9_commonDivisor_28 rfl ?_
      refine r_lld6 dX9_commonDivisor_30 ?_
      refine r_lst4 dX9_commonDivisor_32 rfl ?_
      refine r_lld9 dX9_commonDivisor_34 ?_
      refine r_lst6 dX9_commonDivisor_36 rfl ?_
      refine r_iinc8 dX9_commonDivisor_38 rfl ?_
      refine r_goto 9 dX9_commonDivisor_41 (by decide) ?_
      refine r_fgt9 ?_
      exact ih _ _ _  (by omega) (by omega) (by have h1 := Int.emod_nonneg x (show y ≠ 0 by omega); have h2 := Int.emod_lt_of_pos x (show 0 < y by omega); omega) (by rw [← he, show (100 - i).toNat = (100 - (i + 1)).toNat + 1 by omega, cdL, if_neg (by omega)]) (by omega)
  refine r_lld0 dX9_commonDivisor_0 ?_
  refine r_lst4 dX9_commonDivisor_1 rfl ?_
  refine r_lld2 dX9_commonDivisor_3 ?_
  refine r_lst6 dX9_commonDivisor_4 rfl ?_
  refine r_iconst dX9_commonDivisor_6 ?_
  refine r_ist8 dX9_commonDivisor_7 rfl ?_
  exact L9 101 _ _ _  (by omega) (by omega) (by omega) (by rfl) (by omega)
