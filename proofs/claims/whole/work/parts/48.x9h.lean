set_option maxHeartbeats 4000000 in
theorem c_X9_priced (E : xE) {M : xMem} {r i q j n : Int} (hr : -2147483648 ≤ r ∧ r < 2147483648) (hi : -2147483648 ≤ i ∧ i < 2147483648) (hq : -2147483648 ≤ q ∧ q < 2147483648) (hj : -2147483648 ≤ j ∧ j < 2147483648) (hn : -2147483648 ≤ n ∧ n < 2147483648) (hrw : ∀ i : Nat, i < 8 → (M (163 + 2 * i) 1 = 0 ∨ M (163 + 2 * i) 1 = 1) ∧ (0 ≤ M (163 + 2 * i) 2 ∧ M (163 + 2 * i) 2 ≤ 2) ∧ (0 ≤ M (163 + 2 * i) 3 ∧ M (163 + 2 * i) 3 ≤ 40)) : Ct E mX9_priced 9 2 [xr E 0, xi r, xi i, xi q, xi j, xi n] M (some (xi ((xPriced M r i q j n).1))) ((xPriced M r i q j n).2) := by
  refine Ct.of 3 9 (by rfl) (by decide +kernel) (fun hM => ?_)
  show VS E mX9_priced 2 _ _ 0 [some (xr E 0), some (xi r), some (xi i), some (xi q), some (xi j), some (xi n), none, none, none] [] M
  have L118 : ∀ (fu : Nat) (a k : Int), ((0 ≤ r ∧ r ≤ 7) ∧ (0 ≤ q ∧ q ≤ 7) ∧ (1 ≤ n ∧ n ≤ 12)) → (0 ≤ i ∧ 0 ≤ j ∧ i + n ≤ 40 ∧ j + n ≤ 40) → (allW (M (163 + 2 * r.toNat + 1)) 0 999 n.toNat i = true ∧ allW (M (163 + 2 * q.toNat + 1)) 1 9 n.toNat j = true) → (0 ≤ k ∧ k ≤ n) → (0 ≤ a ∧ a ≤ 9000 * k) → (foldI (prcF (M (163 + 2 * r.toNat + 1)) (M (163 + 2 * q.toNat + 1)) i j) (n - k).toNat k a = foldI (prcF (M (163 + 2 * r.toNat + 1)) (M (163 + 2 * q.toNat + 1)) i j) n.toNat 0 0) → (xPriced M r i q j n = finX M (foldI (prcF (M (163 + 2 * r.toNat + 1)) (M (163 + 2 * q.toNat + 1)) i j) n.toNat 0 0)) → (n - k).toNat < fu → VS E mX9_priced 2 (some (xi ((xPriced M r i q j n).1))) ((xPriced M r i q j n).2) 118 [some (xr E 0), some (xi r), some (xi i), some (xi q), some (xi j), some (xi n), none, some (xi a), some (xi k)] [] M := by
    intro fu
    induction fu with
    | zero => intro a k  hG hij hA hb ha hi hX hme; exact absurd hme (Nat.not_lt_zero _)
    | succ fu ih =>
      intro a k  hG hij hA hb ha hi hX hme
      refine r_ild8 dX9_priced_118 ?_
      refine r_ild5 dX9_priced_120 ?_
      refine r_icmp_ge 166 dX9_priced_122 (by decide) (by omega) (by omega) (fun c122 => ?_) (fun c122 => ?_)
      · skip
        refine r_ald0 dX9_priced_166 ?_
        refine r_ild7 dX9_priced_167 ?_
        refine s_callV1r hM (c_X9_fine E ) cv_X9_fine wM_X9_96 (sh_0) rfl rfl (Nat.le_of_ble_eq_true rfl) (by decide) dX9_priced_169 (fun hM169 => ?_)
        exact s_iret hM169 rfl dX9_priced_172 (by rw [hX]; exact (foldI_end (by omega)).symm.trans hi) (by first | (rw [hX]; rfl) | (rw [hfx]; rfl) | (unfold xPriced; (repeat' split) <;> first | rfl | omega | (exfalso; omega)))
      have hi1 := allW_at n.toNat i hA.1 (i + k) (by omega) (by omega)
      have hi2 := allW_at n.toNat j hA.2 (j + k) (by omega) (by omega)
      have hm := mul_b (a := M (163 + 2 * r.toNat + 1) (i + k).toNat) (A := 999) (b := M (163 + 2 * q.toNat + 1) (j + k).toNat) (B := 9) (by omega) (by omega)
      refine r_ild7 dX9_priced_125 ?_
      refine r_ald0 dX9_priced_127 ?_
      refine s_getR fi_X9_11 (sh_0) rfl dX9_priced_128 ?_
      refine r_ild1 dX9_priced_131 ?_
      refine s_rows (by omega) dX9_priced_132 (fun p132 ep132 hp132 => ?_)
      subst ep132
      refine s_getR fi_X9_119 (hp132.1) rfl dX9_priced_133 ?_
      refine r_ild2 dX9_priced_136 ?_
      refine r_ild8 dX9_priced_137 ?_
      refine r_iadd dX9_priced_139 ?_
      refine s_iald hM (hp132.2.1) (by omega) (by decide) dX9_priced_140 (fun g140 => ?_)
      refine r_ald0 dX9_priced_141 ?_
      refine s_getR fi_X9_11 (sh_0) rfl dX9_priced_142 ?_
      refine r_ild3 dX9_priced_145 ?_
      refine s_rows (by omega) dX9_priced_146 (fun p146 ep146 hp146 => ?_)
      subst ep146
      refine s_getR fi_X9_119 (hp146.1) rfl dX9_priced_147 ?_
      refine r_ild4 dX9_priced_150 ?_
      refine r_ild8 dX9_priced_152 ?_
      refine r_iadd dX9_priced_154 ?_
      refine s_iald hM (hp146.2.1) (by omega) (by decide) dX9_priced_155 (fun g155 => ?_)
      refine r_imul dX9_priced_156 ?_
      refine r_iadd dX9_priced_157 ?_
      refine r_ist7 dX9_priced_158 rfl ?_
      refine r_iinc8 dX9_priced_160 rfl ?_
      refine r_goto 118 dX9_priced_163 (by decide) ?_
      exact ih _ _  (by assumption) (by assumption) (by assumption) (by omega) (by omega) (by exact foldI_go (by omega) hi rfl) (by assumption) (by omega)
  have L100 : ∀ (f : Int), ((0 ≤ r ∧ r ≤ 7) ∧ (0 ≤ q ∧ q ≤ 7) ∧ (1 ≤ n ∧ n ≤ 12)) → (f = (if ¬ sfT M r i n = 0 then sfT M r i n else if ¬ sfT M q j n = 0 then sfT M q j n else if ¬ (allW (M (163 + 2 * r.toNat + 1)) 0 999 n.toNat i = true ∧ allW (M (163 + 2 * q.toNat + 1)) 1 9 n.toNat j = true) then 3 else 0)) → (0 ≤ f ∧ f ≤ 3) → VS E mX9_priced 2 (some (xi ((xPriced M r i q j n).1))) ((xPriced M r i q j n).2) 100 [some (xr E 0), some (xi r), some (xi i), some (xi q), some (xi j), some (xi n), some (xi f), none, none] [] M := by
    intro f  hG hf hfb
    have hr1 := hrw r.toNat (by omega)
    have hr2 := hrw q.toNat (by omega)
    refine r_ild6 dX9_priced_100 ?_
    refine r_if_eq 112 dX9_priced_102 (by decide) (by omega) (fun c102 => ?_) (fun c102 => ?_)
    · skip
      have h1 : sfT M r i n = 0 := Decidable.byContradiction (fun h => by rw [hf, if_pos h] at c102; exact h c102)
      have h2 : sfT M q j n = 0 := Decidable.byContradiction (fun h => by rw [hf, if_neg (fun q => q h1), if_pos h] at c102; exact h c102)
      have h3 : allW (M (163 + 2 * r.toNat + 1)) 0 999 n.toNat i = true ∧ allW (M (163 + 2 * q.toNat + 1)) 1 9 n.toNat j = true := Decidable.byContradiction (fun h => by rw [hf, if_neg (fun q => q h1), if_neg (fun q => q h2), if_pos h] at c102; exact absurd c102 (by decide))
      have hs1 := sf_in h1
      have hs2 := sf_in h2
      have hX0 : xPriced M r i q j n = finX M (foldI (prcF (M (163 + 2 * r.toNat + 1)) (M (163 + 2 * q.toNat + 1)) i j) n.toNat 0 0) := by
        unfold xPriced
        rw [if_neg (by omega), if_neg (fun q => q h1), if_neg (fun q => q h2), if_neg (fun q => q h3)]
      refine r_iconst dX9_priced_112 ?_
      refine r_ist7 dX9_priced_113 rfl ?_
      refine r_iconst dX9_priced_115 ?_
      refine r_ist8 dX9_priced_116 rfl ?_
      refine r_fgt6 ?_
      exact L118 13 _ _  (by omega) (by omega) (by assumption) (by omega) (by omega) (by exact foldI_0.symm) (by assumption) (by omega)
    have hfx : xPriced M r i q j n = fndX M f := by
      by_cases h1 : sfT M r i n = 0
      · by_cases h2 : sfT M q j n = 0
        · by_cases h3 : allW (M (163 + 2 * r.toNat + 1)) 0 999 n.toNat i = true ∧ allW (M (163 + 2 * q.toNat + 1)) 1 9 n.toNat j = true
          · exfalso
            rw [hf, if_neg (fun q => q h1), if_neg (fun q => q h2), if_neg (fun q => q h3)] at c102
            exact c102 rfl
          · rw [hf, if_neg (fun q => q h1), if_neg (fun q => q h2), if_pos h3]
            unfold xPriced
            rw [if_neg (by omega), if_neg (fun q => q h1), if_neg (fun q => q h2), if_pos h3]
        · rw [hf, if_neg (fun q => q h1), if_pos h2]
          unfold xPriced
          rw [if_neg (by omega), if_neg (fun q => q h1), if_pos h2]
      · rw [hf, if_pos h1]
        unfold xPriced
        rw [if_neg (by omega), if_pos h1]
    refine r_ald0 dX9_priced_105 ?_
    refine r_ild6 dX9_priced_106 ?_
    refine s_callV1r hM (c_X9_found E (by first | with_reducible assumption | with_reducible exact xSt_9 | with_reducible exact xSt_13 | omega)) cv_X9_found wM_X9_88 (sh_0) rfl rfl (Nat.le_of_ble_eq_true rfl) (by decide) dX9_priced_108 (fun hM108 => ?_)
    exact s_iret hM108 rfl dX9_priced_111 (by rw [hfx]; rfl) (by first | (rw [hX]; rfl) | (rw [hfx]; rfl) | (unfold xPriced; (repeat' split) <;> first | rfl | omega | (exfalso; omega)))
  have L54 : ∀ (f : Int), ((0 ≤ r ∧ r ≤ 7) ∧ (0 ≤ q ∧ q ≤ 7) ∧ (1 ≤ n ∧ n ≤ 12)) → (f = (if ¬ sfT M r i n = 0 then sfT M r i n else sfT M q j n)) → (0 ≤ f ∧ f ≤ 2) → VS E mX9_priced 2 (some (xi ((xPriced M r i q j n).1))) ((xPriced M r i q j n).2) 54 [some (xr E 0), some (xi r), some (xi i), some (xi q), some (xi j), some (xi n), some (xi f), none, none] [] M := by
    intro f  hG hg hgb
    have hr1 := hrw r.toNat (by omega)
    have hr2 := hrw q.toNat (by omega)
    refine r_ild6 dX9_priced_54 ?_
    refine r_if_ne 100 dX9_priced_56 (by decide) (by omega) (fun c56 => ?_) (fun c56 => ?_)
    · skip
      exact L100 _  (by omega) (by (try rw [hg]); (repeat' split) <;> first | rfl | omega | contradiction | (exfalso; simp_all; done)) (by omega)
    have h1 : sfT M r i n = 0 := Decidable.byContradiction (fun h => by rw [hg, if_pos h] at c56; exact h c56)
    have h2 : sfT M q j n = 0 := by rw [hg, if_neg (fun q => q h1)] at c56; exact c56
    have hs1 := sf_in h1
    have hs2 := sf_in h2
    refine r_ald0 dX9_priced_59 ?_
    refine s_getR fi_X9_11 (sh_0) rfl dX9_priced_60 ?_
    refine r_ild1 dX9_priced_63 ?_
    refine s_rows (by omega) dX9_priced_64 (fun p64 ep64 hp64 => ?_)
    subst ep64
    refine r_ild2 dX9_priced_65 ?_
    refine r_ild5 dX9_priced_66 ?_
    refine r_iconst dX9_priced_68 ?_
    refine r_sipush dX9_priced_69 (by decide +kernel) ?_
    refine s_callV4r hM (c_X5_allWithin E (by first | with_reducible assumption | with_reducible exact xSt_9 | with_reducible exact xSt_13 | omega) (by omega) (by omega) (by omega)) cv_X5_allWithin wM_X9_303 (hp64.1) rfl rfl (Nat.le_of_ble_eq_true rfl) (by decide) dX9_priced_72 (fun _ => ?_)
    refine r_ifb_eq 97 dX9_priced_75 (by decide) (fun c75 => ?_) (fun c75 => ?_)
    · skip
      refine r_iconst dX9_priced_97 ?_
      refine r_ist6 dX9_priced_98 rfl ?_
      exact L100 _  (by omega) (by (try rw [hg]); (repeat' split) <;> first | rfl | omega | contradiction | (exfalso; simp_all; done)) (by omega)
    refine r_ald0 dX9_priced_78 ?_
    refine s_getR fi_X9_11 (sh_0) rfl dX9_priced_79 ?_
    refine r_ild3 dX9_priced_82 ?_
    refine s_rows (by omega) dX9_priced_83 (fun p83 ep83 hp83 => ?_)
    subst ep83
    refine r_ild4 dX9_priced_84 ?_
    refine r_ild5 dX9_priced_86 ?_
    refine r_iconst dX9_priced_88 ?_
    refine r_bipush dX9_priced_89 (by decide +kernel) ?_
    refine s_callV4r hM (c_X5_allWithin E (by first | with_reducible assumption | with_reducible exact xSt_9 | with_reducible exact xSt_13 | omega) (by omega) (by omega) (by omega)) cv_X5_allWithin wM_X9_303 (hp83.1) rfl rfl (Nat.le_of_ble_eq_true rfl) (by decide) dX9_priced_91 (fun _ => ?_)
    refine r_ifb_ne 100 dX9_priced_94 (by decide) (fun c94 => ?_) (fun c94 => ?_)
    · skip
      exact L100 _  (by omega) (by (try rw [hg]); (repeat' split) <;> first | rfl | omega | contradiction | (exfalso; simp_all; done)) (by omega)
    refine r_iconst dX9_priced_97 ?_
    refine r_ist6 dX9_priced_98 rfl ?_
    exact L100 _  (by omega) (by (try rw [hg]); (repeat' split) <;> first | rfl | omega | contradiction | (exfalso; simp_all; done)) (by omega)
  refine r_ild1 dX9_priced_0 ?_
  refine s_callS1r hM (c_X9_isRow E (by first | with_reducible assumption | with_reducible exact xSt_9 | with_reducible exact xSt_13 | omega)) cs_X9_isRow wM_X9_79 (Nat.le_of_ble_eq_true rfl) (by decide) dX9_priced_1 (fun _ => ?_)
  refine r_ifb_eq 25 dX9_priced_4 (by decide) (fun c4 => ?_) (fun c4 => ?_)
  · skip
    refine r_ldc (-1000001) dX9_priced_25 wC_X9_87 ?_
    exact s_iret hM rfl dX9_priced_27 (by unfold xPriced fndX finX; (repeat' split) <;> first | rfl | omega | (exfalso; omega)) (by first | (rw [hX]; rfl) | (rw [hfx]; rfl) | (unfold xPriced; (repeat' split) <;> first | rfl | omega | (exfalso; omega)))
  refine r_ild3 dX9_priced_7 ?_
  refine s_callS1r hM (c_X9_isRow E (by first | with_reducible assumption | with_reducible exact xSt_9 | with_reducible exact xSt_13 | omega)) cs_X9_isRow wM_X9_79 (Nat.le_of_ble_eq_true rfl) (by decide) dX9_priced_8 (fun _ => ?_)
  refine r_ifb_eq 25 dX9_priced_11 (by decide) (fun c11 => ?_) (fun c11 => ?_)
  · skip
    refine r_ldc (-1000001) dX9_priced_25 wC_X9_87 ?_
    exact s_iret hM rfl dX9_priced_27 (by unfold xPriced fndX finX; (repeat' split) <;> first | rfl | omega | (exfalso; omega)) (by first | (rw [hX]; rfl) | (rw [hfx]; rfl) | (unfold xPriced; (repeat' split) <;> first | rfl | omega | (exfalso; omega)))
  refine r_ild5 dX9_priced_14 ?_
  refine r_iconst dX9_priced_16 ?_
  refine r_bipush dX9_priced_17 (by decide +kernel) ?_
  refine s_callS3r hM (c_X9_within E (by first | with_reducible assumption | with_reducible exact xSt_9 | with_reducible exact xSt_13 | omega) (by first | with_reducible assumption | with_reducible exact xSt_9 | with_reducible exact xSt_13 | omega) (by first | with_reducible assumption | with_reducible exact xSt_9 | with_reducible exact xSt_13 | omega)) cs_X9_within wM_X9_83 (Nat.le_of_ble_eq_true rfl) (by decide) dX9_priced_19 (fun _ => ?_)
  refine r_ifb_ne 28 dX9_priced_22 (by decide) (fun c22 => ?_) (fun c22 => ?_)
  · skip
    have hr1 := hrw r.toNat (by omega)
    have hr2 := hrw q.toNat (by omega)
    have hsf : 0 ≤ sfT M r i n ∧ sfT M r i n ≤ 2 := by unfold sfT; split <;> (try split) <;> omega
    have hsg : 0 ≤ sfT M q j n ∧ sfT M q j n ≤ 2 := by unfold sfT; split <;> (try split) <;> omega
    refine r_ald0 dX9_priced_28 ?_
    refine r_ild1 dX9_priced_29 ?_
    refine r_ild2 dX9_priced_30 ?_
    refine r_ild5 dX9_priced_31 ?_
    refine s_callV3r hM (c_X9_stretchFinding E (by first | with_reducible assumption | with_reducible exact xSt_9 | with_reducible exact xSt_13 | omega) (by first | with_reducible assumption | with_reducible exact xSt_9 | with_reducible exact xSt_13 | omega) (by first | with_reducible assumption | with_reducible exact xSt_9 | with_reducible exact xSt_13 | omega) (by first | with_reducible assumption | with_reducible exact xSt_9 | with_reducible exact xSt_13 | omega)) cv_X9_stretchFinding wM_X9_99 (sh_0) rfl rfl (Nat.le_of_ble_eq_true rfl) (by decide) dX9_priced_33 (fun _ => ?_)
    refine r_ist6 dX9_priced_36 rfl ?_
    refine r_ild6 dX9_priced_38 ?_
    refine r_if_ne 54 dX9_priced_40 (by decide) (by omega) (fun c40 => ?_) (fun c40 => ?_)
    · skip
      exact L54 _  (by omega) (by split <;> first | rfl | omega | contradiction) (by omega)
    refine r_ald0 dX9_priced_43 ?_
    refine r_ild3 dX9_priced_44 ?_
    refine r_ild4 dX9_priced_45 ?_
    refine r_ild5 dX9_priced_47 ?_
    refine s_callV3r hM (c_X9_stretchFinding E (by first | with_reducible assumption | with_reducible exact xSt_9 | with_reducible exact xSt_13 | omega) (by first | with_reducible assumption | with_reducible exact xSt_9 | with_reducible exact xSt_13 | omega) (by first | with_reducible assumption | with_reducible exact xSt_9 | with_reducible exact xSt_13 | omega) (by first | with_reducible assumption | with_reducible exact xSt_9 | with_reducible exact xSt_13 | omega)) cv_X9_stretchFinding wM_X9_99 (sh_0) rfl rfl (Nat.le_of_ble_eq_true rfl) (by decide) dX9_priced_49 (fun _ => ?_)
    refine r_ist6 dX9_priced_52 rfl ?_
    exact L54 _  (by omega) (by split <;> first | rfl | omega | contradiction) (by omega)
  refine r_ldc (-1000001) dX9_priced_25 wC_X9_87 ?_
  exact s_iret hM rfl dX9_priced_27 (by unfold xPriced fndX finX; (repeat' split) <;> first | rfl | omega | (exfalso; omega)) (by first | (rw [hX]; rfl) | (rw [hfx]; rfl) | (unfold xPriced; (repeat' split) <;> first | rfl | omega | (exfalso; omega)))
