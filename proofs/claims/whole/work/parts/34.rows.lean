set_option maxHeartbeats 4000000 in
theorem c_X5_begin (E : xE) {M : xMem} {k : Nat} {lane n : Int} (hk : xRw k) (hln : 0 ≤ lane ∧ lane ≤ 2) (hn : 0 ≤ n ∧ n ≤ 40) : Ct E mX5_begin 4 0 [xr E k, xi lane, xi n] M (none) (rowM M k lane n) := by
  refine Ct.of 1 4 (by rfl) (by decide +kernel) (fun hM => ?_)
  show VS E mX5_begin 0 _ _ 0 [some (xr E k), some (xi lane), some (xi n), none] [] M
  have L17 : ∀ (fu : Nat) (i : Int) (Mc : xMem), InR Mc → (0 ≤ i ∧ i ≤ 40) → (Mc = rngM (mS (mS (mS M k 1 1) k 2 lane) k 3 n) (k + 1) 0 (fun _ => 0) i) → (40 - i).toNat < fu → VS E mX5_begin 0 (none) (rowM M k lane n) 17 [some (xr E k), some (xi lane), some (xi n), some (xi i)] [] Mc := by
    intro fu
    induction fu with
    | zero => intro i Mc hML17 hb hMc hme; exact absurd hme (Nat.not_lt_zero _)
    | succ fu ih =>
      intro i Mc hML17 hb hMc hme
      refine r_ild3 dX5_begin_17 ?_
      refine r_bipush dX5_begin_18 (by decide +kernel) ?_
      refine r_icmp_ge 36 dX5_begin_20 (by decide) (by omega) (by omega) (fun c20 => ?_) (fun c20 => ?_)
      · skip
        exact s_vret hML17 rfl dX5_begin_36 (by rw [hMc, show i = 40 by omega]; rfl)
      refine r_ald0 dX5_begin_23 ?_
      refine s_getR fi_X5_9 (hk.1) rfl dX5_begin_24 ?_
      refine r_ild3 dX5_begin_27 ?_
      refine r_iconst dX5_begin_28 ?_
      refine s_iast hML17 (hk.2.1) (by omega) (by decide) (by omega) dX5_begin_29 (fun hM29 => ?_)
      refine r_iinc3 dX5_begin_30 rfl ?_
      refine r_goto 17 dX5_begin_33 (by decide) ?_
      exact ih _ _  hM29 (by omega) (by rw [hMc]; exact rng_0s (by omega) rfl) (by omega)
  refine r_ald0 dX5_begin_0 ?_
  refine r_iconst dX5_begin_1 ?_
  refine s_putZ hM fp_X5_15 (hk.1) rfl (by omega) dX5_begin_2 (fun hM2 => ?_)
  refine r_ald0 dX5_begin_5 ?_
  refine r_ild1 dX5_begin_6 ?_
  refine s_putI hM2 fp_X5_19 (hk.1) rfl (by omega) dX5_begin_7 (fun hM7 => ?_)
  refine r_ald0 dX5_begin_10 ?_
  refine r_ild2 dX5_begin_11 ?_
  refine s_putI hM7 fp_X5_23 (hk.1) rfl (by omega) dX5_begin_12 (fun hM12 => ?_)
  refine r_iconst dX5_begin_15 ?_
  refine r_ist3 dX5_begin_16 rfl ?_
  exact L17 41 _ _  hM12 (by omega) (by exact rng_0 _ _ _ _) (by omega)
set_option maxHeartbeats 4000000 in
theorem c_X5_holds (E : xE) {M : xMem} {k : Nat} {i n : Int} (hk : xRw k) (hsz : 0 ≤ M k 3 ∧ M k 3 ≤ 40) (hi : -2147483648 ≤ i ∧ i < 2147483648) (hn : -2147483648 ≤ n ∧ n < 2147483648) : Ct E mX5_holds 3 0 [xr E k, xi i, xi n] M (some (xi (b2i (0 ≤ n ∧ 0 ≤ i ∧ i ≤ M k 3 - n)))) (M) := by
  refine Ct.of 0 3 (by rfl) (by decide +kernel) (fun hM => ?_)
  show VS E mX5_holds 0 _ _ 0 [some (xr E k), some (xi i), some (xi n)] [] M
  refine r_ild2 dX5_holds_0 ?_
  refine r_if_lt 22 dX5_holds_1 (by decide) (by omega) (fun c1 => ?_) (fun c1 => ?_)
  · skip
    refine r_iconst dX5_holds_22 ?_
    exact s_zret hM rfl (by omega) dX5_holds_23 (by unfold b2i; split <;> omega) (by rfl)
  refine r_ild1 dX5_holds_4 ?_
  refine r_if_lt 22 dX5_holds_5 (by decide) (by omega) (fun c5 => ?_) (fun c5 => ?_)
  · skip
    refine r_iconst dX5_holds_22 ?_
    exact s_zret hM rfl (by omega) dX5_holds_23 (by unfold b2i; split <;> omega) (by rfl)
  refine r_ild1 dX5_holds_8 ?_
  refine r_ald0 dX5_holds_9 ?_
  refine s_getI hM fi_X5_23 (hk.1) rfl dX5_holds_10 (fun g10 => ?_)
  refine r_ild2 dX5_holds_13 ?_
  refine r_isub dX5_holds_14 ?_
  refine r_icmp_gt 22 dX5_holds_15 (by decide) (by omega) (by omega) (fun c15 => ?_) (fun c15 => ?_)
  · skip
    refine r_iconst dX5_holds_22 ?_
    exact s_zret hM rfl (by omega) dX5_holds_23 (by unfold b2i; split <;> omega) (by rfl)
  refine r_iconst dX5_holds_18 ?_
  refine r_goto 23 dX5_holds_19 (by decide) ?_
  exact s_zret hM rfl (by omega) dX5_holds_23 (by unfold b2i; split <;> omega) (by rfl)
set_option maxHeartbeats 4000000 in
theorem c_X5_put (E : xE) {M : xMem} {k : Nat} {i v : Int} (hk : xRw k) (hi : 0 ≤ i ∧ i < 40) (hv : -2147483648 ≤ v ∧ v < 2147483648) : Ct E mX5_put 3 0 [xr E k, xi i, xi v] M (some (xi (laneV (M k 2) v))) (mS M (k + 1) i.toNat (laneV (M k 2) v)) := by
  refine Ct.of 0 3 (by rfl) (by decide +kernel) (fun hM => ?_)
  show VS E mX5_put 0 _ _ 0 [some (xr E k), some (xi i), some (xi v)] [] M
  have L31 : ∀ (x : Int), (x = laneV (M k 2) v) → (-2147483648 ≤ x ∧ x < 2147483648) → VS E mX5_put 0 (some (xi (laneV (M k 2) v))) (mS M (k + 1) i.toNat (laneV (M k 2) v)) 31 [some (xr E k), some (xi i), some (xi v)] [xi x, xi i, xr E (k + 1)] M := by
    intro x  hx hr
    refine s_iast hM (hk.2.1) (by omega) (by decide) (by omega) dX5_put_31 (fun hM31 => ?_)
    refine r_ald0 dX5_put_32 ?_
    refine s_getR fi_X5_9 (hk.1) rfl dX5_put_33 ?_
    refine r_ild1 dX5_put_36 ?_
    refine s_iald hM31 (hk.2.1) (by omega) (by decide) dX5_put_37 (fun g37 => ?_)
    try simp (disch := omega) only [mS_ne, mS_eq]
    exact s_iret hM31 rfl dX5_put_38 (by first | exact hx | (rw [mS_eq]; exact hx)) (by rw [hx])
  refine r_ald0 dX5_put_0 ?_
  refine s_getR fi_X5_9 (hk.1) rfl dX5_put_1 ?_
  refine r_ild1 dX5_put_4 ?_
  refine r_ald0 dX5_put_5 ?_
  refine s_getI hM fi_X5_19 (hk.1) rfl dX5_put_6 (fun g6 => ?_)
  refine r_if_ne 17 dX5_put_9 (by decide) (by omega) (fun c9 => ?_) (fun c9 => ?_)
  · skip
    refine r_ald0 dX5_put_17 ?_
    refine s_getI hM fi_X5_19 (hk.1) rfl dX5_put_18 (fun g18 => ?_)
    refine r_iconst dX5_put_21 ?_
    refine r_icmp_ne 30 dX5_put_22 (by decide) (by omega) (by omega) (fun c22 => ?_) (fun c22 => ?_)
    · skip
      refine r_ild2 dX5_put_30 ?_
      exact L31 _  (by unfold laneV; split <;> (try split) <;> first | rfl | omega) (by omega)
    refine r_ild2 dX5_put_25 ?_
    refine r_i2s dX5_put_26 (fun g26 => ?_)
    refine r_goto 31 dX5_put_27 (by decide) ?_
    exact L31 _  (by unfold laneV; split <;> (try split) <;> first | rfl | omega) (by omega)
  refine r_ild2 dX5_put_12 ?_
  refine r_i2b dX5_put_13 (fun g13 => ?_)
  refine r_goto 31 dX5_put_14 (by decide) ?_
  exact L31 _  (by unfold laneV; split <;> (try split) <;> first | rfl | omega) (by omega)
set_option maxHeartbeats 4000000 in
theorem c_X5_allWithin (E : xE) {M : xMem} {k : Nat} {i n lo hi : Int} (hk : xRw k) (hi0 : 0 ≤ i ∧ 0 ≤ n ∧ i + n ≤ 40) (hlo : -2147483648 ≤ lo ∧ lo < 2147483648) (hhi : -2147483648 ≤ hi ∧ hi < 2147483648) : Ct E mX5_allWithin 6 0 [xr E k, xi i, xi n, xi lo, xi hi] M (some (xi (b2i (allW (M (k + 1)) lo hi n.toNat i = true)))) (M) := by
  refine Ct.of 1 6 (by rfl) (by decide +kernel) (fun hM => ?_)
  show VS E mX5_allWithin 0 _ _ 0 [some (xr E k), some (xi i), some (xi n), some (xi lo), some (xi hi), none] [] M
  have L3 : ∀ (fu : Nat) (j : Int), (i ≤ j ∧ j ≤ i + n) → (allW (M (k + 1)) lo hi (i + n - j).toNat j = allW (M (k + 1)) lo hi n.toNat i) → (i + n - j).toNat < fu → VS E mX5_allWithin 0 (some (xi (b2i (allW (M (k + 1)) lo hi n.toNat i = true)))) (M) 3 [some (xr E k), some (xi i), some (xi n), some (xi lo), some (xi hi), some (xi j)] [] M := by
    intro fu
    induction fu with
    | zero => intro j  hb hi hme; exact absurd hme (Nat.not_lt_zero _)
    | succ fu ih =>
      intro j  hb hi hme
      refine r_ild5 dX5_allWithin_3 ?_
      refine r_ild1 dX5_allWithin_5 ?_
      refine r_ild2 dX5_allWithin_6 ?_
      refine r_iadd dX5_allWithin_7 ?_
      refine r_icmp_ge 42 dX5_allWithin_8 (by decide) (by omega) (by omega) (fun c8 => ?_) (fun c8 => ?_)
      · skip
        refine r_iconst dX5_allWithin_42 ?_
        exact s_zret hM rfl (by omega) dX5_allWithin_43 (by rw [← hi, show (i + n - j).toNat = 0 by omega]; rfl) (by rfl)
      refine r_ald0 dX5_allWithin_11 ?_
      refine s_getR fi_X5_9 (hk.1) rfl dX5_allWithin_12 ?_
      refine r_ild5 dX5_allWithin_15 ?_
      refine s_iald hM (hk.2.1) (by omega) (by decide) dX5_allWithin_17 (fun g17 => ?_)
      refine r_ild3 dX5_allWithin_18 ?_
      refine r_icmp_lt 34 dX5_allWithin_19 (by decide) (by omega) (by omega) (fun c19 => ?_) (fun c19 => ?_)
      · skip
        refine r_iconst dX5_allWithin_34 ?_
        exact s_zret hM rfl (by omega) dX5_allWithin_35 (by rw [← hi, allW_step (i := j) (by omega), decide_eq_false (by omega), Bool.false_and]; rfl) (by rfl)
      refine r_ald0 dX5_allWithin_22 ?_
      refine s_getR fi_X5_9 (hk.1) rfl dX5_allWithin_23 ?_
      refine r_ild5 dX5_allWithin_26 ?_
      refine s_iald hM (hk.2.1) (by omega) (by decide) dX5_allWithin_28 (fun g28 => ?_)
      refine r_ild4 dX5_allWithin_29 ?_
      refine r_icmp_le 36 dX5_allWithin_31 (by decide) (by omega) (by omega) (fun c31 => ?_) (fun c31 => ?_)
      · skip
        refine r_iinc5 dX5_allWithin_36 rfl ?_
        refine r_goto 3 dX5_allWithin_39 (by decide) ?_
        exact ih _  (by omega) (by rw [← hi, allW_step (i := j) (by omega), decide_eq_true (by omega), Bool.true_and]) (by omega)
      refine r_iconst dX5_allWithin_34 ?_
      exact s_zret hM rfl (by omega) dX5_allWithin_35 (by rw [← hi, allW_step (i := j) (by omega), decide_eq_false (by omega), Bool.false_and]; rfl) (by rfl)
  refine r_ild1 dX5_allWithin_0 ?_
  refine r_ist5 dX5_allWithin_1 rfl ?_
  exact L3 (n.toNat + 1) _  (by omega) (by rw [show i + n - i = n by omega]) (by omega)
set_option maxHeartbeats 4000000 in
theorem c_X7_begin (E : xE) {M : xMem} {pu w : Int} (hpu : 0 ≤ pu ∧ pu ≤ 99) (hw : 0 ≤ w ∧ w ≤ 60) : Ct E mX7_begin 4 0 [xr E 147, xi pu, xi w] M (none) (thB M pu w) := by
  refine Ct.of 1 4 (by rfl) (by decide +kernel) (fun hM => ?_)
  show VS E mX7_begin 0 _ _ 0 [some (xr E 147), some (xi pu), some (xi w), none] [] M
  have L7 : ∀ (fu : Nat) (i : Int) (Mc : xMem), InR Mc → (0 ≤ i ∧ i ≤ 61) → (Mc = rngM (mS M 147 1 w) 148 0 (fun _ => -1000000) i) → (61 - i).toNat < fu → VS E mX7_begin 0 (none) (thB M pu w) 7 [some (xr E 147), some (xi pu), some (xi w), some (xi i)] [] Mc := by
    intro fu
    induction fu with
    | zero => intro i Mc hML7 hb hMc hme; exact absurd hme (Nat.not_lt_zero _)
    | succ fu ih =>
      intro i Mc hML7 hb hMc hme
      refine r_ild3 dX7_begin_7 ?_
      refine r_bipush dX7_begin_8 (by decide +kernel) ?_
      refine r_icmp_gt 27 dX7_begin_10 (by decide) (by omega) (by omega) (fun c10 => ?_) (fun c10 => ?_)
      · skip
        refine r_ald0 dX7_begin_27 ?_
        refine s_getR fi_X7_9 (sh_147) rfl dX7_begin_28 ?_
        refine r_iconst dX7_begin_31 ?_
        refine r_ild1 dX7_begin_32 ?_
        refine s_iast hML7 (sh_148) (by omega) (by decide) (by omega) dX7_begin_33 (fun hM33 => ?_)
        exact s_vret hM33 rfl dX7_begin_34 (by rw [hMc, show i = 61 by omega]; rfl)
      refine r_ald0 dX7_begin_13 ?_
      refine s_getR fi_X7_9 (sh_147) rfl dX7_begin_14 ?_
      refine r_ild3 dX7_begin_17 ?_
      refine r_ldc (-1000000) dX7_begin_18 wC_X7_19 ?_
      refine s_iast hML7 (sh_148) (by omega) (by decide) (by omega) dX7_begin_20 (fun hM20 => ?_)
      refine r_iinc3 dX7_begin_21 rfl ?_
      refine r_goto 7 dX7_begin_24 (by decide) ?_
      exact ih _ _  hM20 (by omega) (by rw [hMc]; exact rng_0s (by omega) rfl) (by omega)
  refine r_ald0 dX7_begin_0 ?_
  refine r_ild2 dX7_begin_1 ?_
  refine s_putI hM fp_X7_15 (sh_147) rfl (by omega) dX7_begin_2 (fun hM2 => ?_)
  refine r_iconst dX7_begin_5 ?_
  refine r_ist3 dX7_begin_6 rfl ?_
  exact L7 62 _ _  hM2 (by omega) (by exact rng_0 _ _ _ _) (by omega)
set_option maxHeartbeats 4000000 in
theorem c_X7_passWeek (E : xE) {M : xMem} {pr ra inc : Int} (hpr : 1 ≤ pr ∧ pr ≤ 9) (hra : 1 ≤ ra ∧ ra ≤ 60) (hinc : 0 ≤ inc ∧ inc ≤ 20) (hwt : 0 ≤ M 147 1 ∧ M 147 1 ≤ 60) (hF : FI (M 148)) : Ct E mX7_passWeek 8 1 [xr E 147, xi pr, xi ra, xi inc] M (none) (thW M pr ra inc (-1)) := by
  refine Ct.of 4 8 (by rfl) (by decide +kernel) (fun hM => ?_)
  show VS E mX7_passWeek 1 _ _ 0 [some (xr E 147), some (xi pr), some (xi ra), some (xi inc), none, none, none, none] [] M
  have L18 : ∀ (fu : Nat) (b : Int) (Mc : xMem) (r n : Int), InR Mc → (0 ≤ b ∧ b ≤ M 147 1) → (Mc = thW M pr ra inc b) → ((∀ (Mc2 : xMem), InR Mc2 → Mc2 = thW M pr ra inc (b - 1) → VS E mX7_passWeek 1 (none) (thW M pr ra inc (-1)) 6 [some (xr E 147), some (xi pr), some (xi ra), some (xi inc), some (xi (b + -1)), none, none, none] [] Mc2)) → (0 ≤ n ∧ n ≤ min ra b + 1) → (foldI (rstF (M 148) pr b) (min ra b + 1 - n).toNat n r = rstT (M 148) pr ra b) → (r = -1000000 ∨ (0 ≤ r ∧ r ≤ 99)) → (min ra b + 1 - n).toNat < fu → VS E mX7_passWeek 1 (none) (thW M pr ra inc (-1)) 18 [some (xr E 147), some (xi pr), some (xi ra), some (xi inc), some (xi b), some (xi r), some (xi n), none] [] Mc := by
    intro fu
    induction fu with
    | zero => intro b Mc r n hML18 hb hMc hgo hn hi hr hme; exact absurd hme (Nat.not_lt_zero _)
    | succ fu ih =>
      intro b Mc r n hML18 hb hMc hgo hn hi hr hme
      refine r_ild6 dX7_passWeek_18 ?_
      refine r_ild2 dX7_passWeek_20 ?_
      refine r_icmp_gt 79 dX7_passWeek_21 (by decide) (by omega) (by omega) (fun c21 => ?_) (fun c21 => ?_)
      · skip
        have hre : r = rstT (M 148) pr ra b := (foldI_end (by omega)).symm.trans hi
        have hfin : ∀ x, x = nvT (M 148) pr ra inc b → mS (thW M pr ra inc b) 148 b.toNat x = thW M pr ra inc (b - 1) := fun x hx => by rw [hx]; exact thW_s (by omega)
        refine r_ald0 dX7_passWeek_79 ?_
        refine s_getR fi_X7_9 (sh_147) rfl dX7_passWeek_80 ?_
        refine r_ild4 dX7_passWeek_83 ?_
        refine r_ild5 dX7_passWeek_85 ?_
        refine r_ldc (-1000000) dX7_passWeek_87 wC_X7_19 ?_
        refine r_icmp_ne 97 dX7_passWeek_89 (by decide) (by omega) (by omega) (fun c89 => ?_) (fun c89 => ?_)
        · skip
          refine r_bipush dX7_passWeek_97 (by decide +kernel) ?_
          refine r_ild5 dX7_passWeek_99 ?_
          refine r_ild3 dX7_passWeek_101 ?_
          refine r_iadd dX7_passWeek_102 ?_
          refine r_min wM_X7_26 wT_min wI_J9 wD_min (Nat.le_of_ble_eq_true rfl) (by decide) (Nat.le_refl 0) (Nat.le_refl 0) (by omega) (by omega) dX7_passWeek_103 ?_
          refine s_iast hML18 (sh_148) (by omega) (by decide) (by omega) dX7_passWeek_106 (fun hM106 => ?_)
          refine r_iinc4 dX7_passWeek_107 rfl ?_
          refine r_goto 6 dX7_passWeek_110 (by decide) ?_
          refine r_fgt5 ?_
          refine r_fgt6 ?_
          refine r_fgt7 ?_
          exact hgo _ hM106 (by rw [hMc]; exact hfin _ (by unfold nvT; rw [← hre]; split <;> first | rfl | contradiction))
        refine r_ldc (-1000000) dX7_passWeek_92 wC_X7_19 ?_
        refine r_goto 106 dX7_passWeek_94 (by decide) ?_
        refine s_iast hML18 (sh_148) (by omega) (by decide) (by omega) dX7_passWeek_106 (fun hM106 => ?_)
        refine r_iinc4 dX7_passWeek_107 rfl ?_
        refine r_goto 6 dX7_passWeek_110 (by decide) ?_
        refine r_fgt5 ?_
        refine r_fgt6 ?_
        refine r_fgt7 ?_
        exact hgo _ hM106 (by rw [hMc]; exact hfin _ (by unfold nvT; rw [← hre]; split <;> first | rfl | contradiction))
      refine r_ild6 dX7_passWeek_24 ?_
      refine r_ild4 dX7_passWeek_26 ?_
      refine r_icmp_gt 79 dX7_passWeek_28 (by decide) (by omega) (by omega) (fun c28 => ?_) (fun c28 => ?_)
      · skip
        have hre : r = rstT (M 148) pr ra b := (foldI_end (by omega)).symm.trans hi
        have hfin : ∀ x, x = nvT (M 148) pr ra inc b → mS (thW M pr ra inc b) 148 b.toNat x = thW M pr ra inc (b - 1) := fun x hx => by rw [hx]; exact thW_s (by omega)
        refine r_ald0 dX7_passWeek_79 ?_
        refine s_getR fi_X7_9 (sh_147) rfl dX7_passWeek_80 ?_
        refine r_ild4 dX7_passWeek_83 ?_
        refine r_ild5 dX7_passWeek_85 ?_
        refine r_ldc (-1000000) dX7_passWeek_87 wC_X7_19 ?_
        refine r_icmp_ne 97 dX7_passWeek_89 (by decide) (by omega) (by omega) (fun c89 => ?_) (fun c89 => ?_)
        · skip
          refine r_bipush dX7_passWeek_97 (by decide +kernel) ?_
          refine r_ild5 dX7_passWeek_99 ?_
          refine r_ild3 dX7_passWeek_101 ?_
          refine r_iadd dX7_passWeek_102 ?_
          refine r_min wM_X7_26 wT_min wI_J9 wD_min (Nat.le_of_ble_eq_true rfl) (by decide) (Nat.le_refl 0) (Nat.le_refl 0) (by omega) (by omega) dX7_passWeek_103 ?_
          refine s_iast hML18 (sh_148) (by omega) (by decide) (by omega) dX7_passWeek_106 (fun hM106 => ?_)
          refine r_iinc4 dX7_passWeek_107 rfl ?_
          refine r_goto 6 dX7_passWeek_110 (by decide) ?_
          refine r_fgt5 ?_
          refine r_fgt6 ?_
          refine r_fgt7 ?_
          exact hgo _ hM106 (by rw [hMc]; exact hfin _ (by unfold nvT; rw [← hre]; split <;> first | rfl | contradiction))
        refine r_ldc (-1000000) dX7_passWeek_92 wC_X7_19 ?_
        refine r_goto 106 dX7_passWeek_94 (by decide) ?_
        refine s_iast hML18 (sh_148) (by omega) (by decide) (by omega) dX7_passWeek_106 (fun hM106 => ?_)
        refine r_iinc4 dX7_passWeek_107 rfl ?_
        refine r_goto 6 dX7_passWeek_110 (by decide) ?_
        refine r_fgt5 ?_
        refine r_fgt6 ?_
        refine r_fgt7 ?_
        exact hgo _ hM106 (by rw [hMc]; exact hfin _ (by unfold nvT; rw [← hre]; split <;> first | rfl | contradiction))
      have eF : Mc 148 (b - n).toNat = M 148 (b - n).toNat := by rw [hMc]; exact if_neg (by omega)
      have hf := hF (b - n).toNat (by omega)
      have hm := mul_b (a := n) (A := 60) (b := pr) (B := 9) (by omega) (by omega)
      refine r_ald0 dX7_passWeek_31 ?_
      refine s_getR fi_X7_9 (sh_147) rfl dX7_passWeek_32 ?_
      refine r_ild4 dX7_passWeek_35 ?_
      refine r_ild6 dX7_passWeek_37 ?_
      refine r_isub dX7_passWeek_39 ?_
      refine s_iald hML18 (sh_148) (by omega) (by decide) dX7_passWeek_40 (fun g40 => ?_)
      refine r_ist7 dX7_passWeek_41 rfl ?_
      refine r_ild7 dX7_passWeek_43 ?_
      refine r_ldc (-1000000) dX7_passWeek_45 wC_X7_19 ?_
      refine r_icmp_eq 73 dX7_passWeek_47 (by decide) (by omega) (by omega) (fun c47 => ?_) (fun c47 => ?_)
      · skip
        refine r_iinc6 dX7_passWeek_73 rfl ?_
        refine r_goto 18 dX7_passWeek_76 (by decide) ?_
        refine r_fgt7 ?_
        exact ih _ _ _ _  hML18 (by omega) (by assumption) hgo (by omega) (by exact foldI_go (by omega) hi (show (if ¬ M 148 (b - n).toNat = -1000000 ∧ n * pr ≤ M 148 (b - n).toNat then max r (M 148 (b - n).toNat - n * pr) else r) = _ by rw [← eF]; split <;> first | rfl | (exfalso; omega))) (by omega) (by omega)
      refine r_ild7 dX7_passWeek_50 ?_
      refine r_ild6 dX7_passWeek_52 ?_
      refine r_ild1 dX7_passWeek_54 ?_
      refine r_imul dX7_passWeek_55 ?_
      refine r_icmp_lt 73 dX7_passWeek_56 (by decide) (by omega) (by omega) (fun c56 => ?_) (fun c56 => ?_)
      · skip
        refine r_iinc6 dX7_passWeek_73 rfl ?_
        refine r_goto 18 dX7_passWeek_76 (by decide) ?_
        refine r_fgt7 ?_
        exact ih _ _ _ _  hML18 (by omega) (by assumption) hgo (by omega) (by exact foldI_go (by omega) hi (show (if ¬ M 148 (b - n).toNat = -1000000 ∧ n * pr ≤ M 148 (b - n).toNat then max r (M 148 (b - n).toNat - n * pr) else r) = _ by rw [← eF]; split <;> first | rfl | (exfalso; omega))) (by omega) (by omega)
      refine r_ild5 dX7_passWeek_59 ?_
      refine r_ild7 dX7_passWeek_61 ?_
      refine r_ild6 dX7_passWeek_63 ?_
      refine r_ild1 dX7_passWeek_65 ?_
      refine r_imul dX7_passWeek_66 ?_
      refine r_isub dX7_passWeek_67 ?_
      refine r_max wM_X7_20 wT_max wI_J9 wD_max (Nat.le_of_ble_eq_true rfl) (by decide) (Nat.le_refl 0) (Nat.le_refl 0) (by omega) (by omega) dX7_passWeek_68 ?_
      refine r_ist5 dX7_passWeek_71 rfl ?_
      refine r_iinc6 dX7_passWeek_73 rfl ?_
      refine r_goto 18 dX7_passWeek_76 (by decide) ?_
      refine r_fgt7 ?_
      exact ih _ _ _ _  hML18 (by omega) (by assumption) hgo (by omega) (by exact foldI_go (by omega) hi (show (if ¬ M 148 (b - n).toNat = -1000000 ∧ n * pr ≤ M 148 (b - n).toNat then max r (M 148 (b - n).toNat - n * pr) else r) = _ by rw [← eF]; split <;> first | rfl | (exfalso; omega))) (by omega) (by omega)
  have L6 : ∀ (fu : Nat) (b : Int) (Mc : xMem), InR Mc → (-1 ≤ b ∧ b ≤ M 147 1) → (Mc = thW M pr ra inc b) → (b + 1).toNat < fu → VS E mX7_passWeek 1 (none) (thW M pr ra inc (-1)) 6 [some (xr E 147), some (xi pr), some (xi ra), some (xi inc), some (xi b), none, none, none] [] Mc := by
    intro fu
    induction fu with
    | zero => intro b Mc hML6 hb hMc hme; exact absurd hme (Nat.not_lt_zero _)
    | succ fu ih =>
      intro b Mc hML6 hb hMc hme
      refine r_ild4 dX7_passWeek_6 ?_
      refine r_if_lt 113 dX7_passWeek_8 (by decide) (by omega) (fun c8 => ?_) (fun c8 => ?_)
      · skip
        exact s_vret hML6 rfl dX7_passWeek_113 (by rw [hMc, show b = -1 by omega])
      refine r_ldc (-1000000) dX7_passWeek_11 wC_X7_19 ?_
      refine r_ist5 dX7_passWeek_13 rfl ?_
      refine r_iconst dX7_passWeek_15 ?_
      refine r_ist6 dX7_passWeek_16 rfl ?_
      exact L18 62 _ _ _ _  hML6 (by omega) (by assumption) (fun Mc2 h1 h2 => ih _ Mc2 h1 (by omega) h2 (by omega)) (by omega) (by exact foldI_0.symm) (by omega) (by omega)
  refine r_ald0 dX7_passWeek_0 ?_
  refine s_getI hM fi_X7_15 (sh_147) rfl dX7_passWeek_1 (fun g1 => ?_)
  refine r_ist4 dX7_passWeek_4 rfl ?_
  exact L6 62 _ _  hM (by omega) (by exact thW_0 M pr ra inc) (by omega)
set_option maxHeartbeats 4000000 in
theorem c_X7_mostLeft (E : xE) {M : xMem}  (hwt : 0 ≤ M 147 1 ∧ M 147 1 ≤ 60) : Ct E mX7_mostLeft 1 0 [xr E 147] M (some (xi (M 148 (M 147 1).toNat))) (M) := by
  refine Ct.of 0 1 (by rfl) (by decide +kernel) (fun hM => ?_)
  show VS E mX7_mostLeft 0 _ _ 0 [some (xr E 147)] [] M
  refine r_ald0 dX7_mostLeft_0 ?_
  refine s_getR fi_X7_9 (sh_147) rfl dX7_mostLeft_1 ?_
  refine r_ald0 dX7_mostLeft_4 ?_
  refine s_getI hM fi_X7_15 (sh_147) rfl dX7_mostLeft_5 (fun g5 => ?_)
  refine s_iald hM (sh_148) (by omega) (by decide) dX7_mostLeft_8 (fun g8 => ?_)
  exact s_iret hM rfl dX7_mostLeft_9 (by rfl) (by rfl)
