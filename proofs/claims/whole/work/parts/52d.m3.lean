set_option maxHeartbeats 4000000 in
theorem c_X10_remember (E : xE) {M : xMem}  (hnx : 0 ≤ M 201 21 ∧ M 201 21 < 24) (hkp : 0 ≤ M 201 20 ∧ M 201 20 ≤ 24) : Ct E mX10_remember 2 0 [xr E 201] M (none) (reM M) := by
  refine Ct.of 1 2 (by rfl) (by decide +kernel) (fun hM => ?_)
  show VS E mX10_remember 0 _ _ 0 [some (xr E 201), none] [] M
  have L2 : ∀ (fu : Nat) (k : Int) (Mc : xMem), InR Mc → (0 ≤ k ∧ k ≤ 21) → (Mc = rngM M 212 (21 * M 201 21) (M 210) k) → (21 - k).toNat < fu → VS E mX10_remember 0 (none) (reM M) 2 [some (xr E 201), some (xi k)] [] Mc := by
    intro fu
    induction fu with
    | zero => intro k Mc hML2 hb hMc hme; exact absurd hme (Nat.not_lt_zero _)
    | succ fu ih =>
      intro k Mc hML2 hb hMc hme
      have w1 : ∀ j, Mc 201 j = M 201 j := fun j => by rw [hMc, rng_ne (by decide)]
      have w10 : ∀ j, Mc 210 j = M 210 j := fun j => by rw [hMc, rng_ne (by decide)]
      refine r_ild1 dX10_remember_2 ?_
      refine r_bipush dX10_remember_3 (by decide +kernel) ?_
      refine r_icmp_ge 34 dX10_remember_5 (by decide) (by omega) (by omega) (fun c5 => ?_) (fun c5 => ?_)
      · skip
        have hk21 : k = 21 := by omega
        subst hk21
        refine r_ald0 dX10_remember_34 ?_
        refine r_ald0 dX10_remember_35 ?_
        refine s_getI hML2 fi_X10_190 (sh_201) rfl dX10_remember_36 (fun g36 => ?_)
        try simp (disch := omega) only [Int.reduceToNat]
        try simp only [w1]
        refine r_iconst dX10_remember_39 ?_
        refine r_iadd dX10_remember_40 ?_
        refine r_bipush dX10_remember_41 (by decide +kernel) ?_
        refine r_irem dX10_remember_43 (by omega) (by omega) ?_
        refine s_putI hML2 fp_X10_190 (sh_201) rfl (by omega) dX10_remember_44 (fun hM44 => ?_)
        refine r_ald0 dX10_remember_47 ?_
        refine r_dup dX10_remember_48 rfl ?_
        refine s_getI hM44 fi_X10_155 (sh_201) rfl dX10_remember_49 (fun g49 => ?_)
        try simp (disch := omega) only [Int.reduceToNat]
        try simp (disch := omega) only [mS_ne, w1]
        refine r_ald0 dX10_remember_52 ?_
        refine s_getI hM44 fi_X10_155 (sh_201) rfl dX10_remember_53 (fun g53 => ?_)
        try simp (disch := omega) only [Int.reduceToNat]
        refine r_bipush dX10_remember_56 (by decide +kernel) ?_
        try simp (disch := omega) only [mS_ne, w1]
        refine r_icmp_ge 65 dX10_remember_58 (by decide) (by omega) (by omega) (fun c58 => ?_) (fun c58 => ?_)
        · skip
          refine r_iconst dX10_remember_65 ?_
          refine r_iadd dX10_remember_66 ?_
          refine s_putI hM44 fp_X10_155 (sh_201) rfl (by omega) dX10_remember_67 (fun hM67 => ?_)
          exact s_vret hM67 rfl dX10_remember_70 (by rw [hMc]; unfold reM; first | (rw [if_pos (by omega)]; done) | (rw [if_neg (by omega), Int.add_zero]; done))
        refine r_iconst dX10_remember_61 ?_
        refine r_goto 66 dX10_remember_62 (by decide) ?_
        refine r_iadd dX10_remember_66 ?_
        refine s_putI hM44 fp_X10_155 (sh_201) rfl (by omega) dX10_remember_67 (fun hM67 => ?_)
        exact s_vret hM67 rfl dX10_remember_70 (by rw [hMc]; unfold reM; first | (rw [if_pos (by omega)]; done) | (rw [if_neg (by omega), Int.add_zero]; done))
      refine r_ald0 dX10_remember_8 ?_
      refine s_getR fi_X10_40 (sh_201) rfl dX10_remember_9 ?_
      refine r_bipush dX10_remember_12 (by decide +kernel) ?_
      refine r_ald0 dX10_remember_14 ?_
      refine s_getI hML2 fi_X10_190 (sh_201) rfl dX10_remember_15 (fun g15 => ?_)
      try simp (disch := omega) only [Int.reduceToNat]
      try simp only [w1]
      refine r_imul dX10_remember_18 ?_
      refine r_ild1 dX10_remember_19 ?_
      refine r_iadd dX10_remember_20 ?_
      refine r_ald0 dX10_remember_21 ?_
      refine s_getR fi_X10_34 (sh_201) rfl dX10_remember_22 ?_
      refine r_ild1 dX10_remember_25 ?_
      refine s_iald hML2 (sh_210) (by omega) (by decide) dX10_remember_26 (fun g26 => ?_)
      try simp (disch := omega) only [Int.reduceToNat]
      try simp only [w10]
      have hr27 := hM 210 k.toNat
      refine s_iast hML2 (sh_212) (by omega) (by decide) (by omega) dX10_remember_27 (fun hM27 => ?_)
      refine r_iinc1 dX10_remember_28 rfl ?_
      refine r_goto 2 dX10_remember_31 (by decide) ?_
      exact ih (k + 1) _  hM27 (by omega) (by rw [hMc]; exact rng_s (by omega) rfl) (by omega)
  refine r_iconst dX10_remember_0 ?_
  refine r_ist1 dX10_remember_1 rfl ?_
  exact L2 22 0 _  hM (by omega) (by exact rng_0 _ _ _ _) (by omega)
set_option maxHeartbeats 4000000 in
theorem c_X10_undo (E : xE) {M : xMem}  (hnx : 0 ≤ M 201 21 ∧ M 201 21 < 24) (hkp : 0 ≤ M 201 20 ∧ M 201 20 ≤ 24) : Ct E mX10_undo 2 0 [xr E 201] M (some (xi (yUndo M).1)) ((yUndo M).2) := by
  refine Ct.of 1 2 (by rfl) (by decide +kernel) (fun hM => ?_)
  show VS E mX10_undo 0 _ _ 0 [some (xr E 201), none] [] M
  have L38 : ∀ (fu : Nat) (k : Int) (Mc : xMem), InR Mc → (0 ≤ k ∧ k ≤ 21) → (Mc = rngM (mS (mS M 201 21 ((M 201 21 + 24 - 1) % 24)) 201 20 (M 201 20 - 1)) 210 0 (fun j => M 212 (21 * ((M 201 21 + 24 - 1) % 24) + j).toNat) k) → (¬ M 201 20 = 0) → (21 - k).toNat < fu → VS E mX10_undo 0 (some (xi (yUndo M).1)) ((yUndo M).2) 38 [some (xr E 201), some (xi k)] [] Mc := by
    intro fu
    induction fu with
    | zero => intro k Mc hML38 hb hMc hz hme; exact absurd hme (Nat.not_lt_zero _)
    | succ fu ih =>
      intro k Mc hML38 hb hMc hz hme
      have w21 : Mc 201 21 = ((M 201 21 + 24 - 1) % 24) := by rw [hMc, rng_ne (by decide), mS_ne (Or.inr (by decide)), mS_eq]
      have w20 : Mc 201 20 = M 201 20 - 1 := by rw [hMc, rng_ne (by decide), mS_eq]
      have w12 : ∀ j, Mc 212 j = M 212 j := fun j => by rw [hMc, rng_ne (by decide), mS_ne (Or.inl (by decide)), mS_ne (Or.inl (by decide))]
      refine r_ild1 dX10_undo_38 ?_
      refine r_bipush dX10_undo_39 (by decide +kernel) ?_
      refine r_icmp_ge 70 dX10_undo_41 (by decide) (by omega) (by omega) (fun c41 => ?_) (fun c41 => ?_)
      · skip
        refine r_ald0 dX10_undo_70 ?_
        refine s_getI hML38 fi_X10_155 (sh_201) rfl dX10_undo_71 (fun g71 => ?_)
        try simp (disch := omega) only [mS_ne, mS_eq, Int.reduceToNat]
        try simp only [w20]
        exact s_iret hML38 rfl dX10_undo_74 (by unfold yUndo; first | (rw [if_pos (by assumption)]; done) | (rw [if_neg (by assumption)]; done)) (by unfold yUndo; first | (rw [if_pos (by assumption)]; done) | (rw [if_neg (by assumption), hMc, show k = 21 by omega]; done))
      refine r_ald0 dX10_undo_44 ?_
      refine s_getR fi_X10_34 (sh_201) rfl dX10_undo_45 ?_
      refine r_ild1 dX10_undo_48 ?_
      refine r_ald0 dX10_undo_49 ?_
      refine s_getR fi_X10_40 (sh_201) rfl dX10_undo_50 ?_
      refine r_bipush dX10_undo_53 (by decide +kernel) ?_
      refine r_ald0 dX10_undo_55 ?_
      refine s_getI hML38 fi_X10_190 (sh_201) rfl dX10_undo_56 (fun g56 => ?_)
      try simp (disch := omega) only [mS_ne, mS_eq, Int.reduceToNat]
      try simp only [w21]
      refine r_imul dX10_undo_59 ?_
      refine r_ild1 dX10_undo_60 ?_
      refine r_iadd dX10_undo_61 ?_
      refine s_iald hML38 (sh_212) (by omega) (by decide) dX10_undo_62 (fun g62 => ?_)
      try simp (disch := omega) only [mS_ne, mS_eq, Int.reduceToNat]
      try simp only [w12]
      have hr63 := hM 212 (21 * ((M 201 21 + 24 - 1) % 24) + k).toNat
      refine s_iast hML38 (sh_210) (by omega) (by decide) (by omega) dX10_undo_63 (fun hM63 => ?_)
      refine r_iinc1 dX10_undo_64 rfl ?_
      refine r_goto 38 dX10_undo_67 (by decide) ?_
      exact ih (k + 1) _  hM63 (by omega) (by rw [hMc]; exact rng_0s (by omega) (by rw [show ((k.toNat : Nat) : Int) = k by omega])) (by assumption) (by omega)
  refine r_ald0 dX10_undo_0 ?_
  refine s_getI hM fi_X10_155 (sh_201) rfl dX10_undo_1 (fun g1 => ?_)
  try simp (disch := omega) only [Int.reduceToNat]
  refine r_if_ne 10 dX10_undo_4 (by decide) (by omega) (fun c4 => ?_) (fun c4 => ?_)
  · skip
    refine r_ald0 dX10_undo_10 ?_
    refine r_ald0 dX10_undo_11 ?_
    refine s_getI hM fi_X10_190 (sh_201) rfl dX10_undo_12 (fun g12 => ?_)
    try simp (disch := omega) only [Int.reduceToNat]
    refine r_bipush dX10_undo_15 (by decide +kernel) ?_
    refine r_iadd dX10_undo_17 ?_
    refine r_iconst dX10_undo_18 ?_
    refine r_isub dX10_undo_19 ?_
    refine r_bipush dX10_undo_20 (by decide +kernel) ?_
    refine r_irem dX10_undo_22 (by omega) (by omega) ?_
    refine s_putI hM fp_X10_190 (sh_201) rfl (by omega) dX10_undo_23 (fun hM23 => ?_)
    refine r_ald0 dX10_undo_26 ?_
    refine r_dup dX10_undo_27 rfl ?_
    refine s_getI hM23 fi_X10_155 (sh_201) rfl dX10_undo_28 (fun g28 => ?_)
    try simp (disch := omega) only [mS_ne, mS_eq, Int.reduceToNat]
    refine r_iconst dX10_undo_31 ?_
    refine r_isub dX10_undo_32 ?_
    refine s_putI hM23 fp_X10_155 (sh_201) rfl (by omega) dX10_undo_33 (fun hM33 => ?_)
    refine r_iconst dX10_undo_36 ?_
    refine r_ist1 dX10_undo_37 rfl ?_
    exact L38 22 0 _  hM33 (by omega) (by exact rng_0 _ _ _ _) (by assumption) (by omega)
  refine r_ldc (-1000002) dX10_undo_7 wC_X10_193 ?_
  exact s_iret hM rfl dX10_undo_9 (by unfold yUndo; first | (rw [if_pos (by assumption)]; done) | (rw [if_neg (by assumption)]; done)) (by unfold yUndo; first | (rw [if_pos (by assumption)]; done) | (rw [if_neg (by assumption), hMc, show k = 21 by omega]; done))
set_option maxHeartbeats 4000000 in
theorem c_X10_copyNow (E : xE) {M : xMem}   : Ct E mX10_copyNow 2 0 [xr E 201] M (none) (cnM M) := by
  refine Ct.of 1 2 (by rfl) (by decide +kernel) (fun hM => ?_)
  show VS E mX10_copyNow 0 _ _ 0 [some (xr E 201), none] [] M
  have L2 : ∀ (fu : Nat) (k : Int) (Mc : xMem), InR Mc → (0 ≤ k ∧ k ≤ 21) → (Mc = rngM M 211 0 (M 210) k) → (21 - k).toNat < fu → VS E mX10_copyNow 0 (none) (cnM M) 2 [some (xr E 201), some (xi k)] [] Mc := by
    intro fu
    induction fu with
    | zero => intro k Mc hML2 hb hMc hme; exact absurd hme (Nat.not_lt_zero _)
    | succ fu ih =>
      intro k Mc hML2 hb hMc hme
      have w10 : ∀ j, Mc 210 j = M 210 j := fun j => by rw [hMc, rng_ne (by decide)]
      refine r_ild1 dX10_copyNow_2 ?_
      refine r_bipush dX10_copyNow_3 (by decide +kernel) ?_
      refine r_icmp_ge 26 dX10_copyNow_5 (by decide) (by omega) (by omega) (fun c5 => ?_) (fun c5 => ?_)
      · skip
        exact s_vret hML2 rfl dX10_copyNow_26 (by rw [hMc, show k = 21 by omega]; rfl)
      refine r_ald0 dX10_copyNow_8 ?_
      refine s_getR fi_X10_37 (sh_201) rfl dX10_copyNow_9 ?_
      refine r_ild1 dX10_copyNow_12 ?_
      refine r_ald0 dX10_copyNow_13 ?_
      refine s_getR fi_X10_34 (sh_201) rfl dX10_copyNow_14 ?_
      refine r_ild1 dX10_copyNow_17 ?_
      refine s_iald hML2 (sh_210) (by omega) (by decide) dX10_copyNow_18 (fun g18 => ?_)
      try simp (disch := omega) only [Int.reduceToNat]
      try simp only [w10]
      have hr19 := hM 210 k.toNat
      refine s_iast hML2 (sh_211) (by omega) (by decide) (by omega) dX10_copyNow_19 (fun hM19 => ?_)
      refine r_iinc1 dX10_copyNow_20 rfl ?_
      refine r_goto 2 dX10_copyNow_23 (by decide) ?_
      exact ih (k + 1) _  hM19 (by omega) (by rw [hMc]; exact rng_0s (by omega) rfl) (by omega)
  refine r_iconst dX10_copyNow_0 ?_
  refine r_ist1 dX10_copyNow_1 rfl ?_
  exact L2 22 0 _  hM (by omega) (by exact rng_0 _ _ _ _) (by omega)
set_option maxHeartbeats 4000000 in
theorem c_X10_ahead (E : xE) {M : xMem} {n : Int} (hT : TI (tg (M 209))) (hG : GI (tg (M 209)) (sk (M 210)) 999) (hn6 : 0 ≤ n ∧ n ≤ 60) : Ct E mX10_ahead 3 4 [xr E 201, xi n] M (none) (ahM n.toNat (cnM M)) := by
  refine Ct.of 1 3 (by rfl) (by decide +kernel) (fun hM => ?_)
  show VS E mX10_ahead 4 _ _ 0 [some (xr E 201), some (xi n), none] [] M
  have L6 : ∀ (fu : Nat) (k : Int) (Mc : xMem), InR Mc → (0 ≤ k ∧ k ≤ n) → (Mc 209 = M 209) → (GI (tg (M 209)) (sk (Mc 211)) (999 + k)) → (ahM (n - k).toNat Mc = ahM n.toNat (cnM M)) → (n - k).toNat < fu → VS E mX10_ahead 4 (none) (ahM n.toNat (cnM M)) 6 [some (xr E 201), some (xi n), some (xi k)] [] Mc := by
    intro fu
    induction fu with
    | zero => intro k Mc hML6 hb h9 hg hi hme; exact absurd hme (Nat.not_lt_zero _)
    | succ fu ih =>
      intro k Mc hML6 hb h9 hg hi hme
      refine r_ild2 dX10_ahead_6 ?_
      refine r_ild1 dX10_ahead_7 ?_
      refine r_icmp_ge 25 dX10_ahead_8 (by decide) (by omega) (by omega) (fun c8 => ?_) (fun c8 => ?_)
      · skip
        exact s_vret hML6 rfl dX10_ahead_25 (by rw [← hi, show (n - k).toNat = 0 by omega]; rfl)
      refine r_ald0 dX10_ahead_11 ?_
      refine r_ald0 dX10_ahead_12 ?_
      refine s_getR fi_X10_37 (sh_201) rfl dX10_ahead_13 ?_
      refine s_callV1v hML6 (c_X10_passes E (by exact sh_211) (by decide) (by rw [h9]; exact hT) (by rw [h9]; exact hg.1) (by rw [h9]; exact hg.2.1)) cv_X10_passes wM_X10_201 (sh_201) rfl rfl (Nat.le_of_ble_eq_true rfl) (by decide) dX10_ahead_16 (fun hM16 => ?_)
      refine r_iinc2 dX10_ahead_19 rfl ?_
      refine r_goto 6 dX10_ahead_22 (by decide) ?_
      exact ih (k + 1) _  hM16 (by omega) (by rw [ps_lo (by decide)]; exact h9) (by have := ps_GI (M := Mc) (k := 211) (w := 999 + k) (by rw [h9]; exact hT) (by omega) (by rw [h9]; exact hg); rw [h9] at this; rw [show (999 + (k + 1) : Int) = 999 + k + 1 by omega]; exact this) (by rw [← hi, show (n - k).toNat = (n - (k + 1)).toNat + 1 by omega]; rfl) (by omega)
  refine r_ald0 dX10_ahead_0 ?_
  refine s_callV0v hM (c_X10_copyNow E ) cv_X10_copyNow wM_X10_221 (sh_201) rfl rfl (Nat.le_of_ble_eq_true rfl) (by decide) dX10_ahead_1 (fun hM1 => ?_)
  refine r_iconst dX10_ahead_4 ?_
  refine r_ist2 dX10_ahead_5 rfl ?_
  exact L6 61 0 _  hM1 (by omega) (by exact cn_row (by decide)) (by rw [Int.add_zero]; exact GI_SA (cn_SA hT) hG) (by rw [Int.sub_zero]) (by omega)
set_option maxHeartbeats 4000000 in
theorem c_X10_row (E : xE) {M : xMem} {r l n : Int} (hr : -2147483648 ≤ r ∧ r < 2147483648) (hl : -2147483648 ≤ l ∧ l < 2147483648) (hn : -2147483648 ≤ n ∧ n < 2147483648) : Ct E mX10_row 5 2 [xr E 201, xi r, xi l, xi n] M (some (xi ((yRow M r l n).1))) ((yRow M r l n).2) := by
  refine Ct.of 1 5 (by rfl) (by decide +kernel) (fun hM => ?_)
  show VS E mX10_row 2 _ _ 0 [some (xr E 201), some (xi r), some (xi l), some (xi n), none] [] M
  have L52 : ∀ (fu : Nat) (k : Int) (Mc : xMem), InR Mc → (0 ≤ k ∧ k ≤ n) → (Mc = rngM (mS (mS M 202 r.toNat n) 203 r.toNat l) 204 (40 * r) (fun _ => 0) k) → ((0 ≤ r ∧ r ≤ 7) ∧ (0 ≤ l ∧ l ≤ 2) ∧ n ≤ 40) → (n - k).toNat < fu → VS E mX10_row 2 (some (xi ((yRow M r l n).1))) ((yRow M r l n).2) 52 [some (xr E 201), some (xi r), some (xi l), some (xi n), some (xi k)] [] Mc := by
    intro fu
    induction fu with
    | zero => intro k Mc hML52 hb hMc hg hme; exact absurd hme (Nat.not_lt_zero _)
    | succ fu ih =>
      intro k Mc hML52 hb hMc hg hme
      refine r_ild4 dX10_row_52 ?_
      refine r_ild3 dX10_row_54 ?_
      refine r_icmp_ge 77 dX10_row_55 (by decide) (by omega) (by omega) (fun c55 => ?_) (fun c55 => ?_)
      · skip
        refine r_ald0 dX10_row_77 ?_
        refine r_ild3 dX10_row_78 ?_
        refine s_callV1r hML52 (c_X10_well E ) cv_X10_well wM_X10_83 (sh_201) rfl rfl (Nat.le_of_ble_eq_true rfl) (by decide) dX10_row_79 (fun hM79 => ?_)
        exact s_iret hM79 rfl dX10_row_82 (by unfold yRow mfn mfi; (repeat' split) <;> first | rfl | omega | (exfalso; omega)) (by first | (unfold yRow mfi; rw [if_neg (by omega), if_neg (by omega), hMc, show k = n by omega]; done) | (unfold yRow mfn mfi; (repeat' split) <;> first | rfl | omega | (exfalso; omega)))
      refine r_ald0 dX10_row_58 ?_
      refine s_getR fi_X10_16 (sh_201) rfl dX10_row_59 ?_
      refine r_bipush dX10_row_62 (by decide +kernel) ?_
      refine r_ild1 dX10_row_64 ?_
      refine r_imul dX10_row_65 ?_
      refine r_ild4 dX10_row_66 ?_
      refine r_iadd dX10_row_68 ?_
      refine r_iconst dX10_row_69 ?_
      refine s_iast hML52 (sh_204) (by omega) (by decide) (by omega) dX10_row_70 (fun hM70 => ?_)
      refine r_iinc4 dX10_row_71 rfl ?_
      refine r_goto 52 dX10_row_74 (by decide) ?_
      exact ih (k + 1) _  hM70 (by omega) (by rw [hMc]; exact rng_s (by omega) rfl) (by omega) (by omega)
  refine r_ild1 dX10_row_0 ?_
  refine s_callS1r hM (c_X10_isRow E (by first | with_reducible assumption | with_reducible exact xSt_9 | with_reducible exact xSt_13 | omega)) cs_X10_isRow wM_X10_74 (Nat.le_of_ble_eq_true rfl) (by decide) dX10_row_1 (fun _ => ?_)
  refine r_ifb_eq 22 dX10_row_4 (by decide) (fun c4 => ?_) (fun c4 => ?_)
  · skip
    refine r_ldc (-1000001) dX10_row_22 wC_X10_78 ?_
    exact s_iret hM rfl dX10_row_24 (by unfold yRow mfn mfi; (repeat' split) <;> first | rfl | omega | (exfalso; omega)) (by first | (unfold yRow mfi; rw [if_neg (by omega), if_neg (by omega), hMc, show k = n by omega]; done) | (unfold yRow mfn mfi; (repeat' split) <;> first | rfl | omega | (exfalso; omega)))
  refine r_ild2 dX10_row_7 ?_
  refine r_iconst dX10_row_8 ?_
  refine r_iconst dX10_row_9 ?_
  refine s_callS3r hM (c_X10_in E (by first | with_reducible assumption | with_reducible exact xSt_9 | with_reducible exact xSt_13 | omega) (by first | with_reducible assumption | with_reducible exact xSt_9 | with_reducible exact xSt_13 | omega) (by first | with_reducible assumption | with_reducible exact xSt_9 | with_reducible exact xSt_13 | omega)) cs_X10_in wM_X10_70 (Nat.le_of_ble_eq_true rfl) (by decide) dX10_row_10 (fun _ => ?_)
  refine r_ifb_eq 22 dX10_row_13 (by decide) (fun c13 => ?_) (fun c13 => ?_)
  · skip
    refine r_ldc (-1000001) dX10_row_22 wC_X10_78 ?_
    exact s_iret hM rfl dX10_row_24 (by unfold yRow mfn mfi; (repeat' split) <;> first | rfl | omega | (exfalso; omega)) (by first | (unfold yRow mfi; rw [if_neg (by omega), if_neg (by omega), hMc, show k = n by omega]; done) | (unfold yRow mfn mfi; (repeat' split) <;> first | rfl | omega | (exfalso; omega)))
  refine r_ild3 dX10_row_16 ?_
  refine r_bipush dX10_row_17 (by decide +kernel) ?_
  refine r_icmp_le 25 dX10_row_19 (by decide) (by omega) (by omega) (fun c19 => ?_) (fun c19 => ?_)
  · skip
    refine r_ild3 dX10_row_25 ?_
    refine r_if_ge 35 dX10_row_26 (by decide) (by omega) (fun c26 => ?_) (fun c26 => ?_)
    · skip
      refine r_ald0 dX10_row_35 ?_
      refine s_getR fi_X10_7 (sh_201) rfl dX10_row_36 ?_
      refine r_ild1 dX10_row_39 ?_
      refine r_ild3 dX10_row_40 ?_
      refine s_iast hM (sh_202) (by omega) (by decide) (by omega) dX10_row_41 (fun hM41 => ?_)
      refine r_ald0 dX10_row_42 ?_
      refine s_getR fi_X10_13 (sh_201) rfl dX10_row_43 ?_
      refine r_ild1 dX10_row_46 ?_
      refine r_ild2 dX10_row_47 ?_
      refine s_iast hM41 (sh_203) (by omega) (by decide) (by omega) dX10_row_48 (fun hM48 => ?_)
      refine r_iconst dX10_row_49 ?_
      refine r_ist4 dX10_row_50 rfl ?_
      exact L52 41 0 _  hM48 (by omega) (by exact rng_0 _ _ _ _) (by omega) (by omega)
    refine r_ald0 dX10_row_29 ?_
    refine r_iconst dX10_row_30 ?_
    refine s_callV1r hM (c_X10_meets E (by first | with_reducible assumption | with_reducible exact xSt_9 | with_reducible exact xSt_13 | omega)) cv_X10_meets wM_X10_79 (sh_201) rfl rfl (Nat.le_of_ble_eq_true rfl) (by decide) dX10_row_31 (fun hM31 => ?_)
    exact s_iret hM31 rfl dX10_row_34 (by unfold yRow mfn mfi; (repeat' split) <;> first | rfl | omega | (exfalso; omega)) (by first | (unfold yRow mfi; rw [if_neg (by omega), if_neg (by omega), hMc, show k = n by omega]; done) | (unfold yRow mfn mfi; (repeat' split) <;> first | rfl | omega | (exfalso; omega)))
  refine r_ldc (-1000001) dX10_row_22 wC_X10_78 ?_
  exact s_iret hM rfl dX10_row_24 (by unfold yRow mfn mfi; (repeat' split) <;> first | rfl | omega | (exfalso; omega)) (by first | (unfold yRow mfi; rw [if_neg (by omega), if_neg (by omega), hMc, show k = n by omega]; done) | (unfold yRow mfn mfi; (repeat' split) <;> first | rfl | omega | (exfalso; omega)))
set_option maxHeartbeats 4000000 in
theorem c_X10_set (E : xE) {M : xMem} {r i v : Int} (hr : -2147483648 ≤ r ∧ r < 2147483648) (hi : -2147483648 ≤ i ∧ i < 2147483648) (hv : -2147483648 ≤ v ∧ v < 2147483648) (hrw : ∀ i : Nat, i < 8 → (-1 ≤ M 202 i ∧ M 202 i ≤ 40) ∧ (0 ≤ M 203 i ∧ M 203 i ≤ 2)) : Ct E mX10_set 5 2 [xr E 201, xi r, xi i, xi v] M (some (xi ((ySet M r i v).1))) ((ySet M r i v).2) := by
  refine Ct.of 1 5 (by rfl) (by decide +kernel) (fun hM => ?_)
  show VS E mX10_set 2 _ _ 0 [some (xr E 201), some (xi r), some (xi i), some (xi v), none] [] M
  refine r_ild1 dX10_set_0 ?_
  refine s_callS1r hM (c_X10_isRow E (by first | with_reducible assumption | with_reducible exact xSt_9 | with_reducible exact xSt_13 | omega)) cs_X10_isRow wM_X10_74 (Nat.le_of_ble_eq_true rfl) (by decide) dX10_set_1 (fun _ => ?_)
  refine r_ifb_ne 10 dX10_set_4 (by decide) (fun c4 => ?_) (fun c4 => ?_)
  · skip
    have hr1 := hrw r.toNat (by omega)
    refine r_ald0 dX10_set_10 ?_
    refine s_getR fi_X10_7 (sh_201) rfl dX10_set_11 ?_
    refine r_ild1 dX10_set_14 ?_
    refine s_iald hM (sh_202) (by omega) (by decide) dX10_set_15 (fun g15 => ?_)
    try simp (disch := omega) only [Int.reduceToNat]
    refine r_if_ge 25 dX10_set_16 (by decide) (by omega) (fun c16 => ?_) (fun c16 => ?_)
    · skip
      refine r_ild2 dX10_set_25 ?_
      refine r_iconst dX10_set_26 ?_
      refine r_ald0 dX10_set_27 ?_
      refine s_getR fi_X10_7 (sh_201) rfl dX10_set_28 ?_
      refine r_ild1 dX10_set_31 ?_
      refine s_iald hM (sh_202) (by omega) (by decide) dX10_set_32 (fun g32 => ?_)
      try simp (disch := omega) only [Int.reduceToNat]
      refine r_iconst dX10_set_33 ?_
      refine r_isub dX10_set_34 ?_
      refine s_callS3r hM (c_X10_in E (by first | with_reducible assumption | with_reducible exact xSt_9 | with_reducible exact xSt_13 | omega) (by first | with_reducible assumption | with_reducible exact xSt_9 | with_reducible exact xSt_13 | omega) (by first | with_reducible assumption | with_reducible exact xSt_9 | with_reducible exact xSt_13 | omega)) cs_X10_in wM_X10_70 (Nat.le_of_ble_eq_true rfl) (by decide) dX10_set_35 (fun _ => ?_)
      refine r_ifb_ne 47 dX10_set_38 (by decide) (fun c38 => ?_) (fun c38 => ?_)
      · skip
        refine r_ald0 dX10_set_47 ?_
        refine s_getR fi_X10_13 (sh_201) rfl dX10_set_48 ?_
        refine r_ild1 dX10_set_51 ?_
        refine s_iald hM (sh_203) (by omega) (by decide) dX10_set_52 (fun g52 => ?_)
        try simp (disch := omega) only [Int.reduceToNat]
        refine r_if_ne 61 dX10_set_53 (by decide) (by omega) (fun c53 => ?_) (fun c53 => ?_)
        · skip
          refine r_ald0 dX10_set_61 ?_
          refine s_getR fi_X10_13 (sh_201) rfl dX10_set_62 ?_
          refine r_ild1 dX10_set_65 ?_
          refine s_iald hM (sh_203) (by omega) (by decide) dX10_set_66 (fun g66 => ?_)
          try simp (disch := omega) only [Int.reduceToNat]
          refine r_iconst dX10_set_67 ?_
          refine r_icmp_ne 76 dX10_set_68 (by decide) (by omega) (by omega) (fun c68 => ?_) (fun c68 => ?_)
          · skip
            refine r_ild3 dX10_set_76 ?_
            refine r_ist4 dX10_set_77 rfl ?_
            refine r_ald0 dX10_set_79 ?_
            refine s_getR fi_X10_16 (sh_201) rfl dX10_set_80 ?_
            refine r_bipush dX10_set_83 (by decide +kernel) ?_
            refine r_ild1 dX10_set_85 ?_
            refine r_imul dX10_set_86 ?_
            refine r_ild2 dX10_set_87 ?_
            refine r_iadd dX10_set_88 ?_
            refine r_ild4 dX10_set_89 ?_
            refine s_iast hM (sh_204) (by omega) (by decide) (by omega) dX10_set_91 (fun hM91 => ?_)
            refine r_ald0 dX10_set_92 ?_
            refine r_ild4 dX10_set_93 ?_
            refine s_callV1r hM91 (c_X10_well E ) cv_X10_well wM_X10_83 (sh_201) rfl rfl (Nat.le_of_ble_eq_true rfl) (by decide) dX10_set_95 (fun hM95 => ?_)
            exact s_iret hM95 rfl dX10_set_98 (by unfold ySet mfn mfi laneV; (repeat' split) <;> first | rfl | omega | (exfalso; omega)) (by unfold ySet mfn mfi laneV; (repeat' split) <;> first | rfl | omega | (exfalso; omega))
          refine r_ild3 dX10_set_71 ?_
          refine r_i2s dX10_set_72 (fun g72 => ?_)
          refine r_goto 77 dX10_set_73 (by decide) ?_
          refine r_ist4 dX10_set_77 rfl ?_
          refine r_ald0 dX10_set_79 ?_
          refine s_getR fi_X10_16 (sh_201) rfl dX10_set_80 ?_
          refine r_bipush dX10_set_83 (by decide +kernel) ?_
          refine r_ild1 dX10_set_85 ?_
          refine r_imul dX10_set_86 ?_
          refine r_ild2 dX10_set_87 ?_
          refine r_iadd dX10_set_88 ?_
          refine r_ild4 dX10_set_89 ?_
          refine s_iast hM (sh_204) (by omega) (by decide) (by omega) dX10_set_91 (fun hM91 => ?_)
          refine r_ald0 dX10_set_92 ?_
          refine r_ild4 dX10_set_93 ?_
          refine s_callV1r hM91 (c_X10_well E ) cv_X10_well wM_X10_83 (sh_201) rfl rfl (Nat.le_of_ble_eq_true rfl) (by decide) dX10_set_95 (fun hM95 => ?_)
          exact s_iret hM95 rfl dX10_set_98 (by unfold ySet mfn mfi laneV; (repeat' split) <;> first | rfl | omega | (exfalso; omega)) (by unfold ySet mfn mfi laneV; (repeat' split) <;> first | rfl | omega | (exfalso; omega))
        refine r_ild3 dX10_set_56 ?_
        refine r_i2b dX10_set_57 (fun g57 => ?_)
        refine r_goto 77 dX10_set_58 (by decide) ?_
        refine r_ist4 dX10_set_77 rfl ?_
        refine r_ald0 dX10_set_79 ?_
        refine s_getR fi_X10_16 (sh_201) rfl dX10_set_80 ?_
        refine r_bipush dX10_set_83 (by decide +kernel) ?_
        refine r_ild1 dX10_set_85 ?_
        refine r_imul dX10_set_86 ?_
        refine r_ild2 dX10_set_87 ?_
        refine r_iadd dX10_set_88 ?_
        refine r_ild4 dX10_set_89 ?_
        refine s_iast hM (sh_204) (by omega) (by decide) (by omega) dX10_set_91 (fun hM91 => ?_)
        refine r_ald0 dX10_set_92 ?_
        refine r_ild4 dX10_set_93 ?_
        refine s_callV1r hM91 (c_X10_well E ) cv_X10_well wM_X10_83 (sh_201) rfl rfl (Nat.le_of_ble_eq_true rfl) (by decide) dX10_set_95 (fun hM95 => ?_)
        exact s_iret hM95 rfl dX10_set_98 (by unfold ySet mfn mfi laneV; (repeat' split) <;> first | rfl | omega | (exfalso; omega)) (by unfold ySet mfn mfi laneV; (repeat' split) <;> first | rfl | omega | (exfalso; omega))
      refine r_ald0 dX10_set_41 ?_
      refine r_iconst dX10_set_42 ?_
      refine s_callV1r hM (c_X10_meets E (by first | with_reducible assumption | with_reducible exact xSt_9 | with_reducible exact xSt_13 | omega)) cv_X10_meets wM_X10_79 (sh_201) rfl rfl (Nat.le_of_ble_eq_true rfl) (by decide) dX10_set_43 (fun hM43 => ?_)
      exact s_iret hM43 rfl dX10_set_46 (by unfold ySet mfn mfi laneV; (repeat' split) <;> first | rfl | omega | (exfalso; omega)) (by unfold ySet mfn mfi laneV; (repeat' split) <;> first | rfl | omega | (exfalso; omega))
    refine r_ald0 dX10_set_19 ?_
    refine r_iconst dX10_set_20 ?_
    refine s_callV1r hM (c_X10_meets E (by first | with_reducible assumption | with_reducible exact xSt_9 | with_reducible exact xSt_13 | omega)) cv_X10_meets wM_X10_79 (sh_201) rfl rfl (Nat.le_of_ble_eq_true rfl) (by decide) dX10_set_21 (fun hM21 => ?_)
    exact s_iret hM21 rfl dX10_set_24 (by unfold ySet mfn mfi laneV; (repeat' split) <;> first | rfl | omega | (exfalso; omega)) (by unfold ySet mfn mfi laneV; (repeat' split) <;> first | rfl | omega | (exfalso; omega))
  refine r_ldc (-1000001) dX10_set_7 wC_X10_78 ?_
  exact s_iret hM rfl dX10_set_9 (by unfold ySet mfn mfi laneV; (repeat' split) <;> first | rfl | omega | (exfalso; omega)) (by unfold ySet mfn mfi laneV; (repeat' split) <;> first | rfl | omega | (exfalso; omega))
set_option maxHeartbeats 4000000 in
theorem c_X10_copy (E : xE) {M : xMem} {a i b j n : Int} (ha : -2147483648 ≤ a ∧ a < 2147483648) (hi : -2147483648 ≤ i ∧ i < 2147483648) (hb : -2147483648 ≤ b ∧ b < 2147483648) (hj : -2147483648 ≤ j ∧ j < 2147483648) (hn : -2147483648 ≤ n ∧ n < 2147483648) (hrw : ∀ i : Nat, i < 8 → (-1 ≤ M 202 i ∧ M 202 i ≤ 40) ∧ (0 ≤ M 203 i ∧ M 203 i ≤ 2)) : Ct E mX10_copy 9 2 [xr E 201, xi a, xi i, xi b, xi j, xi n] M (some (xi ((yCopy M a i b j n).1))) ((yCopy M a i b j n).2) := by
  refine Ct.of 3 9 (by rfl) (by decide +kernel) (fun hM => ?_)
  show VS E mX10_copy 2 _ _ 0 [some (xr E 201), some (xi a), some (xi i), some (xi b), some (xi j), some (xi n), none, none, none] [] M
  have L112 : ∀ (fu : Nat) (u k : Int) (Mc : xMem), InR Mc → (0 ≤ k ∧ k ≤ n) → ((0 ≤ a ∧ a ≤ 7) ∧ (0 ≤ b ∧ b ≤ 7) ∧ (0 ≤ i ∧ i + n ≤ 40) ∧ (0 ≤ j ∧ j + n ≤ 40)) → ((u = 0 ∧ Mc = cpR M (40 * b + j) (40 * a + i) 0 k ∧ ¬ (a = b ∧ i < j)) ∨ (u = 1 ∧ Mc = cpR M (40 * b + j) (40 * a + i) (n - k) n ∧ (a = b ∧ i < j))) → (yCopy M a i b j n = mfi (cpR M (40 * b + j) (40 * a + i) 0 n) n) → (n - k).toNat < fu → VS E mX10_copy 2 (some (xi ((yCopy M a i b j n).1))) ((yCopy M a i b j n).2) 112 [some (xr E 201), some (xi a), some (xi i), some (xi b), some (xi j), some (xi n), some (xi u), some (xi k), none] [] Mc := by
    intro fu
    induction fu with
    | zero => intro u k Mc hML112 hb hg hMc hy hme; exact absurd hme (Nat.not_lt_zero _)
    | succ fu ih =>
      intro u k Mc hML112 hb hg hMc hy hme
      refine r_ild7 dX10_copy_112 ?_
      refine r_ild5 dX10_copy_114 ?_
      refine r_icmp_ge 173 dX10_copy_116 (by decide) (by omega) (by omega) (fun c116 => ?_) (fun c116 => ?_)
      · skip
        refine r_ald0 dX10_copy_173 ?_
        refine r_ild5 dX10_copy_174 ?_
        refine s_callV1r hML112 (c_X10_well E ) cv_X10_well wM_X10_83 (sh_201) rfl rfl (Nat.le_of_ble_eq_true rfl) (by decide) dX10_copy_176 (fun hM176 => ?_)
        exact s_iret hM176 rfl dX10_copy_179 (by first | (rw [hy]; rfl) | (unfold yCopy mfn mfi; (repeat' split) <;> first | rfl | omega | (exfalso; omega))) (by first | (rw [hy]; unfold mfi; rcases hMc with ⟨h1, h2, h3⟩ | ⟨h1, h2, h3⟩ <;> rw [h2] <;> first | (rw [show k = n by omega]; done) | (rw [show n - k = 0 by omega]; done)) | (unfold yCopy mfn mfi; (repeat' split) <;> first | rfl | omega | (exfalso; omega)))
      refine r_ild6 dX10_copy_119 ?_
      refine r_if_eq 134 dX10_copy_121 (by decide) (by omega) (fun c121 => ?_) (fun c121 => ?_)
      · skip
        have h165 : Mc 204 (40 * a + i + k).toNat = M 204 (40 * a + i + k).toNat := by (obtain ⟨h1, h2, h3⟩ := hMc.resolve_right (by omega)); rw [h2]; exact if_neg (by omega)
        refine r_ild7 dX10_copy_134 ?_
        refine r_ist8 dX10_copy_136 rfl ?_
        refine r_ald0 dX10_copy_138 ?_
        refine s_getR fi_X10_16 (sh_201) rfl dX10_copy_139 ?_
        refine r_bipush dX10_copy_142 (by decide +kernel) ?_
        refine r_ild3 dX10_copy_144 ?_
        refine r_imul dX10_copy_145 ?_
        refine r_ild4 dX10_copy_146 ?_
        refine r_iadd dX10_copy_148 ?_
        refine r_ild8 dX10_copy_149 ?_
        refine r_iadd dX10_copy_151 ?_
        refine r_ald0 dX10_copy_152 ?_
        refine s_getR fi_X10_16 (sh_201) rfl dX10_copy_153 ?_
        refine r_bipush dX10_copy_156 (by decide +kernel) ?_
        refine r_ild1 dX10_copy_158 ?_
        refine r_imul dX10_copy_159 ?_
        refine r_ild2 dX10_copy_160 ?_
        refine r_iadd dX10_copy_161 ?_
        refine r_ild8 dX10_copy_162 ?_
        refine r_iadd dX10_copy_164 ?_
        refine s_iald hML112 (sh_204) (by omega) (by decide) dX10_copy_165 (fun g165 => ?_)
        try simp (disch := omega) only [Int.reduceToNat]
        refine s_iast hML112 (sh_204) (by omega) (by decide) (by omega) dX10_copy_166 (fun hM166 => ?_)
        refine r_iinc7 dX10_copy_167 rfl ?_
        refine r_goto 112 dX10_copy_170 (by decide) ?_
        refine r_fgt8 ?_
        exact ih _ (k + 1) _  hM166 (by omega) (by omega) (by first | (obtain ⟨h1, h2, h3⟩ := hMc.resolve_right (by omega); exact Or.inl ⟨h1, by rw [h165, h2, show 40 * b + j + k = 40 * b + j + k from rfl]; exact cpR_u (by omega), h3⟩) | (obtain ⟨h1, h2, h3⟩ := hMc.resolve_left (by omega); exact Or.inr ⟨h1, by rw [h165, h2, show 40 * b + j + (n - 1 - k) = 40 * b + j + (n - (k + 1)) by omega, show 40 * a + i + (n - 1 - k) = 40 * a + i + (n - (k + 1)) by omega, show n - k = n - (k + 1) + 1 by omega]; exact cpR_d (by omega), h3⟩)) (by exact hy) (by omega)
      have h165 : Mc 204 (40 * a + i + (n - 1 - k)).toNat = M 204 (40 * a + i + (n - 1 - k)).toNat := by (obtain ⟨h1, h2, h3⟩ := hMc.resolve_left (by omega)); rw [h2]; exact if_neg (by omega)
      refine r_ild5 dX10_copy_124 ?_
      refine r_iconst dX10_copy_126 ?_
      refine r_isub dX10_copy_127 ?_
      refine r_ild7 dX10_copy_128 ?_
      refine r_isub dX10_copy_130 ?_
      refine r_goto 136 dX10_copy_131 (by decide) ?_
      refine r_ist8 dX10_copy_136 rfl ?_
      refine r_ald0 dX10_copy_138 ?_
      refine s_getR fi_X10_16 (sh_201) rfl dX10_copy_139 ?_
      refine r_bipush dX10_copy_142 (by decide +kernel) ?_
      refine r_ild3 dX10_copy_144 ?_
      refine r_imul dX10_copy_145 ?_
      refine r_ild4 dX10_copy_146 ?_
      refine r_iadd dX10_copy_148 ?_
      refine r_ild8 dX10_copy_149 ?_
      refine r_iadd dX10_copy_151 ?_
      refine r_ald0 dX10_copy_152 ?_
      refine s_getR fi_X10_16 (sh_201) rfl dX10_copy_153 ?_
      refine r_bipush dX10_copy_156 (by decide +kernel) ?_
      refine r_ild1 dX10_copy_158 ?_
      refine r_imul dX10_copy_159 ?_
      refine r_ild2 dX10_copy_160 ?_
      refine r_iadd dX10_copy_161 ?_
      refine r_ild8 dX10_copy_162 ?_
      refine r_iadd dX10_copy_164 ?_
      refine s_iald hML112 (sh_204) (by omega) (by decide) dX10_copy_165 (fun g165 => ?_)
      try simp (disch := omega) only [Int.reduceToNat]
      refine s_iast hML112 (sh_204) (by omega) (by decide) (by omega) dX10_copy_166 (fun hM166 => ?_)
      refine r_iinc7 dX10_copy_167 rfl ?_
      refine r_goto 112 dX10_copy_170 (by decide) ?_
      refine r_fgt8 ?_
      exact ih _ (k + 1) _  hM166 (by omega) (by omega) (by first | (obtain ⟨h1, h2, h3⟩ := hMc.resolve_right (by omega); exact Or.inl ⟨h1, by rw [h165, h2, show 40 * b + j + k = 40 * b + j + k from rfl]; exact cpR_u (by omega), h3⟩) | (obtain ⟨h1, h2, h3⟩ := hMc.resolve_left (by omega); exact Or.inr ⟨h1, by rw [h165, h2, show 40 * b + j + (n - 1 - k) = 40 * b + j + (n - (k + 1)) by omega, show 40 * a + i + (n - 1 - k) = 40 * a + i + (n - (k + 1)) by omega, show n - k = n - (k + 1) + 1 by omega]; exact cpR_d (by omega), h3⟩)) (by exact hy) (by omega)
  refine r_ild1 dX10_copy_0 ?_
  refine s_callS1r hM (c_X10_isRow E (by first | with_reducible assumption | with_reducible exact xSt_9 | with_reducible exact xSt_13 | omega)) cs_X10_isRow wM_X10_74 (Nat.le_of_ble_eq_true rfl) (by decide) dX10_copy_1 (fun _ => ?_)
  refine r_ifb_eq 14 dX10_copy_4 (by decide) (fun c4 => ?_) (fun c4 => ?_)
  · skip
    refine r_ldc (-1000001) dX10_copy_14 wC_X10_78 ?_
    exact s_iret hM rfl dX10_copy_16 (by first | (rw [hy]; rfl) | (unfold yCopy mfn mfi; (repeat' split) <;> first | rfl | omega | (exfalso; omega))) (by first | (rw [hy]; unfold mfi; rcases hMc with ⟨h1, h2, h3⟩ | ⟨h1, h2, h3⟩ <;> rw [h2] <;> first | (rw [show k = n by omega]; done) | (rw [show n - k = 0 by omega]; done)) | (unfold yCopy mfn mfi; (repeat' split) <;> first | rfl | omega | (exfalso; omega)))
  refine r_ild3 dX10_copy_7 ?_
  refine s_callS1r hM (c_X10_isRow E (by first | with_reducible assumption | with_reducible exact xSt_9 | with_reducible exact xSt_13 | omega)) cs_X10_isRow wM_X10_74 (Nat.le_of_ble_eq_true rfl) (by decide) dX10_copy_8 (fun _ => ?_)
  refine r_ifb_ne 17 dX10_copy_11 (by decide) (fun c11 => ?_) (fun c11 => ?_)
  · skip
    have hr1 := hrw a.toNat (by omega)
    have hr2 := hrw b.toNat (by omega)
    refine r_ald0 dX10_copy_17 ?_
    refine s_getR fi_X10_7 (sh_201) rfl dX10_copy_18 ?_
    refine r_ild1 dX10_copy_21 ?_
    refine s_iald hM (sh_202) (by omega) (by decide) dX10_copy_22 (fun g22 => ?_)
    try simp (disch := omega) only [Int.reduceToNat]
    refine r_if_lt 35 dX10_copy_23 (by decide) (by omega) (fun c23 => ?_) (fun c23 => ?_)
    · skip
      refine r_ald0 dX10_copy_35 ?_
      refine r_iconst dX10_copy_36 ?_
      refine s_callV1r hM (c_X10_meets E (by first | with_reducible assumption | with_reducible exact xSt_9 | with_reducible exact xSt_13 | omega)) cv_X10_meets wM_X10_79 (sh_201) rfl rfl (Nat.le_of_ble_eq_true rfl) (by decide) dX10_copy_37 (fun hM37 => ?_)
      exact s_iret hM37 rfl dX10_copy_40 (by first | (rw [hy]; rfl) | (unfold yCopy mfn mfi; (repeat' split) <;> first | rfl | omega | (exfalso; omega))) (by first | (rw [hy]; unfold mfi; rcases hMc with ⟨h1, h2, h3⟩ | ⟨h1, h2, h3⟩ <;> rw [h2] <;> first | (rw [show k = n by omega]; done) | (rw [show n - k = 0 by omega]; done)) | (unfold yCopy mfn mfi; (repeat' split) <;> first | rfl | omega | (exfalso; omega)))
    refine r_ald0 dX10_copy_26 ?_
    refine s_getR fi_X10_7 (sh_201) rfl dX10_copy_27 ?_
    refine r_ild3 dX10_copy_30 ?_
    refine s_iald hM (sh_202) (by omega) (by decide) dX10_copy_31 (fun g31 => ?_)
    try simp (disch := omega) only [Int.reduceToNat]
    refine r_if_ge 41 dX10_copy_32 (by decide) (by omega) (fun c32 => ?_) (fun c32 => ?_)
    · skip
      refine r_ald0 dX10_copy_41 ?_
      refine s_getR fi_X10_13 (sh_201) rfl dX10_copy_42 ?_
      refine r_ild1 dX10_copy_45 ?_
      refine s_iald hM (sh_203) (by omega) (by decide) dX10_copy_46 (fun g46 => ?_)
      try simp (disch := omega) only [Int.reduceToNat]
      refine r_ald0 dX10_copy_47 ?_
      refine s_getR fi_X10_13 (sh_201) rfl dX10_copy_48 ?_
      refine r_ild3 dX10_copy_51 ?_
      refine s_iald hM (sh_203) (by omega) (by decide) dX10_copy_52 (fun g52 => ?_)
      try simp (disch := omega) only [Int.reduceToNat]
      refine r_icmp_eq 62 dX10_copy_53 (by decide) (by omega) (by omega) (fun c53 => ?_) (fun c53 => ?_)
      · skip
        refine r_ald0 dX10_copy_62 ?_
        refine r_ild1 dX10_copy_63 ?_
        refine r_ild2 dX10_copy_64 ?_
        refine r_ild5 dX10_copy_65 ?_
        refine s_callV3r hM (c_X10_isPart E (by first | with_reducible assumption | with_reducible exact xSt_9 | with_reducible exact xSt_13 | omega) (by first | with_reducible assumption | with_reducible exact xSt_9 | with_reducible exact xSt_13 | omega) (by first | with_reducible assumption | with_reducible exact xSt_9 | with_reducible exact xSt_13 | omega) (by first | with_reducible assumption | with_reducible exact xSt_9 | with_reducible exact xSt_13 | omega)) cv_X10_isPart wM_X10_86 (sh_201) rfl rfl (Nat.le_of_ble_eq_true rfl) (by decide) dX10_copy_67 (fun _ => ?_)
        refine r_ifb_eq 85 dX10_copy_70 (by decide) (fun c70 => ?_) (fun c70 => ?_)
        · skip
          refine r_ald0 dX10_copy_85 ?_
          refine r_iconst dX10_copy_86 ?_
          refine s_callV1r hM (c_X10_meets E (by first | with_reducible assumption | with_reducible exact xSt_9 | with_reducible exact xSt_13 | omega)) cv_X10_meets wM_X10_79 (sh_201) rfl rfl (Nat.le_of_ble_eq_true rfl) (by decide) dX10_copy_87 (fun hM87 => ?_)
          exact s_iret hM87 rfl dX10_copy_90 (by first | (rw [hy]; rfl) | (unfold yCopy mfn mfi; (repeat' split) <;> first | rfl | omega | (exfalso; omega))) (by first | (rw [hy]; unfold mfi; rcases hMc with ⟨h1, h2, h3⟩ | ⟨h1, h2, h3⟩ <;> rw [h2] <;> first | (rw [show k = n by omega]; done) | (rw [show n - k = 0 by omega]; done)) | (unfold yCopy mfn mfi; (repeat' split) <;> first | rfl | omega | (exfalso; omega)))
        refine r_ald0 dX10_copy_73 ?_
        refine r_ild3 dX10_copy_74 ?_
        refine r_ild4 dX10_copy_75 ?_
        refine r_ild5 dX10_copy_77 ?_
        refine s_callV3r hM (c_X10_isPart E (by first | with_reducible assumption | with_reducible exact xSt_9 | with_reducible exact xSt_13 | omega) (by first | with_reducible assumption | with_reducible exact xSt_9 | with_reducible exact xSt_13 | omega) (by first | with_reducible assumption | with_reducible exact xSt_9 | with_reducible exact xSt_13 | omega) (by first | with_reducible assumption | with_reducible exact xSt_9 | with_reducible exact xSt_13 | omega)) cv_X10_isPart wM_X10_86 (sh_201) rfl rfl (Nat.le_of_ble_eq_true rfl) (by decide) dX10_copy_79 (fun _ => ?_)
        refine r_ifb_ne 91 dX10_copy_82 (by decide) (fun c82 => ?_) (fun c82 => ?_)
        · skip
          refine r_ild1 dX10_copy_91 ?_
          refine r_ild3 dX10_copy_92 ?_
          refine r_icmp_ne 106 dX10_copy_93 (by decide) (by omega) (by omega) (fun c93 => ?_) (fun c93 => ?_)
          · skip
            refine r_iconst dX10_copy_106 ?_
            refine r_ist6 dX10_copy_107 rfl ?_
            refine r_iconst dX10_copy_109 ?_
            refine r_ist7 dX10_copy_110 rfl ?_
            exact L112 41 _ 0 _  hM (by omega) (by omega) (by first | exact Or.inl ⟨rfl, cpR_0, by omega⟩ | exact Or.inr ⟨rfl, by rw [Int.sub_zero]; exact cpR_0, by omega⟩) (by unfold yCopy; rw [if_neg (by omega), if_neg (by omega), if_neg (by omega), if_neg (by omega)]) (by omega)
          refine r_ild4 dX10_copy_96 ?_
          refine r_ild2 dX10_copy_98 ?_
          refine r_icmp_le 106 dX10_copy_99 (by decide) (by omega) (by omega) (fun c99 => ?_) (fun c99 => ?_)
          · skip
            refine r_iconst dX10_copy_106 ?_
            refine r_ist6 dX10_copy_107 rfl ?_
            refine r_iconst dX10_copy_109 ?_
            refine r_ist7 dX10_copy_110 rfl ?_
            exact L112 41 _ 0 _  hM (by omega) (by omega) (by first | exact Or.inl ⟨rfl, cpR_0, by omega⟩ | exact Or.inr ⟨rfl, by rw [Int.sub_zero]; exact cpR_0, by omega⟩) (by unfold yCopy; rw [if_neg (by omega), if_neg (by omega), if_neg (by omega), if_neg (by omega)]) (by omega)
          refine r_iconst dX10_copy_102 ?_
          refine r_goto 107 dX10_copy_103 (by decide) ?_
          refine r_ist6 dX10_copy_107 rfl ?_
          refine r_iconst dX10_copy_109 ?_
          refine r_ist7 dX10_copy_110 rfl ?_
          exact L112 41 _ 0 _  hM (by omega) (by omega) (by first | exact Or.inl ⟨rfl, cpR_0, by omega⟩ | exact Or.inr ⟨rfl, by rw [Int.sub_zero]; exact cpR_0, by omega⟩) (by unfold yCopy; rw [if_neg (by omega), if_neg (by omega), if_neg (by omega), if_neg (by omega)]) (by omega)
        refine r_ald0 dX10_copy_85 ?_
        refine r_iconst dX10_copy_86 ?_
        refine s_callV1r hM (c_X10_meets E (by first | with_reducible assumption | with_reducible exact xSt_9 | with_reducible exact xSt_13 | omega)) cv_X10_meets wM_X10_79 (sh_201) rfl rfl (Nat.le_of_ble_eq_true rfl) (by decide) dX10_copy_87 (fun hM87 => ?_)
        exact s_iret hM87 rfl dX10_copy_90 (by first | (rw [hy]; rfl) | (unfold yCopy mfn mfi; (repeat' split) <;> first | rfl | omega | (exfalso; omega))) (by first | (rw [hy]; unfold mfi; rcases hMc with ⟨h1, h2, h3⟩ | ⟨h1, h2, h3⟩ <;> rw [h2] <;> first | (rw [show k = n by omega]; done) | (rw [show n - k = 0 by omega]; done)) | (unfold yCopy mfn mfi; (repeat' split) <;> first | rfl | omega | (exfalso; omega)))
      refine r_ald0 dX10_copy_56 ?_
      refine r_iconst dX10_copy_57 ?_
      refine s_callV1r hM (c_X10_meets E (by first | with_reducible assumption | with_reducible exact xSt_9 | with_reducible exact xSt_13 | omega)) cv_X10_meets wM_X10_79 (sh_201) rfl rfl (Nat.le_of_ble_eq_true rfl) (by decide) dX10_copy_58 (fun hM58 => ?_)
      exact s_iret hM58 rfl dX10_copy_61 (by first | (rw [hy]; rfl) | (unfold yCopy mfn mfi; (repeat' split) <;> first | rfl | omega | (exfalso; omega))) (by first | (rw [hy]; unfold mfi; rcases hMc with ⟨h1, h2, h3⟩ | ⟨h1, h2, h3⟩ <;> rw [h2] <;> first | (rw [show k = n by omega]; done) | (rw [show n - k = 0 by omega]; done)) | (unfold yCopy mfn mfi; (repeat' split) <;> first | rfl | omega | (exfalso; omega)))
    refine r_ald0 dX10_copy_35 ?_
    refine r_iconst dX10_copy_36 ?_
    refine s_callV1r hM (c_X10_meets E (by first | with_reducible assumption | with_reducible exact xSt_9 | with_reducible exact xSt_13 | omega)) cv_X10_meets wM_X10_79 (sh_201) rfl rfl (Nat.le_of_ble_eq_true rfl) (by decide) dX10_copy_37 (fun hM37 => ?_)
    exact s_iret hM37 rfl dX10_copy_40 (by first | (rw [hy]; rfl) | (unfold yCopy mfn mfi; (repeat' split) <;> first | rfl | omega | (exfalso; omega))) (by first | (rw [hy]; unfold mfi; rcases hMc with ⟨h1, h2, h3⟩ | ⟨h1, h2, h3⟩ <;> rw [h2] <;> first | (rw [show k = n by omega]; done) | (rw [show n - k = 0 by omega]; done)) | (unfold yCopy mfn mfi; (repeat' split) <;> first | rfl | omega | (exfalso; omega)))
  refine r_ldc (-1000001) dX10_copy_14 wC_X10_78 ?_
  exact s_iret hM rfl dX10_copy_16 (by first | (rw [hy]; rfl) | (unfold yCopy mfn mfi; (repeat' split) <;> first | rfl | omega | (exfalso; omega))) (by first | (rw [hy]; unfold mfi; rcases hMc with ⟨h1, h2, h3⟩ | ⟨h1, h2, h3⟩ <;> rw [h2] <;> first | (rw [show k = n by omega]; done) | (rw [show n - k = 0 by omega]; done)) | (unfold yCopy mfn mfi; (repeat' split) <;> first | rfl | omega | (exfalso; omega)))
set_option maxHeartbeats 4000000 in
theorem c_X10_drop (E : xE) {M : xMem} {r : Int} (hr : -2147483648 ≤ r ∧ r < 2147483648) (hrw : ∀ i : Nat, i < 8 → (-1 ≤ M 202 i ∧ M 202 i ≤ 40) ∧ (0 ≤ M 203 i ∧ M 203 i ≤ 2)) : Ct E mX10_drop 3 2 [xr E 201, xi r] M (some (xi ((yDrop M r).1))) ((yDrop M r).2) := by
  refine Ct.of 1 3 (by rfl) (by decide +kernel) (fun hM => ?_)
  show VS E mX10_drop 2 _ _ 0 [some (xr E 201), some (xi r), none] [] M
  refine r_ild1 dX10_drop_0 ?_
  refine s_callS1r hM (c_X10_isRow E (by first | with_reducible assumption | with_reducible exact xSt_9 | with_reducible exact xSt_13 | omega)) cs_X10_isRow wM_X10_74 (Nat.le_of_ble_eq_true rfl) (by decide) dX10_drop_1 (fun _ => ?_)
  refine r_ifb_ne 10 dX10_drop_4 (by decide) (fun c4 => ?_) (fun c4 => ?_)
  · skip
    have hr1 := hrw r.toNat (by omega)
    refine r_ald0 dX10_drop_10 ?_
    refine s_getR fi_X10_7 (sh_201) rfl dX10_drop_11 ?_
    refine r_ild1 dX10_drop_14 ?_
    refine s_iald hM (sh_202) (by omega) (by decide) dX10_drop_15 (fun g15 => ?_)
    try simp (disch := omega) only [Int.reduceToNat]
    refine r_if_ge 25 dX10_drop_16 (by decide) (by omega) (fun c16 => ?_) (fun c16 => ?_)
    · skip
      refine r_ald0 dX10_drop_25 ?_
      refine s_getR fi_X10_7 (sh_201) rfl dX10_drop_26 ?_
      refine r_ild1 dX10_drop_29 ?_
      refine s_iald hM (sh_202) (by omega) (by decide) dX10_drop_30 (fun g30 => ?_)
      try simp (disch := omega) only [Int.reduceToNat]
      refine r_ist2 dX10_drop_31 rfl ?_
      refine r_ald0 dX10_drop_32 ?_
      refine s_getR fi_X10_7 (sh_201) rfl dX10_drop_33 ?_
      refine r_ild1 dX10_drop_36 ?_
      refine r_iconst dX10_drop_37 ?_
      refine s_iast hM (sh_202) (by omega) (by decide) (by omega) dX10_drop_38 (fun hM38 => ?_)
      refine r_ald0 dX10_drop_39 ?_
      refine r_ild2 dX10_drop_40 ?_
      refine s_callV1r hM38 (c_X10_well E ) cv_X10_well wM_X10_83 (sh_201) rfl rfl (Nat.le_of_ble_eq_true rfl) (by decide) dX10_drop_41 (fun hM41 => ?_)
      exact s_iret hM41 rfl dX10_drop_44 (by unfold yDrop mfn mfi; (repeat' split) <;> first | rfl | omega | (exfalso; omega)) (by unfold yDrop mfn mfi; (repeat' split) <;> first | rfl | omega | (exfalso; omega))
    refine r_ald0 dX10_drop_19 ?_
    refine r_iconst dX10_drop_20 ?_
    refine s_callV1r hM (c_X10_meets E (by first | with_reducible assumption | with_reducible exact xSt_9 | with_reducible exact xSt_13 | omega)) cv_X10_meets wM_X10_79 (sh_201) rfl rfl (Nat.le_of_ble_eq_true rfl) (by decide) dX10_drop_21 (fun hM21 => ?_)
    exact s_iret hM21 rfl dX10_drop_24 (by unfold yDrop mfn mfi; (repeat' split) <;> first | rfl | omega | (exfalso; omega)) (by unfold yDrop mfn mfi; (repeat' split) <;> first | rfl | omega | (exfalso; omega))
  refine r_ldc (-1000001) dX10_drop_7 wC_X10_78 ?_
  exact s_iret hM rfl dX10_drop_9 (by unfold yDrop mfn mfi; (repeat' split) <;> first | rfl | omega | (exfalso; omega)) (by unfold yDrop mfn mfi; (repeat' split) <;> first | rfl | omega | (exfalso; omega))
set_option maxHeartbeats 4000000 in
theorem c_X10_feed (E : xE) {M : xMem} {c : Int} (hc : -2147483648 ≤ c ∧ c < 2147483648) (hby : 0 ≤ M 201 4 ∧ M 201 4 ≤ 120) : Ct E mX10_feed 2 1 [xr E 201, xi c] M (some (xi ((yFeed M c).1))) ((yFeed M c).2) := by
  refine Ct.of 0 2 (by rfl) (by decide +kernel) (fun hM => ?_)
  show VS E mX10_feed 1 _ _ 0 [some (xr E 201), some (xi c)] [] M
  refine r_ild1 dX10_feed_0 ?_
  refine r_iconst dX10_feed_1 ?_
  refine r_sipush dX10_feed_2 (by decide +kernel) ?_
  refine s_callS3r hM (c_X10_in E (by first | with_reducible assumption | with_reducible exact xSt_9 | with_reducible exact xSt_13 | omega) (by first | with_reducible assumption | with_reducible exact xSt_9 | with_reducible exact xSt_13 | omega) (by first | with_reducible assumption | with_reducible exact xSt_9 | with_reducible exact xSt_13 | omega)) cs_X10_in wM_X10_70 (Nat.le_of_ble_eq_true rfl) (by decide) dX10_feed_5 (fun _ => ?_)
  refine r_ifb_ne 14 dX10_feed_8 (by decide) (fun c8 => ?_) (fun c8 => ?_)
  · skip
    refine r_ald0 dX10_feed_14 ?_
    refine s_getI hM fi_X10_89 (sh_201) rfl dX10_feed_15 (fun g15 => ?_)
    try simp (disch := omega) only [Int.reduceToNat]
    refine r_bipush dX10_feed_18 (by decide +kernel) ?_
    refine r_icmp_ne 26 dX10_feed_20 (by decide) (by omega) (by omega) (fun c20 => ?_) (fun c20 => ?_)
    · skip
      refine r_ald0 dX10_feed_26 ?_
      refine s_getR fi_X10_19 (sh_201) rfl dX10_feed_27 ?_
      refine r_ald0 dX10_feed_30 ?_
      refine s_getI hM fi_X10_89 (sh_201) rfl dX10_feed_31 (fun g31 => ?_)
      try simp (disch := omega) only [Int.reduceToNat]
      refine r_ild1 dX10_feed_34 ?_
      refine s_iast hM (sh_205) (by omega) (by decide) (by omega) dX10_feed_35 (fun hM35 => ?_)
      refine r_ald0 dX10_feed_36 ?_
      refine r_dup dX10_feed_37 rfl ?_
      refine s_getI hM35 fi_X10_89 (sh_201) rfl dX10_feed_38 (fun g38 => ?_)
      try simp (disch := omega) only [mS_ne, mS_eq, Int.reduceToNat]
      refine r_iconst dX10_feed_41 ?_
      refine r_iadd dX10_feed_42 ?_
      refine s_putI hM35 fp_X10_89 (sh_201) rfl (by omega) dX10_feed_43 (fun hM43 => ?_)
      refine r_ald0 dX10_feed_46 ?_
      refine s_getI hM43 fi_X10_89 (sh_201) rfl dX10_feed_47 (fun g47 => ?_)
      try simp (disch := omega) only [mS_ne, mS_eq, Int.reduceToNat]
      exact s_iret hM43 rfl dX10_feed_50 (by unfold yFeed ; (repeat' split) <;> first | rfl | omega | (exfalso; omega)) (by unfold yFeed ; (repeat' split) <;> first | rfl | omega | (exfalso; omega))
    refine r_ldc (-1000003) dX10_feed_23 wC_X10_92 ?_
    exact s_iret hM rfl dX10_feed_25 (by unfold yFeed ; (repeat' split) <;> first | rfl | omega | (exfalso; omega)) (by unfold yFeed ; (repeat' split) <;> first | rfl | omega | (exfalso; omega))
  refine r_ldc (-1000001) dX10_feed_11 wC_X10_78 ?_
  exact s_iret hM rfl dX10_feed_13 (by unfold yFeed ; (repeat' split) <;> first | rfl | omega | (exfalso; omega)) (by unfold yFeed ; (repeat' split) <;> first | rfl | omega | (exfalso; omega))
set_option maxHeartbeats 4000000 in
theorem c_X10_fault (E : xE) {M : xMem}   : Ct E mX10_fault 1 0 [xr E 201] M (some (xi (M 201 11))) (M) := by
  refine Ct.of 0 1 (by rfl) (by decide +kernel) (fun hM => ?_)
  show VS E mX10_fault 0 _ _ 0 [some (xr E 201)] [] M
  refine r_ald0 dX10_fault_0 ?_
  refine s_getI hM fi_X10_147 (sh_201) rfl dX10_fault_1 (fun g1 => ?_)
  exact s_iret hM rfl dX10_fault_4 (by rfl) (by rfl)
set_option maxHeartbeats 4000000 in
theorem c_X10_trace (E : xE) {M : xMem} {i : Int} (hi : -2147483648 ≤ i ∧ i < 2147483648) (htr : 0 ≤ M 201 29 ∧ M 201 29 ≤ 16) : Ct E mX10_trace 2 1 [xr E 201, xi i] M (some (xi (yTrace M i))) (M) := by
  refine Ct.of 0 2 (by rfl) (by decide +kernel) (fun hM => ?_)
  show VS E mX10_trace 1 _ _ 0 [some (xr E 201), some (xi i)] [] M
  refine r_ild1 dX10_trace_0 ?_
  refine r_iconst dX10_trace_1 ?_
  refine r_ald0 dX10_trace_2 ?_
  refine s_getI hM fi_X10_270 (sh_201) rfl dX10_trace_3 (fun g3 => ?_)
  try simp (disch := omega) only [Int.reduceToNat]
  refine r_iconst dX10_trace_6 ?_
  refine r_isub dX10_trace_7 ?_
  refine s_callS3r hM (c_X10_in E (by first | with_reducible assumption | with_reducible exact xSt_9 | with_reducible exact xSt_13 | omega) (by first | with_reducible assumption | with_reducible exact xSt_9 | with_reducible exact xSt_13 | omega) (by first | with_reducible assumption | with_reducible exact xSt_9 | with_reducible exact xSt_13 | omega)) cs_X10_in wM_X10_70 (Nat.le_of_ble_eq_true rfl) (by decide) dX10_trace_8 (fun _ => ?_)
  refine r_ifb_eq 23 dX10_trace_11 (by decide) (fun c11 => ?_) (fun c11 => ?_)
  · skip
    refine r_ldc (-1000000) dX10_trace_23 wC_X10_133 ?_
    exact s_iret hM rfl dX10_trace_25 (by unfold yTrace ; (repeat' split) <;> first | rfl | omega | (exfalso; omega)) (by rfl)
  refine r_ald0 dX10_trace_14 ?_
  refine s_getR fi_X10_62 (sh_201) rfl dX10_trace_15 ?_
  refine r_ild1 dX10_trace_18 ?_
  refine s_iald hM (sh_219) (by omega) (by decide) dX10_trace_19 (fun g19 => ?_)
  try simp (disch := omega) only [Int.reduceToNat]
  refine r_goto 25 dX10_trace_20 (by decide) ?_
  exact s_iret hM rfl dX10_trace_25 (by unfold yTrace ; (repeat' split) <;> first | rfl | omega | (exfalso; omega)) (by rfl)
set_option maxHeartbeats 4000000 in
theorem c_X10_count (E : xE) {M : xMem} {w : Int} (hw : -2147483648 ≤ w ∧ w < 2147483648) (hrw : ∀ i : Nat, i < 8 → (-1 ≤ M 202 i ∧ M 202 i ≤ 40) ∧ (0 ≤ M 203 i ∧ M 203 i ≤ 2)) : Ct E mX10_count 4 1 [xr E 201, xi w] M (some (xi (yCount M w))) (M) := by
  refine Ct.of 2 4 (by rfl) (by decide +kernel) (fun hM => ?_)
  show VS E mX10_count 1 _ _ 0 [some (xr E 201), some (xi w), none, none] [] M
  have L52 : ∀ (fu : Nat) (a i : Int), (w = 0) → (0 ≤ i ∧ i ≤ 8) → (0 ≤ a ∧ a ≤ 8) → (foldI (fun i a => if 0 ≤ M 202 i.toNat then a + 1 else a) (8 - i).toNat i a = yThere M) → (a ≤ i) → (8 - i).toNat < fu → VS E mX10_count 1 (some (xi (yCount M w))) (M) 52 [some (xr E 201), some (xi w), some (xi a), some (xi i)] [] M := by
    intro fu
    induction fu with
    | zero => intro a i  hw0 hb ha hi hai hme; exact absurd hme (Nat.not_lt_zero _)
    | succ fu ih =>
      intro a i  hw0 hb ha hi hai hme
      refine r_ild3 dX10_count_52 ?_
      refine r_bipush dX10_count_53 (by decide +kernel) ?_
      refine r_icmp_ge 81 dX10_count_55 (by decide) (by omega) (by omega) (fun c55 => ?_) (fun c55 => ?_)
      · skip
        refine r_ild2 dX10_count_81 ?_
        exact s_iret hM rfl dX10_count_82 (by unfold yCount; rw [if_pos hw0, ← hi, show (8 - i).toNat = 0 by omega]; rfl) (by rfl)
      have hr1 := hrw i.toNat (by omega)
      refine r_ild2 dX10_count_58 ?_
      refine r_ald0 dX10_count_59 ?_
      refine s_getR fi_X10_7 (sh_201) rfl dX10_count_60 ?_
      refine r_ild3 dX10_count_63 ?_
      refine s_iald hM (sh_202) (by omega) (by decide) dX10_count_64 (fun g64 => ?_)
      try simp (disch := omega) only [Int.reduceToNat]
      refine r_if_lt 72 dX10_count_65 (by decide) (by omega) (fun c65 => ?_) (fun c65 => ?_)
      · skip
        refine r_iconst dX10_count_72 ?_
        refine r_iadd dX10_count_73 ?_
        refine r_ist2 dX10_count_74 rfl ?_
        refine r_iinc3 dX10_count_75 rfl ?_
        refine r_goto 52 dX10_count_78 (by decide) ?_
        exact ih _ _  (by assumption) (by omega) (by omega) (by exact foldI_go (by omega) hi (by first | (rw [if_pos (by omega)]; done) | (rw [if_neg (by omega)]; omega))) (by omega) (by omega)
      refine r_iconst dX10_count_68 ?_
      refine r_goto 73 dX10_count_69 (by decide) ?_
      refine r_iadd dX10_count_73 ?_
      refine r_ist2 dX10_count_74 rfl ?_
      refine r_iinc3 dX10_count_75 rfl ?_
      refine r_goto 52 dX10_count_78 (by decide) ?_
      exact ih _ _  (by assumption) (by omega) (by omega) (by exact foldI_go (by omega) hi (by first | (rw [if_pos (by omega)]; done) | (rw [if_neg (by omega)]; omega))) (by omega) (by omega)
  refine r_ild1 dX10_count_0 ?_
  by_cases c1 : 0 ≤ w ∧ w ≤ 7
  · skip
    rcases (show w = 0 ∨ w = 1 ∨ w = 2 ∨ w = 3 ∨ w = 4 ∨ w = 5 ∨ w = 6 ∨ w = 7 by omega) with c1v | c1v | c1v | c1v | c1v | c1v | c1v | c1v
    · skip
      refine r_tabIn 48 dX10_count_1 (by omega) (by omega) (by rw [c1v]; rfl) (by decide) ?_
      refine r_iconst dX10_count_48 ?_
      refine r_ist2 dX10_count_49 rfl ?_
      refine r_iconst dX10_count_50 ?_
      refine r_ist3 dX10_count_51 rfl ?_
      exact L52 9 _ _  (by assumption) (by omega) (by omega) (by rfl) (by omega) (by omega)
    · skip
      refine r_tabIn 83 dX10_count_1 (by omega) (by omega) (by rw [c1v]; rfl) (by decide) ?_
      refine r_ald0 dX10_count_83 ?_
      refine s_getR fi_X10_31 (sh_201) rfl dX10_count_84 ?_
      refine r_iconst dX10_count_87 ?_
      refine s_iald hM (sh_209) (by omega) (by decide) dX10_count_88 (fun g88 => ?_)
      try simp (disch := omega) only [Int.reduceToNat]
      exact s_iret hM rfl dX10_count_89 (by unfold yCount ; (repeat' split) <;> first | rfl | omega | (exfalso; omega)) (by rfl)
    · skip
      refine r_tabIn 90 dX10_count_1 (by omega) (by omega) (by rw [c1v]; rfl) (by decide) ?_
      refine r_ald0 dX10_count_90 ?_
      refine s_getR fi_X10_31 (sh_201) rfl dX10_count_91 ?_
      refine r_iconst dX10_count_94 ?_
      refine s_iald hM (sh_209) (by omega) (by decide) dX10_count_95 (fun g95 => ?_)
      try simp (disch := omega) only [Int.reduceToNat]
      exact s_iret hM rfl dX10_count_96 (by unfold yCount ; (repeat' split) <;> first | rfl | omega | (exfalso; omega)) (by rfl)
    · skip
      refine r_tabIn 97 dX10_count_1 (by omega) (by omega) (by rw [c1v]; rfl) (by decide) ?_
      refine r_ald0 dX10_count_97 ?_
      refine s_getR fi_X10_34 (sh_201) rfl dX10_count_98 ?_
      refine r_iconst dX10_count_101 ?_
      refine s_iald hM (sh_210) (by omega) (by decide) dX10_count_102 (fun g102 => ?_)
      try simp (disch := omega) only [Int.reduceToNat]
      exact s_iret hM rfl dX10_count_103 (by unfold yCount ; (repeat' split) <;> first | rfl | omega | (exfalso; omega)) (by rfl)
    · skip
      refine r_tabIn 104 dX10_count_1 (by omega) (by omega) (by rw [c1v]; rfl) (by decide) ?_
      refine r_ald0 dX10_count_104 ?_
      refine s_getR fi_X10_34 (sh_201) rfl dX10_count_105 ?_
      refine r_iconst dX10_count_108 ?_
      refine s_iald hM (sh_210) (by omega) (by decide) dX10_count_109 (fun g109 => ?_)
      try simp (disch := omega) only [Int.reduceToNat]
      exact s_iret hM rfl dX10_count_110 (by unfold yCount ; (repeat' split) <;> first | rfl | omega | (exfalso; omega)) (by rfl)
    · skip
      refine r_tabIn 111 dX10_count_1 (by omega) (by omega) (by rw [c1v]; rfl) (by decide) ?_
      refine r_ald0 dX10_count_111 ?_
      refine s_getR fi_X10_34 (sh_201) rfl dX10_count_112 ?_
      refine r_iconst dX10_count_115 ?_
      refine s_iald hM (sh_210) (by omega) (by decide) dX10_count_116 (fun g116 => ?_)
      try simp (disch := omega) only [Int.reduceToNat]
      exact s_iret hM rfl dX10_count_117 (by unfold yCount ; (repeat' split) <;> first | rfl | omega | (exfalso; omega)) (by rfl)
    · skip
      refine r_tabIn 118 dX10_count_1 (by omega) (by omega) (by rw [c1v]; rfl) (by decide) ?_
      refine r_ald0 dX10_count_118 ?_
      refine s_getI hM fi_X10_155 (sh_201) rfl dX10_count_119 (fun g119 => ?_)
      try simp (disch := omega) only [Int.reduceToNat]
      exact s_iret hM rfl dX10_count_122 (by unfold yCount ; (repeat' split) <;> first | rfl | omega | (exfalso; omega)) (by rfl)
    · skip
      refine r_tabIn 123 dX10_count_1 (by omega) (by omega) (by rw [c1v]; rfl) (by decide) ?_
      refine r_ald0 dX10_count_123 ?_
      refine s_getI hM fi_X10_89 (sh_201) rfl dX10_count_124 (fun g124 => ?_)
      try simp (disch := omega) only [Int.reduceToNat]
      exact s_iret hM rfl dX10_count_127 (by unfold yCount ; (repeat' split) <;> first | rfl | omega | (exfalso; omega)) (by rfl)
  refine r_tabOut 128 dX10_count_1 (by omega) (by omega) (by decide) ?_
  refine r_ldc (-1000001) dX10_count_128 wC_X10_78 ?_
  exact s_iret hM rfl dX10_count_130 (by unfold yCount ; (repeat' split) <;> first | rfl | omega | (exfalso; omega)) (by rfl)
