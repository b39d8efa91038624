set_option maxHeartbeats 4000000 in
theorem c_X4_isFigure (E : xE) {M : xMem} {c : Int} (hc : -2147483648 ≤ c ∧ c < 2147483648) : Ct E mX4_isFigure 1 0 [xi c] M (some (xi (b2i (figB c)))) (M) := by
  refine Ct.of 0 1 (by rfl) (by decide +kernel) (fun hM => ?_)
  show VS E mX4_isFigure 0 _ _ 0 [some (xi c)] [] M
  refine r_ild0 dX4_isFigure_0 ?_
  refine r_bipush dX4_isFigure_1 (by decide +kernel) ?_
  refine r_icmp_lt 16 dX4_isFigure_3 (by decide) (by omega) (by omega) (fun c3 => ?_) (fun c3 => ?_)
  · skip
    refine r_iconst dX4_isFigure_16 ?_
    exact s_zret hM rfl (by omega) dX4_isFigure_17 (by unfold b2i; split <;> omega) (by rfl)
  refine r_ild0 dX4_isFigure_6 ?_
  refine r_bipush dX4_isFigure_7 (by decide +kernel) ?_
  refine r_icmp_gt 16 dX4_isFigure_9 (by decide) (by omega) (by omega) (fun c9 => ?_) (fun c9 => ?_)
  · skip
    refine r_iconst dX4_isFigure_16 ?_
    exact s_zret hM rfl (by omega) dX4_isFigure_17 (by unfold b2i; split <;> omega) (by rfl)
  refine r_iconst dX4_isFigure_12 ?_
  refine r_goto 17 dX4_isFigure_13 (by decide) ?_
  exact s_zret hM rfl (by omega) dX4_isFigure_17 (by unfold b2i; split <;> omega) (by rfl)
set_option maxHeartbeats 4000000 in
theorem c_X4_fail (E : xE) {M : xMem} {v : Int} (hv : 0 ≤ v ∧ v ≤ 3) : Ct E mX4_fail 2 0 [xr E 149, xi v] M (some (xi 0)) (mS M 149 4 v) := by
  refine Ct.of 0 2 (by rfl) (by decide +kernel) (fun hM => ?_)
  show VS E mX4_fail 0 _ _ 0 [some (xr E 149), some (xi v)] [] M
  refine r_ald0 dX4_fail_0 ?_
  refine r_ild1 dX4_fail_1 ?_
  refine s_putI hM fp_X4_117 (sh_149) rfl (by omega) dX4_fail_2 (fun hM2 => ?_)
  refine r_iconst dX4_fail_5 ?_
  exact s_zret hM2 rfl (by omega) dX4_fail_6 (by rfl) (by rfl)
set_option maxHeartbeats 4000000 in
theorem c_X4_kindOfSort (E : xE) {M : xMem} {c : Int} (hc : -2147483648 ≤ c ∧ c < 2147483648) : Ct E mX4_kindOfSort 1 0 [xi c] M (some (xi (sortT c))) (M) := by
  refine Ct.of 0 1 (by rfl) (by decide +kernel) (fun hM => ?_)
  show VS E mX4_kindOfSort 0 _ _ 0 [some (xi c)] [] M
  refine r_ild0 dX4_kindOfSort_0 ?_
  by_cases c1_98 : c = 98
  · skip
    refine r_look 54 dX4_kindOfSort_1 (by decide) (by omega) (by rw [c1_98]; first | done | decide) (by decide) ?_
    refine r_iconst dX4_kindOfSort_54 ?_
    exact s_iret hM rfl dX4_kindOfSort_55 (by unfold sortT; (repeat' split) <;> omega) (by rfl)
  by_cases c1_101 : c = 101
  · skip
    refine r_look 60 dX4_kindOfSort_1 (by decide) (by omega) (by rw [c1_101]; first | done | decide) (by decide) ?_
    refine r_iconst dX4_kindOfSort_60 ?_
    exact s_iret hM rfl dX4_kindOfSort_61 (by unfold sortT; (repeat' split) <;> omega) (by rfl)
  by_cases c1_110 : c = 110
  · skip
    refine r_look 52 dX4_kindOfSort_1 (by decide) (by omega) (by rw [c1_110]; first | done | decide) (by decide) ?_
    refine r_iconst dX4_kindOfSort_52 ?_
    exact s_iret hM rfl dX4_kindOfSort_53 (by unfold sortT; (repeat' split) <;> omega) (by rfl)
  by_cases c1_115 : c = 115
  · skip
    refine r_look 56 dX4_kindOfSort_1 (by decide) (by omega) (by rw [c1_115]; first | done | decide) (by decide) ?_
    refine r_iconst dX4_kindOfSort_56 ?_
    exact s_iret hM rfl dX4_kindOfSort_57 (by unfold sortT; (repeat' split) <;> omega) (by rfl)
  by_cases c1_119 : c = 119
  · skip
    refine r_look 58 dX4_kindOfSort_1 (by decide) (by omega) (by rw [c1_119]; first | done | decide) (by decide) ?_
    refine r_iconst dX4_kindOfSort_58 ?_
    exact s_iret hM rfl dX4_kindOfSort_59 (by unfold sortT; (repeat' split) <;> omega) (by rfl)
  refine r_look 62 dX4_kindOfSort_1 (by decide) (by omega) (look_def (by simp; omega)) (by decide) ?_
  refine r_iconst dX4_kindOfSort_62 ?_
  exact s_iret hM rfl dX4_kindOfSort_63 (by unfold sortT; (repeat' split) <;> omega) (by rfl)
set_option maxHeartbeats 4000000 in
theorem c_X4_readFigures (E : xE) {M : xMem}  (hR : RI M) : Ct E mX4_readFigures 2 1 [xr E 149] M (none) (mS (mS (mS M 149 9 (fgT (M 150) (M 149 6) (M 149 7)).2.2) 149 7 (fgT (M 150) (M 149 6) (M 149 7)).1) 149 8 (if 2 < (fgT (M 150) (M 149 6) (M 149 7)).2.1 then -2 else -3)) := by
  refine Ct.of 1 2 (by rfl) (by decide +kernel) (fun hM => ?_)
  obtain ⟨hR1, hR2, hR3⟩ := id hR
  show VS E mX4_readFigures 1 _ _ 0 [some (xr E 149), none] [] M
  have L7 : ∀ (fu : Nat) (c n i : Int) (Mc : xMem), InR Mc → (Mc = mS (mS M 149 9 n) 149 7 i) → (0 ≤ i ∧ i ≤ M 149 6) → (0 ≤ c ∧ c ≤ i) → ((c = 0 ∧ n = 0) ∨ (c = 1 ∧ 0 ≤ n ∧ n ≤ 9) ∨ (2 ≤ c ∧ 0 ≤ n ∧ n ≤ 99)) → (figL (M 150) (M 149 6) (M 149 6 - i).toNat i c n = fgT (M 150) (M 149 6) (M 149 7)) → (M 149 6 - i).toNat < fu → VS E mX4_readFigures 1 (none) (mS (mS (mS M 149 9 (fgT (M 150) (M 149 6) (M 149 7)).2.2) 149 7 (fgT (M 150) (M 149 6) (M 149 7)).1) 149 8 (if 2 < (fgT (M 150) (M 149 6) (M 149 7)).2.1 then -2 else -3)) 7 [some (xr E 149), some (xi c)] [] Mc := by
    intro fu
    induction fu with
    | zero => intro c n i Mc hML7 hMc hb hc hn hi hme; exact absurd hme (Nat.not_lt_zero _)
    | succ fu ih =>
      intro c n i Mc hML7 hMc hb hc hn hi hme
      have e7 : Mc 149 7 = i := by rw [hMc, mS_eq]
      have e6 : Mc 149 6 = M 149 6 := by rw [hMc, mS_ne (Or.inr (by decide)), mS_ne (Or.inr (by decide))]
      have e9 : Mc 149 9 = n := by rw [hMc, mS_ne (Or.inr (by decide)), mS_eq]
      have e50 : ∀ j, Mc 150 j = M 150 j := fun j => by rw [hMc, mS_ne (Or.inl (by decide)), mS_ne (Or.inl (by decide))]
      refine r_ald0 dX4_readFigures_7 ?_
      refine s_getI hML7 fi_X4_38 (sh_149) rfl dX4_readFigures_8 (fun g8 => ?_)
      try simp (disch := omega) only [mS_ne, mS_eq]
      refine r_ald0 dX4_readFigures_11 ?_
      refine s_getI hML7 fi_X4_35 (sh_149) rfl dX4_readFigures_12 (fun g12 => ?_)
      try simp (disch := omega) only [mS_ne, mS_eq]
      refine r_icmp_ge 82 dX4_readFigures_15 (by decide) (by omega) (by omega) (fun c15 => ?_) (fun c15 => ?_)
      · skip
        have hx : (i, c, n) = fgT (M 150) (M 149 6) (M 149 7) := by rw [← hi]; exact (figL_out (by first | omega | (intro q; exact absurd q.2 c30)) _).symm
        refine r_ald0 dX4_readFigures_82 ?_
        refine r_ild1 dX4_readFigures_83 ?_
        refine r_iconst dX4_readFigures_84 ?_
        refine r_icmp_le 93 dX4_readFigures_85 (by decide) (by omega) (by omega) (fun c85 => ?_) (fun c85 => ?_)
        · skip
          refine r_bipush dX4_readFigures_93 (by decide +kernel) ?_
          refine s_putI hML7 fp_X4_80 (sh_149) rfl (by omega) dX4_readFigures_95 (fun hM95 => ?_)
          exact s_vret hM95 rfl dX4_readFigures_98 (by rw [hMc, ← hx]; show _ = mS (mS (mS M 149 9 n) 149 7 i) 149 8 (if 2 < c then -2 else -3); first | rw [if_pos (by omega)] | rw [if_neg (by omega)])
        refine r_bipush dX4_readFigures_88 (by decide +kernel) ?_
        refine r_goto 95 dX4_readFigures_90 (by decide) ?_
        refine s_putI hML7 fp_X4_80 (sh_149) rfl (by omega) dX4_readFigures_95 (fun hM95 => ?_)
        exact s_vret hM95 rfl dX4_readFigures_98 (by rw [hMc, ← hx]; show _ = mS (mS (mS M 149 9 n) 149 7 i) 149 8 (if 2 < c then -2 else -3); first | rw [if_pos (by omega)] | rw [if_neg (by omega)])
      refine r_ald0 dX4_readFigures_18 ?_
      refine s_getR fi_X4_9 (sh_149) rfl dX4_readFigures_19 ?_
      refine r_ald0 dX4_readFigures_22 ?_
      refine s_getI hML7 fi_X4_38 (sh_149) rfl dX4_readFigures_23 (fun g23 => ?_)
      try simp (disch := omega) only [mS_ne, mS_eq]
      refine s_iald hML7 (sh_150) (by omega) (by decide) dX4_readFigures_26 (fun g26 => ?_)
      try simp (disch := omega) only [mS_ne, mS_eq]
      refine s_callS1r hML7 (c_X4_isFigure E (by first | with_reducible assumption | with_reducible exact xSt_9 | with_reducible exact xSt_13 | omega)) cs_X4_isFigure wM_X4_123 (Nat.le_of_ble_eq_true rfl) (by decide) dX4_readFigures_27 (fun _ => ?_)
      refine r_ifb_eq 82 dX4_readFigures_30 (by decide) (fun c30 => ?_) (fun c30 => ?_)
      · skip
        rw [e50, e7] at c30
        have hx : (i, c, n) = fgT (M 150) (M 149 6) (M 149 7) := by rw [← hi]; exact (figL_out (by first | omega | (intro q; exact absurd q.2 c30)) _).symm
        refine r_ald0 dX4_readFigures_82 ?_
        refine r_ild1 dX4_readFigures_83 ?_
        refine r_iconst dX4_readFigures_84 ?_
        refine r_icmp_le 93 dX4_readFigures_85 (by decide) (by omega) (by omega) (fun c85 => ?_) (fun c85 => ?_)
        · skip
          refine r_bipush dX4_readFigures_93 (by decide +kernel) ?_
          refine s_putI hML7 fp_X4_80 (sh_149) rfl (by omega) dX4_readFigures_95 (fun hM95 => ?_)
          exact s_vret hM95 rfl dX4_readFigures_98 (by rw [hMc, ← hx]; show _ = mS (mS (mS M 149 9 n) 149 7 i) 149 8 (if 2 < c then -2 else -3); first | rw [if_pos (by omega)] | rw [if_neg (by omega)])
        refine r_bipush dX4_readFigures_88 (by decide +kernel) ?_
        refine r_goto 95 dX4_readFigures_90 (by decide) ?_
        refine s_putI hML7 fp_X4_80 (sh_149) rfl (by omega) dX4_readFigures_95 (fun hM95 => ?_)
        exact s_vret hM95 rfl dX4_readFigures_98 (by rw [hMc, ← hx]; show _ = mS (mS (mS M 149 9 n) 149 7 i) 149 8 (if 2 < c then -2 else -3); first | rw [if_pos (by omega)] | rw [if_neg (by omega)])
      rw [e50, e7] at c30
      refine r_iinc1 dX4_readFigures_33 rfl ?_
      refine r_ald0 dX4_readFigures_36 ?_
      refine r_ild1 dX4_readFigures_37 ?_
      refine r_iconst dX4_readFigures_38 ?_
      refine r_icmp_le 46 dX4_readFigures_39 (by decide) (by omega) (by omega) (fun c39 => ?_) (fun c39 => ?_)
      · skip
        refine r_ald0 dX4_readFigures_46 ?_
        refine s_getI hML7 fi_X4_114 (sh_149) rfl dX4_readFigures_47 (fun g47 => ?_)
        try simp (disch := omega) only [mS_ne, mS_eq]
        refine r_bipush dX4_readFigures_50 (by decide +kernel) ?_
        refine r_imul dX4_readFigures_52 ?_
        refine r_ald0 dX4_readFigures_53 ?_
        refine s_getR fi_X4_9 (sh_149) rfl dX4_readFigures_54 ?_
        refine r_ald0 dX4_readFigures_57 ?_
        refine s_getI hML7 fi_X4_38 (sh_149) rfl dX4_readFigures_58 (fun g58 => ?_)
        try simp (disch := omega) only [mS_ne, mS_eq]
        refine s_iald hML7 (sh_150) (by omega) (by decide) dX4_readFigures_61 (fun g61 => ?_)
        try simp (disch := omega) only [mS_ne, mS_eq]
        refine r_iadd dX4_readFigures_62 ?_
        refine r_bipush dX4_readFigures_63 (by decide +kernel) ?_
        refine r_isub dX4_readFigures_65 ?_
        try simp only [e9, e50, e7]
        refine s_putI hML7 fp_X4_114 (sh_149) rfl (by omega) dX4_readFigures_66 (fun hM66 => ?_)
        refine r_ald0 dX4_readFigures_69 ?_
        refine r_dup dX4_readFigures_70 rfl ?_
        refine s_getI hM66 fi_X4_38 (sh_149) rfl dX4_readFigures_71 (fun g71 => ?_)
        try simp (disch := omega) only [mS_ne, mS_eq]
        refine r_iconst dX4_readFigures_74 ?_
        refine r_iadd dX4_readFigures_75 ?_
        try simp only [e7]
        refine s_putI hM66 fp_X4_38 (sh_149) rfl (by omega) dX4_readFigures_76 (fun hM76 => ?_)
        refine r_goto 7 dX4_readFigures_79 (by decide) ?_
        exact ih _ (if 2 < c + 1 then 0 else n * 10 + M 150 i.toNat - 48) (i + 1) _  hM76 (by rw [hMc, rf_step]; first | rw [if_pos (by omega)] | rw [if_neg (by omega)]) (by omega) (by omega) (by split <;> omega) (by rw [← hi, show (M 149 6 - i).toNat = (M 149 6 - (i + 1)).toNat + 1 by omega, figL, if_pos ⟨by omega, c30⟩]) (by omega)
      refine r_iconst dX4_readFigures_42 ?_
      refine r_goto 66 dX4_readFigures_43 (by decide) ?_
      try simp only [e9, e50, e7]
      refine s_putI hML7 fp_X4_114 (sh_149) rfl (by omega) dX4_readFigures_66 (fun hM66 => ?_)
      refine r_ald0 dX4_readFigures_69 ?_
      refine r_dup dX4_readFigures_70 rfl ?_
      refine s_getI hM66 fi_X4_38 (sh_149) rfl dX4_readFigures_71 (fun g71 => ?_)
      try simp (disch := omega) only [mS_ne, mS_eq]
      refine r_iconst dX4_readFigures_74 ?_
      refine r_iadd dX4_readFigures_75 ?_
      try simp only [e7]
      refine s_putI hM66 fp_X4_38 (sh_149) rfl (by omega) dX4_readFigures_76 (fun hM76 => ?_)
      refine r_goto 7 dX4_readFigures_79 (by decide) ?_
      exact ih _ (if 2 < c + 1 then 0 else n * 10 + M 150 i.toNat - 48) (i + 1) _  hM76 (by rw [hMc, rf_step]; first | rw [if_pos (by omega)] | rw [if_neg (by omega)]) (by omega) (by omega) (by split <;> omega) (by rw [← hi, show (M 149 6 - i).toNat = (M 149 6 - (i + 1)).toNat + 1 by omega, figL, if_pos ⟨by omega, c30⟩]) (by omega)
  refine r_iconst dX4_readFigures_0 ?_
  refine r_ist1 dX4_readFigures_1 rfl ?_
  refine r_ald0 dX4_readFigures_2 ?_
  refine r_iconst dX4_readFigures_3 ?_
  refine s_putI hM fp_X4_114 (sh_149) rfl (by omega) dX4_readFigures_4 (fun hM4 => ?_)
  exact L7 121 _ 0 (M 149 7) _  hM4 (by have h := mS_self (mS M 149 9 0) 149 7; rw [mS_ne (Or.inr (by decide))] at h; exact h.symm) (by omega) (by omega) (by omega) (by rfl) (by omega)
set_option maxHeartbeats 4000000 in
theorem c_X4_advance (E : xE) {M : xMem}  (hR : RI M) : Ct E mX4_advance 3 2 [xr E 149] M (none) (advM M) := by
  refine Ct.of 2 3 (by rfl) (by decide +kernel) (fun hM => ?_)
  obtain ⟨hR1, hR2, hR3⟩ := id hR
  show VS E mX4_advance 2 _ _ 0 [some (xr E 149), none, none] [] M
  refine r_ald0 dX4_advance_0 ?_
  refine r_ald0 dX4_advance_1 ?_
  refine s_getI hM fi_X4_38 (sh_149) rfl dX4_advance_2 (fun g2 => ?_)
  refine s_putI hM fp_X4_120 (sh_149) rfl (by omega) dX4_advance_5 (fun hM5 => ?_)
  refine r_ald0 dX4_advance_8 ?_
  refine s_getI hM5 fi_X4_38 (sh_149) rfl dX4_advance_9 (fun g9 => ?_)
  try simp (disch := omega) only [mS_ne, mS_eq]
  refine r_ald0 dX4_advance_12 ?_
  refine s_getI hM5 fi_X4_35 (sh_149) rfl dX4_advance_13 (fun g13 => ?_)
  try simp (disch := omega) only [mS_ne, mS_eq]
  refine r_icmp_lt 25 dX4_advance_16 (by decide) (by omega) (by omega) (fun c16 => ?_) (fun c16 => ?_)
  · skip
    refine r_ald0 dX4_advance_25 ?_
    refine s_getR fi_X4_9 (sh_149) rfl dX4_advance_26 ?_
    refine r_ald0 dX4_advance_29 ?_
    refine s_getI hM5 fi_X4_38 (sh_149) rfl dX4_advance_30 (fun g30 => ?_)
    try simp (disch := omega) only [mS_ne, mS_eq]
    refine s_iald hM5 (sh_150) (by omega) (by decide) dX4_advance_33 (fun g33 => ?_)
    try simp (disch := omega) only [mS_ne, mS_eq]
    refine r_ist1 dX4_advance_34 rfl ?_
    refine r_ild1 dX4_advance_35 ?_
    refine s_callS1r hM5 (c_X4_isFigure E (by first | with_reducible assumption | with_reducible exact xSt_9 | with_reducible exact xSt_13 | omega)) cs_X4_isFigure wM_X4_123 (Nat.le_of_ble_eq_true rfl) (by decide) dX4_advance_36 (fun _ => ?_)
    refine r_ifb_eq 47 dX4_advance_39 (by decide) (fun c39 => ?_) (fun c39 => ?_)
    · skip
      refine r_ild1 dX4_advance_47 ?_
      refine r_bipush dX4_advance_48 (by decide +kernel) ?_
      refine r_icmp_lt 59 dX4_advance_50 (by decide) (by omega) (by omega) (fun c50 => ?_) (fun c50 => ?_)
      · skip
        refine r_ild1 dX4_advance_59 ?_
        refine r_bipush dX4_advance_60 (by decide +kernel) ?_
        refine r_icmp_eq 71 dX4_advance_62 (by decide) (by omega) (by omega) (fun c62 => ?_) (fun c62 => ?_)
        · skip
          refine r_iconst dX4_advance_71 ?_
          refine r_goto 76 dX4_advance_72 (by decide) ?_
          refine r_ist2 dX4_advance_76 rfl ?_
          refine r_ald0 dX4_advance_77 ?_
          refine r_ild2 dX4_advance_78 ?_
          refine r_if_eq 86 dX4_advance_79 (by decide) (by omega) (fun c79 => by exfalso; omega) (fun c79 => ?_)
          refine r_ild1 dX4_advance_82 ?_
          refine r_goto 88 dX4_advance_83 (by decide) ?_
          refine s_putI hM5 fp_X4_80 (sh_149) rfl (by omega) dX4_advance_88 (fun hM88 => ?_)
          refine r_ald0 dX4_advance_91 ?_
          refine r_dup dX4_advance_92 rfl ?_
          refine s_getI hM88 fi_X4_38 (sh_149) rfl dX4_advance_93 (fun g93 => ?_)
          try simp (disch := omega) only [mS_ne, mS_eq]
          refine r_iconst dX4_advance_96 ?_
          refine r_iadd dX4_advance_97 ?_
          refine s_putI hM88 fp_X4_38 (sh_149) rfl (by omega) dX4_advance_98 (fun hM98 => ?_)
          exact s_vret hM98 rfl dX4_advance_101 (by sorry)
        refine r_ild1 dX4_advance_65 ?_
        refine r_bipush dX4_advance_66 (by decide +kernel) ?_
        refine r_icmp_ne 75 dX4_advance_68 (by decide) (by omega) (by omega) (fun c68 => ?_) (fun c68 => ?_)
        · skip
          refine r_iconst dX4_advance_75 ?_
          refine r_ist2 dX4_advance_76 rfl ?_
          refine r_ald0 dX4_advance_77 ?_
          refine r_ild2 dX4_advance_78 ?_
          refine r_if_eq 86 dX4_advance_79 (by decide) (by omega) (fun c79 => ?_) (fun c79 => by exfalso; omega)
          refine r_bipush dX4_advance_86 (by decide +kernel) ?_
          refine s_putI hM5 fp_X4_80 (sh_149) rfl (by omega) dX4_advance_88 (fun hM88 => ?_)
          refine r_ald0 dX4_advance_91 ?_
          refine r_dup dX4_advance_92 rfl ?_
          refine s_getI hM88 fi_X4_38 (sh_149) rfl dX4_advance_93 (fun g93 => ?_)
          try simp (disch := omega) only [mS_ne, mS_eq]
          refine r_iconst dX4_advance_96 ?_
          refine r_iadd dX4_advance_97 ?_
          refine s_putI hM88 fp_X4_38 (sh_149) rfl (by omega) dX4_advance_98 (fun hM98 => ?_)
          exact s_vret hM98 rfl dX4_advance_101 (by sorry)
        refine r_iconst dX4_advance_71 ?_
        refine r_goto 76 dX4_advance_72 (by decide) ?_
        refine r_ist2 dX4_advance_76 rfl ?_
        refine r_ald0 dX4_advance_77 ?_
        refine r_ild2 dX4_advance_78 ?_
        refine r_if_eq 86 dX4_advance_79 (by decide) (by omega) (fun c79 => by exfalso; omega) (fun c79 => ?_)
        refine r_ild1 dX4_advance_82 ?_
        refine r_goto 88 dX4_advance_83 (by decide) ?_
        refine s_putI hM5 fp_X4_80 (sh_149) rfl (by omega) dX4_advance_88 (fun hM88 => ?_)
        refine r_ald0 dX4_advance_91 ?_
        refine r_dup dX4_advance_92 rfl ?_
        refine s_getI hM88 fi_X4_38 (sh_149) rfl dX4_advance_93 (fun g93 => ?_)
        try simp (disch := omega) only [mS_ne, mS_eq]
        refine r_iconst dX4_advance_96 ?_
        refine r_iadd dX4_advance_97 ?_
        refine s_putI hM88 fp_X4_38 (sh_149) rfl (by omega) dX4_advance_98 (fun hM98 => ?_)
        exact s_vret hM98 rfl dX4_advance_101 (by sorry)
      refine r_ild1 dX4_advance_53 ?_
      refine r_bipush dX4_advance_54 (by decide +kernel) ?_
      refine r_icmp_le 71 dX4_advance_56 (by decide) (by omega) (by omega) (fun c56 => ?_) (fun c56 => ?_)
      · skip
        refine r_iconst dX4_advance_71 ?_
        refine r_goto 76 dX4_advance_72 (by decide) ?_
        refine r_ist2 dX4_advance_76 rfl ?_
        refine r_ald0 dX4_advance_77 ?_
        refine r_ild2 dX4_advance_78 ?_
        refine r_if_eq 86 dX4_advance_79 (by decide) (by omega) (fun c79 => by exfalso; omega) (fun c79 => ?_)
        refine r_ild1 dX4_advance_82 ?_
        refine r_goto 88 dX4_advance_83 (by decide) ?_
        refine s_putI hM5 fp_X4_80 (sh_149) rfl (by omega) dX4_advance_88 (fun hM88 => ?_)
        refine r_ald0 dX4_advance_91 ?_
        refine r_dup dX4_advance_92 rfl ?_
        refine s_getI hM88 fi_X4_38 (sh_149) rfl dX4_advance_93 (fun g93 => ?_)
        try simp (disch := omega) only [mS_ne, mS_eq]
        refine r_iconst dX4_advance_96 ?_
        refine r_iadd dX4_advance_97 ?_
        refine s_putI hM88 fp_X4_38 (sh_149) rfl (by omega) dX4_advance_98 (fun hM98 => ?_)
        exact s_vret hM98 rfl dX4_advance_101 (by sorry)
      refine r_ild1 dX4_advance_59 ?_
      refine r_bipush dX4_advance_60 (by decide +kernel) ?_
      refine r_icmp_eq 71 dX4_advance_62 (by decide) (by omega) (by omega) (fun c62 => ?_) (fun c62 => ?_)
      · skip
        refine r_iconst dX4_advance_71 ?_
        refine r_goto 76 dX4_advance_72 (by decide) ?_
        refine r_ist2 dX4_advance_76 rfl ?_
        refine r_ald0 dX4_advance_77 ?_
        refine r_ild2 dX4_advance_78 ?_
        refine r_if_eq 86 dX4_advance_79 (by decide) (by omega) (fun c79 => by exfalso; omega) (fun c79 => ?_)
        refine r_ild1 dX4_advance_82 ?_
        refine r_goto 88 dX4_advance_83 (by decide) ?_
        refine s_putI hM5 fp_X4_80 (sh_149) rfl (by omega) dX4_advance_88 (fun hM88 => ?_)
        refine r_ald0 dX4_advance_91 ?_
        refine r_dup dX4_advance_92 rfl ?_
        refine s_getI hM88 fi_X4_38 (sh_149) rfl dX4_advance_93 (fun g93 => ?_)
        try simp (disch := omega) only [mS_ne, mS_eq]
        refine r_iconst dX4_advance_96 ?_
        refine r_iadd dX4_advance_97 ?_
        refine s_putI hM88 fp_X4_38 (sh_149) rfl (by omega) dX4_advance_98 (fun hM98 => ?_)
        exact s_vret hM98 rfl dX4_advance_101 (by sorry)
      refine r_ild1 dX4_advance_65 ?_
      refine r_bipush dX4_advance_66 (by decide +kernel) ?_
      refine r_icmp_ne 75 dX4_advance_68 (by decide) (by omega) (by omega) (fun c68 => ?_) (fun c68 => ?_)
      · skip
        refine r_iconst dX4_advance_75 ?_
        refine r_ist2 dX4_advance_76 rfl ?_
        refine r_ald0 dX4_advance_77 ?_
        refine r_ild2 dX4_advance_78 ?_
        refine r_if_eq 86 dX4_advance_79 (by decide) (by omega) (fun c79 => ?_) (fun c79 => by exfalso; omega)
        refine r_bipush dX4_advance_86 (by decide +kernel) ?_
        refine s_putI hM5 fp_X4_80 (sh_149) rfl (by omega) dX4_advance_88 (fun hM88 => ?_)
        refine r_ald0 dX4_advance_91 ?_
        refine r_dup dX4_advance_92 rfl ?_
        refine s_getI hM88 fi_X4_38 (sh_149) rfl dX4_advance_93 (fun g93 => ?_)
        try simp (disch := omega) only [mS_ne, mS_eq]
        refine r_iconst dX4_advance_96 ?_
        refine r_iadd dX4_advance_97 ?_
        refine s_putI hM88 fp_X4_38 (sh_149) rfl (by omega) dX4_advance_98 (fun hM98 => ?_)
        exact s_vret hM98 rfl dX4_advance_101 (by sorry)
      refine r_iconst dX4_advance_71 ?_
      refine r_goto 76 dX4_advance_72 (by decide) ?_
      refine r_ist2 dX4_advance_76 rfl ?_
      refine r_ald0 dX4_advance_77 ?_
      refine r_ild2 dX4_advance_78 ?_
      refine r_if_eq 86 dX4_advance_79 (by decide) (by omega) (fun c79 => by exfalso; omega) (fun c79 => ?_)
      refine r_ild1 dX4_advance_82 ?_
      refine r_goto 88 dX4_advance_83 (by decide) ?_
      refine s_putI hM5 fp_X4_80 (sh_149) rfl (by omega) dX4_advance_88 (fun hM88 => ?_)
      refine r_ald0 dX4_advance_91 ?_
      refine r_dup dX4_advance_92 rfl ?_
      refine s_getI hM88 fi_X4_38 (sh_149) rfl dX4_advance_93 (fun g93 => ?_)
      try simp (disch := omega) only [mS_ne, mS_eq]
      refine r_iconst dX4_advance_96 ?_
      refine r_iadd dX4_advance_97 ?_
      refine s_putI hM88 fp_X4_38 (sh_149) rfl (by omega) dX4_advance_98 (fun hM98 => ?_)
      exact s_vret hM98 rfl dX4_advance_101 (by sorry)
    refine r_ald0 dX4_advance_42 ?_
    refine s_callV0v hM5 (c_X4_readFigures E (by exact RI_mS (by decide) hR)) cv_X4_readFigures wM_X4_126 (sh_149) rfl rfl (Nat.le_of_ble_eq_true rfl) (by decide) dX4_advance_43 (fun hM43 => ?_)
    exact s_vret hM43 rfl dX4_advance_46 (by sorry)
  refine r_ald0 dX4_advance_19 ?_
  refine r_iconst dX4_advance_20 ?_
  refine s_putI hM5 fp_X4_80 (sh_149) rfl (by omega) dX4_advance_21 (fun hM21 => ?_)
  exact s_vret hM21 rfl dX4_advance_24 (by sorry)
