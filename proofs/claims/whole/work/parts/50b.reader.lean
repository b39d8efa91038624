set_option maxHeartbeats 4000000 in
theorem c_X4_isFigure (E : xE) {M : xMem} {c : Int} (hc : -2147483648 ≤ c ∧ c < 2147483648) : Ct E mX4_isFigure 1 0 [xi c] M (some (xi (b2i (figB c)))) (M) := by
  refine Ct.of 0 1 (by rfl) (by decide +kernel) (fun hM => ?_)
  show VS E mX4_isFigure 0 _ _ 0 [some (xi c)] [] M
  refine r_ild0 dX4_isFigure_0 ?_
  refine r_bipush dX4_isFigure_1 (by decide +kernel) ?_
  refine r_icmp_lt 16 dX4_isFigure_3 (by decide) (by omega) (by omega) (fun c3 => ?_) (fun c3 => ?_)
  · skip
    refine r_iconst dX4_isFigure_16 ?_
    exact s_zret hM rfl (by omega) dX4_isFigure_17 (by unfold b2i; split <;> omega) (by rfl)
  refine r_ild0 dX4_isFigure_6 ?_
  refine r_bipush dX4_isFigure_7 (by decide +kernel) ?_
  refine r_icmp_gt 16 dX4_isFigure_9 (by decide) (by omega) (by omega) (fun c9 => ?_) (fun c9 => ?_)
  · skip
    refine r_iconst dX4_isFigure_16 ?_
    exact s_zret hM rfl (by omega) dX4_isFigure_17 (by unfold b2i; split <;> omega) (by rfl)
  refine r_iconst dX4_isFigure_12 ?_
  refine r_goto 17 dX4_isFigure_13 (by decide) ?_
  exact s_zret hM rfl (by omega) dX4_isFigure_17 (by unfold b2i; split <;> omega) (by rfl)
set_option maxHeartbeats 4000000 in
theorem c_X4_fail (E : xE) {M : xMem} {v : Int} (hv : 0 ≤ v ∧ v ≤ 3) : Ct E mX4_fail 2 0 [xr E 149, xi v] M (some (xi 0)) (mS M 149 4 v) := by
  refine Ct.of 0 2 (by rfl) (by decide +kernel) (fun hM => ?_)
  show VS E mX4_fail 0 _ _ 0 [some (xr E 149), some (xi v)] [] M
  refine r_ald0 dX4_fail_0 ?_
  refine r_ild1 dX4_fail_1 ?_
  refine s_putI hM fp_X4_117 (sh_149) rfl (by omega) dX4_fail_2 (fun hM2 => ?_)
  refine r_iconst dX4_fail_5 ?_
  exact s_zret hM2 rfl (by omega) dX4_fail_6 (by rfl) (by rfl)
set_option maxHeartbeats 4000000 in
theorem c_X4_kindOfSort (E : xE) {M : xMem} {c : Int} (hc : -2147483648 ≤ c ∧ c < 2147483648) : Ct E mX4_kindOfSort 1 0 [xi c] M (some (xi (sortT c))) (M) := by
  refine Ct.of 0 1 (by rfl) (by decide +kernel) (fun hM => ?_)
  show VS E mX4_kindOfSort 0 _ _ 0 [some (xi c)] [] M
  refine r_ild0 dX4_kindOfSort_0 ?_
  by_cases c1_98 : c = 98
  · skip
    refine r_look 54 dX4_kindOfSort_1 (by decide) (by omega) (by rw [c1_98]; first | done | decide) (by decide) ?_
    refine r_iconst dX4_kindOfSort_54 ?_
    exact s_iret hM rfl dX4_kindOfSort_55 (by unfold sortT; (repeat' split) <;> omega) (by rfl)
  by_cases c1_101 : c = 101
  · skip
    refine r_look 60 dX4_kindOfSort_1 (by decide) (by omega) (by rw [c1_101]; first | done | decide) (by decide) ?_
    refine r_iconst dX4_kindOfSort_60 ?_
    exact s_iret hM rfl dX4_kindOfSort_61 (by unfold sortT; (repeat' split) <;> omega) (by rfl)
  by_cases c1_110 : c = 110
  · skip
    refine r_look 52 dX4_kindOfSort_1 (by decide) (by omega) (by rw [c1_110]; first | done | decide) (by decide) ?_
    refine r_iconst dX4_kindOfSort_52 ?_
    exact s_iret hM rfl dX4_kindOfSort_53 (by unfold sortT; (repeat' split) <;> omega) (by rfl)
  by_cases c1_115 : c = 115
  · skip
    refine r_look 56 dX4_kindOfSort_1 (by decide) (by omega) (by rw [c1_115]; first | done | decide) (by decide) ?_
    refine r_iconst dX4_kindOfSort_56 ?_
    exact s_iret hM rfl dX4_kindOfSort_57 (by unfold sortT; (repeat' split) <;> omega) (by rfl)
  by_cases c1_119 : c = 119
  · skip
    refine r_look 58 dX4_kindOfSort_1 (by decide) (by omega) (by rw [c1_119]; first | done | decide) (by decide) ?_
    refine r_iconst dX4_kindOfSort_58 ?_
    exact s_iret hM rfl dX4_kindOfSort_59 (by unfold sortT; (repeat' split) <;> omega) (by rfl)
  refine r_look 62 dX4_kindOfSort_1 (by decide) (by omega) (look_def (by simp; omega)) (by decide) ?_
  refine r_iconst dX4_kindOfSort_62 ?_
  exact s_iret hM rfl dX4_kindOfSort_63 (by unfold sortT; (repeat' split) <;> omega) (by rfl)
set_option maxHeartbeats 4000000 in
theorem c_X4_readFigures (E : xE) {M : xMem}  (hR : RI M) : Ct E mX4_readFigures 2 1 [xr E 149] M (none) (mS (mS (mS M 149 9 (fgT (M 150) (M 149 6) (M 149 7)).2.2) 149 7 (fgT (M 150) (M 149 6) (M 149 7)).1) 149 8 (if 2 < (fgT (M 150) (M 149 6) (M 149 7)).2.1 then -2 else -3)) := by
  refine Ct.of 1 2 (by rfl) (by decide +kernel) (fun hM => ?_)
  obtain ⟨hR1, hR2, hR3⟩ := id hR
  show VS E mX4_readFigures 1 _ _ 0 [some (xr E 149), none] [] M
  have L7 : ∀ (fu : Nat) (c n i : Int) (Mc : xMem), InR Mc → (Mc = mS (mS M 149 9 n) 149 7 i) → (0 ≤ i ∧ i ≤ M 149 6) → (0 ≤ c ∧ c ≤ i) → ((c = 0 ∧ n = 0) ∨ (c = 1 ∧ 0 ≤ n ∧ n ≤ 9) ∨ (2 ≤ c ∧ 0 ≤ n ∧ n ≤ 99)) → (figL (M 150) (M 149 6) (M 149 6 - i).toNat i c n = fgT (M 150) (M 149 6) (M 149 7)) → (M 149 6 - i).toNat < fu → VS E mX4_readFigures 1 (none) (mS (mS (mS M 149 9 (fgT (M 150) (M 149 6) (M 149 7)).2.2) 149 7 (fgT (M 150) (M 149 6) (M 149 7)).1) 149 8 (if 2 < (fgT (M 150) (M 149 6) (M 149 7)).2.1 then -2 else -3)) 7 [some (xr E 149), some (xi c)] [] Mc := by
    intro fu
    induction fu with
    | zero => intro c n i Mc hML7 hMc hb hc hn hi hme; exact absurd hme (Nat.not_lt_zero _)
    | succ fu ih =>
      intro c n i Mc hML7 hMc hb hc hn hi hme
      have e7 : Mc 149 7 = i := by rw [hMc, mS_eq]
      have e6 : Mc 149 6 = M 149 6 := by rw [hMc, mS_ne (Or.inr (by decide)), mS_ne (Or.inr (by decide))]
      have e9 : Mc 149 9 = n := by rw [hMc, mS_ne (Or.inr (by decide)), mS_eq]
      have e50 : ∀ j, Mc 150 j = M 150 j := fun j => by rw [hMc, mS_ne (Or.inl (by decide)), mS_ne (Or.inl (by decide))]
      refine r_ald0 dX4_readFigures_7 ?_
      refine s_getI hML7 fi_X4_38 (sh_149) rfl dX4_readFigures_8 (fun g8 => ?_)
      try simp (disch := omega) only [mS_ne, mS_eq]
      refine r_ald0 dX4_readFigures_11 ?_
      refine s_getI hML7 fi_X4_35 (sh_149) rfl dX4_readFigures_12 (fun g12 => ?_)
      try simp (disch := omega) only [mS_ne, mS_eq]
      refine r_icmp_ge 82 dX4_readFigures_15 (by decide) (by omega) (by omega) (fun c15 => ?_) (fun c15 => ?_)
      · skip
        have hx : (i, c, n) = fgT (M 150) (M 149 6) (M 149 7) := by rw [← hi]; exact (figL_out (by first | omega | (intro q; exact absurd q.2 c30)) _).symm
        refine r_ald0 dX4_readFigures_82 ?_
        refine r_ild1 dX4_readFigures_83 ?_
        refine r_iconst dX4_readFigures_84 ?_
        refine r_icmp_le 93 dX4_readFigures_85 (by decide) (by omega) (by omega) (fun c85 => ?_) (fun c85 => ?_)
        · skip
          refine r_bipush dX4_readFigures_93 (by decide +kernel) ?_
          refine s_putI hML7 fp_X4_80 (sh_149) rfl (by omega) dX4_readFigures_95 (fun hM95 => ?_)
          exact s_vret hM95 rfl dX4_readFigures_98 (by rw [hMc, ← hx]; show _ = mS (mS (mS M 149 9 n) 149 7 i) 149 8 (if 2 < c then -2 else -3); first | rw [if_pos (by omega)] | rw [if_neg (by omega)])
        refine r_bipush dX4_readFigures_88 (by decide +kernel) ?_
        refine r_goto 95 dX4_readFigures_90 (by decide) ?_
        refine s_putI hML7 fp_X4_80 (sh_149) rfl (by omega) dX4_readFigures_95 (fun hM95 => ?_)
        exact s_vret hM95 rfl dX4_readFigures_98 (by rw [hMc, ← hx]; show _ = mS (mS (mS M 149 9 n) 149 7 i) 149 8 (if 2 < c then -2 else -3); first | rw [if_pos (by omega)] | rw [if_neg (by omega)])
      refine r_ald0 dX4_readFigures_18 ?_
      refine s_getR fi_X4_9 (sh_149) rfl dX4_readFigures_19 ?_
      refine r_ald0 dX4_readFigures_22 ?_
      refine s_getI hML7 fi_X4_38 (sh_149) rfl dX4_readFigures_23 (fun g23 => ?_)
      try simp (disch := omega) only [mS_ne, mS_eq]
      refine s_iald hML7 (sh_150) (by omega) (by decide) dX4_readFigures_26 (fun g26 => ?_)
      try simp (disch := omega) only [mS_ne, mS_eq]
      refine s_callS1r hML7 (c_X4_isFigure E (by first | with_reducible assumption | with_reducible exact xSt_9 | with_reducible exact xSt_13 | omega)) cs_X4_isFigure wM_X4_123 (Nat.le_of_ble_eq_true rfl) (by decide) dX4_readFigures_27 (fun _ => ?_)
      refine r_ifb_eq 82 dX4_readFigures_30 (by decide) (fun c30 => ?_) (fun c30 => ?_)
      · skip
        rw [e50, e7] at c30
        have hx : (i, c, n) = fgT (M 150) (M 149 6) (M 149 7) := by rw [← hi]; exact (figL_out (by first | omega | (intro q; exact absurd q.2 c30)) _).symm
        refine r_ald0 dX4_readFigures_82 ?_
        refine r_ild1 dX4_readFigures_83 ?_
        refine r_iconst dX4_readFigures_84 ?_
        refine r_icmp_le 93 dX4_readFigures_85 (by decide) (by omega) (by omega) (fun c85 => ?_) (fun c85 => ?_)
        · skip
          refine r_bipush dX4_readFigures_93 (by decide +kernel) ?_
          refine s_putI hML7 fp_X4_80 (sh_149) rfl (by omega) dX4_readFigures_95 (fun hM95 => ?_)
          exact s_vret hM95 rfl dX4_readFigures_98 (by rw [hMc, ← hx]; show _ = mS (mS (mS M 149 9 n) 149 7 i) 149 8 (if 2 < c then -2 else -3); first | rw [if_pos (by omega)] | rw [if_neg (by omega)])
        refine r_bipush dX4_readFigures_88 (by decide +kernel) ?_
        refine r_goto 95 dX4_readFigures_90 (by decide) ?_
        refine s_putI hML7 fp_X4_80 (sh_149) rfl (by omega) dX4_readFigures_95 (fun hM95 => ?_)
        exact s_vret hM95 rfl dX4_readFigures_98 (by rw [hMc, ← hx]; show _ = mS (mS (mS M 149 9 n) 149 7 i) 149 8 (if 2 < c then -2 else -3); first | rw [if_pos (by omega)] | rw [if_neg (by omega)])
      rw [e50, e7] at c30
      refine r_iinc1 dX4_readFigures_33 rfl ?_
      refine r_ald0 dX4_readFigures_36 ?_
      refine r_ild1 dX4_readFigures_37 ?_
      refine r_iconst dX4_readFigures_38 ?_
      refine r_icmp_le 46 dX4_readFigures_39 (by decide) (by omega) (by omega) (fun c39 => ?_) (fun c39 => ?_)
      · skip
        refine r_ald0 dX4_readFigures_46 ?_
        refine s_getI hML7 fi_X4_114 (sh_149) rfl dX4_readFigures_47 (fun g47 => ?_)
        try simp (disch := omega) only [mS_ne, mS_eq]
        refine r_bipush dX4_readFigures_50 (by decide +kernel) ?_
        refine r_imul dX4_readFigures_52 ?_
        refine r_ald0 dX4_readFigures_53 ?_
        refine s_getR fi_X4_9 (sh_149) rfl dX4_readFigures_54 ?_
        refine r_ald0 dX4_readFigures_57 ?_
        refine s_getI hML7 fi_X4_38 (sh_149) rfl dX4_readFigures_58 (fun g58 => ?_)
        try simp (disch := omega) only [mS_ne, mS_eq]
        refine s_iald hML7 (sh_150) (by omega) (by decide) dX4_readFigures_61 (fun g61 => ?_)
        try simp (disch := omega) only [mS_ne, mS_eq]
        refine r_iadd dX4_readFigures_62 ?_
        refine r_bipush dX4_readFigures_63 (by decide +kernel) ?_
        refine r_isub dX4_readFigures_65 ?_
        try simp only [e9, e50, e7]
        refine s_putI hML7 fp_X4_114 (sh_149) rfl (by omega) dX4_readFigures_66 (fun hM66 => ?_)
        refine r_ald0 dX4_readFigures_69 ?_
        refine r_dup dX4_readFigures_70 rfl ?_
        refine s_getI hM66 fi_X4_38 (sh_149) rfl dX4_readFigures_71 (fun g71 => ?_)
        try simp (disch := omega) only [mS_ne, mS_eq]
        refine r_iconst dX4_readFigures_74 ?_
        refine r_iadd dX4_readFigures_75 ?_
        try simp only [e7]
        refine s_putI hM66 fp_X4_38 (sh_149) rfl (by omega) dX4_readFigures_76 (fun hM76 => ?_)
        refine r_goto 7 dX4_readFigures_79 (by decide) ?_
        exact ih _ (if 2 < c + 1 then 0 else n * 10 + M 150 i.toNat - 48) (i + 1) _  hM76 (by rw [hMc, rf_step]; first | rw [if_pos (by omega)] | rw [if_neg (by omega)]) (by omega) (by omega) (by split <;> omega) (by rw [← hi, show (M 149 6 - i).toNat = (M 149 6 - (i + 1)).toNat + 1 by omega, figL, if_pos (c := i < M 149 6 ∧ figB (M 150 i.toNat)) ⟨by omega, c30⟩]) (by omega)
      refine r_iconst dX4_readFigures_42 ?_
      refine r_goto 66 dX4_readFigures_43 (by decide) ?_
      try simp only [e9, e50, e7]
      refine s_putI hML7 fp_X4_114 (sh_149) rfl (by omega) dX4_readFigures_66 (fun hM66 => ?_)
      refine r_ald0 dX4_readFigures_69 ?_
      refine r_dup dX4_readFigures_70 rfl ?_
      refine s_getI hM66 fi_X4_38 (sh_149) rfl dX4_readFigures_71 (fun g71 => ?_)
      try simp (disch := omega) only [mS_ne, mS_eq]
      refine r_iconst dX4_readFigures_74 ?_
      refine r_iadd dX4_readFigures_75 ?_
      try simp only [e7]
      refine s_putI hM66 fp_X4_38 (sh_149) rfl (by omega) dX4_readFigures_76 (fun hM76 => ?_)
      refine r_goto 7 dX4_readFigures_79 (by decide) ?_
      exact ih _ (if 2 < c + 1 then 0 else n * 10 + M 150 i.toNat - 48) (i + 1) _  hM76 (by rw [hMc, rf_step]; first | rw [if_pos (by omega)] | rw [if_neg (by omega)]) (by omega) (by omega) (by split <;> omega) (by rw [← hi, show (M 149 6 - i).toNat = (M 149 6 - (i + 1)).toNat + 1 by omega, figL, if_pos (c := i < M 149 6 ∧ figB (M 150 i.toNat)) ⟨by omega, c30⟩]) (by omega)
  refine r_iconst dX4_readFigures_0 ?_
  refine r_ist1 dX4_readFigures_1 rfl ?_
  refine r_ald0 dX4_readFigures_2 ?_
  refine r_iconst dX4_readFigures_3 ?_
  refine s_putI hM fp_X4_114 (sh_149) rfl (by omega) dX4_readFigures_4 (fun hM4 => ?_)
  exact L7 121 _ 0 (M 149 7) _  hM4 (by have h := mS_self (mS M 149 9 0) 149 7; rw [mS_ne (Or.inr (by decide))] at h; exact h.symm) (by omega) (by omega) (by omega) (by rfl) (by omega)
set_option maxHeartbeats 4000000 in
theorem c_X4_advance (E : xE) {M : xMem}  (hR : RI M) : Ct E mX4_advance 3 2 [xr E 149] M (none) (advM M) := by
  refine Ct.of 2 3 (by rfl) (by decide +kernel) (fun hM => ?_)
  obtain ⟨hR1, hR2, hR3⟩ := id hR
  show VS E mX4_advance 2 _ _ 0 [some (xr E 149), none, none] [] M
  refine r_ald0 dX4_advance_0 ?_
  refine r_ald0 dX4_advance_1 ?_
  refine s_getI hM fi_X4_38 (sh_149) rfl dX4_advance_2 (fun g2 => ?_)
  refine s_putI hM fp_X4_120 (sh_149) rfl (by omega) dX4_advance_5 (fun hM5 => ?_)
  refine r_ald0 dX4_advance_8 ?_
  refine s_getI hM5 fi_X4_38 (sh_149) rfl dX4_advance_9 (fun g9 => ?_)
  try simp (disch := omega) only [mS_ne, mS_eq]
  refine r_ald0 dX4_advance_12 ?_
  refine s_getI hM5 fi_X4_35 (sh_149) rfl dX4_advance_13 (fun g13 => ?_)
  try simp (disch := omega) only [mS_ne, mS_eq]
  refine r_icmp_lt 25 dX4_advance_16 (by decide) (by omega) (by omega) (fun c16 => ?_) (fun c16 => ?_)
  · skip
    refine r_ald0 dX4_advance_25 ?_
    refine s_getR fi_X4_9 (sh_149) rfl dX4_advance_26 ?_
    refine r_ald0 dX4_advance_29 ?_
    refine s_getI hM5 fi_X4_38 (sh_149) rfl dX4_advance_30 (fun g30 => ?_)
    try simp (disch := omega) only [mS_ne, mS_eq]
    refine s_iald hM5 (sh_150) (by omega) (by decide) dX4_advance_33 (fun g33 => ?_)
    try simp (disch := omega) only [mS_ne, mS_eq]
    have h33 := hR3 (M 149 7).toNat (by omega)
    refine r_ist1 dX4_advance_34 rfl ?_
    refine r_ild1 dX4_advance_35 ?_
    refine s_callS1r hM5 (c_X4_isFigure E (by first | with_reducible assumption | with_reducible exact xSt_9 | with_reducible exact xSt_13 | omega)) cs_X4_isFigure wM_X4_123 (Nat.le_of_ble_eq_true rfl) (by decide) dX4_advance_36 (fun _ => ?_)
    refine r_ifb_eq 47 dX4_advance_39 (by decide) (fun c39 => ?_) (fun c39 => ?_)
    · skip
      refine r_ild1 dX4_advance_47 ?_
      refine r_bipush dX4_advance_48 (by decide +kernel) ?_
      refine r_icmp_lt 59 dX4_advance_50 (by decide) (by omega) (by omega) (fun c50 => ?_) (fun c50 => ?_)
      · skip
        refine r_ild1 dX4_advance_59 ?_
        refine r_bipush dX4_advance_60 (by decide +kernel) ?_
        refine r_icmp_eq 71 dX4_advance_62 (by decide) (by omega) (by omega) (fun c62 => ?_) (fun c62 => ?_)
        · skip
          refine r_iconst dX4_advance_71 ?_
          refine r_goto 76 dX4_advance_72 (by decide) ?_
          refine r_ist2 dX4_advance_76 rfl ?_
          refine r_ald0 dX4_advance_77 ?_
          refine r_ild2 dX4_advance_78 ?_
          refine r_if_eq 86 dX4_advance_79 (by decide) (by omega) (fun c79 => by exfalso; omega) (fun c79 => ?_)
          refine r_ild1 dX4_advance_82 ?_
          refine r_goto 88 dX4_advance_83 (by decide) ?_
          refine s_putI hM5 fp_X4_80 (sh_149) rfl (by omega) dX4_advance_88 (fun hM88 => ?_)
          refine r_ald0 dX4_advance_91 ?_
          refine r_dup dX4_advance_92 rfl ?_
          refine s_getI hM88 fi_X4_38 (sh_149) rfl dX4_advance_93 (fun g93 => ?_)
          try simp (disch := omega) only [mS_ne, mS_eq]
          refine r_iconst dX4_advance_96 ?_
          refine r_iadd dX4_advance_97 ?_
          refine s_putI hM88 fp_X4_38 (sh_149) rfl (by omega) dX4_advance_98 (fun hM98 => ?_)
          exact s_vret hM98 rfl dX4_advance_101 (by first | (exact adv_one (by omega) c39 (by first | (rw [if_pos (by omega)]) | (rw [if_neg (by omega)]))) | (rw [mS_row (by decide), mS_ne (Or.inr (by decide)), mS_ne (Or.inr (by decide))]; exact adv_fig (by omega) c39) | exact adv_end (by omega))
        refine r_ild1 dX4_advance_65 ?_
        refine r_bipush dX4_advance_66 (by decide +kernel) ?_
        refine r_icmp_ne 75 dX4_advance_68 (by decide) (by omega) (by omega) (fun c68 => ?_) (fun c68 => ?_)
        · skip
          refine r_iconst dX4_advance_75 ?_
          refine r_ist2 dX4_advance_76 rfl ?_
          refine r_ald0 dX4_advance_77 ?_
          refine r_ild2 dX4_advance_78 ?_
          refine r_if_eq 86 dX4_advance_79 (by decide) (by omega) (fun c79 => ?_) (fun c79 => by exfalso; omega)
          refine r_bipush dX4_advance_86 (by decide +kernel) ?_
          refine s_putI hM5 fp_X4_80 (sh_149) rfl (by omega) dX4_advance_88 (fun hM88 => ?_)
          refine r_ald0 dX4_advance_91 ?_
          refine r_dup dX4_advance_92 rfl ?_
          refine s_getI hM88 fi_X4_38 (sh_149) rfl dX4_advance_93 (fun g93 => ?_)
          try simp (disch := omega) only [mS_ne, mS_eq]
          refine r_iconst dX4_advance_96 ?_
          refine r_iadd dX4_advance_97 ?_
          refine s_putI hM88 fp_X4_38 (sh_149) rfl (by omega) dX4_advance_98 (fun hM98 => ?_)
          exact s_vret hM98 rfl dX4_advance_101 (by first | (exact adv_one (by omega) c39 (by first | (rw [if_pos (by omega)]) | (rw [if_neg (by omega)]))) | (rw [mS_row (by decide), mS_ne (Or.inr (by decide)), mS_ne (Or.inr (by decide))]; exact adv_fig (by omega) c39) | exact adv_end (by omega))
        refine r_iconst dX4_advance_71 ?_
        refine r_goto 76 dX4_advance_72 (by decide) ?_
        refine r_ist2 dX4_advance_76 rfl ?_
        refine r_ald0 dX4_advance_77 ?_
        refine r_ild2 dX4_advance_78 ?_
        refine r_if_eq 86 dX4_advance_79 (by decide) (by omega) (fun c79 => by exfalso; omega) (fun c79 => ?_)
        refine r_ild1 dX4_advance_82 ?_
        refine r_goto 88 dX4_advance_83 (by decide) ?_
        refine s_putI hM5 fp_X4_80 (sh_149) rfl (by omega) dX4_advance_88 (fun hM88 => ?_)
        refine r_ald0 dX4_advance_91 ?_
        refine r_dup dX4_advance_92 rfl ?_
        refine s_getI hM88 fi_X4_38 (sh_149) rfl dX4_advance_93 (fun g93 => ?_)
        try simp (disch := omega) only [mS_ne, mS_eq]
        refine r_iconst dX4_advance_96 ?_
        refine r_iadd dX4_advance_97 ?_
        refine s_putI hM88 fp_X4_38 (sh_149) rfl (by omega) dX4_advance_98 (fun hM98 => ?_)
        exact s_vret hM98 rfl dX4_advance_101 (by first | (exact adv_one (by omega) c39 (by first | (rw [if_pos (by omega)]) | (rw [if_neg (by omega)]))) | (rw [mS_row (by decide), mS_ne (Or.inr (by decide)), mS_ne (Or.inr (by decide))]; exact adv_fig (by omega) c39) | exact adv_end (by omega))
      refine r_ild1 dX4_advance_53 ?_
      refine r_bipush dX4_advance_54 (by decide +kernel) ?_
      refine r_icmp_le 71 dX4_advance_56 (by decide) (by omega) (by omega) (fun c56 => ?_) (fun c56 => ?_)
      · skip
        refine r_iconst dX4_advance_71 ?_
        refine r_goto 76 dX4_advance_72 (by decide) ?_
        refine r_ist2 dX4_advance_76 rfl ?_
        refine r_ald0 dX4_advance_77 ?_
        refine r_ild2 dX4_advance_78 ?_
        refine r_if_eq 86 dX4_advance_79 (by decide) (by omega) (fun c79 => by exfalso; omega) (fun c79 => ?_)
        refine r_ild1 dX4_advance_82 ?_
        refine r_goto 88 dX4_advance_83 (by decide) ?_
        refine s_putI hM5 fp_X4_80 (sh_149) rfl (by omega) dX4_advance_88 (fun hM88 => ?_)
        refine r_ald0 dX4_advance_91 ?_
        refine r_dup dX4_advance_92 rfl ?_
        refine s_getI hM88 fi_X4_38 (sh_149) rfl dX4_advance_93 (fun g93 => ?_)
        try simp (disch := omega) only [mS_ne, mS_eq]
        refine r_iconst dX4_advance_96 ?_
        refine r_iadd dX4_advance_97 ?_
        refine s_putI hM88 fp_X4_38 (sh_149) rfl (by omega) dX4_advance_98 (fun hM98 => ?_)
        exact s_vret hM98 rfl dX4_advance_101 (by first | (exact adv_one (by omega) c39 (by first | (rw [if_pos (by omega)]) | (rw [if_neg (by omega)]))) | (rw [mS_row (by decide), mS_ne (Or.inr (by decide)), mS_ne (Or.inr (by decide))]; exact adv_fig (by omega) c39) | exact adv_end (by omega))
      refine r_ild1 dX4_advance_59 ?_
      refine r_bipush dX4_advance_60 (by decide +kernel) ?_
      refine r_icmp_eq 71 dX4_advance_62 (by decide) (by omega) (by omega) (fun c62 => ?_) (fun c62 => ?_)
      · skip
        refine r_iconst dX4_advance_71 ?_
        refine r_goto 76 dX4_advance_72 (by decide) ?_
        refine r_ist2 dX4_advance_76 rfl ?_
        refine r_ald0 dX4_advance_77 ?_
        refine r_ild2 dX4_advance_78 ?_
        refine r_if_eq 86 dX4_advance_79 (by decide) (by omega) (fun c79 => by exfalso; omega) (fun c79 => ?_)
        refine r_ild1 dX4_advance_82 ?_
        refine r_goto 88 dX4_advance_83 (by decide) ?_
        refine s_putI hM5 fp_X4_80 (sh_149) rfl (by omega) dX4_advance_88 (fun hM88 => ?_)
        refine r_ald0 dX4_advance_91 ?_
        refine r_dup dX4_advance_92 rfl ?_
        refine s_getI hM88 fi_X4_38 (sh_149) rfl dX4_advance_93 (fun g93 => ?_)
        try simp (disch := omega) only [mS_ne, mS_eq]
        refine r_iconst dX4_advance_96 ?_
        refine r_iadd dX4_advance_97 ?_
        refine s_putI hM88 fp_X4_38 (sh_149) rfl (by omega) dX4_advance_98 (fun hM98 => ?_)
        exact s_vret hM98 rfl dX4_advance_101 (by first | (exact adv_one (by omega) c39 (by first | (rw [if_pos (by omega)]) | (rw [if_neg (by omega)]))) | (rw [mS_row (by decide), mS_ne (Or.inr (by decide)), mS_ne (Or.inr (by decide))]; exact adv_fig (by omega) c39) | exact adv_end (by omega))
      refine r_ild1 dX4_advance_65 ?_
      refine r_bipush dX4_advance_66 (by decide +kernel) ?_
      refine r_icmp_ne 75 dX4_advance_68 (by decide) (by omega) (by omega) (fun c68 => ?_) (fun c68 => ?_)
      · skip
        refine r_iconst dX4_advance_75 ?_
        refine r_ist2 dX4_advance_76 rfl ?_
        refine r_ald0 dX4_advance_77 ?_
        refine r_ild2 dX4_advance_78 ?_
        refine r_if_eq 86 dX4_advance_79 (by decide) (by omega) (fun c79 => ?_) (fun c79 => by exfalso; omega)
        refine r_bipush dX4_advance_86 (by decide +kernel) ?_
        refine s_putI hM5 fp_X4_80 (sh_149) rfl (by omega) dX4_advance_88 (fun hM88 => ?_)
        refine r_ald0 dX4_advance_91 ?_
        refine r_dup dX4_advance_92 rfl ?_
        refine s_getI hM88 fi_X4_38 (sh_149) rfl dX4_advance_93 (fun g93 => ?_)
        try simp (disch := omega) only [mS_ne, mS_eq]
        refine r_iconst dX4_advance_96 ?_
        refine r_iadd dX4_advance_97 ?_
        refine s_putI hM88 fp_X4_38 (sh_149) rfl (by omega) dX4_advance_98 (fun hM98 => ?_)
        exact s_vret hM98 rfl dX4_advance_101 (by first | (exact adv_one (by omega) c39 (by first | (rw [if_pos (by omega)]) | (rw [if_neg (by omega)]))) | (rw [mS_row (by decide), mS_ne (Or.inr (by decide)), mS_ne (Or.inr (by decide))]; exact adv_fig (by omega) c39) | exact adv_end (by omega))
      refine r_iconst dX4_advance_71 ?_
      refine r_goto 76 dX4_advance_72 (by decide) ?_
      refine r_ist2 dX4_advance_76 rfl ?_
      refine r_ald0 dX4_advance_77 ?_
      refine r_ild2 dX4_advance_78 ?_
      refine r_if_eq 86 dX4_advance_79 (by decide) (by omega) (fun c79 => by exfalso; omega) (fun c79 => ?_)
      refine r_ild1 dX4_advance_82 ?_
      refine r_goto 88 dX4_advance_83 (by decide) ?_
      refine s_putI hM5 fp_X4_80 (sh_149) rfl (by omega) dX4_advance_88 (fun hM88 => ?_)
      refine r_ald0 dX4_advance_91 ?_
      refine r_dup dX4_advance_92 rfl ?_
      refine s_getI hM88 fi_X4_38 (sh_149) rfl dX4_advance_93 (fun g93 => ?_)
      try simp (disch := omega) only [mS_ne, mS_eq]
      refine r_iconst dX4_advance_96 ?_
      refine r_iadd dX4_advance_97 ?_
      refine s_putI hM88 fp_X4_38 (sh_149) rfl (by omega) dX4_advance_98 (fun hM98 => ?_)
      exact s_vret hM98 rfl dX4_advance_101 (by first | (exact adv_one (by omega) c39 (by first | (rw [if_pos (by omega)]) | (rw [if_neg (by omega)]))) | (rw [mS_row (by decide), mS_ne (Or.inr (by decide)), mS_ne (Or.inr (by decide))]; exact adv_fig (by omega) c39) | exact adv_end (by omega))
    refine r_ald0 dX4_advance_42 ?_
    refine s_callV0v hM5 (c_X4_readFigures E (by exact RI_mS (by decide) hR)) cv_X4_readFigures wM_X4_126 (sh_149) rfl rfl (Nat.le_of_ble_eq_true rfl) (by decide) dX4_advance_43 (fun hM43 => ?_)
    exact s_vret hM43 rfl dX4_advance_46 (by first | (exact adv_one (by omega) c39 (by first | (rw [if_pos (by omega)]) | (rw [if_neg (by omega)]))) | (rw [mS_row (by decide), mS_ne (Or.inr (by decide)), mS_ne (Or.inr (by decide))]; exact adv_fig (by omega) c39) | exact adv_end (by omega))
  refine r_ald0 dX4_advance_19 ?_
  refine r_iconst dX4_advance_20 ?_
  refine s_putI hM5 fp_X4_80 (sh_149) rfl (by omega) dX4_advance_21 (fun hM21 => ?_)
  exact s_vret hM21 rfl dX4_advance_24 (by first | (exact adv_one (by omega) c39 (by first | (rw [if_pos (by omega)]) | (rw [if_neg (by omega)]))) | (rw [mS_row (by decide), mS_ne (Or.inr (by decide)), mS_ne (Or.inr (by decide))]; exact adv_fig (by omega) c39) | exact adv_end (by omega))
set_option maxHeartbeats 4000000 in
theorem c_X4_takeSign (E : xE) {M : xMem} {x : Int} (hR : RI M) (hx : -2147483648 ≤ x ∧ x < 2147483648) : Ct E mX4_takeSign 2 3 [xr E 149, xi x] M (some (xi (b2i (M 149 8 = x)))) (if M 149 8 = x then advM M else mS M 149 4 1) := by
  refine Ct.of 0 2 (by rfl) (by decide +kernel) (fun hM => ?_)
  show VS E mX4_takeSign 3 _ _ 0 [some (xr E 149), some (xi x)] [] M
  refine r_ald0 dX4_takeSign_0 ?_
  refine s_getI hM fi_X4_80 (sh_149) rfl dX4_takeSign_1 (fun g1 => ?_)
  refine r_ild1 dX4_takeSign_4 ?_
  refine r_icmp_eq 14 dX4_takeSign_5 (by decide) (by omega) (by omega) (fun c5 => ?_) (fun c5 => ?_)
  · skip
    refine r_ald0 dX4_takeSign_14 ?_
    refine s_callV0v hM (c_X4_advance E (by first | with_reducible assumption | with_reducible exact xSt_9 | with_reducible exact xSt_13 | omega)) cv_X4_advance wM_X4_47 (sh_149) rfl rfl (Nat.le_of_ble_eq_true rfl) (by decide) dX4_takeSign_15 (fun hM15 => ?_)
    refine r_iconst dX4_takeSign_18 ?_
    exact s_zret hM15 rfl (by omega) dX4_takeSign_19 (by first | exact (b2i_t (by assumption)).symm | exact (b2i_f (by assumption)).symm) (by first | rw [if_pos (by assumption)] | rw [if_neg (by assumption)])
  refine r_ald0 dX4_takeSign_8 ?_
  refine r_iconst dX4_takeSign_9 ?_
  refine s_callV1r hM (c_X4_fail E (by first | with_reducible assumption | with_reducible exact xSt_9 | with_reducible exact xSt_13 | omega)) cv_X4_fail wM_X4_86 (sh_149) rfl rfl (Nat.le_of_ble_eq_true rfl) (by decide) dX4_takeSign_10 (fun hM10 => ?_)
  exact s_zret hM10 rfl (by omega) dX4_takeSign_13 (by first | exact (b2i_t (by assumption)).symm | exact (b2i_f (by assumption)).symm) (by first | rw [if_pos (by assumption)] | rw [if_neg (by assumption)])
set_option maxHeartbeats 4000000 in
theorem c_X4_takeNumber (E : xE) {M : xMem} {x z : Int} (hR : RI M) (hx : -2147483648 ≤ x ∧ x < 2147483648) (hz : -2147483648 ≤ z ∧ z < 2147483648) : Ct E mX4_takeNumber 3 3 [xr E 149, xi x, xi z] M (some (xi (b2i (nG M x z)))) (if nG M x z then advM (mS M 149 10 (M 149 9)) else nF M) := by
  refine Ct.of 0 3 (by rfl) (by decide +kernel) (fun hM => ?_)
  show VS E mX4_takeNumber 3 _ _ 0 [some (xr E 149), some (xi x), some (xi z)] [] M
  refine r_ald0 dX4_takeNumber_0 ?_
  refine s_getI hM fi_X4_80 (sh_149) rfl dX4_takeNumber_1 (fun g1 => ?_)
  refine r_bipush dX4_takeNumber_4 (by decide +kernel) ?_
  refine r_icmp_eq 15 dX4_takeNumber_6 (by decide) (by omega) (by omega) (fun c6 => ?_) (fun c6 => ?_)
  · skip
    refine r_ald0 dX4_takeNumber_15 ?_
    refine s_getI hM fi_X4_114 (sh_149) rfl dX4_takeNumber_16 (fun g16 => ?_)
    refine r_ild1 dX4_takeNumber_19 ?_
    refine r_icmp_lt 31 dX4_takeNumber_20 (by decide) (by omega) (by omega) (fun c20 => ?_) (fun c20 => ?_)
    · skip
      refine r_ald0 dX4_takeNumber_31 ?_
      refine r_iconst dX4_takeNumber_32 ?_
      refine s_callV1r hM (c_X4_fail E (by first | with_reducible assumption | with_reducible exact xSt_9 | with_reducible exact xSt_13 | omega)) cv_X4_fail wM_X4_86 (sh_149) rfl rfl (Nat.le_of_ble_eq_true rfl) (by decide) dX4_takeNumber_33 (fun hM33 => ?_)
      exact s_zret hM33 rfl (by omega) dX4_takeNumber_36 (by first | exact (b2i_t ⟨by assumption, by omega, by omega⟩).symm | exact (b2i_f (fun q => by obtain ⟨q1, q2, q3⟩ := q; first | omega | contradiction)).symm) (by first | rw [if_pos ⟨by assumption, by omega, by omega⟩] | (rw [if_neg (fun q => by obtain ⟨q1, q2, q3⟩ := q; first | omega | contradiction)]; unfold nF; first | rw [if_pos (by assumption)] | rw [if_neg (by assumption)]))
    refine r_ald0 dX4_takeNumber_23 ?_
    refine s_getI hM fi_X4_114 (sh_149) rfl dX4_takeNumber_24 (fun g24 => ?_)
    refine r_ild2 dX4_takeNumber_27 ?_
    refine r_icmp_le 37 dX4_takeNumber_28 (by decide) (by omega) (by omega) (fun c28 => ?_) (fun c28 => ?_)
    · skip
      refine r_ald0 dX4_takeNumber_37 ?_
      refine r_ald0 dX4_takeNumber_38 ?_
      refine s_getI hM fi_X4_114 (sh_149) rfl dX4_takeNumber_39 (fun g39 => ?_)
      refine s_putI hM fp_X4_68 (sh_149) rfl (by omega) dX4_takeNumber_42 (fun hM42 => ?_)
      refine r_ald0 dX4_takeNumber_45 ?_
      refine s_callV0v hM42 (c_X4_advance E (by exact RI_mS (by decide) hR)) cv_X4_advance wM_X4_47 (sh_149) rfl rfl (Nat.le_of_ble_eq_true rfl) (by decide) dX4_takeNumber_46 (fun hM46 => ?_)
      refine r_iconst dX4_takeNumber_49 ?_
      exact s_zret hM46 rfl (by omega) dX4_takeNumber_50 (by first | exact (b2i_t ⟨by assumption, by omega, by omega⟩).symm | exact (b2i_f (fun q => by obtain ⟨q1, q2, q3⟩ := q; first | omega | contradiction)).symm) (by first | rw [if_pos ⟨by assumption, by omega, by omega⟩] | (rw [if_neg (fun q => by obtain ⟨q1, q2, q3⟩ := q; first | omega | contradiction)]; unfold nF; first | rw [if_pos (by assumption)] | rw [if_neg (by assumption)]))
    refine r_ald0 dX4_takeNumber_31 ?_
    refine r_iconst dX4_takeNumber_32 ?_
    refine s_callV1r hM (c_X4_fail E (by first | with_reducible assumption | with_reducible exact xSt_9 | with_reducible exact xSt_13 | omega)) cv_X4_fail wM_X4_86 (sh_149) rfl rfl (Nat.le_of_ble_eq_true rfl) (by decide) dX4_takeNumber_33 (fun hM33 => ?_)
    exact s_zret hM33 rfl (by omega) dX4_takeNumber_36 (by first | exact (b2i_t ⟨by assumption, by omega, by omega⟩).symm | exact (b2i_f (fun q => by obtain ⟨q1, q2, q3⟩ := q; first | omega | contradiction)).symm) (by first | rw [if_pos ⟨by assumption, by omega, by omega⟩] | (rw [if_neg (fun q => by obtain ⟨q1, q2, q3⟩ := q; first | omega | contradiction)]; unfold nF; first | rw [if_pos (by assumption)] | rw [if_neg (by assumption)]))
  refine r_ald0 dX4_takeNumber_9 ?_
  refine r_iconst dX4_takeNumber_10 ?_
  refine s_callV1r hM (c_X4_fail E (by first | with_reducible assumption | with_reducible exact xSt_9 | with_reducible exact xSt_13 | omega)) cv_X4_fail wM_X4_86 (sh_149) rfl rfl (Nat.le_of_ble_eq_true rfl) (by decide) dX4_takeNumber_11 (fun hM11 => ?_)
  exact s_zret hM11 rfl (by omega) dX4_takeNumber_14 (by first | exact (b2i_t ⟨by assumption, by omega, by omega⟩).symm | exact (b2i_f (fun q => by obtain ⟨q1, q2, q3⟩ := q; first | omega | contradiction)).symm) (by first | rw [if_pos ⟨by assumption, by omega, by omega⟩] | (rw [if_neg (fun q => by obtain ⟨q1, q2, q3⟩ := q; first | omega | contradiction)]; unfold nF; first | rw [if_pos (by assumption)] | rw [if_neg (by assumption)]))
set_option maxHeartbeats 4000000 in
theorem c_X4_readLaw (E : xE) {M : xMem}  (hR : RI M) : Ct E mX4_readLaw 1 4 [xr E 149] M (some (xi (b2i ((rdLaw M).1 = true)))) ((rdLaw M).2) := by
  refine Ct.of 0 1 (by rfl) (by decide +kernel) (fun hM => ?_)
  have hk : rdLaw M = exS M 99 fun A => exN A 1 60 fun v B => exS (mS (mS B 151 5 v) 157 5 v) 44 fun C => exN C 1 9 fun u D => exS (mS D 157 7 u) 59 fun F => (true, F) := rfl
  show VS E mX4_readLaw 4 _ _ 0 [some (xr E 149)] [] M
  refine r_ald0 dX4_readLaw_0 ?_
  refine r_bipush dX4_readLaw_1 (by decide +kernel) ?_
  refine s_callV1r hM (c_X4_takeSign E (by repeat (first | assumption | apply RI_adv | (refine RI_mS (by omega) ?_))) (by first | with_reducible assumption | with_reducible exact xSt_9 | with_reducible exact xSt_13 | omega)) cv_X4_takeSign wM_X4_60 (sh_149) rfl rfl (Nat.le_of_ble_eq_true rfl) (by decide) dX4_readLaw_3 (fun hM3 => ?_)
  refine r_ifb_eq 19 dX4_readLaw_6 (by decide) (fun c6 => ?_) (fun c6 => ?_)
  · skip
    rw [if_neg c6] at hM3 ⊢
    have hk := hk.trans (exS_f c6)
    refine r_iconst dX4_readLaw_19 ?_
    exact s_zret hM3 rfl (by omega) dX4_readLaw_20 (by first | (rw [hk]; rfl) | (rw [hk, exS_end]; exact b2i_d)) (by first | (rw [hk]; done) | (rw [hk, exS_end]; done))
  rw [if_pos c6] at hM3 ⊢
  have hk := hk.trans (exS_t c6)
  refine r_ald0 dX4_readLaw_9 ?_
  refine r_iconst dX4_readLaw_10 ?_
  refine r_bipush dX4_readLaw_11 (by decide +kernel) ?_
  refine s_callV2r hM3 (c_X4_takeNumber E (by repeat (first | assumption | apply RI_adv | (refine RI_mS (by omega) ?_))) (by first | with_reducible assumption | with_reducible exact xSt_9 | with_reducible exact xSt_13 | omega) (by first | with_reducible assumption | with_reducible exact xSt_9 | with_reducible exact xSt_13 | omega)) cv_X4_takeNumber wM_X4_64 (sh_149) rfl rfl (Nat.le_of_ble_eq_true rfl) (by decide) dX4_readLaw_13 (fun hM13 => ?_)
  refine r_ifb_ne 21 dX4_readLaw_16 (by decide) (fun c16 => ?_) (fun c16 => ?_)
  · skip
    rw [if_pos c16] at hM13 ⊢
    have hk := hk.trans (exN_t c16)
    refine r_ald0 dX4_readLaw_21 ?_
    refine s_getR fi_X4_18 (sh_149) rfl dX4_readLaw_22 ?_
    refine r_ald0 dX4_readLaw_25 ?_
    refine s_getI hM13 fi_X4_68 (sh_149) rfl dX4_readLaw_26 (fun g26 => ?_)
    try simp (disch := omega) only [mS_ne, mS_eq, adv_o, adv_lo]
    refine s_putI hM13 fp_X4_71 (sh_151) rfl (by omega) dX4_readLaw_29 (fun hM29 => ?_)
    refine r_ald0 dX4_readLaw_32 ?_
    refine s_getR fi_X4_27 (sh_149) rfl dX4_readLaw_33 ?_
    refine r_ald0 dX4_readLaw_36 ?_
    refine s_getI hM29 fi_X4_68 (sh_149) rfl dX4_readLaw_37 (fun g37 => ?_)
    try simp (disch := omega) only [mS_ne, mS_eq, adv_o, adv_lo]
    refine s_putI hM29 fp_X4_74 (sh_157) rfl (by omega) dX4_readLaw_40 (fun hM40 => ?_)
    refine r_ald0 dX4_readLaw_43 ?_
    refine r_bipush dX4_readLaw_44 (by decide +kernel) ?_
    refine s_callV1r hM40 (c_X4_takeSign E (by repeat (first | assumption | apply RI_adv | (refine RI_mS (by omega) ?_))) (by first | with_reducible assumption | with_reducible exact xSt_9 | with_reducible exact xSt_13 | omega)) cv_X4_takeSign wM_X4_60 (sh_149) rfl rfl (Nat.le_of_ble_eq_true rfl) (by decide) dX4_readLaw_46 (fun hM46 => ?_)
    refine r_ifb_eq 62 dX4_readLaw_49 (by decide) (fun c49 => ?_) (fun c49 => ?_)
    · skip
      rw [if_neg c49] at hM46 ⊢
      have hk := hk.trans (exS_f c49)
      refine r_iconst dX4_readLaw_62 ?_
      exact s_zret hM46 rfl (by omega) dX4_readLaw_63 (by first | (rw [hk]; rfl) | (rw [hk, exS_end]; exact b2i_d)) (by first | (rw [hk]; done) | (rw [hk, exS_end]; done))
    rw [if_pos c49] at hM46 ⊢
    have hk := hk.trans (exS_t c49)
    refine r_ald0 dX4_readLaw_52 ?_
    refine r_iconst dX4_readLaw_53 ?_
    refine r_bipush dX4_readLaw_54 (by decide +kernel) ?_
    refine s_callV2r hM46 (c_X4_takeNumber E (by repeat (first | assumption | apply RI_adv | (refine RI_mS (by omega) ?_))) (by first | with_reducible assumption | with_reducible exact xSt_9 | with_reducible exact xSt_13 | omega) (by first | with_reducible assumption | with_reducible exact xSt_9 | with_reducible exact xSt_13 | omega)) cv_X4_takeNumber wM_X4_64 (sh_149) rfl rfl (Nat.le_of_ble_eq_true rfl) (by decide) dX4_readLaw_56 (fun hM56 => ?_)
    refine r_ifb_ne 64 dX4_readLaw_59 (by decide) (fun c59 => ?_) (fun c59 => ?_)
    · skip
      rw [if_pos c59] at hM56 ⊢
      have hk := hk.trans (exN_t c59)
      refine r_ald0 dX4_readLaw_64 ?_
      refine s_getR fi_X4_27 (sh_149) rfl dX4_readLaw_65 ?_
      refine r_ald0 dX4_readLaw_68 ?_
      refine s_getI hM56 fi_X4_68 (sh_149) rfl dX4_readLaw_69 (fun g69 => ?_)
      try simp (disch := omega) only [mS_ne, mS_eq, adv_o, adv_lo]
      refine s_putI hM56 fp_X4_77 (sh_157) rfl (by omega) dX4_readLaw_72 (fun hM72 => ?_)
      refine r_ald0 dX4_readLaw_75 ?_
      refine r_bipush dX4_readLaw_76 (by decide +kernel) ?_
      refine s_callV1r hM72 (c_X4_takeSign E (by repeat (first | assumption | apply RI_adv | (refine RI_mS (by omega) ?_))) (by first | with_reducible assumption | with_reducible exact xSt_9 | with_reducible exact xSt_13 | omega)) cv_X4_takeSign wM_X4_60 (sh_149) rfl rfl (Nat.le_of_ble_eq_true rfl) (by decide) dX4_readLaw_78 (fun hM78 => ?_)
      exact s_zret hM78 rfl (by have := @b2i_rg; unfold b2i; split <;> simp) dX4_readLaw_81 (by first | (rw [hk]; rfl) | (rw [hk, exS_end]; exact b2i_d)) (by first | (rw [hk]; done) | (rw [hk, exS_end]; done))
    rw [if_neg c59] at hM56 ⊢
    have hk := hk.trans (exN_f c59)
    refine r_iconst dX4_readLaw_62 ?_
    exact s_zret hM56 rfl (by omega) dX4_readLaw_63 (by first | (rw [hk]; rfl) | (rw [hk, exS_end]; exact b2i_d)) (by first | (rw [hk]; done) | (rw [hk, exS_end]; done))
  rw [if_neg c16] at hM13 ⊢
  have hk := hk.trans (exN_f c16)
  refine r_iconst dX4_readLaw_19 ?_
  exact s_zret hM13 rfl (by omega) dX4_readLaw_20 (by first | (rw [hk]; rfl) | (rw [hk, exS_end]; exact b2i_d)) (by first | (rw [hk]; done) | (rw [hk, exS_end]; done))
set_option maxHeartbeats 4000000 in
theorem c_X4_readPerson (E : xE) {M : xMem}  (hR : RI M) (hP : 0 ≤ M 151 6 ∧ M 151 6 ≤ 5) : Ct E mX4_readPerson 2 4 [xr E 149] M (some (xi (b2i ((rdPer M).1 = true)))) ((rdPer M).2) := by
  refine Ct.of 1 2 (by rfl) (by decide +kernel) (fun hM => ?_)
  have hk : rdPer M = if M 149 8 = 122 ∧ 5 ≤ M 151 6 then (false, mS M 149 4 3) else exS M 122 fun A => exN A 0 99 fun v B => exS (mS B 158 (M 151 6).toNat v) 44 fun C => exN C 0 20 fun u D => exS (mS (mS D 152 (M 151 6).toNat u) 151 6 (M 151 6 + 1)) 59 fun F => (true, F) := rfl
  show VS E mX4_readPerson 4 _ _ 0 [some (xr E 149), none] [] M
  have L28 : (M 149 8 = 122 → M 151 6 < 5) → VS E mX4_readPerson 4 (some (xi (b2i ((rdPer M).1 = true)))) ((rdPer M).2) 28 [some (xr E 149), some (xi (M 151 6))] [] M := by
    intro   hz
    have hk := hk.trans (if_neg (by omega))
    refine r_ald0 dX4_readPerson_28 ?_
    refine r_bipush dX4_readPerson_29 (by decide +kernel) ?_
    refine s_callV1r hM (c_X4_takeSign E (by repeat (first | assumption | apply RI_adv | (refine RI_mS (by omega) ?_))) (by first | with_reducible assumption | with_reducible exact xSt_9 | with_reducible exact xSt_13 | omega)) cv_X4_takeSign wM_X4_60 (sh_149) rfl rfl (Nat.le_of_ble_eq_true rfl) (by decide) dX4_readPerson_31 (fun hM31 => ?_)
    refine r_ifb_eq 47 dX4_readPerson_34 (by decide) (fun c34 => ?_) (fun c34 => ?_)
    · skip
      rw [if_neg c34] at hM31 ⊢
      have hk := hk.trans (exS_f c34)
      refine r_iconst dX4_readPerson_47 ?_
      exact s_zret hM31 rfl (by omega) dX4_readPerson_48 (by first | (rw [hk]; rfl) | (rw [hk, exS_end]; exact b2i_d)) (by first | (rw [hk]; done) | (rw [hk, exS_end]; done))
    rw [if_pos c34] at hM31 ⊢
    have hk := hk.trans (exS_t c34)
    refine r_ald0 dX4_readPerson_37 ?_
    refine r_iconst dX4_readPerson_38 ?_
    refine r_bipush dX4_readPerson_39 (by decide +kernel) ?_
    refine s_callV2r hM31 (c_X4_takeNumber E (by repeat (first | assumption | apply RI_adv | (refine RI_mS (by omega) ?_))) (by first | with_reducible assumption | with_reducible exact xSt_9 | with_reducible exact xSt_13 | omega) (by first | with_reducible assumption | with_reducible exact xSt_9 | with_reducible exact xSt_13 | omega)) cv_X4_takeNumber wM_X4_64 (sh_149) rfl rfl (Nat.le_of_ble_eq_true rfl) (by decide) dX4_readPerson_41 (fun hM41 => ?_)
    refine r_ifb_ne 49 dX4_readPerson_44 (by decide) (fun c44 => ?_) (fun c44 => ?_)
    · skip
      rw [if_pos c44] at hM41 ⊢
      have hk := hk.trans (exN_t c44)
      refine r_ald0 dX4_readPerson_49 ?_
      refine s_getR fi_X4_27 (sh_149) rfl dX4_readPerson_50 ?_
      refine s_getR fi_X4_89 (sh_157) rfl dX4_readPerson_53 ?_
      refine r_ild1 dX4_readPerson_56 ?_
      refine r_ald0 dX4_readPerson_57 ?_
      refine s_getI hM41 fi_X4_68 (sh_149) rfl dX4_readPerson_58 (fun g58 => ?_)
      try simp (disch := omega) only [mS_ne, mS_eq, adv_o, adv_lo]
      refine s_iast hM41 (sh_158) (by omega) (by decide) (by omega) dX4_readPerson_61 (fun hM61 => ?_)
      refine r_ald0 dX4_readPerson_62 ?_
      refine r_bipush dX4_readPerson_63 (by decide +kernel) ?_
      refine s_callV1r hM61 (c_X4_takeSign E (by repeat (first | assumption | apply RI_adv | (refine RI_mS (by omega) ?_))) (by first | with_reducible assumption | with_reducible exact xSt_9 | with_reducible exact xSt_13 | omega)) cv_X4_takeSign wM_X4_60 (sh_149) rfl rfl (Nat.le_of_ble_eq_true rfl) (by decide) dX4_readPerson_65 (fun hM65 => ?_)
      refine r_ifb_eq 81 dX4_readPerson_68 (by decide) (fun c68 => ?_) (fun c68 => ?_)
      · skip
        rw [if_neg c68] at hM65 ⊢
        have hk := hk.trans (exS_f c68)
        refine r_iconst dX4_readPerson_81 ?_
        exact s_zret hM65 rfl (by omega) dX4_readPerson_82 (by first | (rw [hk]; rfl) | (rw [hk, exS_end]; exact b2i_d)) (by first | (rw [hk]; done) | (rw [hk, exS_end]; done))
      rw [if_pos c68] at hM65 ⊢
      have hk := hk.trans (exS_t c68)
      refine r_ald0 dX4_readPerson_71 ?_
      refine r_iconst dX4_readPerson_72 ?_
      refine r_bipush dX4_readPerson_73 (by decide +kernel) ?_
      refine s_callV2r hM65 (c_X4_takeNumber E (by repeat (first | assumption | apply RI_adv | (refine RI_mS (by omega) ?_))) (by first | with_reducible assumption | with_reducible exact xSt_9 | with_reducible exact xSt_13 | omega) (by first | with_reducible assumption | with_reducible exact xSt_9 | with_reducible exact xSt_13 | omega)) cv_X4_takeNumber wM_X4_64 (sh_149) rfl rfl (Nat.le_of_ble_eq_true rfl) (by decide) dX4_readPerson_75 (fun hM75 => ?_)
      refine r_ifb_ne 83 dX4_readPerson_78 (by decide) (fun c78 => ?_) (fun c78 => ?_)
      · skip
        rw [if_pos c78] at hM75 ⊢
        have hk := hk.trans (exN_t c78)
        refine r_ald0 dX4_readPerson_83 ?_
        refine s_getR fi_X4_18 (sh_149) rfl dX4_readPerson_84 ?_
        refine s_getR fi_X4_92 (sh_151) rfl dX4_readPerson_87 ?_
        refine r_ild1 dX4_readPerson_90 ?_
        refine r_ald0 dX4_readPerson_91 ?_
        refine s_getI hM75 fi_X4_68 (sh_149) rfl dX4_readPerson_92 (fun g92 => ?_)
        try simp (disch := omega) only [mS_ne, mS_eq, adv_o, adv_lo]
        refine s_iast hM75 (sh_152) (by omega) (by decide) (by omega) dX4_readPerson_95 (fun hM95 => ?_)
        refine r_ald0 dX4_readPerson_96 ?_
        refine s_getR fi_X4_18 (sh_149) rfl dX4_readPerson_97 ?_
        refine r_dup dX4_readPerson_100 rfl ?_
        refine s_getI hM95 fi_X4_41 (sh_151) rfl dX4_readPerson_101 (fun g101 => ?_)
        try simp (disch := omega) only [mS_ne, mS_eq, adv_o, adv_lo]
        refine r_iconst dX4_readPerson_104 ?_
        refine r_iadd dX4_readPerson_105 ?_
        refine s_putI hM95 fp_X4_41 (sh_151) rfl (by omega) dX4_readPerson_106 (fun hM106 => ?_)
        refine r_ald0 dX4_readPerson_109 ?_
        refine r_bipush dX4_readPerson_110 (by decide +kernel) ?_
        refine s_callV1r hM106 (c_X4_takeSign E (by repeat (first | assumption | apply RI_adv | (refine RI_mS (by omega) ?_))) (by first | with_reducible assumption | with_reducible exact xSt_9 | with_reducible exact xSt_13 | omega)) cv_X4_takeSign wM_X4_60 (sh_149) rfl rfl (Nat.le_of_ble_eq_true rfl) (by decide) dX4_readPerson_112 (fun hM112 => ?_)
        exact s_zret hM112 rfl (by have := @b2i_rg; unfold b2i; split <;> simp) dX4_readPerson_115 (by first | (rw [hk]; rfl) | (rw [hk, exS_end]; exact b2i_d)) (by first | (rw [hk]; done) | (rw [hk, exS_end]; done))
      rw [if_neg c78] at hM75 ⊢
      have hk := hk.trans (exN_f c78)
      refine r_iconst dX4_readPerson_81 ?_
      exact s_zret hM75 rfl (by omega) dX4_readPerson_82 (by first | (rw [hk]; rfl) | (rw [hk, exS_end]; exact b2i_d)) (by first | (rw [hk]; done) | (rw [hk, exS_end]; done))
    rw [if_neg c44] at hM41 ⊢
    have hk := hk.trans (exN_f c44)
    refine r_iconst dX4_readPerson_47 ?_
    exact s_zret hM41 rfl (by omega) dX4_readPerson_48 (by first | (rw [hk]; rfl) | (rw [hk, exS_end]; exact b2i_d)) (by first | (rw [hk]; done) | (rw [hk, exS_end]; done))
  refine r_ald0 dX4_readPerson_0 ?_
  refine s_getR fi_X4_18 (sh_149) rfl dX4_readPerson_1 ?_
  refine s_getI hM fi_X4_41 (sh_151) rfl dX4_readPerson_4 (fun g4 => ?_)
  refine r_ist1 dX4_readPerson_7 rfl ?_
  refine r_ald0 dX4_readPerson_8 ?_
  refine s_getI hM fi_X4_80 (sh_149) rfl dX4_readPerson_9 (fun g9 => ?_)
  refine r_bipush dX4_readPerson_12 (by decide +kernel) ?_
  refine r_icmp_ne 28 dX4_readPerson_14 (by decide) (by omega) (by omega) (fun c14 => ?_) (fun c14 => ?_)
  · skip
    exact L28   (by omega)
  refine r_ild1 dX4_readPerson_17 ?_
  refine r_iconst dX4_readPerson_18 ?_
  refine r_icmp_lt 28 dX4_readPerson_19 (by decide) (by omega) (by omega) (fun c19 => ?_) (fun c19 => ?_)
  · skip
    exact L28   (by omega)
  have hk := hk.trans (if_pos (by omega))
  refine r_ald0 dX4_readPerson_22 ?_
  refine r_iconst dX4_readPerson_23 ?_
  refine s_callV1r hM (c_X4_fail E (by first | with_reducible assumption | with_reducible exact xSt_9 | with_reducible exact xSt_13 | omega)) cv_X4_fail wM_X4_86 (sh_149) rfl rfl (Nat.le_of_ble_eq_true rfl) (by decide) dX4_readPerson_24 (fun hM24 => ?_)
  exact s_zret hM24 rfl (by omega) dX4_readPerson_27 (by first | (rw [hk]; rfl) | (rw [hk, exS_end]; exact b2i_d)) (by first | (rw [hk]; done) | (rw [hk, exS_end]; done))
set_option maxHeartbeats 4000000 in
theorem c_X4_readSpeech (E : xE) {M : xMem}  (hR : RI M) (hP : 1 ≤ M 151 6 ∧ M 151 6 ≤ 5) (hQ : 0 ≤ M 151 7 ∧ M 151 7 ≤ 6) : Ct E mX4_readSpeech 3 4 [xr E 149] M (some (xi (b2i ((rdSpe M).1 = true)))) ((rdSpe M).2) := by
  refine Ct.of 2 3 (by rfl) (by decide +kernel) (fun hM => ?_)
  have hk : rdSpe M = if sortT (M 149 8) = 0 then (false, mS M 149 4 1) else if 6 ≤ M 151 7 then (false, mS M 149 4 3) else exN (advM (mS M 153 (M 151 7).toNat (sortT (M 149 8)))) 0 (M 151 6 - 1) fun v B => exS (mS B 154 (M 151 7).toNat v) 44 fun C => exN C 1 30 fun u D => exS (mS D 155 (M 151 7).toNat u) 44 fun F => exN F 0 (M 151 7) fun t G => exS (mS (mS G 156 (M 151 7).toNat t) 151 7 (M 151 7 + 1)) 59 fun H => (true, H) := rfl
  have hso : 0 ≤ sortT (M 149 8) ∧ sortT (M 149 8) ≤ 5 := by unfold sortT; (repeat' split) <;> omega
  show VS E mX4_readSpeech 4 _ _ 0 [some (xr E 149), none, none] [] M
  refine r_ald0 dX4_readSpeech_0 ?_
  refine s_getR fi_X4_18 (sh_149) rfl dX4_readSpeech_1 ?_
  refine s_getI hM fi_X4_44 (sh_151) rfl dX4_readSpeech_4 (fun g4 => ?_)
  refine r_ist1 dX4_readSpeech_7 rfl ?_
  refine r_ald0 dX4_readSpeech_8 ?_
  refine s_getI hM fi_X4_80 (sh_149) rfl dX4_readSpeech_9 (fun g9 => ?_)
  refine s_callS1r hM (c_X4_kindOfSort E (by first | with_reducible assumption | with_reducible exact xSt_9 | with_reducible exact xSt_13 | omega)) cs_X4_kindOfSort wM_X4_98 (Nat.le_of_ble_eq_true rfl) (by decide) dX4_readSpeech_12 (fun _ => ?_)
  refine r_ist2 dX4_readSpeech_15 rfl ?_
  refine r_ild2 dX4_readSpeech_16 ?_
  refine r_if_ne 26 dX4_readSpeech_17 (by decide) (by omega) (fun c17 => ?_) (fun c17 => ?_)
  · skip
    have hk := hk.trans (if_neg (by omega))
    refine r_ild1 dX4_readSpeech_26 ?_
    refine r_bipush dX4_readSpeech_27 (by decide +kernel) ?_
    refine r_icmp_lt 38 dX4_readSpeech_29 (by decide) (by omega) (by omega) (fun c29 => ?_) (fun c29 => ?_)
    · skip
      have hk := hk.trans (if_neg (by omega))
      refine r_ald0 dX4_readSpeech_38 ?_
      refine s_getR fi_X4_18 (sh_149) rfl dX4_readSpeech_39 ?_
      refine s_getR fi_X4_102 (sh_151) rfl dX4_readSpeech_42 ?_
      refine r_ild1 dX4_readSpeech_45 ?_
      refine r_ild2 dX4_readSpeech_46 ?_
      refine s_iast hM (sh_153) (by omega) (by decide) (by omega) dX4_readSpeech_47 (fun hM47 => ?_)
      refine r_ald0 dX4_readSpeech_48 ?_
      refine s_callV0v hM47 (c_X4_advance E (by repeat (first | assumption | apply RI_adv | (refine RI_mS (by omega) ?_)))) cv_X4_advance wM_X4_47 (sh_149) rfl rfl (Nat.le_of_ble_eq_true rfl) (by decide) dX4_readSpeech_49 (fun hM49 => ?_)
      refine r_ald0 dX4_readSpeech_52 ?_
      refine r_iconst dX4_readSpeech_53 ?_
      refine r_ald0 dX4_readSpeech_54 ?_
      refine s_getR fi_X4_18 (sh_149) rfl dX4_readSpeech_55 ?_
      refine s_getI hM49 fi_X4_41 (sh_151) rfl dX4_readSpeech_58 (fun g58 => ?_)
      try simp (disch := omega) only [mS_ne, mS_eq, adv_o, adv_lo]
      refine r_iconst dX4_readSpeech_61 ?_
      refine r_isub dX4_readSpeech_62 ?_
      refine s_callV2r hM49 (c_X4_takeNumber E (by repeat (first | assumption | apply RI_adv | (refine RI_mS (by omega) ?_))) (by first | with_reducible assumption | with_reducible exact xSt_9 | with_reducible exact xSt_13 | omega) (by first | with_reducible assumption | with_reducible exact xSt_9 | with_reducible exact xSt_13 | omega)) cv_X4_takeNumber wM_X4_64 (sh_149) rfl rfl (Nat.le_of_ble_eq_true rfl) (by decide) dX4_readSpeech_63 (fun hM63 => ?_)
      refine r_ifb_ne 71 dX4_readSpeech_66 (by decide) (fun c66 => ?_) (fun c66 => ?_)
      · skip
        rw [if_pos c66] at hM63 ⊢
        have hk := hk.trans (exN_t c66)
        refine r_ald0 dX4_readSpeech_71 ?_
        refine s_getR fi_X4_18 (sh_149) rfl dX4_readSpeech_72 ?_
        refine s_getR fi_X4_105 (sh_151) rfl dX4_readSpeech_75 ?_
        refine r_ild1 dX4_readSpeech_78 ?_
        refine r_ald0 dX4_readSpeech_79 ?_
        refine s_getI hM63 fi_X4_68 (sh_149) rfl dX4_readSpeech_80 (fun g80 => ?_)
        try simp (disch := omega) only [mS_ne, mS_eq, adv_o, adv_lo]
        refine s_iast hM63 (sh_154) (by omega) (by decide) (by omega) dX4_readSpeech_83 (fun hM83 => ?_)
        refine r_ald0 dX4_readSpeech_84 ?_
        refine r_bipush dX4_readSpeech_85 (by decide +kernel) ?_
        refine s_callV1r hM83 (c_X4_takeSign E (by repeat (first | assumption | apply RI_adv | (refine RI_mS (by omega) ?_))) (by first | with_reducible assumption | with_reducible exact xSt_9 | with_reducible exact xSt_13 | omega)) cv_X4_takeSign wM_X4_60 (sh_149) rfl rfl (Nat.le_of_ble_eq_true rfl) (by decide) dX4_readSpeech_87 (fun hM87 => ?_)
        refine r_ifb_eq 103 dX4_readSpeech_90 (by decide) (fun c90 => ?_) (fun c90 => ?_)
        · skip
          rw [if_neg c90] at hM87 ⊢
          have hk := hk.trans (exS_f c90)
          refine r_iconst dX4_readSpeech_103 ?_
          exact s_zret hM87 rfl (by omega) dX4_readSpeech_104 (by first | (rw [hk]; rfl) | (rw [hk, exS_end]; exact b2i_d)) (by first | (rw [hk]; done) | (rw [hk, exS_end]; done))
        rw [if_pos c90] at hM87 ⊢
        have hk := hk.trans (exS_t c90)
        refine r_ald0 dX4_readSpeech_93 ?_
        refine r_iconst dX4_readSpeech_94 ?_
        refine r_bipush dX4_readSpeech_95 (by decide +kernel) ?_
        refine s_callV2r hM87 (c_X4_takeNumber E (by repeat (first | assumption | apply RI_adv | (refine RI_mS (by omega) ?_))) (by first | with_reducible assumption | with_reducible exact xSt_9 | with_reducible exact xSt_13 | omega) (by first | with_reducible assumption | with_reducible exact xSt_9 | with_reducible exact xSt_13 | omega)) cv_X4_takeNumber wM_X4_64 (sh_149) rfl rfl (Nat.le_of_ble_eq_true rfl) (by decide) dX4_readSpeech_97 (fun hM97 => ?_)
        refine r_ifb_ne 105 dX4_readSpeech_100 (by decide) (fun c100 => ?_) (fun c100 => ?_)
        · skip
          rw [if_pos c100] at hM97 ⊢
          have hk := hk.trans (exN_t c100)
          refine r_ald0 dX4_readSpeech_105 ?_
          refine s_getR fi_X4_18 (sh_149) rfl dX4_readSpeech_106 ?_
          refine s_getR fi_X4_108 (sh_151) rfl dX4_readSpeech_109 ?_
          refine r_ild1 dX4_readSpeech_112 ?_
          refine r_ald0 dX4_readSpeech_113 ?_
          refine s_getI hM97 fi_X4_68 (sh_149) rfl dX4_readSpeech_114 (fun g114 => ?_)
          try simp (disch := omega) only [mS_ne, mS_eq, adv_o, adv_lo]
          refine s_iast hM97 (sh_155) (by omega) (by decide) (by omega) dX4_readSpeech_117 (fun hM117 => ?_)
          refine r_ald0 dX4_readSpeech_118 ?_
          refine r_bipush dX4_readSpeech_119 (by decide +kernel) ?_
          refine s_callV1r hM117 (c_X4_takeSign E (by repeat (first | assumption | apply RI_adv | (refine RI_mS (by omega) ?_))) (by first | with_reducible assumption | with_reducible exact xSt_9 | with_reducible exact xSt_13 | omega)) cv_X4_takeSign wM_X4_60 (sh_149) rfl rfl (Nat.le_of_ble_eq_true rfl) (by decide) dX4_readSpeech_121 (fun hM121 => ?_)
          refine r_ifb_eq 136 dX4_readSpeech_124 (by decide) (fun c124 => ?_) (fun c124 => ?_)
          · skip
            rw [if_neg c124] at hM121 ⊢
            have hk := hk.trans (exS_f c124)
            refine r_iconst dX4_readSpeech_136 ?_
            exact s_zret hM121 rfl (by omega) dX4_readSpeech_137 (by first | (rw [hk]; rfl) | (rw [hk, exS_end]; exact b2i_d)) (by first | (rw [hk]; done) | (rw [hk, exS_end]; done))
          rw [if_pos c124] at hM121 ⊢
          have hk := hk.trans (exS_t c124)
          refine r_ald0 dX4_readSpeech_127 ?_
          refine r_iconst dX4_readSpeech_128 ?_
          refine r_ild1 dX4_readSpeech_129 ?_
          refine s_callV2r hM121 (c_X4_takeNumber E (by repeat (first | assumption | apply RI_adv | (refine RI_mS (by omega) ?_))) (by first | with_reducible assumption | with_reducible exact xSt_9 | with_reducible exact xSt_13 | omega) (by first | with_reducible assumption | with_reducible exact xSt_9 | with_reducible exact xSt_13 | omega)) cv_X4_takeNumber wM_X4_64 (sh_149) rfl rfl (Nat.le_of_ble_eq_true rfl) (by decide) dX4_readSpeech_130 (fun hM130 => ?_)
          refine r_ifb_ne 138 dX4_readSpeech_133 (by decide) (fun c133 => ?_) (fun c133 => ?_)
          · skip
            rw [if_pos c133] at hM130 ⊢
            have hk := hk.trans (exN_t c133)
            refine r_ald0 dX4_readSpeech_138 ?_
            refine s_getR fi_X4_18 (sh_149) rfl dX4_readSpeech_139 ?_
            refine s_getR fi_X4_111 (sh_151) rfl dX4_readSpeech_142 ?_
            refine r_ild1 dX4_readSpeech_145 ?_
            refine r_ald0 dX4_readSpeech_146 ?_
            refine s_getI hM130 fi_X4_68 (sh_149) rfl dX4_readSpeech_147 (fun g147 => ?_)
            try simp (disch := omega) only [mS_ne, mS_eq, adv_o, adv_lo]
            refine s_iast hM130 (sh_156) (by omega) (by decide) (by omega) dX4_readSpeech_150 (fun hM150 => ?_)
            refine r_ald0 dX4_readSpeech_151 ?_
            refine s_getR fi_X4_18 (sh_149) rfl dX4_readSpeech_152 ?_
            refine r_dup dX4_readSpeech_155 rfl ?_
            refine s_getI hM150 fi_X4_44 (sh_151) rfl dX4_readSpeech_156 (fun g156 => ?_)
            try simp (disch := omega) only [mS_ne, mS_eq, adv_o, adv_lo]
            refine r_iconst dX4_readSpeech_159 ?_
            refine r_iadd dX4_readSpeech_160 ?_
            refine s_putI hM150 fp_X4_44 (sh_151) rfl (by omega) dX4_readSpeech_161 (fun hM161 => ?_)
            refine r_ald0 dX4_readSpeech_164 ?_
            refine r_bipush dX4_readSpeech_165 (by decide +kernel) ?_
            refine s_callV1r hM161 (c_X4_takeSign E (by repeat (first | assumption | apply RI_adv | (refine RI_mS (by omega) ?_))) (by first | with_reducible assumption | with_reducible exact xSt_9 | with_reducible exact xSt_13 | omega)) cv_X4_takeSign wM_X4_60 (sh_149) rfl rfl (Nat.le_of_ble_eq_true rfl) (by decide) dX4_readSpeech_167 (fun hM167 => ?_)
            exact s_zret hM167 rfl (by have := @b2i_rg; unfold b2i; split <;> simp) dX4_readSpeech_170 (by first | (rw [hk]; rfl) | (rw [hk, exS_end]; exact b2i_d)) (by first | (rw [hk]; done) | (rw [hk, exS_end]; done))
          rw [if_neg c133] at hM130 ⊢
          have hk := hk.trans (exN_f c133)
          refine r_iconst dX4_readSpeech_136 ?_
          exact s_zret hM130 rfl (by omega) dX4_readSpeech_137 (by first | (rw [hk]; rfl) | (rw [hk, exS_end]; exact b2i_d)) (by first | (rw [hk]; done) | (rw [hk, exS_end]; done))
        rw [if_neg c100] at hM97 ⊢
        have hk := hk.trans (exN_f c100)
        refine r_iconst dX4_readSpeech_103 ?_
        exact s_zret hM97 rfl (by omega) dX4_readSpeech_104 (by first | (rw [hk]; rfl) | (rw [hk, exS_end]; exact b2i_d)) (by first | (rw [hk]; done) | (rw [hk, exS_end]; done))
      rw [if_neg c66] at hM63 ⊢
      have hk := hk.trans (exN_f c66)
      refine r_iconst dX4_readSpeech_69 ?_
      exact s_zret hM63 rfl (by omega) dX4_readSpeech_70 (by first | (rw [hk]; rfl) | (rw [hk, exS_end]; exact b2i_d)) (by first | (rw [hk]; done) | (rw [hk, exS_end]; done))
    have hk := hk.trans (if_pos (by omega))
    refine r_ald0 dX4_readSpeech_32 ?_
    refine r_iconst dX4_readSpeech_33 ?_
    refine s_callV1r hM (c_X4_fail E (by first | with_reducible assumption | with_reducible exact xSt_9 | with_reducible exact xSt_13 | omega)) cv_X4_fail wM_X4_86 (sh_149) rfl rfl (Nat.le_of_ble_eq_true rfl) (by decide) dX4_readSpeech_34 (fun hM34 => ?_)
    exact s_zret hM34 rfl (by omega) dX4_readSpeech_37 (by first | (rw [hk]; rfl) | (rw [hk, exS_end]; exact b2i_d)) (by first | (rw [hk]; done) | (rw [hk, exS_end]; done))
  have hk := hk.trans (if_pos (by omega))
  refine r_ald0 dX4_readSpeech_20 ?_
  refine r_iconst dX4_readSpeech_21 ?_
  refine s_callV1r hM (c_X4_fail E (by first | with_reducible assumption | with_reducible exact xSt_9 | with_reducible exact xSt_13 | omega)) cv_X4_fail wM_X4_86 (sh_149) rfl rfl (Nat.le_of_ble_eq_true rfl) (by decide) dX4_readSpeech_22 (fun hM22 => ?_)
  exact s_zret hM22 rfl (by omega) dX4_readSpeech_25 (by first | (rw [hk]; rfl) | (rw [hk, exS_end]; exact b2i_d)) (by first | (rw [hk]; done) | (rw [hk, exS_end]; done))
set_option maxHeartbeats 4000000 in
theorem c_X4_readPeople (E : xE) {M : xMem}  (hR : RI M) (hP0 : M 151 6 = 0) : Ct E mX4_readPeople 2 5 [xr E 149] M (some (xi (b2i ((rpL 6 0 M).1 = true)))) ((rpL 6 0 M).2) := by
  refine Ct.of 1 2 (by rfl) (by decide +kernel) (fun hM => ?_)
  show VS E mX4_readPeople 5 _ _ 0 [some (xr E 149), none] [] M
  have L2 : ∀ (fu : Nat) (p : Int) (Mc : xMem), InR Mc → (RI Mc) → (0 ≤ p ∧ p ≤ 6) → (Mc 151 6 = p) → (rpL (6 - p).toNat p Mc = rpL 6 0 M) → (6 - p).toNat < fu → VS E mX4_readPeople 5 (some (xi (b2i ((rpL 6 0 M).1 = true)))) ((rpL 6 0 M).2) 2 [some (xr E 149), some (xi p)] [] Mc := by
    intro fu
    induction fu with
    | zero => intro p Mc hML2 hRc hb hP hi hme; exact absurd hme (Nat.not_lt_zero _)
    | succ fu ih =>
      intro p Mc hML2 hRc hb hP hi hme
      refine r_ild1 dX4_readPeople_2 ?_
      refine r_iconst dX4_readPeople_3 ?_
      refine r_icmp_gt 35 dX4_readPeople_4 (by decide) (by omega) (by omega) (fun c4 => ?_) (fun c4 => ?_)
      · skip
        refine r_iconst dX4_readPeople_35 ?_
        exact s_zret hML2 rfl (by omega) dX4_readPeople_36 (by first | (rw [← hi, show (6 - p).toNat = (6 - (p + 1)).toNat + 1 by omega, rpL_f (by omega) (by assumption)]; rfl) | (rw [← hi, show (6 - p).toNat = 0 by omega]; rfl) | (rw [← hi, rpL_e (by omega)]; rfl)) (by first | (rw [← hi, show (6 - p).toNat = (6 - (p + 1)).toNat + 1 by omega, rpL_f (by omega) (by assumption)]; done) | (rw [← hi, show (6 - p).toNat = 0 by omega]; rfl) | (rw [← hi, rpL_e (by omega)]; done))
      refine r_ild1 dX4_readPeople_7 ?_
      refine r_if_eq 20 dX4_readPeople_8 (by decide) (by omega) (fun c8 => ?_) (fun c8 => ?_)
      · skip
        refine r_ald0 dX4_readPeople_20 ?_
        refine s_callV0r hML2 (c_X4_readPerson E (by exact hRc) (by omega)) cv_X4_readPerson wM_X4_83 (sh_149) rfl rfl (Nat.le_of_ble_eq_true rfl) (by decide) dX4_readPeople_21 (fun hM21 => ?_)
        refine r_ifb_ne 29 dX4_readPeople_24 (by decide) (fun c24 => ?_) (fun c24 => ?_)
        · skip
          refine r_iinc1 dX4_readPeople_29 rfl ?_
          refine r_goto 2 dX4_readPeople_32 (by decide) ?_
          exact ih (p + 1) _  hM21 (by exact (rdPer_ok hRc c24).1) (by omega) (by have := (rdPer_ok hRc c24).2.1; omega) (by rw [← hi, show (6 - p).toNat = (6 - (p + 1)).toNat + 1 by omega, rpL_t (by omega) c24]) (by omega)
        refine r_iconst dX4_readPeople_27 ?_
        exact s_zret hM21 rfl (by omega) dX4_readPeople_28 (by first | (rw [← hi, show (6 - p).toNat = (6 - (p + 1)).toNat + 1 by omega, rpL_f (by omega) (by assumption)]; rfl) | (rw [← hi, show (6 - p).toNat = 0 by omega]; rfl) | (rw [← hi, rpL_e (by omega)]; rfl)) (by first | (rw [← hi, show (6 - p).toNat = (6 - (p + 1)).toNat + 1 by omega, rpL_f (by omega) (by assumption)]; done) | (rw [← hi, show (6 - p).toNat = 0 by omega]; rfl) | (rw [← hi, rpL_e (by omega)]; done))
      refine r_ald0 dX4_readPeople_11 ?_
      refine s_getI hML2 fi_X4_80 (sh_149) rfl dX4_readPeople_12 (fun g12 => ?_)
      refine r_bipush dX4_readPeople_15 (by decide +kernel) ?_
      refine r_icmp_ne 35 dX4_readPeople_17 (by decide) (by omega) (by omega) (fun c17 => ?_) (fun c17 => ?_)
      · skip
        refine r_iconst dX4_readPeople_35 ?_
        exact s_zret hML2 rfl (by omega) dX4_readPeople_36 (by first | (rw [← hi, show (6 - p).toNat = (6 - (p + 1)).toNat + 1 by omega, rpL_f (by omega) (by assumption)]; rfl) | (rw [← hi, show (6 - p).toNat = 0 by omega]; rfl) | (rw [← hi, rpL_e (by omega)]; rfl)) (by first | (rw [← hi, show (6 - p).toNat = (6 - (p + 1)).toNat + 1 by omega, rpL_f (by omega) (by assumption)]; done) | (rw [← hi, show (6 - p).toNat = 0 by omega]; rfl) | (rw [← hi, rpL_e (by omega)]; done))
      refine r_ald0 dX4_readPeople_20 ?_
      refine s_callV0r hML2 (c_X4_readPerson E (by exact hRc) (by omega)) cv_X4_readPerson wM_X4_83 (sh_149) rfl rfl (Nat.le_of_ble_eq_true rfl) (by decide) dX4_readPeople_21 (fun hM21 => ?_)
      refine r_ifb_ne 29 dX4_readPeople_24 (by decide) (fun c24 => ?_) (fun c24 => ?_)
      · skip
        refine r_iinc1 dX4_readPeople_29 rfl ?_
        refine r_goto 2 dX4_readPeople_32 (by decide) ?_
        exact ih (p + 1) _  hM21 (by exact (rdPer_ok hRc c24).1) (by omega) (by have := (rdPer_ok hRc c24).2.1; omega) (by rw [← hi, show (6 - p).toNat = (6 - (p + 1)).toNat + 1 by omega, rpL_t (by omega) c24]) (by omega)
      refine r_iconst dX4_readPeople_27 ?_
      exact s_zret hM21 rfl (by omega) dX4_readPeople_28 (by first | (rw [← hi, show (6 - p).toNat = (6 - (p + 1)).toNat + 1 by omega, rpL_f (by omega) (by assumption)]; rfl) | (rw [← hi, show (6 - p).toNat = 0 by omega]; rfl) | (rw [← hi, rpL_e (by omega)]; rfl)) (by first | (rw [← hi, show (6 - p).toNat = (6 - (p + 1)).toNat + 1 by omega, rpL_f (by omega) (by assumption)]; done) | (rw [← hi, show (6 - p).toNat = 0 by omega]; rfl) | (rw [← hi, rpL_e (by omega)]; done))
  refine r_iconst dX4_readPeople_0 ?_
  refine r_ist1 dX4_readPeople_1 rfl ?_
  exact L2 7 0 _  hM (by exact hR) (by omega) (by omega) (by rfl) (by omega)
set_option maxHeartbeats 4000000 in
theorem c_X4_readSpeeches (E : xE) {M : xMem}  (hR : RI M) (hP0 : M 151 7 = 0) (hN0 : 1 ≤ M 151 6 ∧ M 151 6 ≤ 5) : Ct E mX4_readSpeeches 2 5 [xr E 149] M (some (xi (b2i ((rsL 7 0 M).1 = true)))) ((rsL 7 0 M).2) := by
  refine Ct.of 1 2 (by rfl) (by decide +kernel) (fun hM => ?_)
  show VS E mX4_readSpeeches 5 _ _ 0 [some (xr E 149), none] [] M
  have L2 : ∀ (fu : Nat) (p : Int) (Mc : xMem), InR Mc → (RI Mc) → (0 ≤ p ∧ p ≤ 7) → (Mc 151 7 = p) → (rsL (7 - p).toNat p Mc = rsL 7 0 M) → (1 ≤ Mc 151 6 ∧ Mc 151 6 ≤ 5) → (7 - p).toNat < fu → VS E mX4_readSpeeches 5 (some (xi (b2i ((rsL 7 0 M).1 = true)))) ((rsL 7 0 M).2) 2 [some (xr E 149), some (xi p)] [] Mc := by
    intro fu
    induction fu with
    | zero => intro p Mc hML2 hRc hb hP hi hN hme; exact absurd hme (Nat.not_lt_zero _)
    | succ fu ih =>
      intro p Mc hML2 hRc hb hP hi hN hme
      refine r_ild1 dX4_readSpeeches_2 ?_
      refine r_bipush dX4_readSpeeches_3 (by decide +kernel) ?_
      refine r_icmp_gt 35 dX4_readSpeeches_5 (by decide) (by omega) (by omega) (fun c5 => ?_) (fun c5 => ?_)
      · skip
        refine r_iconst dX4_readSpeeches_35 ?_
        exact s_zret hML2 rfl (by omega) dX4_readSpeeches_36 (by first | (rw [← hi, show (7 - p).toNat = (7 - (p + 1)).toNat + 1 by omega, rsL_f (by omega) (by assumption)]; rfl) | (rw [← hi, show (7 - p).toNat = 0 by omega]; rfl) | (rw [← hi, rsL_e (by omega)]; rfl)) (by first | (rw [← hi, show (7 - p).toNat = (7 - (p + 1)).toNat + 1 by omega, rsL_f (by omega) (by assumption)]; done) | (rw [← hi, show (7 - p).toNat = 0 by omega]; rfl) | (rw [← hi, rsL_e (by omega)]; done))
      refine r_ild1 dX4_readSpeeches_8 ?_
      refine r_if_eq 20 dX4_readSpeeches_9 (by decide) (by omega) (fun c9 => ?_) (fun c9 => ?_)
      · skip
        refine r_ald0 dX4_readSpeeches_20 ?_
        refine s_callV0r hML2 (c_X4_readSpeech E (by exact hRc) (by omega) (by omega)) cv_X4_readSpeech wM_X4_95 (sh_149) rfl rfl (Nat.le_of_ble_eq_true rfl) (by decide) dX4_readSpeeches_21 (fun hM21 => ?_)
        refine r_ifb_ne 29 dX4_readSpeeches_24 (by decide) (fun c24 => ?_) (fun c24 => ?_)
        · skip
          refine r_iinc1 dX4_readSpeeches_29 rfl ?_
          refine r_goto 2 dX4_readSpeeches_32 (by decide) ?_
          exact ih (p + 1) _  hM21 (by exact (rdSpe_ok hRc c24).1) (by omega) (by have := (rdSpe_ok hRc c24).2.1; omega) (by rw [← hi, show (7 - p).toNat = (7 - (p + 1)).toNat + 1 by omega, rsL_t (by omega) c24]) (by have := (rdSpe_ok hRc c24).2.2.1; omega) (by omega)
        refine r_iconst dX4_readSpeeches_27 ?_
        exact s_zret hM21 rfl (by omega) dX4_readSpeeches_28 (by first | (rw [← hi, show (7 - p).toNat = (7 - (p + 1)).toNat + 1 by omega, rsL_f (by omega) (by assumption)]; rfl) | (rw [← hi, show (7 - p).toNat = 0 by omega]; rfl) | (rw [← hi, rsL_e (by omega)]; rfl)) (by first | (rw [← hi, show (7 - p).toNat = (7 - (p + 1)).toNat + 1 by omega, rsL_f (by omega) (by assumption)]; done) | (rw [← hi, show (7 - p).toNat = 0 by omega]; rfl) | (rw [← hi, rsL_e (by omega)]; done))
      refine r_ald0 dX4_readSpeeches_12 ?_
      refine s_getI hML2 fi_X4_80 (sh_149) rfl dX4_readSpeeches_13 (fun g13 => ?_)
      refine r_iconst dX4_readSpeeches_16 ?_
      refine r_icmp_eq 35 dX4_readSpeeches_17 (by decide) (by omega) (by omega) (fun c17 => ?_) (fun c17 => ?_)
      · skip
        refine r_iconst dX4_readSpeeches_35 ?_
        exact s_zret hML2 rfl (by omega) dX4_readSpeeches_36 (by first | (rw [← hi, show (7 - p).toNat = (7 - (p + 1)).toNat + 1 by omega, rsL_f (by omega) (by assumption)]; rfl) | (rw [← hi, show (7 - p).toNat = 0 by omega]; rfl) | (rw [← hi, rsL_e (by omega)]; rfl)) (by first | (rw [← hi, show (7 - p).toNat = (7 - (p + 1)).toNat + 1 by omega, rsL_f (by omega) (by assumption)]; done) | (rw [← hi, show (7 - p).toNat = 0 by omega]; rfl) | (rw [← hi, rsL_e (by omega)]; done))
      refine r_ald0 dX4_readSpeeches_20 ?_
      refine s_callV0r hML2 (c_X4_readSpeech E (by exact hRc) (by omega) (by omega)) cv_X4_readSpeech wM_X4_95 (sh_149) rfl rfl (Nat.le_of_ble_eq_true rfl) (by decide) dX4_readSpeeches_21 (fun hM21 => ?_)
      refine r_ifb_ne 29 dX4_readSpeeches_24 (by decide) (fun c24 => ?_) (fun c24 => ?_)
      · skip
        refine r_iinc1 dX4_readSpeeches_29 rfl ?_
        refine r_goto 2 dX4_readSpeeches_32 (by decide) ?_
        exact ih (p + 1) _  hM21 (by exact (rdSpe_ok hRc c24).1) (by omega) (by have := (rdSpe_ok hRc c24).2.1; omega) (by rw [← hi, show (7 - p).toNat = (7 - (p + 1)).toNat + 1 by omega, rsL_t (by omega) c24]) (by have := (rdSpe_ok hRc c24).2.2.1; omega) (by omega)
      refine r_iconst dX4_readSpeeches_27 ?_
      exact s_zret hM21 rfl (by omega) dX4_readSpeeches_28 (by first | (rw [← hi, show (7 - p).toNat = (7 - (p + 1)).toNat + 1 by omega, rsL_f (by omega) (by assumption)]; rfl) | (rw [← hi, show (7 - p).toNat = 0 by omega]; rfl) | (rw [← hi, rsL_e (by omega)]; rfl)) (by first | (rw [← hi, show (7 - p).toNat = (7 - (p + 1)).toNat + 1 by omega, rsL_f (by omega) (by assumption)]; done) | (rw [← hi, show (7 - p).toNat = 0 by omega]; rfl) | (rw [← hi, rsL_e (by omega)]; done))
  refine r_iconst dX4_readSpeeches_0 ?_
  refine r_ist1 dX4_readSpeeches_1 rfl ?_
  exact L2 8 0 _  hM (by exact hR) (by omega) (by omega) (by rfl) (by omega) (by omega)
set_option maxHeartbeats 4000000 in
theorem c_X4_readTape (E : xE) {M : xMem}  (hL : 0 ≤ M 149 3 ∧ M 149 3 ≤ 120) (hTp : ∀ j : Nat, j < 120 → 0 ≤ M 150 j ∧ M 150 j ≤ 255) : Ct E mX4_readTape 1 6 [xr E 149] M (some (xi (b2i ((rdTape M).1 = true)))) ((rdTape M).2) := by
  refine Ct.of 0 1 (by rfl) (by decide +kernel) (fun hM => ?_)
  show VS E mX4_readTape 6 _ _ 0 [some (xr E 149)] [] M
  refine r_ald0 dX4_readTape_0 ?_
  refine r_ald0 dX4_readTape_1 ?_
  refine s_getI hM fi_X4_31 (sh_149) rfl dX4_readTape_2 (fun g2 => ?_)
  refine s_putI hM fp_X4_35 (sh_149) rfl (by omega) dX4_readTape_5 (fun hM5 => ?_)
  refine r_ald0 dX4_readTape_8 ?_
  refine r_iconst dX4_readTape_9 ?_
  refine s_putI hM5 fp_X4_31 (sh_149) rfl (by omega) dX4_readTape_10 (fun hM10 => ?_)
  refine r_ald0 dX4_readTape_13 ?_
  refine r_iconst dX4_readTape_14 ?_
  refine s_putI hM10 fp_X4_38 (sh_149) rfl (by omega) dX4_readTape_15 (fun hM15 => ?_)
  refine r_ald0 dX4_readTape_18 ?_
  refine s_getR fi_X4_18 (sh_149) rfl dX4_readTape_19 ?_
  refine r_iconst dX4_readTape_22 ?_
  refine s_putI hM15 fp_X4_41 (sh_151) rfl (by omega) dX4_readTape_23 (fun hM23 => ?_)
  refine r_ald0 dX4_readTape_26 ?_
  refine s_getR fi_X4_18 (sh_149) rfl dX4_readTape_27 ?_
  refine r_iconst dX4_readTape_30 ?_
  refine s_putI hM23 fp_X4_44 (sh_151) rfl (by omega) dX4_readTape_31 (fun hM31 => ?_)
  have hR0 := RI_0 hL hTp
  refine r_ald0 dX4_readTape_34 ?_
  refine s_callV0v hM31 (c_X4_advance E (by exact hR0)) cv_X4_advance wM_X4_47 (sh_149) rfl rfl (Nat.le_of_ble_eq_true rfl) (by decide) dX4_readTape_35 (fun hM35 => ?_)
  have hR1 := RI_adv hR0
  refine r_ald0 dX4_readTape_38 ?_
  refine s_callV0r hM35 (c_X4_readLaw E (by exact hR1)) cv_X4_readLaw wM_X4_50 (sh_149) rfl rfl (Nat.le_of_ble_eq_true rfl) (by decide) dX4_readTape_39 (fun hM39 => ?_)
  refine r_ifb_eq 63 dX4_readTape_42 (by decide) (fun c42 => ?_) (fun c42 => ?_)
  · skip
    refine r_iconst dX4_readTape_63 ?_
    exact s_zret hM39 rfl (by omega) dX4_readTape_64 (by unfold rdTape rdAll; first | (rw [if_pos (by assumption), if_pos (by assumption)]; first | exact (b2i_t (by assumption)).symm | exact (b2i_f (by assumption)).symm) | (rw [if_pos (by assumption), if_neg (by assumption)]; rfl) | (rw [if_neg (by assumption)]; rfl)) (by unfold rdTape rdAll; first | (rw [if_pos (by assumption), if_pos (by assumption)]; done) | (rw [if_pos (by assumption), if_neg (by assumption)]; done) | (rw [if_neg (by assumption)]; done))
  refine r_ald0 dX4_readTape_45 ?_
  refine s_callV0r hM39 (c_X4_readPeople E (by exact (rdLaw_ok hR1 c42).1) (by rw [(rdLaw_ok hR1 c42).2.2, adv_lo (by decide), mS_ne (Or.inr (by decide)), mS_eq])) cv_X4_readPeople wM_X4_54 (sh_149) rfl rfl (Nat.le_of_ble_eq_true rfl) (by decide) dX4_readTape_46 (fun hM46 => ?_)
  refine r_ifb_eq 63 dX4_readTape_49 (by decide) (fun c49 => ?_) (fun c49 => ?_)
  · skip
    refine r_iconst dX4_readTape_63 ?_
    exact s_zret hM46 rfl (by omega) dX4_readTape_64 (by unfold rdTape rdAll; first | (rw [if_pos (by assumption), if_pos (by assumption)]; first | exact (b2i_t (by assumption)).symm | exact (b2i_f (by assumption)).symm) | (rw [if_pos (by assumption), if_neg (by assumption)]; rfl) | (rw [if_neg (by assumption)]; rfl)) (by unfold rdTape rdAll; first | (rw [if_pos (by assumption), if_pos (by assumption)]; done) | (rw [if_pos (by assumption), if_neg (by assumption)]; done) | (rw [if_neg (by assumption)]; done))
  have hq49 := rpL_ok 6 0 _ (rdLaw_ok hR1 c42).1 (by rw [(rdLaw_ok hR1 c42).2.2, adv_lo (by decide), mS_ne (Or.inr (by decide)), mS_eq]) (by omega) (by omega) c49
  refine r_ald0 dX4_readTape_52 ?_
  refine s_callV0r hM46 (c_X4_readSpeeches E (by exact hq49.1) (by rw [hq49.2.2, (rdLaw_ok hR1 c42).2.1, adv_lo (by decide), mS_eq]) (by exact hq49.2.1)) cv_X4_readSpeeches wM_X4_57 (sh_149) rfl rfl (Nat.le_of_ble_eq_true rfl) (by decide) dX4_readTape_53 (fun hM53 => ?_)
  refine r_ifb_eq 63 dX4_readTape_56 (by decide) (fun c56 => ?_) (fun c56 => ?_)
  · skip
    refine r_iconst dX4_readTape_63 ?_
    exact s_zret hM53 rfl (by omega) dX4_readTape_64 (by unfold rdTape rdAll; first | (rw [if_pos (by assumption), if_pos (by assumption)]; first | exact (b2i_t (by assumption)).symm | exact (b2i_f (by assumption)).symm) | (rw [if_pos (by assumption), if_neg (by assumption)]; rfl) | (rw [if_neg (by assumption)]; rfl)) (by unfold rdTape rdAll; first | (rw [if_pos (by assumption), if_pos (by assumption)]; done) | (rw [if_pos (by assumption), if_neg (by assumption)]; done) | (rw [if_neg (by assumption)]; done))
  refine r_iconst dX4_readTape_59 ?_
  refine r_goto 64 dX4_readTape_60 (by decide) ?_
  exact s_zret hM53 rfl (by omega) dX4_readTape_64 (by unfold rdTape rdAll; first | (rw [if_pos (by assumption), if_pos (by assumption)]; first | exact (b2i_t (by assumption)).symm | exact (b2i_f (by assumption)).symm) | (rw [if_pos (by assumption), if_neg (by assumption)]; rfl) | (rw [if_neg (by assumption)]; rfl)) (by unfold rdTape rdAll; first | (rw [if_pos (by assumption), if_pos (by assumption)]; done) | (rw [if_pos (by assumption), if_neg (by assumption)]; done) | (rw [if_neg (by assumption)]; done))
set_option maxHeartbeats 4000000 in
theorem c_X9_duchy (E : xE) {M : xMem}  (hL : 0 ≤ M 149 3 ∧ M 149 3 ≤ 120) (hTp : ∀ j : Nat, j < 120 → 0 ≤ M 150 j ∧ M 150 j ≤ 255) : Ct E mX9_duchy 1 7 [xr E 0] M (some (xi ((xDuchy M).1))) ((xDuchy M).2) := by
  refine Ct.of 0 1 (by rfl) (by decide +kernel) (fun hM => ?_)
  show VS E mX9_duchy 7 _ _ 0 [some (xr E 0)] [] M
  refine r_ald0 dX9_duchy_0 ?_
  refine s_getR fi_X9_64 (sh_0) rfl dX9_duchy_1 ?_
  refine s_callV0r hM (c_X4_readTape E (by exact hL) (by exact hTp)) cv_X4_readTape wM_X9_139 (sh_149) rfl rfl (Nat.le_of_ble_eq_true rfl) (by decide) dX9_duchy_4 (fun hM4 => ?_)
  refine r_ifb_ne 21 dX9_duchy_7 (by decide) (fun c7 => ?_) (fun c7 => ?_)
  · skip
    refine r_ald0 dX9_duchy_21 ?_
    refine s_getR fi_X9_24 (sh_0) rfl dX9_duchy_22 ?_
    refine r_ald0 dX9_duchy_25 ?_
    refine s_getR fi_X9_64 (sh_0) rfl dX9_duchy_26 ?_
    refine s_getR fi_X9_147 (sh_149) rfl dX9_duchy_29 ?_
    refine s_callV1v hM4 (c_X8_takeFrom E (by exact xTw_3) (by exact xTw_151)) cv_X8_takeFrom wM_X9_148 (sh_3) rfl rfl (Nat.le_of_ble_eq_true rfl) (by decide) dX9_duchy_32 (fun hM32 => ?_)
    refine r_ald0 dX9_duchy_35 ?_
    refine s_getR fi_X9_33 (sh_0) rfl dX9_duchy_36 ?_
    refine r_ald0 dX9_duchy_39 ?_
    refine s_getR fi_X9_64 (sh_0) rfl dX9_duchy_40 ?_
    refine s_getR fi_X9_151 (sh_149) rfl dX9_duchy_43 ?_
    refine s_callV1v hM32 (c_X6_takeFrom E (by exact xSt_9.g) (by exact xSg_157)) cv_X6_takeFrom wM_X9_152 (sh_9) rfl rfl (Nat.le_of_ble_eq_true rfl) (by decide) dX9_duchy_46 (fun hM46 => ?_)
    refine r_ald0 dX9_duchy_49 ?_
    refine s_getR fi_X9_43 (sh_0) rfl dX9_duchy_50 ?_
    refine s_callV0v hM46 (c_X3_forget E ) cv_X3_forget wM_X9_155 (sh_17) rfl rfl (Nat.le_of_ble_eq_true rfl) (by decide) dX9_duchy_53 (fun hM53 => ?_)
    refine r_ald0 dX9_duchy_56 ?_
    refine s_getR fi_X9_24 (sh_0) rfl dX9_duchy_57 ?_
    refine s_getI hM53 fi_X9_158 (sh_3) rfl dX9_duchy_60 (fun g60 => ?_)
    try simp (disch := omega) only [mS_ne, mS_eq]
    exact s_iret hM53 rfl dX9_duchy_63 (by unfold xDuchy; first | (rw [if_pos (by assumption)]; done) | (rw [if_neg (by assumption)]; done)) (by unfold xDuchy; first | (rw [if_pos (by assumption)]; done) | (rw [if_neg (by assumption)]; done))
  refine r_ldc (-1000100) dX9_duchy_10 wC_X9_143 ?_
  refine r_ald0 dX9_duchy_12 ?_
  refine s_getR fi_X9_64 (sh_0) rfl dX9_duchy_13 ?_
  refine s_getI hM4 fi_X9_144 (sh_149) rfl dX9_duchy_16 (fun g16 => ?_)
  try simp (disch := omega) only [mS_ne, mS_eq]
  refine r_isub dX9_duchy_19 ?_
  exact s_iret hM4 rfl dX9_duchy_20 (by unfold xDuchy; first | (rw [if_pos (by assumption)]; done) | (rw [if_neg (by assumption)]; done)) (by unfold xDuchy; first | (rw [if_pos (by assumption)]; done) | (rw [if_neg (by assumption)]; done))
