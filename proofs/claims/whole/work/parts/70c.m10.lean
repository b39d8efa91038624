set_option maxHeartbeats 4000000 in
theorem c_X10_byteAt (E : xE) {M : xMem} {i : Int} (hi : 0 ≤ i ∧ i < 2147483648) (hb : 0 ≤ M 201 4 ∧ M 201 4 ≤ 120) : Ct E mX10_byteAt 2 0 [xr E 201, xi i] M (some (xi (byT (M 205) (M 201 4) i))) (M) := by
  refine Ct.of 0 2 (by rfl) (by decide +kernel) (fun hM => ?_)
  show VS E mX10_byteAt 0 _ _ 0 [some (xr E 201), some (xi i)] [] M
  refine r_ild1 dX10_byteAt_0 ?_
  refine r_ald0 dX10_byteAt_1 ?_
  refine s_getI hM fi_X10_89 (sh_201) rfl dX10_byteAt_2 (fun g2 => ?_)
  refine r_icmp_ge 17 dX10_byteAt_5 (by decide) (by omega) (by omega) (fun c5 => ?_) (fun c5 => ?_)
  · skip
    refine r_iconst dX10_byteAt_17 ?_
    exact s_iret hM rfl dX10_byteAt_18 (by unfold byT; first | (rw [if_pos (by omega)]; done) | (rw [if_neg (by omega)]; done)) (by rfl)
  refine r_ald0 dX10_byteAt_8 ?_
  refine s_getR fi_X10_19 (sh_201) rfl dX10_byteAt_9 ?_
  refine r_ild1 dX10_byteAt_12 ?_
  refine s_iald hM (sh_205) (by omega) (by decide) dX10_byteAt_13 (fun g13 => ?_)
  refine r_goto 18 dX10_byteAt_14 (by decide) ?_
  exact s_iret hM rfl dX10_byteAt_18 (by unfold byT; first | (rw [if_pos (by omega)]; done) | (rw [if_neg (by omega)]; done)) (by rfl)
set_option maxHeartbeats 4000000 in
theorem c_X10_isFigure (E : xE) {M : xMem} {c : Int} (hc : -2147483648 ≤ c ∧ c < 2147483648) : Ct E mX10_isFigure 1 1 [xi c] M (some (xi (b2i (figB c)))) (M) := by
  refine Ct.of 0 1 (by rfl) (by decide +kernel) (fun hM => ?_)
  show VS E mX10_isFigure 1 _ _ 0 [some (xi c)] [] M
  refine r_ild0 dX10_isFigure_0 ?_
  refine r_bipush dX10_isFigure_1 (by decide +kernel) ?_
  refine r_bipush dX10_isFigure_3 (by decide +kernel) ?_
  refine s_callS3r hM (c_X10_in E (by first | with_reducible assumption | with_reducible exact xSt_9 | with_reducible exact xSt_13 | omega) (by first | with_reducible assumption | with_reducible exact xSt_9 | with_reducible exact xSt_13 | omega) (by first | with_reducible assumption | with_reducible exact xSt_9 | with_reducible exact xSt_13 | omega)) cs_X10_in wM_X10_70 (Nat.le_of_ble_eq_true rfl) (by decide) dX10_isFigure_5 (fun _ => ?_)
  exact s_zret hM rfl (by have := @b2i_rg; unfold b2i; split <;> simp) dX10_isFigure_8 (by rfl) (by rfl)
set_option maxHeartbeats 4000000 in
theorem c_X10_sortOf (E : xE) {M : xMem} {c : Int} (hc : -2147483648 ≤ c ∧ c < 2147483648) : Ct E mX10_sortOf 1 0 [xi c] M (some (xi (sortT c))) (M) := by
  refine Ct.of 0 1 (by rfl) (by decide +kernel) (fun hM => ?_)
  show VS E mX10_sortOf 0 _ _ 0 [some (xi c)] [] M
  refine r_ild0 dX10_sortOf_0 ?_
  by_cases c1_98 : c = 98
  · skip
    refine r_look 54 dX10_sortOf_1 (by decide) (by omega) (by rw [c1_98]; first | done | decide) (by decide) ?_
    refine r_iconst dX10_sortOf_54 ?_
    exact s_iret hM rfl dX10_sortOf_55 (by unfold sortT; (repeat' split) <;> omega) (by rfl)
  by_cases c1_101 : c = 101
  · skip
    refine r_look 60 dX10_sortOf_1 (by decide) (by omega) (by rw [c1_101]; first | done | decide) (by decide) ?_
    refine r_iconst dX10_sortOf_60 ?_
    exact s_iret hM rfl dX10_sortOf_61 (by unfold sortT; (repeat' split) <;> omega) (by rfl)
  by_cases c1_110 : c = 110
  · skip
    refine r_look 52 dX10_sortOf_1 (by decide) (by omega) (by rw [c1_110]; first | done | decide) (by decide) ?_
    refine r_iconst dX10_sortOf_52 ?_
    exact s_iret hM rfl dX10_sortOf_53 (by unfold sortT; (repeat' split) <;> omega) (by rfl)
  by_cases c1_115 : c = 115
  · skip
    refine r_look 56 dX10_sortOf_1 (by decide) (by omega) (by rw [c1_115]; first | done | decide) (by decide) ?_
    refine r_iconst dX10_sortOf_56 ?_
    exact s_iret hM rfl dX10_sortOf_57 (by unfold sortT; (repeat' split) <;> omega) (by rfl)
  by_cases c1_119 : c = 119
  · skip
    refine r_look 58 dX10_sortOf_1 (by decide) (by omega) (by rw [c1_119]; first | done | decide) (by decide) ?_
    refine r_iconst dX10_sortOf_58 ?_
    exact s_iret hM rfl dX10_sortOf_59 (by unfold sortT; (repeat' split) <;> omega) (by rfl)
  refine r_look 62 dX10_sortOf_1 (by decide) (by omega) (look_def (by simp; omega)) (by decide) ?_
  refine r_iconst dX10_sortOf_62 ?_
  exact s_iret hM rfl dX10_sortOf_63 (by unfold sortT; (repeat' split) <;> omega) (by rfl)
set_option maxHeartbeats 4000000 in
theorem c_X10_fails (E : xE) {M : xMem} {v : Int} (hv : 0 ≤ v ∧ v ≤ 3) : Ct E mX10_fails 2 0 [xr E 201, xi v] M (some (xi 0)) (mS M 201 10 v) := by
  refine Ct.of 0 2 (by rfl) (by decide +kernel) (fun hM => ?_)
  show VS E mX10_fails 0 _ _ 0 [some (xr E 201), some (xi v)] [] M
  refine r_ald0 dX10_fails_0 ?_
  refine r_ild1 dX10_fails_1 ?_
  refine s_putI hM fp_X10_111 (sh_201) rfl (by omega) dX10_fails_2 (fun hM2 => ?_)
  refine r_iconst dX10_fails_5 ?_
  exact s_zret hM2 rfl (by omega) dX10_fails_6 (by rfl) (by rfl)
set_option maxHeartbeats 4000000 in
theorem c_X10_reads (E : xE) {M : xMem}  (hR : RY M) : Ct E mX10_reads 2 2 [xr E 201] M (none) (rsM M) := by
  refine Ct.of 1 2 (by rfl) (by decide +kernel) (fun hM => ?_)
  obtain ⟨hR1, hR2, hR3⟩ := id hR
  show VS E mX10_reads 2 _ _ 0 [some (xr E 201), none] [] M
  have L48 : ∀ (fu : Nat) (n i : Int) (Mc : xMem), InR Mc → (Mc = mS (mS (mS M 201 9 (M 201 6)) 201 8 n) 201 6 i) → (M 201 6 < M 201 4 ∧ figB (M 205 (M 201 6).toNat)) → (M 201 6 ≤ i ∧ i ≤ M 201 4) → (0 ≤ n ∧ n ≤ 999) → (fyL (M 205) (M 201 4) (M 201 4 - i).toNat i n = fyT (M 205) (M 201 4) (M 201 6)) → (M 201 4 - i).toNat < fu → VS E mX10_reads 2 (none) (rsM M) 48 [some (xr E 201), some (xi (M 205 (M 201 6).toNat))] [] Mc := by
    intro fu
    induction fu with
    | zero => intro n i Mc hML48 hMc hq0 hb hn hi hme; exact absurd hme (Nat.not_lt_zero _)
    | succ fu ih =>
      intro n i Mc hML48 hMc hq0 hb hn hi hme
      have e6 : Mc 201 6 = i := by rw [hMc, mS_eq]
      have e4 : Mc 201 4 = M 201 4 := by rw [hMc, mS_ne (Or.inr (by decide)), mS_ne (Or.inr (by decide)), mS_ne (Or.inr (by decide))]
      have e8 : Mc 201 8 = n := by rw [hMc, mS_ne (Or.inr (by decide)), mS_eq]
      have e9 : Mc 201 9 = M 201 6 := by rw [hMc, mS_ne (Or.inr (by decide)), mS_ne (Or.inr (by decide)), mS_eq]
      have e5 : Mc 205 = M 205 := by rw [hMc, mS_row (by decide), mS_row (by decide), mS_row (by decide)]
      have hbt : 0 ≤ byT (M 205) (M 201 4) i ∧ byT (M 205) (M 201 4) i ≤ 255 := by unfold byT; split; exact hR3 _ (by omega); decide
      refine r_ald0 dX10_reads_48 ?_
      refine r_ald0 dX10_reads_49 ?_
      refine s_getI hML48 fi_X10_93 (sh_201) rfl dX10_reads_50 (fun g50 => ?_)
      try first | simp (disch := omega) only [mS_ne, mS_eq, e6, e8, e9] | simp (disch := omega) only [mS_ne, mS_eq]
      refine s_callV1r hML48 (c_X10_byteAt E (by omega) (by rw [e4]; omega)) cv_X10_byteAt wM_X10_99 (sh_201) rfl rfl (Nat.le_of_ble_eq_true rfl) (by decide) dX10_reads_53 (fun _ => ?_)
      rw [e5, e4]
      refine s_callS1r hML48 (c_X10_isFigure E (by first | with_reducible assumption | with_reducible exact xSt_9 | with_reducible exact xSt_13 | omega)) cs_X10_isFigure wM_X10_105 (Nat.le_of_ble_eq_true rfl) (by decide) dX10_reads_56 (fun _ => ?_)
      refine r_ifb_eq 114 dX10_reads_59 (by decide) (fun c59 => ?_) (fun c59 => ?_)
      · skip
        have hx : (i, n) = fyT (M 205) (M 201 4) (M 201 6) := by rw [← hi]; exact (fyL_out (fun z => c59 (by_fig.mpr z)) _).symm
        refine r_ald0 dX10_reads_114 ?_
        refine r_ald0 dX10_reads_115 ?_
        refine s_getI hML48 fi_X10_93 (sh_201) rfl dX10_reads_116 (fun g116 => ?_)
        try first | simp (disch := omega) only [mS_ne, mS_eq, e6, e8, e9] | simp (disch := omega) only [mS_ne, mS_eq]
        refine r_ald0 dX10_reads_119 ?_
        refine s_getI hML48 fi_X10_96 (sh_201) rfl dX10_reads_120 (fun g120 => ?_)
        try first | simp (disch := omega) only [mS_ne, mS_eq, e6, e8, e9] | simp (disch := omega) only [mS_ne, mS_eq]
        refine r_isub dX10_reads_123 ?_
        refine r_iconst dX10_reads_124 ?_
        refine r_icmp_le 132 dX10_reads_125 (by decide) (by omega) (by omega) (fun c125 => ?_) (fun c125 => ?_)
        · skip
          refine r_bipush dX10_reads_132 (by decide +kernel) ?_
          refine s_putI hML48 fp_X10_102 (sh_201) rfl (by omega) dX10_reads_134 (fun hM134 => ?_)
          refine r_goto 182 dX10_reads_137 (by decide) ?_
          exact s_vret hM134 rfl dX10_reads_182 (by first | (exact rs_end (by omega)) | (rw [hMc]; have h := rs_fig hq0.1 hq0.2; rw [← hx] at h; rw [← h]; first | (rw [if_pos (show 2 < (i, n).1 - M 201 6 by show 2 < i - M 201 6; omega)]; done) | (rw [if_neg (show ¬ 2 < (i, n).1 - M 201 6 by show ¬ 2 < i - M 201 6; omega)]; done)) | (exact rs_one (by omega) c40 (by first | (rw [if_pos (by omega)]; done) | (rw [if_neg (by omega)]; done))))
        refine r_iconst dX10_reads_128 ?_
        refine r_goto 134 dX10_reads_129 (by decide) ?_
        refine s_putI hML48 fp_X10_102 (sh_201) rfl (by omega) dX10_reads_134 (fun hM134 => ?_)
        refine r_goto 182 dX10_reads_137 (by decide) ?_
        exact s_vret hM134 rfl dX10_reads_182 (by first | (exact rs_end (by omega)) | (rw [hMc]; have h := rs_fig hq0.1 hq0.2; rw [← hx] at h; rw [← h]; first | (rw [if_pos (show 2 < (i, n).1 - M 201 6 by show 2 < i - M 201 6; omega)]; done) | (rw [if_neg (show ¬ 2 < (i, n).1 - M 201 6 by show ¬ 2 < i - M 201 6; omega)]; done)) | (exact rs_one (by omega) c40 (by first | (rw [if_pos (by omega)]; done) | (rw [if_neg (by omega)]; done))))
      have hfi := by_fig.mp c59
      have hbi : byT (M 205) (M 201 4) i = M 205 i.toNat := if_pos hfi.1
      have hf2 : 48 ≤ M 205 i.toNat ∧ M 205 i.toNat ≤ 57 := hfi.2
      refine r_ald0 dX10_reads_62 ?_
      refine r_ald0 dX10_reads_63 ?_
      refine s_getI hML48 fi_X10_108 (sh_201) rfl dX10_reads_64 (fun g64 => ?_)
      try first | simp (disch := omega) only [mS_ne, mS_eq, e6, e8, e9] | simp (disch := omega) only [mS_ne, mS_eq]
      refine r_bipush dX10_reads_67 (by decide +kernel) ?_
      refine r_icmp_le 79 dX10_reads_69 (by decide) (by omega) (by omega) (fun c69 => ?_) (fun c69 => ?_)
      · skip
        refine r_bipush dX10_reads_79 (by decide +kernel) ?_
        refine r_ald0 dX10_reads_81 ?_
        refine s_getI hML48 fi_X10_108 (sh_201) rfl dX10_reads_82 (fun g82 => ?_)
        try first | simp (disch := omega) only [mS_ne, mS_eq, e6, e8, e9] | simp (disch := omega) only [mS_ne, mS_eq]
        refine r_imul dX10_reads_85 ?_
        refine r_ald0 dX10_reads_86 ?_
        refine r_ald0 dX10_reads_87 ?_
        refine s_getI hML48 fi_X10_93 (sh_201) rfl dX10_reads_88 (fun g88 => ?_)
        try first | simp (disch := omega) only [mS_ne, mS_eq, e6, e8, e9] | simp (disch := omega) only [mS_ne, mS_eq]
        refine s_callV1r hML48 (c_X10_byteAt E (by omega) (by rw [e4]; omega)) cv_X10_byteAt wM_X10_99 (sh_201) rfl rfl (Nat.le_of_ble_eq_true rfl) (by decide) dX10_reads_91 (fun _ => ?_)
        rw [e5, e4, hbi]
        refine r_iadd dX10_reads_94 ?_
        refine r_bipush dX10_reads_95 (by decide +kernel) ?_
        refine r_isub dX10_reads_97 ?_
        refine s_putI hML48 fp_X10_108 (sh_201) rfl (by omega) dX10_reads_98 (fun hM98 => ?_)
        refine r_ald0 dX10_reads_101 ?_
        refine r_dup dX10_reads_102 rfl ?_
        refine s_getI hM98 fi_X10_93 (sh_201) rfl dX10_reads_103 (fun g103 => ?_)
        try first | simp (disch := omega) only [mS_ne, mS_eq, e6, e8, e9] | simp (disch := omega) only [mS_ne, mS_eq]
        refine r_iconst dX10_reads_106 ?_
        refine r_iadd dX10_reads_107 ?_
        refine s_putI hM98 fp_X10_93 (sh_201) rfl (by omega) dX10_reads_108 (fun hM108 => ?_)
        refine r_goto 48 dX10_reads_111 (by decide) ?_
        exact ih (if 99 < n then n else 10 * n + M 205 i.toNat - 48) (i + 1) _  hM108 (by rw [hMc, ry_step]; first | rw [if_pos (by omega)] | rw [if_neg (by omega)]) (by exact hq0) (by omega) (by split <;> omega) (by rw [← hi, show (M 201 4 - i).toNat = (M 201 4 - (i + 1)).toNat + 1 by omega, fyL, if_pos (c := i < M 201 4 ∧ figB (M 205 i.toNat)) hfi]) (by omega)
      refine r_ald0 dX10_reads_72 ?_
      refine s_getI hML48 fi_X10_108 (sh_201) rfl dX10_reads_73 (fun g73 => ?_)
      try first | simp (disch := omega) only [mS_ne, mS_eq, e6, e8, e9] | simp (disch := omega) only [mS_ne, mS_eq]
      refine r_goto 98 dX10_reads_76 (by decide) ?_
      refine s_putI hML48 fp_X10_108 (sh_201) rfl (by omega) dX10_reads_98 (fun hM98 => ?_)
      refine r_ald0 dX10_reads_101 ?_
      refine r_dup dX10_reads_102 rfl ?_
      refine s_getI hM98 fi_X10_93 (sh_201) rfl dX10_reads_103 (fun g103 => ?_)
      try first | simp (disch := omega) only [mS_ne, mS_eq, e6, e8, e9] | simp (disch := omega) only [mS_ne, mS_eq]
      refine r_iconst dX10_reads_106 ?_
      refine r_iadd dX10_reads_107 ?_
      refine s_putI hM98 fp_X10_93 (sh_201) rfl (by omega) dX10_reads_108 (fun hM108 => ?_)
      refine r_goto 48 dX10_reads_111 (by decide) ?_
      exact ih (if 99 < n then n else 10 * n + M 205 i.toNat - 48) (i + 1) _  hM108 (by rw [hMc, ry_step]; first | rw [if_pos (by omega)] | rw [if_neg (by omega)]) (by exact hq0) (by omega) (by split <;> omega) (by rw [← hi, show (M 201 4 - i).toNat = (M 201 4 - (i + 1)).toNat + 1 by omega, fyL, if_pos (c := i < M 201 4 ∧ figB (M 205 i.toNat)) hfi]) (by omega)
  refine r_ald0 dX10_reads_0 ?_
  refine r_ald0 dX10_reads_1 ?_
  refine s_getI hM fi_X10_93 (sh_201) rfl dX10_reads_2 (fun g2 => ?_)
  try simp (disch := omega) only [e6, e8, e9]
  refine s_putI hM fp_X10_96 (sh_201) rfl (by omega) dX10_reads_5 (fun hM5 => ?_)
  refine r_ald0 dX10_reads_8 ?_
  refine r_ald0 dX10_reads_9 ?_
  refine s_getI hM5 fi_X10_93 (sh_201) rfl dX10_reads_10 (fun g10 => ?_)
  try first | simp (disch := omega) only [mS_ne, mS_eq, e6, e8, e9] | simp (disch := omega) only [mS_ne, mS_eq]
  refine s_callV1r hM5 (c_X10_byteAt E (by omega) (by simp (disch := omega) only [mS_ne]; omega)) cv_X10_byteAt wM_X10_99 (sh_201) rfl rfl (Nat.le_of_ble_eq_true rfl) (by decide) dX10_reads_13 (fun _ => ?_)
  rw [mS_row (show (205 : Nat) ≠ 201 by decide), mS_ne (show (201 : Nat) ≠ 201 ∨ 4 ≠ 9 by decide)]
  refine r_ist1 dX10_reads_16 rfl ?_
  refine r_ald0 dX10_reads_17 ?_
  refine s_getI hM5 fi_X10_93 (sh_201) rfl dX10_reads_18 (fun g18 => ?_)
  try first | simp (disch := omega) only [mS_ne, mS_eq, e6, e8, e9] | simp (disch := omega) only [mS_ne, mS_eq]
  refine r_ald0 dX10_reads_21 ?_
  refine s_getI hM5 fi_X10_89 (sh_201) rfl dX10_reads_22 (fun g22 => ?_)
  try first | simp (disch := omega) only [mS_ne, mS_eq, e6, e8, e9] | simp (disch := omega) only [mS_ne, mS_eq]
  refine r_icmp_ne 36 dX10_reads_25 (by decide) (by omega) (by omega) (fun c25 => ?_) (fun c25 => ?_)
  · skip
    have h5 := hR3 (M 201 6).toNat (by omega)
    have hby : byT (M 205) (M 201 4) (M 201 6) = M 205 (M 201 6).toNat := if_pos (by omega)
    rw [hby]
    refine r_ild1 dX10_reads_36 ?_
    refine s_callS1r hM5 (c_X10_isFigure E (by first | with_reducible assumption | with_reducible exact xSt_9 | with_reducible exact xSt_13 | omega)) cs_X10_isFigure wM_X10_105 (Nat.le_of_ble_eq_true rfl) (by decide) dX10_reads_37 (fun _ => ?_)
    refine r_ifb_eq 140 dX10_reads_40 (by decide) (fun c40 => ?_) (fun c40 => ?_)
    · skip
      refine r_ald0 dX10_reads_140 ?_
      refine r_dup dX10_reads_141 rfl ?_
      refine s_getI hM5 fi_X10_93 (sh_201) rfl dX10_reads_142 (fun g142 => ?_)
      try first | simp (disch := omega) only [mS_ne, mS_eq, e6, e8, e9] | simp (disch := omega) only [mS_ne, mS_eq]
      refine r_iconst dX10_reads_145 ?_
      refine r_iadd dX10_reads_146 ?_
      refine s_putI hM5 fp_X10_93 (sh_201) rfl (by omega) dX10_reads_147 (fun hM147 => ?_)
      refine r_ald0 dX10_reads_150 ?_
      refine r_ild1 dX10_reads_151 ?_
      refine r_bipush dX10_reads_152 (by decide +kernel) ?_
      refine r_bipush dX10_reads_154 (by decide +kernel) ?_
      refine s_callS3r hM147 (c_X10_in E (by first | with_reducible assumption | with_reducible exact xSt_9 | with_reducible exact xSt_13 | omega) (by first | with_reducible assumption | with_reducible exact xSt_9 | with_reducible exact xSt_13 | omega) (by first | with_reducible assumption | with_reducible exact xSt_9 | with_reducible exact xSt_13 | omega)) cs_X10_in wM_X10_70 (Nat.le_of_ble_eq_true rfl) (by decide) dX10_reads_156 (fun _ => ?_)
      refine r_ifb_ne 174 dX10_reads_159 (by decide) (fun c159 => ?_) (fun c159 => ?_)
      · skip
        refine r_ild1 dX10_reads_174 ?_
        refine r_goto 179 dX10_reads_175 (by decide) ?_
        refine s_putI hM147 fp_X10_102 (sh_201) rfl (by omega) dX10_reads_179 (fun hM179 => ?_)
        exact s_vret hM179 rfl dX10_reads_182 (by first | (exact rs_end (by omega)) | (rw [hMc]; have h := rs_fig hq0.1 hq0.2; rw [← hx] at h; rw [← h]; first | (rw [if_pos (show 2 < (i, n).1 - M 201 6 by show 2 < i - M 201 6; omega)]; done) | (rw [if_neg (show ¬ 2 < (i, n).1 - M 201 6 by show ¬ 2 < i - M 201 6; omega)]; done)) | (exact rs_one (by omega) c40 (by first | (rw [if_pos (by omega)]; done) | (rw [if_neg (by omega)]; done))))
      refine r_ild1 dX10_reads_162 ?_
      refine r_bipush dX10_reads_163 (by decide +kernel) ?_
      refine r_icmp_eq 174 dX10_reads_165 (by decide) (by omega) (by omega) (fun c165 => ?_) (fun c165 => ?_)
      · skip
        refine r_ild1 dX10_reads_174 ?_
        refine r_goto 179 dX10_reads_175 (by decide) ?_
        refine s_putI hM147 fp_X10_102 (sh_201) rfl (by omega) dX10_reads_179 (fun hM179 => ?_)
        exact s_vret hM179 rfl dX10_reads_182 (by first | (exact rs_end (by omega)) | (rw [hMc]; have h := rs_fig hq0.1 hq0.2; rw [← hx] at h; rw [← h]; first | (rw [if_pos (show 2 < (i, n).1 - M 201 6 by show 2 < i - M 201 6; omega)]; done) | (rw [if_neg (show ¬ 2 < (i, n).1 - M 201 6 by show ¬ 2 < i - M 201 6; omega)]; done)) | (exact rs_one (by omega) c40 (by first | (rw [if_pos (by omega)]; done) | (rw [if_neg (by omega)]; done))))
      refine r_ild1 dX10_reads_168 ?_
      refine r_bipush dX10_reads_169 (by decide +kernel) ?_
      refine r_icmp_ne 178 dX10_reads_171 (by decide) (by omega) (by omega) (fun c171 => ?_) (fun c171 => ?_)
      · skip
        refine r_iconst dX10_reads_178 ?_
        refine s_putI hM147 fp_X10_102 (sh_201) rfl (by omega) dX10_reads_179 (fun hM179 => ?_)
        exact s_vret hM179 rfl dX10_reads_182 (by first | (exact rs_end (by omega)) | (rw [hMc]; have h := rs_fig hq0.1 hq0.2; rw [← hx] at h; rw [← h]; first | (rw [if_pos (show 2 < (i, n).1 - M 201 6 by show 2 < i - M 201 6; omega)]; done) | (rw [if_neg (show ¬ 2 < (i, n).1 - M 201 6 by show ¬ 2 < i - M 201 6; omega)]; done)) | (exact rs_one (by omega) c40 (by first | (rw [if_pos (by omega)]; done) | (rw [if_neg (by omega)]; done))))
      refine r_ild1 dX10_reads_174 ?_
      refine r_goto 179 dX10_reads_175 (by decide) ?_
      refine s_putI hM147 fp_X10_102 (sh_201) rfl (by omega) dX10_reads_179 (fun hM179 => ?_)
      exact s_vret hM179 rfl dX10_reads_182 (by first | (exact rs_end (by omega)) | (rw [hMc]; have h := rs_fig hq0.1 hq0.2; rw [← hx] at h; rw [← h]; first | (rw [if_pos (show 2 < (i, n).1 - M 201 6 by show 2 < i - M 201 6; omega)]; done) | (rw [if_neg (show ¬ 2 < (i, n).1 - M 201 6 by show ¬ 2 < i - M 201 6; omega)]; done)) | (exact rs_one (by omega) c40 (by first | (rw [if_pos (by omega)]; done) | (rw [if_neg (by omega)]; done))))
    refine r_ald0 dX10_reads_43 ?_
    refine r_iconst dX10_reads_44 ?_
    refine s_putI hM5 fp_X10_108 (sh_201) rfl (by omega) dX10_reads_45 (fun hM45 => ?_)
    exact L48 121 0 (M 201 6) _  hM45 (by have h := mS_self (mS (mS M 201 9 (M 201 6)) 201 8 0) 201 6; rw [mS_ne (Or.inr (by decide)), mS_ne (Or.inr (by decide))] at h; exact h.symm) (by exact ⟨by omega, c40⟩) (by omega) (by omega) (by rfl) (by omega)
  refine r_ald0 dX10_reads_28 ?_
  refine r_iconst dX10_reads_29 ?_
  refine s_putI hM5 fp_X10_102 (sh_201) rfl (by omega) dX10_reads_30 (fun hM30 => ?_)
  refine r_goto 182 dX10_reads_33 (by decide) ?_
  exact s_vret hM30 rfl dX10_reads_182 (by first | (exact rs_end (by omega)) | (rw [hMc]; have h := rs_fig hq0.1 hq0.2; rw [← hx] at h; rw [← h]; first | (rw [if_pos (show 2 < (i, n).1 - M 201 6 by show 2 < i - M 201 6; omega)]; done) | (rw [if_neg (show ¬ 2 < (i, n).1 - M 201 6 by show ¬ 2 < i - M 201 6; omega)]; done)) | (exact rs_one (by omega) c40 (by first | (rw [if_pos (by omega)]; done) | (rw [if_neg (by omega)]; done))))
set_option maxHeartbeats 4000000 in
theorem c_X10_told6 (E : xE) {M : xMem} {j x z : Int} (hR : RY M) (hj : 0 ≤ j ∧ j < 32) (hx : -2147483648 ≤ x ∧ x < 2147483648) (hz : -2147483648 ≤ z ∧ z < 2147483648) : Ct E mX10_told 5 3 [xr E 201, xr E 206, xi j, xi x, xi z] M (some (xi (b2i (toldB M x z)))) (toldM M 206 j.toNat x z) := by
  refine Ct.of 0 5 (by rfl) (by decide +kernel) (fun hM => ?_)
  show VS E mX10_told 3 _ _ 0 [some (xr E 201), some (xr E 206), some (xi j), some (xi x), some (xi z)] [] M
  refine r_ald0 dX10_told_0 ?_
  refine s_callV0v hM (c_X10_reads E (by repeat (first | assumption | apply RY_told (by decide) | apply RY_sign | apply RY_rs | (refine RY_mS (by omega) ?_)))) cv_X10_reads wM_X10_114 (sh_201) rfl rfl (Nat.le_of_ble_eq_true rfl) (by decide) dX10_told_1 (fun hM1 => ?_)
  refine r_ald0 dX10_told_4 ?_
  refine s_getI hM1 fi_X10_102 (sh_201) rfl dX10_told_5 (fun g5 => ?_)
  try simp (disch := omega) only [mS_ne, mS_eq]
  refine r_bipush dX10_told_8 (by decide +kernel) ?_
  refine r_icmp_eq 19 dX10_told_10 (by decide) (by omega) (by omega) (fun c10 => ?_) (fun c10 => ?_)
  · skip
    refine r_ald1 dX10_told_19 ?_
    refine r_ild2 dX10_told_20 ?_
    refine r_ald0 dX10_told_21 ?_
    refine s_getI hM1 fi_X10_108 (sh_201) rfl dX10_told_22 (fun g22 => ?_)
    try simp (disch := omega) only [mS_ne, mS_eq]
    refine s_iast hM1 (sh_206) (by omega) (by decide) (by omega) dX10_told_25 (fun hM25 => ?_)
    refine r_ald0 dX10_told_26 ?_
    refine s_getI hM25 fi_X10_108 (sh_201) rfl dX10_told_27 (fun g27 => ?_)
    try simp (disch := omega) only [mS_ne, mS_eq]
    refine r_ild3 dX10_told_30 ?_
    refine r_ild4 dX10_told_31 ?_
    refine s_callS3r hM25 (c_X10_in E (by first | with_reducible assumption | with_reducible exact xSt_9 | with_reducible exact xSt_13 | omega) (by first | with_reducible assumption | with_reducible exact xSt_9 | with_reducible exact xSt_13 | omega) (by first | with_reducible assumption | with_reducible exact xSt_9 | with_reducible exact xSt_13 | omega)) cs_X10_in wM_X10_70 (Nat.le_of_ble_eq_true rfl) (by decide) dX10_told_33 (fun _ => ?_)
    refine r_ifb_ne 47 dX10_told_36 (by decide) (fun c36 => ?_) (fun c36 => ?_)
    · skip
      refine r_iconst dX10_told_47 ?_
      refine r_goto 52 dX10_told_48 (by decide) ?_
      exact s_zret hM25 rfl (by omega) dX10_told_52 (by first | exact (b2i_t ⟨by assumption, by omega, by omega⟩).symm | exact (b2i_f (fun q => by obtain ⟨q1, q2, q3⟩ := q; first | omega | contradiction)).symm) (by unfold toldM; first | (rw [if_pos (by assumption), if_pos (by omega)]; done) | (rw [if_pos (by assumption), if_neg (by omega)]; done) | (rw [if_neg (by assumption)]; done))
    refine r_ald0 dX10_told_39 ?_
    refine r_iconst dX10_told_40 ?_
    refine s_callV1r hM25 (c_X10_fails E (by first | with_reducible assumption | with_reducible exact xSt_9 | with_reducible exact xSt_13 | omega)) cv_X10_fails wM_X10_117 (sh_201) rfl rfl (Nat.le_of_ble_eq_true rfl) (by decide) dX10_told_41 (fun hM41 => ?_)
    refine r_if_eq 51 dX10_told_44 (by decide) (by omega) (fun c44 => ?_) (fun c44 => by exfalso; omega)
    refine r_iconst dX10_told_51 ?_
    exact s_zret hM41 rfl (by omega) dX10_told_52 (by first | exact (b2i_t ⟨by assumption, by omega, by omega⟩).symm | exact (b2i_f (fun q => by obtain ⟨q1, q2, q3⟩ := q; first | omega | contradiction)).symm) (by unfold toldM; first | (rw [if_pos (by assumption), if_pos (by omega)]; done) | (rw [if_pos (by assumption), if_neg (by omega)]; done) | (rw [if_neg (by assumption)]; done))
  refine r_ald0 dX10_told_13 ?_
  refine r_iconst dX10_told_14 ?_
  refine s_callV1r hM1 (c_X10_fails E (by first | with_reducible assumption | with_reducible exact xSt_9 | with_reducible exact xSt_13 | omega)) cv_X10_fails wM_X10_117 (sh_201) rfl rfl (Nat.le_of_ble_eq_true rfl) (by decide) dX10_told_15 (fun hM15 => ?_)
  exact s_zret hM15 rfl (by omega) dX10_told_18 (by first | exact (b2i_t ⟨by assumption, by omega, by omega⟩).symm | exact (b2i_f (fun q => by obtain ⟨q1, q2, q3⟩ := q; first | omega | contradiction)).symm) (by unfold toldM; first | (rw [if_pos (by assumption), if_pos (by omega)]; done) | (rw [if_pos (by assumption), if_neg (by omega)]; done) | (rw [if_neg (by assumption)]; done))
set_option maxHeartbeats 4000000 in
theorem c_X10_told7 (E : xE) {M : xMem} {j x z : Int} (hR : RY M) (hj : 0 ≤ j ∧ j < 5) (hx : -2147483648 ≤ x ∧ x < 2147483648) (hz : -2147483648 ≤ z ∧ z < 2147483648) : Ct E mX10_told 5 3 [xr E 201, xr E 207, xi j, xi x, xi z] M (some (xi (b2i (toldB M x z)))) (toldM M 207 j.toNat x z) := by
  refine Ct.of 0 5 (by rfl) (by decide +kernel) (fun hM => ?_)
  show VS E mX10_told 3 _ _ 0 [some (xr E 201), some (xr E 207), some (xi j), some (xi x), some (xi z)] [] M
  refine r_ald0 dX10_told_0 ?_
  refine s_callV0v hM (c_X10_reads E (by repeat (first | assumption | apply RY_told (by decide) | apply RY_sign | apply RY_rs | (refine RY_mS (by omega) ?_)))) cv_X10_reads wM_X10_114 (sh_201) rfl rfl (Nat.le_of_ble_eq_true rfl) (by decide) dX10_told_1 (fun hM1 => ?_)
  refine r_ald0 dX10_told_4 ?_
  refine s_getI hM1 fi_X10_102 (sh_201) rfl dX10_told_5 (fun g5 => ?_)
  try simp (disch := omega) only [mS_ne, mS_eq]
  refine r_bipush dX10_told_8 (by decide +kernel) ?_
  refine r_icmp_eq 19 dX10_told_10 (by decide) (by omega) (by omega) (fun c10 => ?_) (fun c10 => ?_)
  · skip
    refine r_ald1 dX10_told_19 ?_
    refine r_ild2 dX10_told_20 ?_
    refine r_ald0 dX10_told_21 ?_
    refine s_getI hM1 fi_X10_108 (sh_201) rfl dX10_told_22 (fun g22 => ?_)
    try simp (disch := omega) only [mS_ne, mS_eq]
    refine s_iast hM1 (sh_207) (by omega) (by decide) (by omega) dX10_told_25 (fun hM25 => ?_)
    refine r_ald0 dX10_told_26 ?_
    refine s_getI hM25 fi_X10_108 (sh_201) rfl dX10_told_27 (fun g27 => ?_)
    try simp (disch := omega) only [mS_ne, mS_eq]
    refine r_ild3 dX10_told_30 ?_
    refine r_ild4 dX10_told_31 ?_
    refine s_callS3r hM25 (c_X10_in E (by first | with_reducible assumption | with_reducible exact xSt_9 | with_reducible exact xSt_13 | omega) (by first | with_reducible assumption | with_reducible exact xSt_9 | with_reducible exact xSt_13 | omega) (by first | with_reducible assumption | with_reducible exact xSt_9 | with_reducible exact xSt_13 | omega)) cs_X10_in wM_X10_70 (Nat.le_of_ble_eq_true rfl) (by decide) dX10_told_33 (fun _ => ?_)
    refine r_ifb_ne 47 dX10_told_36 (by decide) (fun c36 => ?_) (fun c36 => ?_)
    · skip
      refine r_iconst dX10_told_47 ?_
      refine r_goto 52 dX10_told_48 (by decide) ?_
      exact s_zret hM25 rfl (by omega) dX10_told_52 (by first | exact (b2i_t ⟨by assumption, by omega, by omega⟩).symm | exact (b2i_f (fun q => by obtain ⟨q1, q2, q3⟩ := q; first | omega | contradiction)).symm) (by unfold toldM; first | (rw [if_pos (by assumption), if_pos (by omega)]; done) | (rw [if_pos (by assumption), if_neg (by omega)]; done) | (rw [if_neg (by assumption)]; done))
    refine r_ald0 dX10_told_39 ?_
    refine r_iconst dX10_told_40 ?_
    refine s_callV1r hM25 (c_X10_fails E (by first | with_reducible assumption | with_reducible exact xSt_9 | with_reducible exact xSt_13 | omega)) cv_X10_fails wM_X10_117 (sh_201) rfl rfl (Nat.le_of_ble_eq_true rfl) (by decide) dX10_told_41 (fun hM41 => ?_)
    refine r_if_eq 51 dX10_told_44 (by decide) (by omega) (fun c44 => ?_) (fun c44 => by exfalso; omega)
    refine r_iconst dX10_told_51 ?_
    exact s_zret hM41 rfl (by omega) dX10_told_52 (by first | exact (b2i_t ⟨by assumption, by omega, by omega⟩).symm | exact (b2i_f (fun q => by obtain ⟨q1, q2, q3⟩ := q; first | omega | contradiction)).symm) (by unfold toldM; first | (rw [if_pos (by assumption), if_pos (by omega)]; done) | (rw [if_pos (by assumption), if_neg (by omega)]; done) | (rw [if_neg (by assumption)]; done))
  refine r_ald0 dX10_told_13 ?_
  refine r_iconst dX10_told_14 ?_
  refine s_callV1r hM1 (c_X10_fails E (by first | with_reducible assumption | with_reducible exact xSt_9 | with_reducible exact xSt_13 | omega)) cv_X10_fails wM_X10_117 (sh_201) rfl rfl (Nat.le_of_ble_eq_true rfl) (by decide) dX10_told_15 (fun hM15 => ?_)
  exact s_zret hM15 rfl (by omega) dX10_told_18 (by first | exact (b2i_t ⟨by assumption, by omega, by omega⟩).symm | exact (b2i_f (fun q => by obtain ⟨q1, q2, q3⟩ := q; first | omega | contradiction)).symm) (by unfold toldM; first | (rw [if_pos (by assumption), if_pos (by omega)]; done) | (rw [if_pos (by assumption), if_neg (by omega)]; done) | (rw [if_neg (by assumption)]; done))
set_option maxHeartbeats 4000000 in
theorem c_X10_told8 (E : xE) {M : xMem} {j x z : Int} (hR : RY M) (hj : 0 ≤ j ∧ j < 1) (hx : -2147483648 ≤ x ∧ x < 2147483648) (hz : -2147483648 ≤ z ∧ z < 2147483648) : Ct E mX10_told 5 3 [xr E 201, xr E 208, xi j, xi x, xi z] M (some (xi (b2i (toldB M x z)))) (toldM M 208 j.toNat x z) := by
  refine Ct.of 0 5 (by rfl) (by decide +kernel) (fun hM => ?_)
  show VS E mX10_told 3 _ _ 0 [some (xr E 201), some (xr E 208), some (xi j), some (xi x), some (xi z)] [] M
  refine r_ald0 dX10_told_0 ?_
  refine s_callV0v hM (c_X10_reads E (by repeat (first | assumption | apply RY_told (by decide) | apply RY_sign | apply RY_rs | (refine RY_mS (by omega) ?_)))) cv_X10_reads wM_X10_114 (sh_201) rfl rfl (Nat.le_of_ble_eq_true rfl) (by decide) dX10_told_1 (fun hM1 => ?_)
  refine r_ald0 dX10_told_4 ?_
  refine s_getI hM1 fi_X10_102 (sh_201) rfl dX10_told_5 (fun g5 => ?_)
  try simp (disch := omega) only [mS_ne, mS_eq]
  refine r_bipush dX10_told_8 (by decide +kernel) ?_
  refine r_icmp_eq 19 dX10_told_10 (by decide) (by omega) (by omega) (fun c10 => ?_) (fun c10 => ?_)
  · skip
    refine r_ald1 dX10_told_19 ?_
    refine r_ild2 dX10_told_20 ?_
    refine r_ald0 dX10_told_21 ?_
    refine s_getI hM1 fi_X10_108 (sh_201) rfl dX10_told_22 (fun g22 => ?_)
    try simp (disch := omega) only [mS_ne, mS_eq]
    refine s_iast hM1 (sh_208) (by omega) (by decide) (by omega) dX10_told_25 (fun hM25 => ?_)
    refine r_ald0 dX10_told_26 ?_
    refine s_getI hM25 fi_X10_108 (sh_201) rfl dX10_told_27 (fun g27 => ?_)
    try simp (disch := omega) only [mS_ne, mS_eq]
    refine r_ild3 dX10_told_30 ?_
    refine r_ild4 dX10_told_31 ?_
    refine s_callS3r hM25 (c_X10_in E (by first | with_reducible assumption | with_reducible exact xSt_9 | with_reducible exact xSt_13 | omega) (by first | with_reducible assumption | with_reducible exact xSt_9 | with_reducible exact xSt_13 | omega) (by first | with_reducible assumption | with_reducible exact xSt_9 | with_reducible exact xSt_13 | omega)) cs_X10_in wM_X10_70 (Nat.le_of_ble_eq_true rfl) (by decide) dX10_told_33 (fun _ => ?_)
    refine r_ifb_ne 47 dX10_told_36 (by decide) (fun c36 => ?_) (fun c36 => ?_)
    · skip
      refine r_iconst dX10_told_47 ?_
      refine r_goto 52 dX10_told_48 (by decide) ?_
      exact s_zret hM25 rfl (by omega) dX10_told_52 (by first | exact (b2i_t ⟨by assumption, by omega, by omega⟩).symm | exact (b2i_f (fun q => by obtain ⟨q1, q2, q3⟩ := q; first | omega | contradiction)).symm) (by unfold toldM; first | (rw [if_pos (by assumption), if_pos (by omega)]; done) | (rw [if_pos (by assumption), if_neg (by omega)]; done) | (rw [if_neg (by assumption)]; done))
    refine r_ald0 dX10_told_39 ?_
    refine r_iconst dX10_told_40 ?_
    refine s_callV1r hM25 (c_X10_fails E (by first | with_reducible assumption | with_reducible exact xSt_9 | with_reducible exact xSt_13 | omega)) cv_X10_fails wM_X10_117 (sh_201) rfl rfl (Nat.le_of_ble_eq_true rfl) (by decide) dX10_told_41 (fun hM41 => ?_)
    refine r_if_eq 51 dX10_told_44 (by decide) (by omega) (fun c44 => ?_) (fun c44 => by exfalso; omega)
    refine r_iconst dX10_told_51 ?_
    exact s_zret hM41 rfl (by omega) dX10_told_52 (by first | exact (b2i_t ⟨by assumption, by omega, by omega⟩).symm | exact (b2i_f (fun q => by obtain ⟨q1, q2, q3⟩ := q; first | omega | contradiction)).symm) (by unfold toldM; first | (rw [if_pos (by assumption), if_pos (by omega)]; done) | (rw [if_pos (by assumption), if_neg (by omega)]; done) | (rw [if_neg (by assumption)]; done))
  refine r_ald0 dX10_told_13 ?_
  refine r_iconst dX10_told_14 ?_
  refine s_callV1r hM1 (c_X10_fails E (by first | with_reducible assumption | with_reducible exact xSt_9 | with_reducible exact xSt_13 | omega)) cv_X10_fails wM_X10_117 (sh_201) rfl rfl (Nat.le_of_ble_eq_true rfl) (by decide) dX10_told_15 (fun hM15 => ?_)
  exact s_zret hM15 rfl (by omega) dX10_told_18 (by first | exact (b2i_t ⟨by assumption, by omega, by omega⟩).symm | exact (b2i_f (fun q => by obtain ⟨q1, q2, q3⟩ := q; first | omega | contradiction)).symm) (by unfold toldM; first | (rw [if_pos (by assumption), if_pos (by omega)]; done) | (rw [if_pos (by assumption), if_neg (by omega)]; done) | (rw [if_neg (by assumption)]; done))
set_option maxHeartbeats 4000000 in
theorem c_X10_sign (E : xE) {M : xMem} {x : Int} (hR : RY M) (hx : -2147483648 ≤ x ∧ x < 2147483648) : Ct E mX10_sign 2 3 [xr E 201, xi x] M (some (xi (b2i (rsM M 201 7 = x)))) (signM M x) := by
  refine Ct.of 0 2 (by rfl) (by decide +kernel) (fun hM => ?_)
  show VS E mX10_sign 3 _ _ 0 [some (xr E 201), some (xi x)] [] M
  refine r_ald0 dX10_sign_0 ?_
  refine s_callV0v hM (c_X10_reads E (by repeat (first | assumption | apply RY_told (by decide) | apply RY_sign | apply RY_rs | (refine RY_mS (by omega) ?_)))) cv_X10_reads wM_X10_114 (sh_201) rfl rfl (Nat.le_of_ble_eq_true rfl) (by decide) dX10_sign_1 (fun hM1 => ?_)
  refine r_ald0 dX10_sign_4 ?_
  refine s_getI hM1 fi_X10_102 (sh_201) rfl dX10_sign_5 (fun g5 => ?_)
  try simp (disch := omega) only [mS_ne, mS_eq]
  refine r_ild1 dX10_sign_8 ?_
  refine r_icmp_eq 20 dX10_sign_9 (by decide) (by omega) (by omega) (fun c9 => ?_) (fun c9 => ?_)
  · skip
    refine r_iconst dX10_sign_20 ?_
    refine r_goto 25 dX10_sign_21 (by decide) ?_
    exact s_zret hM1 rfl (by omega) dX10_sign_25 (by first | exact (b2i_t (by assumption)).symm | exact (b2i_f (by assumption)).symm) (by unfold signM; first | rw [if_pos (by assumption)] | rw [if_neg (by assumption)])
  refine r_ald0 dX10_sign_12 ?_
  refine r_iconst dX10_sign_13 ?_
  refine s_callV1r hM1 (c_X10_fails E (by first | with_reducible assumption | with_reducible exact xSt_9 | with_reducible exact xSt_13 | omega)) cv_X10_fails wM_X10_117 (sh_201) rfl rfl (Nat.le_of_ble_eq_true rfl) (by decide) dX10_sign_14 (fun hM14 => ?_)
  refine r_if_eq 24 dX10_sign_17 (by decide) (by omega) (fun c17 => ?_) (fun c17 => by exfalso; omega)
  refine r_iconst dX10_sign_24 ?_
  exact s_zret hM14 rfl (by omega) dX10_sign_25 (by first | exact (b2i_t (by assumption)).symm | exact (b2i_f (by assumption)).symm) (by unfold signM; first | rw [if_pos (by assumption)] | rw [if_neg (by assumption)])
set_option maxHeartbeats 4000000 in
theorem c_X10_readsLaw (E : xE) {M : xMem}  (hR : RY M) : Ct E mX10_readsLaw 2 4 [xr E 201] M (some (xi (b2i ((ryLaw M).1 = true)))) ((ryLaw M).2) := by
  refine Ct.of 1 2 (by rfl) (by decide +kernel) (fun hM => ?_)
  obtain ⟨hR1, hR2, hR3⟩ := id hR
  have hk : ryLI M = eyN M 206 2 1 60 fun A => eyS A 44 fun B => eyN B 208 0 1 9 fun C => eyS C 59 fun D => (true, D) := rfl
  show VS E mX10_readsLaw 4 _ _ 0 [some (xr E 201), none] [] M
  refine r_ald0 dX10_readsLaw_0 ?_
  refine s_getI hM fi_X10_102 (sh_201) rfl dX10_readsLaw_1 (fun g1 => ?_)
  refine r_bipush dX10_readsLaw_4 (by decide +kernel) ?_
  refine r_icmp_eq 15 dX10_readsLaw_6 (by decide) (by omega) (by omega) (fun c6 => ?_) (fun c6 => ?_)
  · skip
    refine r_ald0 dX10_readsLaw_15 ?_
    refine r_ald0 dX10_readsLaw_16 ?_
    refine s_getR fi_X10_22 (sh_201) rfl dX10_readsLaw_17 ?_
    refine r_iconst dX10_readsLaw_20 ?_
    refine r_iconst dX10_readsLaw_21 ?_
    refine r_bipush dX10_readsLaw_22 (by decide +kernel) ?_
    refine s_callV4r hM (c_X10_told6 E (by repeat (first | assumption | apply RY_told (by decide) | apply RY_sign | apply RY_rs | (refine RY_mS (by omega) ?_))) (by first | with_reducible assumption | with_reducible exact xSt_9 | with_reducible exact xSt_13 | omega) (by first | with_reducible assumption | with_reducible exact xSt_9 | with_reducible exact xSt_13 | omega) (by first | with_reducible assumption | with_reducible exact xSt_9 | with_reducible exact xSt_13 | omega)) cv_X10_told wM_X10_120 (sh_201) rfl rfl (Nat.le_of_ble_eq_true rfl) (by decide) dX10_readsLaw_24 (fun hM24 => ?_)
    refine r_ifb_eq 67 dX10_readsLaw_27 (by decide) (fun c27 => ?_) (fun c27 => ?_)
    · skip
      have hk := hk.trans (eyN_f c27)
      refine r_iconst dX10_readsLaw_67 ?_
      refine r_ist1 dX10_readsLaw_68 rfl ?_
      refine r_ald0 dX10_readsLaw_69 ?_
      refine r_ald0 dX10_readsLaw_70 ?_
      refine s_getR fi_X10_28 (sh_201) rfl dX10_readsLaw_71 ?_
      refine r_iconst dX10_readsLaw_74 ?_
      refine s_iald hM24 (sh_208) (by omega) (by decide) dX10_readsLaw_75 (fun g75 => ?_)
      refine s_putI hM24 fp_X10_127 (sh_201) rfl (by omega) dX10_readsLaw_76 (fun hM76 => ?_)
      refine r_ild1 dX10_readsLaw_79 ?_
      exact s_zret hM76 rfl (by first | exact Or.inl rfl | exact Or.inr rfl) dX10_readsLaw_80 (by unfold ryLaw; first | (rw [if_pos (by assumption), hk]; rfl) | (rw [if_neg (by assumption)]; rfl)) (by unfold ryLaw; first | (rw [if_pos (by assumption), hk]; rfl) | (rw [if_neg (by assumption)]; done))
    have hk := hk.trans (eyN_t c27)
    refine r_ald0 dX10_readsLaw_30 ?_
    refine r_bipush dX10_readsLaw_31 (by decide +kernel) ?_
    refine s_callV1r hM24 (c_X10_sign E (by repeat (first | assumption | apply RY_told (by decide) | apply RY_sign | apply RY_rs | (refine RY_mS (by omega) ?_))) (by first | with_reducible assumption | with_reducible exact xSt_9 | with_reducible exact xSt_13 | omega)) cv_X10_sign wM_X10_124 (sh_201) rfl rfl (Nat.le_of_ble_eq_true rfl) (by decide) dX10_readsLaw_33 (fun hM33 => ?_)
    refine r_ifb_eq 67 dX10_readsLaw_36 (by decide) (fun c36 => ?_) (fun c36 => ?_)
    · skip
      have hk := hk.trans (eyS_f c36)
      refine r_iconst dX10_readsLaw_67 ?_
      refine r_ist1 dX10_readsLaw_68 rfl ?_
      refine r_ald0 dX10_readsLaw_69 ?_
      refine r_ald0 dX10_readsLaw_70 ?_
      refine s_getR fi_X10_28 (sh_201) rfl dX10_readsLaw_71 ?_
      refine r_iconst dX10_readsLaw_74 ?_
      refine s_iald hM33 (sh_208) (by omega) (by decide) dX10_readsLaw_75 (fun g75 => ?_)
      refine s_putI hM33 fp_X10_127 (sh_201) rfl (by omega) dX10_readsLaw_76 (fun hM76 => ?_)
      refine r_ild1 dX10_readsLaw_79 ?_
      exact s_zret hM76 rfl (by first | exact Or.inl rfl | exact Or.inr rfl) dX10_readsLaw_80 (by unfold ryLaw; first | (rw [if_pos (by assumption), hk]; rfl) | (rw [if_neg (by assumption)]; rfl)) (by unfold ryLaw; first | (rw [if_pos (by assumption), hk]; rfl) | (rw [if_neg (by assumption)]; done))
    have hk := hk.trans (eyS_t c36)
    refine r_ald0 dX10_readsLaw_39 ?_
    refine r_ald0 dX10_readsLaw_40 ?_
    refine s_getR fi_X10_28 (sh_201) rfl dX10_readsLaw_41 ?_
    refine r_iconst dX10_readsLaw_44 ?_
    refine r_iconst dX10_readsLaw_45 ?_
    refine r_bipush dX10_readsLaw_46 (by decide +kernel) ?_
    refine s_callV4r hM33 (c_X10_told8 E (by repeat (first | assumption | apply RY_told (by decide) | apply RY_sign | apply RY_rs | (refine RY_mS (by omega) ?_))) (by first | with_reducible assumption | with_reducible exact xSt_9 | with_reducible exact xSt_13 | omega) (by first | with_reducible assumption | with_reducible exact xSt_9 | with_reducible exact xSt_13 | omega) (by first | with_reducible assumption | with_reducible exact xSt_9 | with_reducible exact xSt_13 | omega)) cv_X10_told wM_X10_120 (sh_201) rfl rfl (Nat.le_of_ble_eq_true rfl) (by decide) dX10_readsLaw_48 (fun hM48 => ?_)
    refine r_ifb_eq 67 dX10_readsLaw_51 (by decide) (fun c51 => ?_) (fun c51 => ?_)
    · skip
      have hk := hk.trans (eyN_f c51)
      refine r_iconst dX10_readsLaw_67 ?_
      refine r_ist1 dX10_readsLaw_68 rfl ?_
      refine r_ald0 dX10_readsLaw_69 ?_
      refine r_ald0 dX10_readsLaw_70 ?_
      refine s_getR fi_X10_28 (sh_201) rfl dX10_readsLaw_71 ?_
      refine r_iconst dX10_readsLaw_74 ?_
      refine s_iald hM48 (sh_208) (by omega) (by decide) dX10_readsLaw_75 (fun g75 => ?_)
      refine s_putI hM48 fp_X10_127 (sh_201) rfl (by omega) dX10_readsLaw_76 (fun hM76 => ?_)
      refine r_ild1 dX10_readsLaw_79 ?_
      exact s_zret hM76 rfl (by first | exact Or.inl rfl | exact Or.inr rfl) dX10_readsLaw_80 (by unfold ryLaw; first | (rw [if_pos (by assumption), hk]; rfl) | (rw [if_neg (by assumption)]; rfl)) (by unfold ryLaw; first | (rw [if_pos (by assumption), hk]; rfl) | (rw [if_neg (by assumption)]; done))
    have hk := hk.trans (eyN_t c51)
    refine r_ald0 dX10_readsLaw_54 ?_
    refine r_bipush dX10_readsLaw_55 (by decide +kernel) ?_
    refine s_callV1r hM48 (c_X10_sign E (by repeat (first | assumption | apply RY_told (by decide) | apply RY_sign | apply RY_rs | (refine RY_mS (by omega) ?_))) (by first | with_reducible assumption | with_reducible exact xSt_9 | with_reducible exact xSt_13 | omega)) cv_X10_sign wM_X10_124 (sh_201) rfl rfl (Nat.le_of_ble_eq_true rfl) (by decide) dX10_readsLaw_57 (fun hM57 => ?_)
    refine r_ifb_eq 67 dX10_readsLaw_60 (by decide) (fun c60 => ?_) (fun c60 => ?_)
    · skip
      have hk := hk.trans (eyS_f c60)
      refine r_iconst dX10_readsLaw_67 ?_
      refine r_ist1 dX10_readsLaw_68 rfl ?_
      refine r_ald0 dX10_readsLaw_69 ?_
      refine r_ald0 dX10_readsLaw_70 ?_
      refine s_getR fi_X10_28 (sh_201) rfl dX10_readsLaw_71 ?_
      refine r_iconst dX10_readsLaw_74 ?_
      refine s_iald hM57 (sh_208) (by omega) (by decide) dX10_readsLaw_75 (fun g75 => ?_)
      refine s_putI hM57 fp_X10_127 (sh_201) rfl (by omega) dX10_readsLaw_76 (fun hM76 => ?_)
      refine r_ild1 dX10_readsLaw_79 ?_
      exact s_zret hM76 rfl (by first | exact Or.inl rfl | exact Or.inr rfl) dX10_readsLaw_80 (by unfold ryLaw; first | (rw [if_pos (by assumption), hk]; rfl) | (rw [if_neg (by assumption)]; rfl)) (by unfold ryLaw; first | (rw [if_pos (by assumption), hk]; rfl) | (rw [if_neg (by assumption)]; done))
    have hk := hk.trans (eyS_t c60)
    refine r_iconst dX10_readsLaw_63 ?_
    refine r_goto 68 dX10_readsLaw_64 (by decide) ?_
    refine r_ist1 dX10_readsLaw_68 rfl ?_
    refine r_ald0 dX10_readsLaw_69 ?_
    refine r_ald0 dX10_readsLaw_70 ?_
    refine s_getR fi_X10_28 (sh_201) rfl dX10_readsLaw_71 ?_
    refine r_iconst dX10_readsLaw_74 ?_
    refine s_iald hM57 (sh_208) (by omega) (by decide) dX10_readsLaw_75 (fun g75 => ?_)
    refine s_putI hM57 fp_X10_127 (sh_201) rfl (by omega) dX10_readsLaw_76 (fun hM76 => ?_)
    refine r_ild1 dX10_readsLaw_79 ?_
    exact s_zret hM76 rfl (by first | exact Or.inl rfl | exact Or.inr rfl) dX10_readsLaw_80 (by unfold ryLaw; first | (rw [if_pos (by assumption), hk]; rfl) | (rw [if_neg (by assumption)]; rfl)) (by unfold ryLaw; first | (rw [if_pos (by assumption), hk]; rfl) | (rw [if_neg (by assumption)]; done))
  refine r_ald0 dX10_readsLaw_9 ?_
  refine r_iconst dX10_readsLaw_10 ?_
  refine s_callV1r hM (c_X10_fails E (by first | with_reducible assumption | with_reducible exact xSt_9 | with_reducible exact xSt_13 | omega)) cv_X10_fails wM_X10_117 (sh_201) rfl rfl (Nat.le_of_ble_eq_true rfl) (by decide) dX10_readsLaw_11 (fun hM11 => ?_)
  exact s_zret hM11 rfl (by first | exact Or.inl rfl | exact Or.inr rfl) dX10_readsLaw_14 (by unfold ryLaw; first | (rw [if_pos (by assumption), hk]; rfl) | (rw [if_neg (by assumption)]; rfl)) (by unfold ryLaw; first | (rw [if_pos (by assumption), hk]; rfl) | (rw [if_neg (by assumption)]; done))
set_option maxHeartbeats 4000000 in
theorem c_X10_readsPerson (E : xE) {M : xMem}  (hR : RY M) (hP : 0 ≤ M 206 0 ∧ M 206 0 ≤ 5) : Ct E mX10_readsPerson 2 4 [xr E 201] M (some (xi (b2i ((ryPer M).1 = true)))) ((ryPer M).2) := by
  refine Ct.of 1 2 (by rfl) (by decide +kernel) (fun hM => ?_)
  obtain ⟨hR1, hR2, hR3⟩ := id hR
  have hk : ryPer M = if M 206 0 = 5 then (false, mS M 201 10 3) else eyN (mS M 206 0 (M 206 0 + 1)) 207 (M 206 0).toNat 0 99 fun A => eyS A 44 fun B => eyN B 206 (3 + M 206 0).toNat 0 20 fun C => eyS C 59 fun D => (true, D) := rfl
  show VS E mX10_readsPerson 4 _ _ 0 [some (xr E 201), none] [] M
  refine r_ald0 dX10_readsPerson_0 ?_
  refine s_getR fi_X10_22 (sh_201) rfl dX10_readsPerson_1 ?_
  refine r_iconst dX10_readsPerson_4 ?_
  refine s_iald hM (sh_206) (by omega) (by decide) dX10_readsPerson_5 (fun g5 => ?_)
  try simp (disch := omega) only [Int.reduceToNat]
  refine r_iconst dX10_readsPerson_6 ?_
  refine r_icmp_ne 16 dX10_readsPerson_7 (by decide) (by omega) (by omega) (fun c7 => ?_) (fun c7 => ?_)
  · skip
    have hk := hk.trans (if_neg (by omega))
    refine r_ald0 dX10_readsPerson_16 ?_
    refine s_getR fi_X10_22 (sh_201) rfl dX10_readsPerson_17 ?_
    refine r_iconst dX10_readsPerson_20 ?_
    refine s_iald hM (sh_206) (by omega) (by decide) dX10_readsPerson_21 (fun g21 => ?_)
    try simp (disch := omega) only [Int.reduceToNat]
    refine r_ist1 dX10_readsPerson_22 rfl ?_
    refine r_ald0 dX10_readsPerson_23 ?_
    refine s_getR fi_X10_22 (sh_201) rfl dX10_readsPerson_24 ?_
    refine r_iconst dX10_readsPerson_27 ?_
    refine r_dup2 dX10_readsPerson_28 rfl rfl ?_
    refine s_iald hM (sh_206) (by omega) (by decide) dX10_readsPerson_29 (fun g29 => ?_)
    try simp (disch := omega) only [Int.reduceToNat]
    refine r_iconst dX10_readsPerson_30 ?_
    refine r_iadd dX10_readsPerson_31 ?_
    refine s_iast hM (sh_206) (by omega) (by decide) (by omega) dX10_readsPerson_32 (fun hM32 => ?_)
    refine r_ald0 dX10_readsPerson_33 ?_
    refine r_ald0 dX10_readsPerson_34 ?_
    refine s_getR fi_X10_25 (sh_201) rfl dX10_readsPerson_35 ?_
    refine r_ild1 dX10_readsPerson_38 ?_
    refine r_iconst dX10_readsPerson_39 ?_
    refine r_bipush dX10_readsPerson_40 (by decide +kernel) ?_
    refine s_callV4r hM32 (c_X10_told7 E (by repeat (first | assumption | apply RY_told (by decide) | apply RY_sign | apply RY_rs | (refine RY_mS (by omega) ?_))) (by first | with_reducible assumption | with_reducible exact xSt_9 | with_reducible exact xSt_13 | omega) (by first | with_reducible assumption | with_reducible exact xSt_9 | with_reducible exact xSt_13 | omega) (by first | with_reducible assumption | with_reducible exact xSt_9 | with_reducible exact xSt_13 | omega)) cv_X10_told wM_X10_120 (sh_201) rfl rfl (Nat.le_of_ble_eq_true rfl) (by decide) dX10_readsPerson_42 (fun hM42 => ?_)
    refine r_ifb_eq 87 dX10_readsPerson_45 (by decide) (fun c45 => ?_) (fun c45 => ?_)
    · skip
      have hk := hk.trans (eyN_f c45)
      refine r_iconst dX10_readsPerson_87 ?_
      exact s_zret hM42 rfl (by first | exact Or.inl rfl | exact Or.inr rfl) dX10_readsPerson_88 (by first | (rw [hk]; done) | (rw [hk]; rfl) | (rw [hk, eyS_end]; exact b2i_d)) (by first | (rw [hk]; done) | (rw [hk]; rfl) | (rw [hk, eyS_end]; done) | (rw [hk, eyS_end]; rfl))
    have hk := hk.trans (eyN_t c45)
    refine r_ald0 dX10_readsPerson_48 ?_
    refine r_bipush dX10_readsPerson_49 (by decide +kernel) ?_
    refine s_callV1r hM42 (c_X10_sign E (by repeat (first | assumption | apply RY_told (by decide) | apply RY_sign | apply RY_rs | (refine RY_mS (by omega) ?_))) (by first | with_reducible assumption | with_reducible exact xSt_9 | with_reducible exact xSt_13 | omega)) cv_X10_sign wM_X10_124 (sh_201) rfl rfl (Nat.le_of_ble_eq_true rfl) (by decide) dX10_readsPerson_51 (fun hM51 => ?_)
    refine r_ifb_eq 87 dX10_readsPerson_54 (by decide) (fun c54 => ?_) (fun c54 => ?_)
    · skip
      have hk := hk.trans (eyS_f c54)
      refine r_iconst dX10_readsPerson_87 ?_
      exact s_zret hM51 rfl (by first | exact Or.inl rfl | exact Or.inr rfl) dX10_readsPerson_88 (by first | (rw [hk]; done) | (rw [hk]; rfl) | (rw [hk, eyS_end]; exact b2i_d)) (by first | (rw [hk]; done) | (rw [hk]; rfl) | (rw [hk, eyS_end]; done) | (rw [hk, eyS_end]; rfl))
    have hk := hk.trans (eyS_t c54)
    refine r_ald0 dX10_readsPerson_57 ?_
    refine r_ald0 dX10_readsPerson_58 ?_
    refine s_getR fi_X10_22 (sh_201) rfl dX10_readsPerson_59 ?_
    refine r_iconst dX10_readsPerson_62 ?_
    refine r_ild1 dX10_readsPerson_63 ?_
    refine r_iadd dX10_readsPerson_64 ?_
    refine r_iconst dX10_readsPerson_65 ?_
    refine r_bipush dX10_readsPerson_66 (by decide +kernel) ?_
    refine s_callV4r hM51 (c_X10_told6 E (by repeat (first | assumption | apply RY_told (by decide) | apply RY_sign | apply RY_rs | (refine RY_mS (by omega) ?_))) (by first | with_reducible assumption | with_reducible exact xSt_9 | with_reducible exact xSt_13 | omega) (by first | with_reducible assumption | with_reducible exact xSt_9 | with_reducible exact xSt_13 | omega) (by first | with_reducible assumption | with_reducible exact xSt_9 | with_reducible exact xSt_13 | omega)) cv_X10_told wM_X10_120 (sh_201) rfl rfl (Nat.le_of_ble_eq_true rfl) (by decide) dX10_readsPerson_68 (fun hM68 => ?_)
    refine r_ifb_eq 87 dX10_readsPerson_71 (by decide) (fun c71 => ?_) (fun c71 => ?_)
    · skip
      have hk := hk.trans (eyN_f c71)
      refine r_iconst dX10_readsPerson_87 ?_
      exact s_zret hM68 rfl (by first | exact Or.inl rfl | exact Or.inr rfl) dX10_readsPerson_88 (by first | (rw [hk]; done) | (rw [hk]; rfl) | (rw [hk, eyS_end]; exact b2i_d)) (by first | (rw [hk]; done) | (rw [hk]; rfl) | (rw [hk, eyS_end]; done) | (rw [hk, eyS_end]; rfl))
    have hk := hk.trans (eyN_t c71)
    refine r_ald0 dX10_readsPerson_74 ?_
    refine r_bipush dX10_readsPerson_75 (by decide +kernel) ?_
    refine s_callV1r hM68 (c_X10_sign E (by repeat (first | assumption | apply RY_told (by decide) | apply RY_sign | apply RY_rs | (refine RY_mS (by omega) ?_))) (by first | with_reducible assumption | with_reducible exact xSt_9 | with_reducible exact xSt_13 | omega)) cv_X10_sign wM_X10_124 (sh_201) rfl rfl (Nat.le_of_ble_eq_true rfl) (by decide) dX10_readsPerson_77 (fun hM77 => ?_)
    refine r_ifb_eq 87 dX10_readsPerson_80 (by decide) (fun c80 => ?_) (fun c80 => ?_)
    · skip
      have hk := hk.trans (eyS_f c80)
      refine r_iconst dX10_readsPerson_87 ?_
      exact s_zret hM77 rfl (by first | exact Or.inl rfl | exact Or.inr rfl) dX10_readsPerson_88 (by first | (rw [hk]; done) | (rw [hk]; rfl) | (rw [hk, eyS_end]; exact b2i_d)) (by first | (rw [hk]; done) | (rw [hk]; rfl) | (rw [hk, eyS_end]; done) | (rw [hk, eyS_end]; rfl))
    have hk := hk.trans (eyS_t c80)
    refine r_iconst dX10_readsPerson_83 ?_
    refine r_goto 88 dX10_readsPerson_84 (by decide) ?_
    exact s_zret hM77 rfl (by first | exact Or.inl rfl | exact Or.inr rfl) dX10_readsPerson_88 (by first | (rw [hk]; done) | (rw [hk]; rfl) | (rw [hk, eyS_end]; exact b2i_d)) (by first | (rw [hk]; done) | (rw [hk]; rfl) | (rw [hk, eyS_end]; done) | (rw [hk, eyS_end]; rfl))
  have hk := hk.trans (if_pos (by omega))
  refine r_ald0 dX10_readsPerson_10 ?_
  refine r_iconst dX10_readsPerson_11 ?_
  refine s_callV1r hM (c_X10_fails E (by first | with_reducible assumption | with_reducible exact xSt_9 | with_reducible exact xSt_13 | omega)) cv_X10_fails wM_X10_117 (sh_201) rfl rfl (Nat.le_of_ble_eq_true rfl) (by decide) dX10_readsPerson_12 (fun hM12 => ?_)
  exact s_zret hM12 rfl (by first | exact Or.inl rfl | exact Or.inr rfl) dX10_readsPerson_15 (by first | (rw [hk]; done) | (rw [hk]; rfl) | (rw [hk, eyS_end]; exact b2i_d)) (by first | (rw [hk]; done) | (rw [hk]; rfl) | (rw [hk, eyS_end]; done) | (rw [hk, eyS_end]; rfl))
set_option maxHeartbeats 4000000 in
theorem c_X10_readsSpeech (E : xE) {M : xMem}  (hR : RY M) (hP : 1 ≤ M 206 0 ∧ M 206 0 ≤ 5) (hQ : 0 ≤ M 206 1 ∧ M 206 1 ≤ 6) : Ct E mX10_readsSpeech 3 4 [xr E 201] M (some (xi (b2i ((rySpe M).1 = true)))) ((rySpe M).2) := by
  refine Ct.of 2 3 (by rfl) (by decide +kernel) (fun hM => ?_)
  obtain ⟨hR1, hR2, hR3⟩ := id hR
  have hk : rySpe M = if sortT (M 201 7) = 0 then (false, mS M 201 10 1) else if M 206 1 = 6 then (false, mS M 201 10 3) else eyN (mS (mS M 206 1 (M 206 1 + 1)) 206 (8 + M 206 1).toNat (sortT (M 201 7))) 206 (14 + M 206 1).toNat 0 (M 206 0 - 1) fun A => eyS A 44 fun B => eyN B 206 (20 + M 206 1).toNat 1 30 fun C => eyS C 44 fun D => eyN D 206 (26 + M 206 1).toNat 0 (M 206 1) fun F => eyS (mS F 206 (26 + M 206 1).toNat (nnT (F 206 (26 + M 206 1).toNat) (M 206 1))) 59 fun G => (true, G) := rfl
  have hso : 0 ≤ sortT (M 201 7) ∧ sortT (M 201 7) ≤ 5 := by unfold sortT; (repeat' split) <;> omega
  show VS E mX10_readsSpeech 4 _ _ 0 [some (xr E 201), none, none] [] M
  refine r_ald0 dX10_readsSpeech_0 ?_
  refine s_getI hM fi_X10_102 (sh_201) rfl dX10_readsSpeech_1 (fun g1 => ?_)
  try simp (disch := omega) only [Int.reduceToNat]
  refine s_callS1r hM (c_X10_sortOf E (by first | with_reducible assumption | with_reducible exact xSt_9 | with_reducible exact xSt_13 | omega)) cs_X10_sortOf wM_X10_130 (Nat.le_of_ble_eq_true rfl) (by decide) dX10_readsSpeech_4 (fun _ => ?_)
  refine r_ist1 dX10_readsSpeech_7 rfl ?_
  refine r_ild1 dX10_readsSpeech_8 ?_
  refine r_if_ne 18 dX10_readsSpeech_9 (by decide) (by omega) (fun c9 => ?_) (fun c9 => ?_)
  · skip
    have hk := hk.trans (if_neg (by omega))
    refine r_ald0 dX10_readsSpeech_18 ?_
    refine s_getR fi_X10_22 (sh_201) rfl dX10_readsSpeech_19 ?_
    refine r_iconst dX10_readsSpeech_22 ?_
    refine s_iald hM (sh_206) (by omega) (by decide) dX10_readsSpeech_23 (fun g23 => ?_)
    try simp (disch := omega) only [Int.reduceToNat]
    refine r_bipush dX10_readsSpeech_24 (by decide +kernel) ?_
    refine r_icmp_ne 35 dX10_readsSpeech_26 (by decide) (by omega) (by omega) (fun c26 => ?_) (fun c26 => ?_)
    · skip
      have hk := hk.trans (if_neg (by omega))
      refine r_ald0 dX10_readsSpeech_35 ?_
      refine s_getR fi_X10_22 (sh_201) rfl dX10_readsSpeech_36 ?_
      refine r_iconst dX10_readsSpeech_39 ?_
      refine s_iald hM (sh_206) (by omega) (by decide) dX10_readsSpeech_40 (fun g40 => ?_)
      try simp (disch := omega) only [Int.reduceToNat]
      refine r_ist2 dX10_readsSpeech_41 rfl ?_
      refine r_ald0 dX10_readsSpeech_42 ?_
      refine s_getR fi_X10_22 (sh_201) rfl dX10_readsSpeech_43 ?_
      refine r_iconst dX10_readsSpeech_46 ?_
      refine r_dup2 dX10_readsSpeech_47 rfl rfl ?_
      refine s_iald hM (sh_206) (by omega) (by decide) dX10_readsSpeech_48 (fun g48 => ?_)
      try simp (disch := omega) only [Int.reduceToNat]
      refine r_iconst dX10_readsSpeech_49 ?_
      refine r_iadd dX10_readsSpeech_50 ?_
      refine s_iast hM (sh_206) (by omega) (by decide) (by omega) dX10_readsSpeech_51 (fun hM51 => ?_)
      refine r_ald0 dX10_readsSpeech_52 ?_
      refine s_getR fi_X10_22 (sh_201) rfl dX10_readsSpeech_53 ?_
      refine r_bipush dX10_readsSpeech_56 (by decide +kernel) ?_
      refine r_ild2 dX10_readsSpeech_58 ?_
      refine r_iadd dX10_readsSpeech_59 ?_
      refine r_ild1 dX10_readsSpeech_60 ?_
      refine s_iast hM51 (sh_206) (by omega) (by decide) (by omega) dX10_readsSpeech_61 (fun hM61 => ?_)
      refine r_ald0 dX10_readsSpeech_62 ?_
      refine r_ald0 dX10_readsSpeech_63 ?_
      refine s_getR fi_X10_22 (sh_201) rfl dX10_readsSpeech_64 ?_
      refine r_bipush dX10_readsSpeech_67 (by decide +kernel) ?_
      refine r_ild2 dX10_readsSpeech_69 ?_
      refine r_iadd dX10_readsSpeech_70 ?_
      refine r_iconst dX10_readsSpeech_71 ?_
      refine r_ald0 dX10_readsSpeech_72 ?_
      refine s_getR fi_X10_22 (sh_201) rfl dX10_readsSpeech_73 ?_
      refine r_iconst dX10_readsSpeech_76 ?_
      refine s_iald hM61 (sh_206) (by omega) (by decide) dX10_readsSpeech_77 (fun g77 => ?_)
      try simp (disch := omega) only [mS_ne, mS_eq, told_ne, sign_ne, told_o, sign_o, Int.reduceToNat]
      refine r_iconst dX10_readsSpeech_78 ?_
      refine r_isub dX10_readsSpeech_79 ?_
      refine s_callV4r hM61 (c_X10_told6 E (by repeat (first | assumption | apply RY_told (by decide) | apply RY_sign | apply RY_rs | (refine RY_mS (by omega) ?_))) (by first | with_reducible assumption | with_reducible exact xSt_9 | with_reducible exact xSt_13 | omega) (by first | with_reducible assumption | with_reducible exact xSt_9 | with_reducible exact xSt_13 | omega) (by first | with_reducible assumption | with_reducible exact xSt_9 | with_reducible exact xSt_13 | omega)) cv_X10_told wM_X10_120 (sh_201) rfl rfl (Nat.le_of_ble_eq_true rfl) (by decide) dX10_readsSpeech_80 (fun hM80 => ?_)
      refine r_ifb_eq 139 dX10_readsSpeech_83 (by decide) (fun c83 => ?_) (fun c83 => ?_)
      · skip
        have hk := hk.trans (eyN_f c83)
        refine r_iconst dX10_readsSpeech_139 ?_
        exact s_zret hM80 rfl (by first | exact Or.inl rfl | exact Or.inr rfl) dX10_readsSpeech_140 (by first | (rw [hk]; done) | (rw [hk]; rfl) | (rw [hk, eyS_end]; exact b2i_d)) (by first | (rw [hk]; done) | (rw [hk]; rfl) | (rw [hk, eyS_end]; done) | (rw [hk, eyS_end]; rfl))
      have hk := hk.trans (eyN_t c83)
      refine r_ald0 dX10_readsSpeech_86 ?_
      refine r_bipush dX10_readsSpeech_87 (by decide +kernel) ?_
      refine s_callV1r hM80 (c_X10_sign E (by repeat (first | assumption | apply RY_told (by decide) | apply RY_sign | apply RY_rs | (refine RY_mS (by omega) ?_))) (by first | with_reducible assumption | with_reducible exact xSt_9 | with_reducible exact xSt_13 | omega)) cv_X10_sign wM_X10_124 (sh_201) rfl rfl (Nat.le_of_ble_eq_true rfl) (by decide) dX10_readsSpeech_89 (fun hM89 => ?_)
      refine r_ifb_eq 139 dX10_readsSpeech_92 (by decide) (fun c92 => ?_) (fun c92 => ?_)
      · skip
        have hk := hk.trans (eyS_f c92)
        refine r_iconst dX10_readsSpeech_139 ?_
        exact s_zret hM89 rfl (by first | exact Or.inl rfl | exact Or.inr rfl) dX10_readsSpeech_140 (by first | (rw [hk]; done) | (rw [hk]; rfl) | (rw [hk, eyS_end]; exact b2i_d)) (by first | (rw [hk]; done) | (rw [hk]; rfl) | (rw [hk, eyS_end]; done) | (rw [hk, eyS_end]; rfl))
      have hk := hk.trans (eyS_t c92)
      refine r_ald0 dX10_readsSpeech_95 ?_
      refine r_ald0 dX10_readsSpeech_96 ?_
      refine s_getR fi_X10_22 (sh_201) rfl dX10_readsSpeech_97 ?_
      refine r_bipush dX10_readsSpeech_100 (by decide +kernel) ?_
      refine r_ild2 dX10_readsSpeech_102 ?_
      refine r_iadd dX10_readsSpeech_103 ?_
      refine r_iconst dX10_readsSpeech_104 ?_
      refine r_bipush dX10_readsSpeech_105 (by decide +kernel) ?_
      refine s_callV4r hM89 (c_X10_told6 E (by repeat (first | assumption | apply RY_told (by decide) | apply RY_sign | apply RY_rs | (refine RY_mS (by omega) ?_))) (by first | with_reducible assumption | with_reducible exact xSt_9 | with_reducible exact xSt_13 | omega) (by first | with_reducible assumption | with_reducible exact xSt_9 | with_reducible exact xSt_13 | omega) (by first | with_reducible assumption | with_reducible exact xSt_9 | with_reducible exact xSt_13 | omega)) cv_X10_told wM_X10_120 (sh_201) rfl rfl (Nat.le_of_ble_eq_true rfl) (by decide) dX10_readsSpeech_107 (fun hM107 => ?_)
      refine r_ifb_eq 139 dX10_readsSpeech_110 (by decide) (fun c110 => ?_) (fun c110 => ?_)
      · skip
        have hk := hk.trans (eyN_f c110)
        refine r_iconst dX10_readsSpeech_139 ?_
        exact s_zret hM107 rfl (by first | exact Or.inl rfl | exact Or.inr rfl) dX10_readsSpeech_140 (by first | (rw [hk]; done) | (rw [hk]; rfl) | (rw [hk, eyS_end]; exact b2i_d)) (by first | (rw [hk]; done) | (rw [hk]; rfl) | (rw [hk, eyS_end]; done) | (rw [hk, eyS_end]; rfl))
      have hk := hk.trans (eyN_t c110)
      refine r_ald0 dX10_readsSpeech_113 ?_
      refine r_bipush dX10_readsSpeech_114 (by decide +kernel) ?_
      refine s_callV1r hM107 (c_X10_sign E (by repeat (first | assumption | apply RY_told (by decide) | apply RY_sign | apply RY_rs | (refine RY_mS (by omega) ?_))) (by first | with_reducible assumption | with_reducible exact xSt_9 | with_reducible exact xSt_13 | omega)) cv_X10_sign wM_X10_124 (sh_201) rfl rfl (Nat.le_of_ble_eq_true rfl) (by decide) dX10_readsSpeech_116 (fun hM116 => ?_)
      refine r_ifb_eq 139 dX10_readsSpeech_119 (by decide) (fun c119 => ?_) (fun c119 => ?_)
      · skip
        have hk := hk.trans (eyS_f c119)
        refine r_iconst dX10_readsSpeech_139 ?_
        exact s_zret hM116 rfl (by first | exact Or.inl rfl | exact Or.inr rfl) dX10_readsSpeech_140 (by first | (rw [hk]; done) | (rw [hk]; rfl) | (rw [hk, eyS_end]; exact b2i_d)) (by first | (rw [hk]; done) | (rw [hk]; rfl) | (rw [hk, eyS_end]; done) | (rw [hk, eyS_end]; rfl))
      have hk := hk.trans (eyS_t c119)
      refine r_ald0 dX10_readsSpeech_122 ?_
      refine r_ald0 dX10_readsSpeech_123 ?_
      refine s_getR fi_X10_22 (sh_201) rfl dX10_readsSpeech_124 ?_
      refine r_bipush dX10_readsSpeech_127 (by decide +kernel) ?_
      refine r_ild2 dX10_readsSpeech_129 ?_
      refine r_iadd dX10_readsSpeech_130 ?_
      refine r_iconst dX10_readsSpeech_131 ?_
      refine r_ild2 dX10_readsSpeech_132 ?_
      refine s_callV4r hM116 (c_X10_told6 E (by repeat (first | assumption | apply RY_told (by decide) | apply RY_sign | apply RY_rs | (refine RY_mS (by omega) ?_))) (by first | with_reducible assumption | with_reducible exact xSt_9 | with_reducible exact xSt_13 | omega) (by first | with_reducible assumption | with_reducible exact xSt_9 | with_reducible exact xSt_13 | omega) (by first | with_reducible assumption | with_reducible exact xSt_9 | with_reducible exact xSt_13 | omega)) cv_X10_told wM_X10_120 (sh_201) rfl rfl (Nat.le_of_ble_eq_true rfl) (by decide) dX10_readsSpeech_133 (fun hM133 => ?_)
      refine r_ifb_ne 141 dX10_readsSpeech_136 (by decide) (fun c136 => ?_) (fun c136 => ?_)
      · skip
        have hk := hk.trans (eyN_t c136)
        refine r_ald0 dX10_readsSpeech_141 ?_
        refine s_getR fi_X10_22 (sh_201) rfl dX10_readsSpeech_142 ?_
        refine r_bipush dX10_readsSpeech_145 (by decide +kernel) ?_
        refine r_ild2 dX10_readsSpeech_147 ?_
        refine r_iadd dX10_readsSpeech_148 ?_
        refine r_ald0 dX10_readsSpeech_149 ?_
        refine s_getR fi_X10_22 (sh_201) rfl dX10_readsSpeech_150 ?_
        refine r_bipush dX10_readsSpeech_153 (by decide +kernel) ?_
        refine r_ild2 dX10_readsSpeech_155 ?_
        refine r_iadd dX10_readsSpeech_156 ?_
        refine s_iald hM133 (sh_206) (by omega) (by decide) dX10_readsSpeech_157 (fun g157 => ?_)
        try simp (disch := omega) only [mS_ne, mS_eq, told_ne, sign_ne, told_o, sign_o, Int.reduceToNat]
        refine r_ild2 dX10_readsSpeech_158 ?_
        refine r_icmp_ne 167 dX10_readsSpeech_159 (by decide) (by omega) (by omega) (fun c159 => ?_) (fun c159 => ?_)
        · skip
          unfold nnT at hk
          rw [if_neg (by omega)] at hk
          refine r_ald0 dX10_readsSpeech_167 ?_
          refine s_getR fi_X10_22 (sh_201) rfl dX10_readsSpeech_168 ?_
          refine r_bipush dX10_readsSpeech_171 (by decide +kernel) ?_
          refine r_ild2 dX10_readsSpeech_173 ?_
          refine r_iadd dX10_readsSpeech_174 ?_
          refine s_iald hM133 (sh_206) (by omega) (by decide) dX10_readsSpeech_175 (fun g175 => ?_)
          try simp (disch := omega) only [mS_ne, mS_eq, told_ne, sign_ne, told_o, sign_o, Int.reduceToNat]
          refine s_iast hM133 (sh_206) (by omega) (by decide) (by omega) dX10_readsSpeech_176 (fun hM176 => ?_)
          refine r_ald0 dX10_readsSpeech_177 ?_
          refine r_bipush dX10_readsSpeech_178 (by decide +kernel) ?_
          refine s_callV1r hM176 (c_X10_sign E (by repeat (first | assumption | apply RY_told (by decide) | apply RY_sign | apply RY_rs | (refine RY_mS (by omega) ?_))) (by first | with_reducible assumption | with_reducible exact xSt_9 | with_reducible exact xSt_13 | omega)) cv_X10_sign wM_X10_124 (sh_201) rfl rfl (Nat.le_of_ble_eq_true rfl) (by decide) dX10_readsSpeech_180 (fun hM180 => ?_)
          exact s_zret hM180 rfl (by have := @b2i_rg; unfold b2i; split <;> simp) dX10_readsSpeech_183 (by first | (rw [hk]; done) | (rw [hk]; rfl) | (rw [hk, eyS_end]; exact b2i_d)) (by first | (rw [hk]; done) | (rw [hk]; rfl) | (rw [hk, eyS_end]; done) | (rw [hk, eyS_end]; rfl))
        unfold nnT at hk
        rw [if_pos (by omega)] at hk
        refine r_ldc (-1000000) dX10_readsSpeech_162 wC_X10_133 ?_
        refine r_goto 176 dX10_readsSpeech_164 (by decide) ?_
        refine s_iast hM133 (sh_206) (by omega) (by decide) (by omega) dX10_readsSpeech_176 (fun hM176 => ?_)
        refine r_ald0 dX10_readsSpeech_177 ?_
        refine r_bipush dX10_readsSpeech_178 (by decide +kernel) ?_
        refine s_callV1r hM176 (c_X10_sign E (by repeat (first | assumption | apply RY_told (by decide) | apply RY_sign | apply RY_rs | (refine RY_mS (by omega) ?_))) (by first | with_reducible assumption | with_reducible exact xSt_9 | with_reducible exact xSt_13 | omega)) cv_X10_sign wM_X10_124 (sh_201) rfl rfl (Nat.le_of_ble_eq_true rfl) (by decide) dX10_readsSpeech_180 (fun hM180 => ?_)
        exact s_zret hM180 rfl (by have := @b2i_rg; unfold b2i; split <;> simp) dX10_readsSpeech_183 (by first | (rw [hk]; done) | (rw [hk]; rfl) | (rw [hk, eyS_end]; exact b2i_d)) (by first | (rw [hk]; done) | (rw [hk]; rfl) | (rw [hk, eyS_end]; done) | (rw [hk, eyS_end]; rfl))
      have hk := hk.trans (eyN_f c136)
      refine r_iconst dX10_readsSpeech_139 ?_
      exact s_zret hM133 rfl (by first | exact Or.inl rfl | exact Or.inr rfl) dX10_readsSpeech_140 (by first | (rw [hk]; done) | (rw [hk]; rfl) | (rw [hk, eyS_end]; exact b2i_d)) (by first | (rw [hk]; done) | (rw [hk]; rfl) | (rw [hk, eyS_end]; done) | (rw [hk, eyS_end]; rfl))
    have hk := hk.trans (if_pos (by omega))
    refine r_ald0 dX10_readsSpeech_29 ?_
    refine r_iconst dX10_readsSpeech_30 ?_
    refine s_callV1r hM (c_X10_fails E (by first | with_reducible assumption | with_reducible exact xSt_9 | with_reducible exact xSt_13 | omega)) cv_X10_fails wM_X10_117 (sh_201) rfl rfl (Nat.le_of_ble_eq_true rfl) (by decide) dX10_readsSpeech_31 (fun hM31 => ?_)
    exact s_zret hM31 rfl (by first | exact Or.inl rfl | exact Or.inr rfl) dX10_readsSpeech_34 (by first | (rw [hk]; done) | (rw [hk]; rfl) | (rw [hk, eyS_end]; exact b2i_d)) (by first | (rw [hk]; done) | (rw [hk]; rfl) | (rw [hk, eyS_end]; done) | (rw [hk, eyS_end]; rfl))
  have hk := hk.trans (if_pos (by omega))
  refine r_ald0 dX10_readsSpeech_12 ?_
  refine r_iconst dX10_readsSpeech_13 ?_
  refine s_callV1r hM (c_X10_fails E (by first | with_reducible assumption | with_reducible exact xSt_9 | with_reducible exact xSt_13 | omega)) cv_X10_fails wM_X10_117 (sh_201) rfl rfl (Nat.le_of_ble_eq_true rfl) (by decide) dX10_readsSpeech_14 (fun hM14 => ?_)
  exact s_zret hM14 rfl (by first | exact Or.inl rfl | exact Or.inr rfl) dX10_readsSpeech_17 (by first | (rw [hk]; done) | (rw [hk]; rfl) | (rw [hk, eyS_end]; exact b2i_d)) (by first | (rw [hk]; done) | (rw [hk]; rfl) | (rw [hk, eyS_end]; done) | (rw [hk, eyS_end]; rfl))
set_option maxHeartbeats 4000000 in
theorem c_X10_readsAll (E : xE) {M : xMem}  (hL : 0 ≤ M 201 4 ∧ M 201 4 ≤ 120) (hTp : ∀ j : Nat, j < 120 → 0 ≤ M 205 j ∧ M 205 j ≤ 255) : Ct E mX10_readsAll 1 5 [xr E 201] M (some (xi (b2i ((ryAll M).1 = true)))) ((ryAll M).2) := by
  refine Ct.of 0 1 (by rfl) (by decide +kernel) (fun hM => ?_)
  have hR0 : RY (mS (mS (mS M 201 6 0) 206 0 0) 206 1 0) := ⟨by simp (disch := decide) only [mS_ne]; exact hL, by simp (disch := decide) only [mS_ne, mS_eq]; omega, fun j hj => by simp (disch := omega) only [mS_ne]; exact hTp j hj⟩
  have hR1 : RY (ryM0 M) := RY_rs hR0
  have y0 : ryM0 M 206 0 = 0 := by unfold ryM0; rw [rs_lo (by decide), mS_ne (by decide), mS_eq]
  have y1 : ryM0 M 206 1 = 0 := by unfold ryM0; rw [rs_lo (by decide), mS_eq]
  show VS E mX10_readsAll 5 _ _ 0 [some (xr E 201)] [] M
  have L85 : ∀ (fu : Nat) (Mc : xMem), InR Mc → (RY Mc) → (1 ≤ Mc 206 0 ∧ Mc 206 0 ≤ 5) → (0 ≤ Mc 206 1 ∧ Mc 206 1 ≤ 6) → (rySL (7 - Mc 206 1).toNat Mc = ryAll M) → (7 - Mc 206 1).toNat < fu → VS E mX10_readsAll 5 (some (xi (b2i ((ryAll M).1 = true)))) ((ryAll M).2) 85 [some (xr E 201)] [] Mc := by
    intro fu
    induction fu with
    | zero => intro Mc hML85 hRc hP hQ hi hme; exact absurd hme (Nat.not_lt_zero _)
    | succ fu ih =>
      intro Mc hML85 hRc hP hQ hi hme
      refine r_ald0 dX10_readsAll_85 ?_
      refine s_getI hML85 fi_X10_102 (sh_201) rfl dX10_readsAll_86 (fun g86 => ?_)
      try simp (disch := omega) only [Int.reduceToNat]
      refine r_iconst dX10_readsAll_89 ?_
      refine r_icmp_ne 102 dX10_readsAll_90 (by decide) (by omega) (by omega) (fun c90 => ?_) (fun c90 => ?_)
      · skip
        refine r_ald0 dX10_readsAll_102 ?_
        refine s_callV0r hML85 (c_X10_readsSpeech E (by exact hRc) (by omega) (by omega)) cv_X10_readsSpeech wM_X10_141 (sh_201) rfl rfl (Nat.le_of_ble_eq_true rfl) (by decide) dX10_readsAll_103 (fun hM103 => ?_)
        refine r_ifb_ne 111 dX10_readsAll_106 (by decide) (fun c106 => ?_) (fun c106 => ?_)
        · skip
          have hsp := rySpe_ok hRc (by omega) c106
          refine r_ald0 dX10_readsAll_111 ?_
          refine s_callV0v hM103 (c_X10_reads E (by exact hsp.1)) cv_X10_reads wM_X10_114 (sh_201) rfl rfl (Nat.le_of_ble_eq_true rfl) (by decide) dX10_readsAll_112 (fun hM112 => ?_)
          refine r_goto 85 dX10_readsAll_115 (by decide) ?_
          exact ih _  hM112 (by exact RY_rs hsp.1) (by rw [rs_lo (by decide)]; omega) (by rw [rs_lo (by decide)]; omega) (by rw [rs_lo (by decide), ← hi, show (7 - Mc 206 1).toNat = (7 - (rySpe Mc).2 206 1).toNat + 1 by omega, rySL_t (by omega) c106]) (by rw [rs_lo (by decide)]; omega)
        refine r_iconst dX10_readsAll_109 ?_
        exact s_zret hM103 rfl (by first | exact Or.inl rfl | exact Or.inr rfl) dX10_readsAll_110 (by first | (unfold ryAll; rw [if_neg (by assumption)]; rfl) | (rw [← hi, show (6 - Mc 206 0).toNat = (6 - Mc 206 0 - 1).toNat + 1 by omega, ryPL_f (by omega) (by assumption)]; rfl) | (rw [hmc, if_pos (by omega)]; rfl) | (rw [← hi, show (7 - Mc 206 1).toNat = (7 - Mc 206 1 - 1).toNat + 1 by omega, rySL_f (by omega) (by assumption)]; rfl) | (rw [← hi, rySL_e (by omega)]; rfl)) (by first | (unfold ryAll; rw [if_neg (by assumption)]; done) | (rw [← hi, show (6 - Mc 206 0).toNat = (6 - Mc 206 0 - 1).toNat + 1 by omega, ryPL_f (by omega) (by assumption)]; rfl) | (rw [hmc, if_pos (by omega)]; done) | (rw [← hi, show (7 - Mc 206 1).toNat = (7 - Mc 206 1 - 1).toNat + 1 by omega, rySL_f (by omega) (by assumption)]; done) | (rw [← hi, rySL_e (by omega)]; done))
      refine r_ald0 dX10_readsAll_93 ?_
      refine s_getR fi_X10_22 (sh_201) rfl dX10_readsAll_94 ?_
      refine r_iconst dX10_readsAll_97 ?_
      refine s_iald hML85 (sh_206) (by omega) (by decide) dX10_readsAll_98 (fun g98 => ?_)
      try simp (disch := omega) only [Int.reduceToNat]
      refine r_if_ne 118 dX10_readsAll_99 (by decide) (by omega) (fun c99 => ?_) (fun c99 => ?_)
      · skip
        refine r_iconst dX10_readsAll_118 ?_
        exact s_zret hML85 rfl (by first | exact Or.inl rfl | exact Or.inr rfl) dX10_readsAll_119 (by first | (unfold ryAll; rw [if_neg (by assumption)]; rfl) | (rw [← hi, show (6 - Mc 206 0).toNat = (6 - Mc 206 0 - 1).toNat + 1 by omega, ryPL_f (by omega) (by assumption)]; rfl) | (rw [hmc, if_pos (by omega)]; rfl) | (rw [← hi, show (7 - Mc 206 1).toNat = (7 - Mc 206 1 - 1).toNat + 1 by omega, rySL_f (by omega) (by assumption)]; rfl) | (rw [← hi, rySL_e (by omega)]; rfl)) (by first | (unfold ryAll; rw [if_neg (by assumption)]; done) | (rw [← hi, show (6 - Mc 206 0).toNat = (6 - Mc 206 0 - 1).toNat + 1 by omega, ryPL_f (by omega) (by assumption)]; rfl) | (rw [hmc, if_pos (by omega)]; done) | (rw [← hi, show (7 - Mc 206 1).toNat = (7 - Mc 206 1 - 1).toNat + 1 by omega, rySL_f (by omega) (by assumption)]; done) | (rw [← hi, rySL_e (by omega)]; done))
      refine r_ald0 dX10_readsAll_102 ?_
      refine s_callV0r hML85 (c_X10_readsSpeech E (by exact hRc) (by omega) (by omega)) cv_X10_readsSpeech wM_X10_141 (sh_201) rfl rfl (Nat.le_of_ble_eq_true rfl) (by decide) dX10_readsAll_103 (fun hM103 => ?_)
      refine r_ifb_ne 111 dX10_readsAll_106 (by decide) (fun c106 => ?_) (fun c106 => ?_)
      · skip
        have hsp := rySpe_ok hRc (by omega) c106
        refine r_ald0 dX10_readsAll_111 ?_
        refine s_callV0v hM103 (c_X10_reads E (by exact hsp.1)) cv_X10_reads wM_X10_114 (sh_201) rfl rfl (Nat.le_of_ble_eq_true rfl) (by decide) dX10_readsAll_112 (fun hM112 => ?_)
        refine r_goto 85 dX10_readsAll_115 (by decide) ?_
        exact ih _  hM112 (by exact RY_rs hsp.1) (by rw [rs_lo (by decide)]; omega) (by rw [rs_lo (by decide)]; omega) (by rw [rs_lo (by decide), ← hi, show (7 - Mc 206 1).toNat = (7 - (rySpe Mc).2 206 1).toNat + 1 by omega, rySL_t (by omega) c106]) (by rw [rs_lo (by decide)]; omega)
      refine r_iconst dX10_readsAll_109 ?_
      exact s_zret hM103 rfl (by first | exact Or.inl rfl | exact Or.inr rfl) dX10_readsAll_110 (by first | (unfold ryAll; rw [if_neg (by assumption)]; rfl) | (rw [← hi, show (6 - Mc 206 0).toNat = (6 - Mc 206 0 - 1).toNat + 1 by omega, ryPL_f (by omega) (by assumption)]; rfl) | (rw [hmc, if_pos (by omega)]; rfl) | (rw [← hi, show (7 - Mc 206 1).toNat = (7 - Mc 206 1 - 1).toNat + 1 by omega, rySL_f (by omega) (by assumption)]; rfl) | (rw [← hi, rySL_e (by omega)]; rfl)) (by first | (unfold ryAll; rw [if_neg (by assumption)]; done) | (rw [← hi, show (6 - Mc 206 0).toNat = (6 - Mc 206 0 - 1).toNat + 1 by omega, ryPL_f (by omega) (by assumption)]; rfl) | (rw [hmc, if_pos (by omega)]; done) | (rw [← hi, show (7 - Mc 206 1).toNat = (7 - Mc 206 1 - 1).toNat + 1 by omega, rySL_f (by omega) (by assumption)]; done) | (rw [← hi, rySL_e (by omega)]; done))
  have L36 : ∀ (fu : Nat) (Mc : xMem), InR Mc → (RY Mc) → (0 ≤ Mc 206 0 ∧ Mc 206 0 ≤ 5) → (Mc 206 1 = 0) → (ryTail (ryPL (6 - Mc 206 0).toNat Mc) = ryAll M) → (6 - Mc 206 0).toNat < fu → VS E mX10_readsAll 5 (some (xi (b2i ((ryAll M).1 = true)))) ((ryAll M).2) 36 [some (xr E 201)] [] Mc := by
    intro fu
    induction fu with
    | zero => intro Mc hML36 hRc hP hQ hi hme; exact absurd hme (Nat.not_lt_zero _)
    | succ fu ih =>
      intro Mc hML36 hRc hP hQ hi hme
      refine r_ald0 dX10_readsAll_36 ?_
      refine s_getI hML36 fi_X10_102 (sh_201) rfl dX10_readsAll_37 (fun g37 => ?_)
      try simp (disch := omega) only [Int.reduceToNat]
      refine r_bipush dX10_readsAll_40 (by decide +kernel) ?_
      refine r_icmp_ne 70 dX10_readsAll_42 (by decide) (by omega) (by omega) (fun c42 => ?_) (fun c42 => ?_)
      · skip
        have hmc : ryAll M = if Mc 206 0 = 0 then (false, mS Mc 201 10 1) else rySL 7 Mc := by rw [← hi, ryPL_e (by omega)]; rfl
        refine r_ald0 dX10_readsAll_70 ?_
        refine s_getR fi_X10_22 (sh_201) rfl dX10_readsAll_71 ?_
        refine r_iconst dX10_readsAll_74 ?_
        refine s_iald hML36 (sh_206) (by omega) (by decide) dX10_readsAll_75 (fun g75 => ?_)
        try simp (disch := omega) only [Int.reduceToNat]
        refine r_if_ne 85 dX10_readsAll_76 (by decide) (by omega) (fun c76 => ?_) (fun c76 => ?_)
        · skip
          exact L85 8 _  hML36 (by exact hRc) (by omega) (by omega) (by rw [hmc, show (7 - Mc 206 1).toNat = 7 by omega, if_neg (show ¬ Mc 206 0 = 0 by omega)]) (by omega)
        refine r_ald0 dX10_readsAll_79 ?_
        refine r_iconst dX10_readsAll_80 ?_
        refine s_callV1r hML36 (c_X10_fails E (by first | with_reducible assumption | with_reducible exact xSt_9 | with_reducible exact xSt_13 | omega)) cv_X10_fails wM_X10_117 (sh_201) rfl rfl (Nat.le_of_ble_eq_true rfl) (by decide) dX10_readsAll_81 (fun hM81 => ?_)
        exact s_zret hM81 rfl (by first | exact Or.inl rfl | exact Or.inr rfl) dX10_readsAll_84 (by first | (unfold ryAll; rw [if_neg (by assumption)]; rfl) | (rw [← hi, show (6 - Mc 206 0).toNat = (6 - Mc 206 0 - 1).toNat + 1 by omega, ryPL_f (by omega) (by assumption)]; rfl) | (rw [hmc, if_pos (by omega)]; rfl) | (rw [← hi, show (7 - Mc 206 1).toNat = (7 - Mc 206 1 - 1).toNat + 1 by omega, rySL_f (by omega) (by assumption)]; rfl) | (rw [← hi, rySL_e (by omega)]; rfl)) (by first | (unfold ryAll; rw [if_neg (by assumption)]; done) | (rw [← hi, show (6 - Mc 206 0).toNat = (6 - Mc 206 0 - 1).toNat + 1 by omega, ryPL_f (by omega) (by assumption)]; rfl) | (rw [hmc, if_pos (by omega)]; done) | (rw [← hi, show (7 - Mc 206 1).toNat = (7 - Mc 206 1 - 1).toNat + 1 by omega, rySL_f (by omega) (by assumption)]; done) | (rw [← hi, rySL_e (by omega)]; done))
      refine r_ald0 dX10_readsAll_45 ?_
      refine s_getR fi_X10_22 (sh_201) rfl dX10_readsAll_46 ?_
      refine r_iconst dX10_readsAll_49 ?_
      refine s_iald hML36 (sh_206) (by omega) (by decide) dX10_readsAll_50 (fun g50 => ?_)
      try simp (disch := omega) only [Int.reduceToNat]
      refine r_if_ne 70 dX10_readsAll_51 (by decide) (by omega) (fun c51 => ?_) (fun c51 => ?_)
      · skip
        have hmc : ryAll M = if Mc 206 0 = 0 then (false, mS Mc 201 10 1) else rySL 7 Mc := by rw [← hi, ryPL_e (by omega)]; rfl
        refine r_ald0 dX10_readsAll_70 ?_
        refine s_getR fi_X10_22 (sh_201) rfl dX10_readsAll_71 ?_
        refine r_iconst dX10_readsAll_74 ?_
        refine s_iald hML36 (sh_206) (by omega) (by decide) dX10_readsAll_75 (fun g75 => ?_)
        try simp (disch := omega) only [Int.reduceToNat]
        refine r_if_ne 85 dX10_readsAll_76 (by decide) (by omega) (fun c76 => ?_) (fun c76 => ?_)
        · skip
          exact L85 8 _  hML36 (by exact hRc) (by omega) (by omega) (by rw [hmc, show (7 - Mc 206 1).toNat = 7 by omega, if_neg (show ¬ Mc 206 0 = 0 by omega)]) (by omega)
        refine r_ald0 dX10_readsAll_79 ?_
        refine r_iconst dX10_readsAll_80 ?_
        refine s_callV1r hML36 (c_X10_fails E (by first | with_reducible assumption | with_reducible exact xSt_9 | with_reducible exact xSt_13 | omega)) cv_X10_fails wM_X10_117 (sh_201) rfl rfl (Nat.le_of_ble_eq_true rfl) (by decide) dX10_readsAll_81 (fun hM81 => ?_)
        exact s_zret hM81 rfl (by first | exact Or.inl rfl | exact Or.inr rfl) dX10_readsAll_84 (by first | (unfold ryAll; rw [if_neg (by assumption)]; rfl) | (rw [← hi, show (6 - Mc 206 0).toNat = (6 - Mc 206 0 - 1).toNat + 1 by omega, ryPL_f (by omega) (by assumption)]; rfl) | (rw [hmc, if_pos (by omega)]; rfl) | (rw [← hi, show (7 - Mc 206 1).toNat = (7 - Mc 206 1 - 1).toNat + 1 by omega, rySL_f (by omega) (by assumption)]; rfl) | (rw [← hi, rySL_e (by omega)]; rfl)) (by first | (unfold ryAll; rw [if_neg (by assumption)]; done) | (rw [← hi, show (6 - Mc 206 0).toNat = (6 - Mc 206 0 - 1).toNat + 1 by omega, ryPL_f (by omega) (by assumption)]; rfl) | (rw [hmc, if_pos (by omega)]; done) | (rw [← hi, show (7 - Mc 206 1).toNat = (7 - Mc 206 1 - 1).toNat + 1 by omega, rySL_f (by omega) (by assumption)]; done) | (rw [← hi, rySL_e (by omega)]; done))
      refine r_ald0 dX10_readsAll_54 ?_
      refine s_callV0r hML36 (c_X10_readsPerson E (by exact hRc) (by omega)) cv_X10_readsPerson wM_X10_138 (sh_201) rfl rfl (Nat.le_of_ble_eq_true rfl) (by decide) dX10_readsAll_55 (fun hM55 => ?_)
      refine r_ifb_ne 63 dX10_readsAll_58 (by decide) (fun c58 => ?_) (fun c58 => ?_)
      · skip
        have hpe := ryPer_ok hRc (by omega) c58
        refine r_ald0 dX10_readsAll_63 ?_
        refine s_callV0v hM55 (c_X10_reads E (by exact hpe.1)) cv_X10_reads wM_X10_114 (sh_201) rfl rfl (Nat.le_of_ble_eq_true rfl) (by decide) dX10_readsAll_64 (fun hM64 => ?_)
        refine r_goto 36 dX10_readsAll_67 (by decide) ?_
        exact ih _  hM64 (by exact RY_rs hpe.1) (by rw [rs_lo (by decide)]; omega) (by rw [rs_lo (by decide)]; omega) (by rw [rs_lo (by decide), ← hi, show (6 - Mc 206 0).toNat = (6 - (ryPer Mc).2 206 0).toNat + 1 by omega, ryPL_t (by omega) c58]) (by rw [rs_lo (by decide)]; omega)
      refine r_iconst dX10_readsAll_61 ?_
      exact s_zret hM55 rfl (by first | exact Or.inl rfl | exact Or.inr rfl) dX10_readsAll_62 (by first | (unfold ryAll; rw [if_neg (by assumption)]; rfl) | (rw [← hi, show (6 - Mc 206 0).toNat = (6 - Mc 206 0 - 1).toNat + 1 by omega, ryPL_f (by omega) (by assumption)]; rfl) | (rw [hmc, if_pos (by omega)]; rfl) | (rw [← hi, show (7 - Mc 206 1).toNat = (7 - Mc 206 1 - 1).toNat + 1 by omega, rySL_f (by omega) (by assumption)]; rfl) | (rw [← hi, rySL_e (by omega)]; rfl)) (by first | (unfold ryAll; rw [if_neg (by assumption)]; done) | (rw [← hi, show (6 - Mc 206 0).toNat = (6 - Mc 206 0 - 1).toNat + 1 by omega, ryPL_f (by omega) (by assumption)]; rfl) | (rw [hmc, if_pos (by omega)]; done) | (rw [← hi, show (7 - Mc 206 1).toNat = (7 - Mc 206 1 - 1).toNat + 1 by omega, rySL_f (by omega) (by assumption)]; done) | (rw [← hi, rySL_e (by omega)]; done))
  refine r_ald0 dX10_readsAll_0 ?_
  refine r_iconst dX10_readsAll_1 ?_
  refine s_putI hM fp_X10_93 (sh_201) rfl (by omega) dX10_readsAll_2 (fun hM2 => ?_)
  refine r_ald0 dX10_readsAll_5 ?_
  refine s_getR fi_X10_22 (sh_201) rfl dX10_readsAll_6 ?_
  refine r_iconst dX10_readsAll_9 ?_
  refine r_iconst dX10_readsAll_10 ?_
  refine s_iast hM2 (sh_206) (by omega) (by decide) (by omega) dX10_readsAll_11 (fun hM11 => ?_)
  refine r_ald0 dX10_readsAll_12 ?_
  refine s_getR fi_X10_22 (sh_201) rfl dX10_readsAll_13 ?_
  refine r_iconst dX10_readsAll_16 ?_
  refine r_iconst dX10_readsAll_17 ?_
  refine s_iast hM11 (sh_206) (by omega) (by decide) (by omega) dX10_readsAll_18 (fun hM18 => ?_)
  refine r_ald0 dX10_readsAll_19 ?_
  refine s_callV0v hM18 (c_X10_reads E (by exact hR0)) cv_X10_reads wM_X10_114 (sh_201) rfl rfl (Nat.le_of_ble_eq_true rfl) (by decide) dX10_readsAll_20 (fun hM20 => ?_)
  have hz0 : rsM (mS (mS (mS M 201 6 0) 206 (Int.toNat 0) 0) 206 (Int.toNat 1) 0) = ryM0 M := rfl
  rw [hz0] at hM20 ⊢
  refine r_ald0 dX10_readsAll_23 ?_
  refine s_callV0r hM20 (c_X10_readsLaw E (by exact hR1)) cv_X10_readsLaw wM_X10_134 (sh_201) rfl rfl (Nat.le_of_ble_eq_true rfl) (by decide) dX10_readsAll_24 (fun hM24 => ?_)
  refine r_ifb_ne 32 dX10_readsAll_27 (by decide) (fun c27 => ?_) (fun c27 => ?_)
  · skip
    have hlw := ryLaw_ok hR1 c27
    refine r_ald0 dX10_readsAll_32 ?_
    refine s_callV0v hM24 (c_X10_reads E (by exact hlw.1)) cv_X10_reads wM_X10_114 (sh_201) rfl rfl (Nat.le_of_ble_eq_true rfl) (by decide) dX10_readsAll_33 (fun hM33 => ?_)
    exact L36 7 _  hM33 (by exact RY_rs hlw.1) (by rw [rs_lo (by decide)]; omega) (by rw [rs_lo (by decide)]; omega) (by unfold ryAll; rw [if_pos c27, rs_lo (by decide), show (6 - (ryLaw (ryM0 M)).2 206 0).toNat = 6 by omega]) (by rw [rs_lo (by decide)]; omega)
  refine r_iconst dX10_readsAll_30 ?_
  exact s_zret hM24 rfl (by first | exact Or.inl rfl | exact Or.inr rfl) dX10_readsAll_31 (by first | (unfold ryAll; rw [if_neg (by assumption)]; rfl) | (rw [← hi, show (6 - Mc 206 0).toNat = (6 - Mc 206 0 - 1).toNat + 1 by omega, ryPL_f (by omega) (by assumption)]; rfl) | (rw [hmc, if_pos (by omega)]; rfl) | (rw [← hi, show (7 - Mc 206 1).toNat = (7 - Mc 206 1 - 1).toNat + 1 by omega, rySL_f (by omega) (by assumption)]; rfl) | (rw [← hi, rySL_e (by omega)]; rfl)) (by first | (unfold ryAll; rw [if_neg (by assumption)]; done) | (rw [← hi, show (6 - Mc 206 0).toNat = (6 - Mc 206 0 - 1).toNat + 1 by omega, ryPL_f (by omega) (by assumption)]; rfl) | (rw [hmc, if_pos (by omega)]; done) | (rw [← hi, show (7 - Mc 206 1).toNat = (7 - Mc 206 1 - 1).toNat + 1 by omega, rySL_f (by omega) (by assumption)]; done) | (rw [← hi, rySL_e (by omega)]; done))
set_option maxHeartbeats 4000000 in
theorem c_X10_duchy (E : xE) {M : xMem}  (hL : 0 ≤ M 201 4 ∧ M 201 4 ≤ 120) (hTp : ∀ j : Nat, j < 120 → 0 ≤ M 205 j ∧ M 205 j ≤ 255) (hbn : (ryAll M).1 = true → 0 ≤ (ryAll M).2 206 0 ∧ (ryAll M).2 206 0 ≤ 5) : Ct E mX10_duchy 4 6 [xr E 201] M (some (xi ((yDuchy M).1))) ((yDuchy M).2) := by
  refine Ct.of 3 4 (by rfl) (by decide +kernel) (fun hM => ?_)
  have z206 : mS (ryAll M).2 201 4 0 206 = (ryAll M).2 206 := mS_row (by decide)
  show VS E mX10_duchy 6 _ _ 0 [some (xr E 201), none, none, none] [] M
  have L123 : ∀ (fu : Nat) (g p k : Int) (Mc : xMem), InR Mc → ((ryAll M).1 = true) → (0 ≤ k ∧ k ≤ (ryAll M).2 206 0) → (Mc = rngM (mS (mS (rngM (rngM (mS (mS (ryAll M).2 201 4 0) 201 16 1) 209 0 ((ryAll M).2 206) 32) 210 0 (fun _ => 0) 21) 210 1 ((ryAll M).2 206 2)) 210 3 ((ryAll M).2 201 12)) 210 5 ((ryAll M).2 207) k) → ((ryAll M).2 206 0 - k).toNat < fu → VS E mX10_duchy 6 (some (xi ((yDuchy M).1))) ((yDuchy M).2) 123 [some (xr E 201), some (xi g), some (xi p), some (xi k)] [] Mc := by
    intro fu
    induction fu with
    | zero => intro g p k Mc hML123 hok hb hMc hme; exact absurd hme (Nat.not_lt_zero _)
    | succ fu ih =>
      intro g p k Mc hML123 hok hb hMc hme
      have hbn1 := hbn hok
      have w9 : ∀ j : Nat, j < 32 → Mc 209 j = (ryAll M).2 206 j := fun j hj => by rw [hMc, rng_ne (by decide), mS_ne (Or.inl (by decide)), mS_ne (Or.inl (by decide)), rng_ne (by decide), rng_in (by omega)]; rfl
      have w7 : ∀ j, Mc 207 j = (ryAll M).2 207 j := fun j => by rw [hMc, rng_ne (by decide), mS_ne (Or.inl (by decide)), mS_ne (Or.inl (by decide)), rng_ne (by decide), rng_ne (by decide), mS_ne (Or.inl (by decide)), mS_ne (Or.inl (by decide))]
      refine r_ild3 dX10_duchy_123 ?_
      refine r_ald0 dX10_duchy_124 ?_
      refine s_getR fi_X10_31 (sh_201) rfl dX10_duchy_125 ?_
      refine r_iconst dX10_duchy_128 ?_
      refine s_iald hML123 (sh_209) (by omega) (by decide) dX10_duchy_129 (fun g129 => ?_)
      try simp (disch := omega) only [mS_ne, mS_eq, Int.reduceToNat]
      rw [w9 0 (by decide)]
      refine r_icmp_ge 153 dX10_duchy_130 (by decide) (by omega) (by omega) (fun c130 => ?_) (fun c130 => ?_)
      · skip
        refine r_ald0 dX10_duchy_153 ?_
        refine r_iconst dX10_duchy_154 ?_
        refine s_putI hML123 fp_X10_155 (sh_201) rfl (by omega) dX10_duchy_155 (fun hM155 => ?_)
        refine r_ald0 dX10_duchy_158 ?_
        refine s_getR fi_X10_31 (sh_201) rfl dX10_duchy_159 ?_
        refine r_iconst dX10_duchy_162 ?_
        refine s_iald hM155 (sh_209) (by omega) (by decide) dX10_duchy_163 (fun g163 => ?_)
        try simp (disch := omega) only [mS_ne, mS_eq, Int.reduceToNat]
        try simp (disch := omega) only [mS_ne]
        rw [w9 1 (by decide)]
        exact s_iret hM155 rfl dX10_duchy_164 (by unfold yDuchy; first | (rw [if_pos (by assumption)]; done) | (rw [if_neg (by assumption)]; first | (rw [if_pos (by assumption)]; done) | (rw [if_neg (by assumption)]; done))) (by unfold yDuchy; first | (rw [if_neg (by assumption)]; done) | (rw [if_pos hok, hMc, show k = (ryAll M).2 206 0 by omega]; unfold yNew; first | rfl | (rw [z206]; rfl)))
      refine r_ald0 dX10_duchy_133 ?_
      refine s_getR fi_X10_34 (sh_201) rfl dX10_duchy_134 ?_
      refine r_iconst dX10_duchy_137 ?_
      refine r_ild3 dX10_duchy_138 ?_
      refine r_iadd dX10_duchy_139 ?_
      refine r_ald0 dX10_duchy_140 ?_
      refine s_getR fi_X10_25 (sh_201) rfl dX10_duchy_141 ?_
      refine r_ild3 dX10_duchy_144 ?_
      refine s_iald hML123 (sh_207) (by omega) (by decide) dX10_duchy_145 (fun g145 => ?_)
      try simp (disch := omega) only [mS_ne, mS_eq, Int.reduceToNat]
      try simp only [w7]
      have hr146 := hML123 207 k.toNat
      rw [w7] at hr146
      refine s_iast hML123 (sh_210) (by omega) (by decide) (by omega) dX10_duchy_146 (fun hM146 => ?_)
      refine r_iinc3 dX10_duchy_147 rfl ?_
      refine r_goto 123 dX10_duchy_150 (by decide) ?_
      exact ih _ _ (k + 1) _  hM146 (by exact hok) (by omega) (by rw [hMc]; exact rng_s (by omega) rfl) (by omega)
  have L80 : ∀ (fu : Nat) (g p k : Int) (Mc : xMem), InR Mc → ((ryAll M).1 = true) → (0 ≤ k ∧ k ≤ 21) → (Mc = rngM (rngM (mS (mS (ryAll M).2 201 4 0) 201 16 1) 209 0 ((ryAll M).2 206) 32) 210 0 (fun _ => 0) k) → (21 - k).toNat < fu → VS E mX10_duchy 6 (some (xi ((yDuchy M).1))) ((yDuchy M).2) 80 [some (xr E 201), some (xi g), some (xi p), some (xi k)] [] Mc := by
    intro fu
    induction fu with
    | zero => intro g p k Mc hML80 hok hb hMc hme; exact absurd hme (Nat.not_lt_zero _)
    | succ fu ih =>
      intro g p k Mc hML80 hok hb hMc hme
      have hbn1 := hbn hok
      have w9 : ∀ j : Nat, j < 32 → Mc 209 j = (ryAll M).2 206 j := fun j hj => by rw [hMc, rng_ne (by decide), rng_in (by omega)]; rfl
      have w12 : Mc 201 12 = (ryAll M).2 201 12 := by rw [hMc, rng_ne (by decide), rng_ne (by decide), mS_ne (Or.inr (by decide)), mS_ne (Or.inr (by decide))]
      refine r_ild3 dX10_duchy_80 ?_
      refine r_bipush dX10_duchy_81 (by decide +kernel) ?_
      refine r_icmp_ge 99 dX10_duchy_83 (by decide) (by omega) (by omega) (fun c83 => ?_) (fun c83 => ?_)
      · skip
        refine r_ald0 dX10_duchy_99 ?_
        refine s_getR fi_X10_34 (sh_201) rfl dX10_duchy_100 ?_
        refine r_iconst dX10_duchy_103 ?_
        refine r_ald0 dX10_duchy_104 ?_
        refine s_getR fi_X10_31 (sh_201) rfl dX10_duchy_105 ?_
        refine r_iconst dX10_duchy_108 ?_
        refine s_iald hML80 (sh_209) (by omega) (by decide) dX10_duchy_109 (fun g109 => ?_)
        try simp (disch := omega) only [mS_ne, mS_eq, Int.reduceToNat]
        rw [w9 2 (by decide)]
        have hr110 := hML80 209 2
        rw [w9 2 (by decide)] at hr110
        refine s_iast hML80 (sh_210) (by omega) (by decide) (by omega) dX10_duchy_110 (fun hM110 => ?_)
        refine r_ald0 dX10_duchy_111 ?_
        refine s_getR fi_X10_34 (sh_201) rfl dX10_duchy_112 ?_
        refine r_iconst dX10_duchy_115 ?_
        refine r_ald0 dX10_duchy_116 ?_
        refine s_getI hM110 fi_X10_127 (sh_201) rfl dX10_duchy_117 (fun g117 => ?_)
        try simp (disch := omega) only [mS_ne, mS_eq, Int.reduceToNat]
        try first | simp (disch := omega) only [mS_ne, w12] | simp (disch := omega) only [mS_ne]
        have hr120 := hML80 201 12
        rw [w12] at hr120
        refine s_iast hM110 (sh_210) (by omega) (by decide) (by omega) dX10_duchy_120 (fun hM120 => ?_)
        refine r_iconst dX10_duchy_121 ?_
        refine r_ist3 dX10_duchy_122 rfl ?_
        exact L123 6 _ _ 0 _  hM120 (by exact hok) (by omega) (by rw [hMc, show k = 21 by omega]; exact rng_0 _ _ _ _) (by omega)
      refine r_ald0 dX10_duchy_86 ?_
      refine s_getR fi_X10_34 (sh_201) rfl dX10_duchy_87 ?_
      refine r_ild3 dX10_duchy_90 ?_
      refine r_iconst dX10_duchy_91 ?_
      refine s_iast hML80 (sh_210) (by omega) (by decide) (by omega) dX10_duchy_92 (fun hM92 => ?_)
      refine r_iinc3 dX10_duchy_93 rfl ?_
      refine r_goto 80 dX10_duchy_96 (by decide) ?_
      exact ih _ _ (k + 1) _  hM92 (by exact hok) (by omega) (by rw [hMc]; exact rng_0s (by omega) rfl) (by omega)
  have L54 : ∀ (fu : Nat) (g p k : Int) (Mc : xMem), InR Mc → ((ryAll M).1 = true) → (0 ≤ k ∧ k ≤ 32) → (Mc = rngM (mS (mS (ryAll M).2 201 4 0) 201 16 1) 209 0 ((ryAll M).2 206) k) → (32 - k).toNat < fu → VS E mX10_duchy 6 (some (xi ((yDuchy M).1))) ((yDuchy M).2) 54 [some (xr E 201), some (xi g), some (xi p), some (xi k)] [] Mc := by
    intro fu
    induction fu with
    | zero => intro g p k Mc hML54 hok hb hMc hme; exact absurd hme (Nat.not_lt_zero _)
    | succ fu ih =>
      intro g p k Mc hML54 hok hb hMc hme
      have w6 : ∀ j, Mc 206 j = (ryAll M).2 206 j := fun j => by rw [hMc, rng_ne (by decide), mS_ne (Or.inl (by decide)), mS_ne (Or.inl (by decide))]
      refine r_ild3 dX10_duchy_54 ?_
      refine r_bipush dX10_duchy_55 (by decide +kernel) ?_
      refine r_icmp_ge 78 dX10_duchy_57 (by decide) (by omega) (by omega) (fun c57 => ?_) (fun c57 => ?_)
      · skip
        refine r_iconst dX10_duchy_78 ?_
        refine r_ist3 dX10_duchy_79 rfl ?_
        exact L80 22 _ _ 0 _  hML54 (by exact hok) (by omega) (by rw [hMc, show k = 32 by omega]; exact rng_0 _ _ _ _) (by omega)
      refine r_ald0 dX10_duchy_60 ?_
      refine s_getR fi_X10_31 (sh_201) rfl dX10_duchy_61 ?_
      refine r_ild3 dX10_duchy_64 ?_
      refine r_ald0 dX10_duchy_65 ?_
      refine s_getR fi_X10_22 (sh_201) rfl dX10_duchy_66 ?_
      refine r_ild3 dX10_duchy_69 ?_
      refine s_iald hML54 (sh_206) (by omega) (by decide) dX10_duchy_70 (fun g70 => ?_)
      try simp (disch := omega) only [mS_ne, mS_eq, Int.reduceToNat]
      try simp only [w6]
      have hr71 := hML54 206 k.toNat
      try rw [w6] at hr71
      refine s_iast hML54 (sh_209) (by omega) (by decide) (by omega) dX10_duchy_71 (fun hM71 => ?_)
      refine r_iinc3 dX10_duchy_72 rfl ?_
      refine r_goto 54 dX10_duchy_75 (by decide) ?_
      exact ih _ _ (k + 1) _  hM71 (by exact hok) (by omega) (by rw [hMc]; exact rng_0s (by omega) rfl) (by omega)
  refine r_ald0 dX10_duchy_0 ?_
  refine s_callV0r hM (c_X10_readsAll E (by exact hL) (by exact hTp)) cv_X10_readsAll wM_X10_144 (sh_201) rfl rfl (Nat.le_of_ble_eq_true rfl) (by decide) dX10_duchy_1 (fun hM1 => ?_)
  refine r_ist1 dX10_duchy_4 rfl ?_
  refine r_ald0 dX10_duchy_5 ?_
  refine s_getI hM1 fi_X10_102 (sh_201) rfl dX10_duchy_6 (fun g6 => ?_)
  try simp (disch := omega) only [mS_ne, mS_eq, Int.reduceToNat]
  refine r_iconst dX10_duchy_9 ?_
  refine r_icmp_ne 20 dX10_duchy_10 (by decide) (by omega) (by omega) (fun c10 => ?_) (fun c10 => ?_)
  · skip
    refine r_ald0 dX10_duchy_20 ?_
    refine s_getI hM1 fi_X10_96 (sh_201) rfl dX10_duchy_21 (fun g21 => ?_)
    try simp (disch := omega) only [mS_ne, mS_eq, Int.reduceToNat]
    refine r_ist2 dX10_duchy_24 rfl ?_
    refine r_ald0 dX10_duchy_25 ?_
    refine r_iconst dX10_duchy_26 ?_
    refine s_putI hM1 fp_X10_89 (sh_201) rfl (by omega) dX10_duchy_27 (fun hM27 => ?_)
    refine r_ild1 dX10_duchy_30 ?_
    refine r_ifb_ne 47 dX10_duchy_31 (by decide) (fun c31 => ?_) (fun c31 => ?_)
    · skip
      refine r_ald0 dX10_duchy_47 ?_
      refine r_iconst dX10_duchy_48 ?_
      refine s_putZ hM27 fp_X10_151 (sh_201) rfl (by omega) dX10_duchy_49 (fun hM49 => ?_)
      refine r_iconst dX10_duchy_52 ?_
      refine r_ist3 dX10_duchy_53 rfl ?_
      exact L54 33 _ _ 0 _  hM49 (by assumption) (by omega) (by exact rng_0 _ _ _ _) (by omega)
    refine r_ald0 dX10_duchy_34 ?_
    refine r_ald0 dX10_duchy_35 ?_
    refine s_getI hM27 fi_X10_111 (sh_201) rfl dX10_duchy_36 (fun g36 => ?_)
    try simp (disch := omega) only [mS_ne, mS_eq, Int.reduceToNat]
    have hr39 := hM27 201 10
    rw [mS_ne (Or.inr (by decide))] at hr39
    refine s_putI hM27 fp_X10_147 (sh_201) rfl (by omega) dX10_duchy_39 (fun hM39 => ?_)
    refine r_ldc (-1000100) dX10_duchy_42 wC_X10_150 ?_
    refine r_ild2 dX10_duchy_44 ?_
    refine r_isub dX10_duchy_45 ?_
    exact s_iret hM39 rfl dX10_duchy_46 (by unfold yDuchy; first | (rw [if_pos (by assumption)]; done) | (rw [if_neg (by assumption)]; first | (rw [if_pos (by assumption)]; done) | (rw [if_neg (by assumption)]; done))) (by unfold yDuchy; first | (rw [if_neg (by assumption)]; done) | (rw [if_pos hok, hMc, show k = (ryAll M).2 206 0 by omega]; unfold yNew; first | rfl | (rw [z206]; rfl)))
  refine r_ald0 dX10_duchy_13 ?_
  refine s_getI hM1 fi_X10_89 (sh_201) rfl dX10_duchy_14 (fun g14 => ?_)
  try simp (disch := omega) only [mS_ne, mS_eq, Int.reduceToNat]
  refine r_goto 24 dX10_duchy_17 (by decide) ?_
  refine r_ist2 dX10_duchy_24 rfl ?_
  refine r_ald0 dX10_duchy_25 ?_
  refine r_iconst dX10_duchy_26 ?_
  refine s_putI hM1 fp_X10_89 (sh_201) rfl (by omega) dX10_duchy_27 (fun hM27 => ?_)
  refine r_ild1 dX10_duchy_30 ?_
  refine r_ifb_ne 47 dX10_duchy_31 (by decide) (fun c31 => ?_) (fun c31 => ?_)
  · skip
    refine r_ald0 dX10_duchy_47 ?_
    refine r_iconst dX10_duchy_48 ?_
    refine s_putZ hM27 fp_X10_151 (sh_201) rfl (by omega) dX10_duchy_49 (fun hM49 => ?_)
    refine r_iconst dX10_duchy_52 ?_
    refine r_ist3 dX10_duchy_53 rfl ?_
    exact L54 33 _ _ 0 _  hM49 (by assumption) (by omega) (by exact rng_0 _ _ _ _) (by omega)
  refine r_ald0 dX10_duchy_34 ?_
  refine r_ald0 dX10_duchy_35 ?_
  refine s_getI hM27 fi_X10_111 (sh_201) rfl dX10_duchy_36 (fun g36 => ?_)
  try simp (disch := omega) only [mS_ne, mS_eq, Int.reduceToNat]
  have hr39 := hM27 201 10
  rw [mS_ne (Or.inr (by decide))] at hr39
  refine s_putI hM27 fp_X10_147 (sh_201) rfl (by omega) dX10_duchy_39 (fun hM39 => ?_)
  refine r_ldc (-1000100) dX10_duchy_42 wC_X10_150 ?_
  refine r_ild2 dX10_duchy_44 ?_
  refine r_isub dX10_duchy_45 ?_
  exact s_iret hM39 rfl dX10_duchy_46 (by unfold yDuchy; first | (rw [if_pos (by assumption)]; done) | (rw [if_neg (by assumption)]; first | (rw [if_pos (by assumption)]; done) | (rw [if_neg (by assumption)]; done))) (by unfold yDuchy; first | (rw [if_neg (by assumption)]; done) | (rw [if_pos hok, hMc, show k = (ryAll M).2 206 0 by omega]; unfold yNew; first | rfl | (rw [z206]; rfl)))
