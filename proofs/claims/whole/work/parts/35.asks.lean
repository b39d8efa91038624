set_option maxHeartbeats 4000000 in
theorem c_X3_keep (E : xE) {M : xMem}  (hnx : 0 ≤ M 17 1 ∧ M 17 1 < 24) (hkp : 0 ≤ M 17 2 ∧ M 17 2 ≤ 24) : Ct E mX3_keep 2 2 [xr E 17, xr E 9] M (none) (kpM M) := by
  refine Ct.of 0 2 (by rfl) (by decide +kernel) (fun hM => ?_)
  show VS E mX3_keep 2 _ _ 0 [some (xr E 17), some (xr E 9)] [] M
  refine r_ald0 dX3_keep_0 ?_
  refine s_getR fi_X3_11 (sh_17) rfl dX3_keep_1 ?_
  refine r_ald0 dX3_keep_4 ?_
  refine s_getI hM fi_X3_20 (sh_17) rfl dX3_keep_5 (fun g5 => ?_)
  refine s_past (by omega) dX3_keep_8 (fun p8 ep8 hp8 => ?_)
  subst ep8
  refine r_ald1 dX3_keep_9 ?_
  refine s_callV1v hM (c_X6_takeFrom E (by first | exact xSt_9.g | exact xSt.g (by assumption)) (by first | exact xSt_9.g | exact xSt.g (by assumption))) cv_X6_takeFrom wM_X3_24 (hp8.1) rfl rfl (Nat.le_of_ble_eq_true rfl) (by decide) dX3_keep_10 (fun hM10 => ?_)
  refine r_ald0 dX3_keep_13 ?_
  refine r_ald0 dX3_keep_14 ?_
  refine s_getI hM10 fi_X3_20 (sh_17) rfl dX3_keep_15 (fun g15 => ?_)
  try simp (disch := omega) only [mS_ne, mS_eq, stCp_ne]
  refine r_iconst dX3_keep_18 ?_
  refine r_iadd dX3_keep_19 ?_
  refine r_bipush dX3_keep_20 (by decide +kernel) ?_
  refine r_icmp_ge 34 dX3_keep_22 (by decide) (by omega) (by omega) (fun c22 => ?_) (fun c22 => ?_)
  · skip
    refine r_iconst dX3_keep_34 ?_
    refine s_putI hM10 fp_X3_20 (sh_17) rfl (by omega) dX3_keep_35 (fun hM35 => ?_)
    refine r_ald0 dX3_keep_38 ?_
    refine r_bipush dX3_keep_39 (by decide +kernel) ?_
    refine r_ald0 dX3_keep_41 ?_
    refine s_getI hM35 fi_X3_28 (sh_17) rfl dX3_keep_42 (fun g42 => ?_)
    try simp (disch := omega) only [mS_ne, mS_eq, stCp_ne]
    refine r_iconst dX3_keep_45 ?_
    refine r_iadd dX3_keep_46 ?_
    refine r_min wM_X3_31 wT_min wI_J9 wD_min (Nat.le_of_ble_eq_true rfl) (by decide) (Nat.le_refl 0) (Nat.le_refl 0) (by omega) (by omega) dX3_keep_47 ?_
    refine s_putI hM35 fp_X3_28 (sh_17) rfl (by omega) dX3_keep_50 (fun hM50 => ?_)
    exact s_vret hM50 rfl dX3_keep_53 (by unfold kpM; split <;> first | rfl | (exfalso; omega))
  refine r_ald0 dX3_keep_25 ?_
  refine s_getI hM10 fi_X3_20 (sh_17) rfl dX3_keep_26 (fun g26 => ?_)
  try simp (disch := omega) only [mS_ne, mS_eq, stCp_ne]
  refine r_iconst dX3_keep_29 ?_
  refine r_iadd dX3_keep_30 ?_
  refine r_goto 35 dX3_keep_31 (by decide) ?_
  refine s_putI hM10 fp_X3_20 (sh_17) rfl (by omega) dX3_keep_35 (fun hM35 => ?_)
  refine r_ald0 dX3_keep_38 ?_
  refine r_bipush dX3_keep_39 (by decide +kernel) ?_
  refine r_ald0 dX3_keep_41 ?_
  refine s_getI hM35 fi_X3_28 (sh_17) rfl dX3_keep_42 (fun g42 => ?_)
  try simp (disch := omega) only [mS_ne, mS_eq, stCp_ne]
  refine r_iconst dX3_keep_45 ?_
  refine r_iadd dX3_keep_46 ?_
  refine r_min wM_X3_31 wT_min wI_J9 wD_min (Nat.le_of_ble_eq_true rfl) (by decide) (Nat.le_refl 0) (Nat.le_refl 0) (by omega) (by omega) dX3_keep_47 ?_
  refine s_putI hM35 fp_X3_28 (sh_17) rfl (by omega) dX3_keep_50 (fun hM50 => ?_)
  exact s_vret hM50 rfl dX3_keep_53 (by unfold kpM; split <;> first | rfl | (exfalso; omega))
set_option maxHeartbeats 4000000 in
theorem c_X3_giveBack (E : xE) {M : xMem}  (hnx : 0 ≤ M 17 1 ∧ M 17 1 < 24) (hkp : 0 ≤ M 17 2 ∧ M 17 2 ≤ 24) : Ct E mX3_giveBack 2 2 [xr E 17, xr E 9] M (some (xi (b2i (¬ M 17 2 = 0)))) (gbM M) := by
  refine Ct.of 0 2 (by rfl) (by decide +kernel) (fun hM => ?_)
  show VS E mX3_giveBack 2 _ _ 0 [some (xr E 17), some (xr E 9)] [] M
  refine r_ald0 dX3_giveBack_0 ?_
  refine s_getI hM fi_X3_28 (sh_17) rfl dX3_giveBack_1 (fun g1 => ?_)
  refine r_if_ne 9 dX3_giveBack_4 (by decide) (by omega) (fun c4 => ?_) (fun c4 => ?_)
  · skip
    refine r_ald0 dX3_giveBack_9 ?_
    refine r_ald0 dX3_giveBack_10 ?_
    refine s_getI hM fi_X3_20 (sh_17) rfl dX3_giveBack_11 (fun g11 => ?_)
    refine r_if_le 26 dX3_giveBack_14 (by decide) (by omega) (fun c14 => ?_) (fun c14 => ?_)
    · skip
      refine r_bipush dX3_giveBack_26 (by decide +kernel) ?_
      refine s_putI hM fp_X3_20 (sh_17) rfl (by omega) dX3_giveBack_28 (fun hM28 => ?_)
      refine r_ald0 dX3_giveBack_31 ?_
      refine r_dup dX3_giveBack_32 rfl ?_
      refine s_getI hM28 fi_X3_28 (sh_17) rfl dX3_giveBack_33 (fun g33 => ?_)
      try simp (disch := omega) only [mS_ne, mS_eq]
      refine r_iconst dX3_giveBack_36 ?_
      refine r_isub dX3_giveBack_37 ?_
      refine s_putI hM28 fp_X3_28 (sh_17) rfl (by omega) dX3_giveBack_38 (fun hM38 => ?_)
      refine r_ald1 dX3_giveBack_41 ?_
      refine r_ald0 dX3_giveBack_42 ?_
      refine s_getR fi_X3_11 (sh_17) rfl dX3_giveBack_43 ?_
      refine r_ald0 dX3_giveBack_46 ?_
      refine s_getI hM38 fi_X3_20 (sh_17) rfl dX3_giveBack_47 (fun g47 => ?_)
      try simp (disch := omega) only [mS_ne, mS_eq]
      refine s_past (by omega) dX3_giveBack_50 (fun p50 ep50 hp50 => ?_)
      subst ep50
      refine s_callV1v hM38 (c_X6_takeFrom E (by first | exact xSt_9.g | exact xSt.g (by assumption)) (by first | exact xSt_9.g | exact xSt.g (by assumption))) cv_X6_takeFrom wM_X3_24 (sh_9) rfl rfl (Nat.le_of_ble_eq_true rfl) (by decide) dX3_giveBack_51 (fun hM51 => ?_)
      refine r_iconst dX3_giveBack_54 ?_
      exact s_zret hM51 rfl (by omega) dX3_giveBack_55 (by unfold b2i; split <;> omega) (by unfold gbM; first | rw [if_pos (by omega)] | (rw [if_neg (by omega)]; unfold gbN; split <;> first | rfl | (exfalso; omega)))
    refine r_ald0 dX3_giveBack_17 ?_
    refine s_getI hM fi_X3_20 (sh_17) rfl dX3_giveBack_18 (fun g18 => ?_)
    refine r_iconst dX3_giveBack_21 ?_
    refine r_isub dX3_giveBack_22 ?_
    refine r_goto 28 dX3_giveBack_23 (by decide) ?_
    refine s_putI hM fp_X3_20 (sh_17) rfl (by omega) dX3_giveBack_28 (fun hM28 => ?_)
    refine r_ald0 dX3_giveBack_31 ?_
    refine r_dup dX3_giveBack_32 rfl ?_
    refine s_getI hM28 fi_X3_28 (sh_17) rfl dX3_giveBack_33 (fun g33 => ?_)
    try simp (disch := omega) only [mS_ne, mS_eq]
    refine r_iconst dX3_giveBack_36 ?_
    refine r_isub dX3_giveBack_37 ?_
    refine s_putI hM28 fp_X3_28 (sh_17) rfl (by omega) dX3_giveBack_38 (fun hM38 => ?_)
    refine r_ald1 dX3_giveBack_41 ?_
    refine r_ald0 dX3_giveBack_42 ?_
    refine s_getR fi_X3_11 (sh_17) rfl dX3_giveBack_43 ?_
    refine r_ald0 dX3_giveBack_46 ?_
    refine s_getI hM38 fi_X3_20 (sh_17) rfl dX3_giveBack_47 (fun g47 => ?_)
    try simp (disch := omega) only [mS_ne, mS_eq]
    refine s_past (by omega) dX3_giveBack_50 (fun p50 ep50 hp50 => ?_)
    subst ep50
    refine s_callV1v hM38 (c_X6_takeFrom E (by first | exact xSt_9.g | exact xSt.g (by assumption)) (by first | exact xSt_9.g | exact xSt.g (by assumption))) cv_X6_takeFrom wM_X3_24 (sh_9) rfl rfl (Nat.le_of_ble_eq_true rfl) (by decide) dX3_giveBack_51 (fun hM51 => ?_)
    refine r_iconst dX3_giveBack_54 ?_
    exact s_zret hM51 rfl (by omega) dX3_giveBack_55 (by unfold b2i; split <;> omega) (by unfold gbM; first | rw [if_pos (by omega)] | (rw [if_neg (by omega)]; unfold gbN; split <;> first | rfl | (exfalso; omega)))
  refine r_iconst dX3_giveBack_7 ?_
  exact s_zret hM rfl (by omega) dX3_giveBack_8 (by unfold b2i; split <;> omega) (by unfold gbM; first | rw [if_pos (by omega)] | (rw [if_neg (by omega)]; unfold gbN; split <;> first | rfl | (exfalso; omega)))
set_option maxHeartbeats 4000000 in
theorem c_X3_forget (E : xE) {M : xMem}   : Ct E mX3_forget 1 0 [xr E 17] M (none) (mS M 17 2 0) := by
  refine Ct.of 0 1 (by rfl) (by decide +kernel) (fun hM => ?_)
  show VS E mX3_forget 0 _ _ 0 [some (xr E 17)] [] M
  refine r_ald0 dX3_forget_0 ?_
  refine r_iconst dX3_forget_1 ?_
  refine s_putI hM fp_X3_28 (sh_17) rfl (by omega) dX3_forget_2 (fun hM2 => ?_)
  exact s_vret hM2 rfl dX3_forget_5 (by rfl)
set_option maxHeartbeats 4000000 in
theorem c_X0_leave (E : xE) {M : xMem} {b : Int} (htr : 0 ≤ M 161 3 ∧ M 161 3 ≤ 16) (hbd : 0 ≤ b ∧ b ≤ 100) : Ct E mX0_leave 2 0 [xr E 161, xi b] M (none) (lvM M b) := by
  refine Ct.of 0 2 (by rfl) (by decide +kernel) (fun hM => ?_)
  show VS E mX0_leave 0 _ _ 0 [some (xr E 161), some (xi b)] [] M
  refine r_ald0 dX0_leave_0 ?_
  refine s_getI hM fi_X0_23 (sh_161) rfl dX0_leave_1 (fun g1 => ?_)
  refine r_bipush dX0_leave_4 (by decide +kernel) ?_
  refine r_icmp_ge 29 dX0_leave_6 (by decide) (by omega) (by omega) (fun c6 => ?_) (fun c6 => ?_)
  · skip
    exact s_vret hM rfl dX0_leave_29 (by unfold lvM; first | rw [if_neg (by omega)] | (rw [if_pos (by omega)]))
  refine r_ald0 dX0_leave_9 ?_
  refine s_getR fi_X0_9 (sh_161) rfl dX0_leave_10 ?_
  refine r_ald0 dX0_leave_13 ?_
  refine s_getI hM fi_X0_23 (sh_161) rfl dX0_leave_14 (fun g14 => ?_)
  refine r_ild1 dX0_leave_17 ?_
  refine s_iast hM (sh_162) (by omega) (by decide) (by omega) dX0_leave_18 (fun hM18 => ?_)
  refine r_ald0 dX0_leave_19 ?_
  refine r_dup dX0_leave_20 rfl ?_
  refine s_getI hM18 fi_X0_23 (sh_161) rfl dX0_leave_21 (fun g21 => ?_)
  try simp (disch := omega) only [mS_ne, mS_eq]
  refine r_iconst dX0_leave_24 ?_
  refine r_iadd dX0_leave_25 ?_
  refine s_putI hM18 fp_X0_23 (sh_161) rfl (by omega) dX0_leave_26 (fun hM26 => ?_)
  exact s_vret hM26 rfl dX0_leave_29 (by unfold lvM; first | rw [if_neg (by omega)] | (rw [if_pos (by omega)]))
set_option maxHeartbeats 4000000 in
theorem c_X0_sizeBody (E : xE) {M : xMem} {s : Int} (hs : 0 ≤ s ∧ s ≤ 5) (hkd : 1 ≤ M 5 s.toNat ∧ M 5 s.toNat ≤ 5) : Ct E mX0_sizeBody 2 0 [xr E 161, xi s] M (some (xi ((xtab 1).getD (M 5 s.toNat).toNat 0))) (M) := by
  refine Ct.of 0 2 (by rfl) (by decide +kernel) (fun hM => ?_)
  show VS E mX0_sizeBody 0 _ _ 0 [some (xr E 161), some (xi s)] [] M
  refine r_gets (j := 1) (by decide) wS_X0_38 dX0_sizeBody_0 ?_
  refine r_ald0 dX0_sizeBody_3 ?_
  refine s_getR fi_X0_15 (sh_161) rfl dX0_sizeBody_4 ?_
  refine s_getR fi_X0_41 (sh_3) rfl dX0_sizeBody_7 ?_
  refine r_ild1 dX0_sizeBody_10 ?_
  refine s_iald hM (sh_5) (by omega) (by decide) dX0_sizeBody_11 (fun g11 => ?_)
  refine r_tald (j := 1) (by decide) (by omega) (by omega) dX0_sizeBody_12 ?_
  exact s_iret hM rfl dX0_sizeBody_13 (by rfl) (by rfl)
set_option maxHeartbeats 4000000 in
theorem c_X0_markBody (E : xE) {M : xMem} {s : Int} (hs : 0 ≤ s ∧ s ≤ 5) (hkd : 1 ≤ M 5 s.toNat ∧ M 5 s.toNat ≤ 5) : Ct E mX0_markBody 2 0 [xr E 161, xi s] M (some (xi ((xtab 2).getD (M 5 s.toNat).toNat 0))) (M) := by
  refine Ct.of 0 2 (by rfl) (by decide +kernel) (fun hM => ?_)
  show VS E mX0_markBody 0 _ _ 0 [some (xr E 161), some (xi s)] [] M
  refine r_gets (j := 2) (by decide) wS_X0_46 dX0_markBody_0 ?_
  refine r_ald0 dX0_markBody_3 ?_
  refine s_getR fi_X0_15 (sh_161) rfl dX0_markBody_4 ?_
  refine s_getR fi_X0_41 (sh_3) rfl dX0_markBody_7 ?_
  refine r_ild1 dX0_markBody_10 ?_
  refine s_iald hM (sh_5) (by omega) (by decide) dX0_markBody_11 (fun g11 => ?_)
  refine r_tald (j := 2) (by decide) (by omega) (by omega) dX0_markBody_12 ?_
  exact s_iret hM rfl dX0_markBody_13 (by rfl) (by rfl)
set_option maxHeartbeats 4000000 in
theorem c_r10 (E : xE) {M : xMem} {s dep : Int} (hs : 0 ≤ s ∧ s ≤ 5) (hdp : 0 ≤ dep ∧ dep ≤ 16) (htr : 0 ≤ M 161 3 ∧ M 161 3 ≤ 16) : Ct E mX0_run 5 1 [xr E 161, xi 10, xi s, xi dep] M (some (xi (M 7 s.toNat))) (lvM M 10) := by
  refine Ct.of 1 5 (by rfl) (by decide +kernel) (fun hM => ?_)
  show VS E mX0_run 1 _ _ 0 [some (xr E 161), some (xi 10), some (xi s), some (xi dep), none] [] M
  refine r_ild3 dX0_run_0 ?_
  refine r_bipush dX0_run_1 (by decide +kernel) ?_
  refine r_icmp_le 8 dX0_run_3 (by decide) (by omega) (by omega) (fun c3 => ?_) (fun c3 => by exfalso; omega)
  refine r_ald0 dX0_run_8 ?_
  refine r_ild1 dX0_run_9 ?_
  refine s_callV1v hM (c_X0_leave E (by first | with_reducible assumption | with_reducible exact xSt_9 | with_reducible exact xSt_13 | omega) (by first | with_reducible assumption | with_reducible exact xSt_9 | with_reducible exact xSt_13 | omega)) cv_X0_leave wM_X0_49 (sh_161) rfl rfl (Nat.le_of_ble_eq_true rfl) (by decide) dX0_run_10 (fun hM10 => ?_)
  refine r_ild3 dX0_run_13 ?_
  refine r_iconst dX0_run_14 ?_
  refine r_iadd dX0_run_15 ?_
  refine r_ist4 dX0_run_16 rfl ?_
  refine r_ild1 dX0_run_18 ?_
  refine r_tabIn 92 dX0_run_19 (by omega) (by omega) (by rfl) (by decide) ?_
  refine r_ald0 dX0_run_92 ?_
  refine s_getR fi_X0_15 (sh_161) rfl dX0_run_93 ?_
  refine s_getR fi_X0_53 (sh_3) rfl dX0_run_96 ?_
  refine r_ild2 dX0_run_99 ?_
  refine s_iald hM10 (sh_7) (by omega) (by decide) dX0_run_100 (fun g100 => ?_)
  exact s_iret hM10 rfl dX0_run_101 (by simp (disch := omega) only [lvM_ne]) (by rfl)
set_option maxHeartbeats 4000000 in
theorem c_r20 (E : xE) {M : xMem} {s dep : Int} (hs : 0 ≤ s ∧ s ≤ 5) (hdp : 0 ≤ dep ∧ dep ≤ 16) (htr : 0 ≤ M 161 3 ∧ M 161 3 ≤ 16) : Ct E mX0_run 5 1 [xr E 161, xi 20, xi s, xi dep] M (some (xi (s))) (lvM M 20) := by
  refine Ct.of 1 5 (by rfl) (by decide +kernel) (fun hM => ?_)
  show VS E mX0_run 1 _ _ 0 [some (xr E 161), some (xi 20), some (xi s), some (xi dep), none] [] M
  refine r_ild3 dX0_run_0 ?_
  refine r_bipush dX0_run_1 (by decide +kernel) ?_
  refine r_icmp_le 8 dX0_run_3 (by decide) (by omega) (by omega) (fun c3 => ?_) (fun c3 => by exfalso; omega)
  refine r_ald0 dX0_run_8 ?_
  refine r_ild1 dX0_run_9 ?_
  refine s_callV1v hM (c_X0_leave E (by first | with_reducible assumption | with_reducible exact xSt_9 | with_reducible exact xSt_13 | omega) (by first | with_reducible assumption | with_reducible exact xSt_9 | with_reducible exact xSt_13 | omega)) cv_X0_leave wM_X0_49 (sh_161) rfl rfl (Nat.le_of_ble_eq_true rfl) (by decide) dX0_run_10 (fun hM10 => ?_)
  refine r_ild3 dX0_run_13 ?_
  refine r_iconst dX0_run_14 ?_
  refine r_iadd dX0_run_15 ?_
  refine r_ist4 dX0_run_16 rfl ?_
  refine r_ild1 dX0_run_18 ?_
  refine r_tabIn 162 dX0_run_19 (by omega) (by omega) (by rfl) (by decide) ?_
  refine r_ild2 dX0_run_162 ?_
  exact s_iret hM10 rfl dX0_run_163 (by rfl) (by rfl)
set_option maxHeartbeats 4000000 in
theorem c_r21 (E : xE) {M : xMem} {s dep : Int} (hs : 0 ≤ s ∧ s ≤ 5) (hdp : 0 ≤ dep ∧ dep ≤ 15) (htr : 0 ≤ M 161 3 ∧ M 161 3 ≤ 16) : Ct E mX0_run 5 2 [xr E 161, xi 21, xi s, xi dep] M (some (xi (s + M 9 7))) (lvM (lvM M 21) 20) := by
  refine Ct.of 1 5 (by rfl) (by decide +kernel) (fun hM => ?_)
  show VS E mX0_run 2 _ _ 0 [some (xr E 161), some (xi 21), some (xi s), some (xi dep), none] [] M
  refine r_ild3 dX0_run_0 ?_
  refine r_bipush dX0_run_1 (by decide +kernel) ?_
  refine r_icmp_le 8 dX0_run_3 (by decide) (by omega) (by omega) (fun c3 => ?_) (fun c3 => by exfalso; omega)
  refine r_ald0 dX0_run_8 ?_
  refine r_ild1 dX0_run_9 ?_
  refine s_callV1v hM (c_X0_leave E (by first | with_reducible assumption | with_reducible exact xSt_9 | with_reducible exact xSt_13 | omega) (by first | with_reducible assumption | with_reducible exact xSt_9 | with_reducible exact xSt_13 | omega)) cv_X0_leave wM_X0_49 (sh_161) rfl rfl (Nat.le_of_ble_eq_true rfl) (by decide) dX0_run_10 (fun hM10 => ?_)
  refine r_ild3 dX0_run_13 ?_
  refine r_iconst dX0_run_14 ?_
  refine r_iadd dX0_run_15 ?_
  refine r_ist4 dX0_run_16 rfl ?_
  refine r_ild1 dX0_run_18 ?_
  refine r_tabIn 164 dX0_run_19 (by omega) (by omega) (by rfl) (by decide) ?_
  refine r_ald0 dX0_run_164 ?_
  refine r_bipush dX0_run_165 (by decide +kernel) ?_
  refine r_ild2 dX0_run_167 ?_
  refine r_ild4 dX0_run_168 ?_
  refine s_callS4r hM10 (c_r20 E (by omega) (by omega) (by first | with_reducible assumption | omega | exact lvM_b (by first | with_reducible assumption | exact lvM_b (by first | with_reducible assumption | exact lvM_b (by first | with_reducible assumption | exact lvM_b (by with_reducible assumption)))))) cs_X0_run wM_X0_34 (Nat.le_of_ble_eq_true rfl) (by decide) dX0_run_170 (fun hM170 => ?_)
  refine r_ald0 dX0_run_173 ?_
  refine s_getR fi_X0_19 (sh_161) rfl dX0_run_174 ?_
  refine s_getI hM170 fi_X0_56 (sh_9) rfl dX0_run_177 (fun g177 => ?_)
  refine r_iadd dX0_run_180 ?_
  exact s_iret hM170 rfl dX0_run_181 (by simp (disch := omega) only [lvM_ne]) (by rfl)
set_option maxHeartbeats 4000000 in
theorem c_r22 (E : xE) {M : xMem} {s dep : Int} (hs : 0 ≤ s ∧ s ≤ 5) (hdp : 0 ≤ dep ∧ dep ≤ 14) (htr : 0 ≤ M 161 3 ∧ M 161 3 ≤ 16) : Ct E mX0_run 5 3 [xr E 161, xi 22, xi s, xi dep] M (some (xi (s + M 9 7 - 1000))) (lvM (lvM (lvM M 22) 21) 20) := by
  refine Ct.of 1 5 (by rfl) (by decide +kernel) (fun hM => ?_)
  show VS E mX0_run 3 _ _ 0 [some (xr E 161), some (xi 22), some (xi s), some (xi dep), none] [] M
  refine r_ild3 dX0_run_0 ?_
  refine r_bipush dX0_run_1 (by decide +kernel) ?_
  refine r_icmp_le 8 dX0_run_3 (by decide) (by omega) (by omega) (fun c3 => ?_) (fun c3 => by exfalso; omega)
  refine r_ald0 dX0_run_8 ?_
  refine r_ild1 dX0_run_9 ?_
  refine s_callV1v hM (c_X0_leave E (by first | with_reducible assumption | with_reducible exact xSt_9 | with_reducible exact xSt_13 | omega) (by first | with_reducible assumption | with_reducible exact xSt_9 | with_reducible exact xSt_13 | omega)) cv_X0_leave wM_X0_49 (sh_161) rfl rfl (Nat.le_of_ble_eq_true rfl) (by decide) dX0_run_10 (fun hM10 => ?_)
  refine r_ild3 dX0_run_13 ?_
  refine r_iconst dX0_run_14 ?_
  refine r_iadd dX0_run_15 ?_
  refine r_ist4 dX0_run_16 rfl ?_
  refine r_ild1 dX0_run_18 ?_
  refine r_tabIn 182 dX0_run_19 (by omega) (by omega) (by rfl) (by decide) ?_
  refine r_ald0 dX0_run_182 ?_
  refine r_bipush dX0_run_183 (by decide +kernel) ?_
  refine r_ild2 dX0_run_185 ?_
  refine r_ild4 dX0_run_186 ?_
  refine s_callS4r hM10 (c_r21 E (by omega) (by omega) (by first | with_reducible assumption | omega | exact lvM_b (by first | with_reducible assumption | exact lvM_b (by first | with_reducible assumption | exact lvM_b (by first | with_reducible assumption | exact lvM_b (by with_reducible assumption)))))) cs_X0_run wM_X0_34 (Nat.le_of_ble_eq_true rfl) (by decide) dX0_run_188 (fun hM188 => ?_)
  refine r_sipush dX0_run_191 (by decide +kernel) ?_
  refine r_isub dX0_run_194 ?_
  exact s_iret hM188 rfl dX0_run_195 (by simp (disch := omega) only [lvM_ne]) (by rfl)
set_option maxHeartbeats 4000000 in
theorem c_r24 (E : xE) {M : xMem} {s dep : Int} (hs : 0 ≤ s ∧ s ≤ 5) (hdp : 0 ≤ dep ∧ dep ≤ 14) (htr : 0 ≤ M 161 3 ∧ M 161 3 ≤ 16) : Ct E mX0_run 5 3 [xr E 161, xi 24, xi s, xi dep] M (some (xi (2 * (s + M 9 7)))) (lvM (lvM (lvM M 24) 21) 20) := by
  refine Ct.of 1 5 (by rfl) (by decide +kernel) (fun hM => ?_)
  show VS E mX0_run 3 _ _ 0 [some (xr E 161), some (xi 24), some (xi s), some (xi dep), none] [] M
  refine r_ild3 dX0_run_0 ?_
  refine r_bipush dX0_run_1 (by decide +kernel) ?_
  refine r_icmp_le 8 dX0_run_3 (by decide) (by omega) (by omega) (fun c3 => ?_) (fun c3 => by exfalso; omega)
  refine r_ald0 dX0_run_8 ?_
  refine r_ild1 dX0_run_9 ?_
  refine s_callV1v hM (c_X0_leave E (by first | with_reducible assumption | with_reducible exact xSt_9 | with_reducible exact xSt_13 | omega) (by first | with_reducible assumption | with_reducible exact xSt_9 | with_reducible exact xSt_13 | omega)) cv_X0_leave wM_X0_49 (sh_161) rfl rfl (Nat.le_of_ble_eq_true rfl) (by decide) dX0_run_10 (fun hM10 => ?_)
  refine r_ild3 dX0_run_13 ?_
  refine r_iconst dX0_run_14 ?_
  refine r_iadd dX0_run_15 ?_
  refine r_ist4 dX0_run_16 rfl ?_
  refine r_ild1 dX0_run_18 ?_
  refine r_tabIn 219 dX0_run_19 (by omega) (by omega) (by rfl) (by decide) ?_
  refine r_iconst dX0_run_219 ?_
  refine r_ald0 dX0_run_220 ?_
  refine r_bipush dX0_run_221 (by decide +kernel) ?_
  refine r_ild2 dX0_run_223 ?_
  refine r_ild4 dX0_run_224 ?_
  refine s_callS4r hM10 (c_r21 E (by omega) (by omega) (by first | with_reducible assumption | omega | exact lvM_b (by first | with_reducible assumption | exact lvM_b (by first | with_reducible assumption | exact lvM_b (by first | with_reducible assumption | exact lvM_b (by with_reducible assumption)))))) cs_X0_run wM_X0_34 (Nat.le_of_ble_eq_true rfl) (by decide) dX0_run_226 (fun hM226 => ?_)
  refine r_imul dX0_run_229 ?_
  exact s_iret hM226 rfl dX0_run_230 (by simp (disch := omega) only [lvM_ne]) (by rfl)
set_option maxHeartbeats 4000000 in
theorem c_r11_1 (E : xE) {M : xMem} {s dep : Int} (hs : 0 ≤ s ∧ s ≤ 5) (hdp : 0 ≤ dep ∧ dep ≤ 13) (htr : 0 ≤ M 161 3 ∧ M 161 3 ≤ 16) (hkd : M 5 s.toNat = 1) : Ct E mX0_run 5 4 [xr E 161, xi 11, xi s, xi dep] M (some (xi (M 7 s.toNat + (s + M 9 7)))) (lvM (lvM (lvM (lvM M 11) 10) 21) 20) := by
  refine Ct.of 1 5 (by rfl) (by decide +kernel) (fun hM => ?_)
  show VS E mX0_run 4 _ _ 0 [some (xr E 161), some (xi 11), some (xi s), some (xi dep), none] [] M
  refine r_ild3 dX0_run_0 ?_
  refine r_bipush dX0_run_1 (by decide +kernel) ?_
  refine r_icmp_le 8 dX0_run_3 (by decide) (by omega) (by omega) (fun c3 => ?_) (fun c3 => by exfalso; omega)
  refine r_ald0 dX0_run_8 ?_
  refine r_ild1 dX0_run_9 ?_
  refine s_callV1v hM (c_X0_leave E (by first | with_reducible assumption | with_reducible exact xSt_9 | with_reducible exact xSt_13 | omega) (by first | with_reducible assumption | with_reducible exact xSt_9 | with_reducible exact xSt_13 | omega)) cv_X0_leave wM_X0_49 (sh_161) rfl rfl (Nat.le_of_ble_eq_true rfl) (by decide) dX0_run_10 (fun hM10 => ?_)
  refine r_ild3 dX0_run_13 ?_
  refine r_iconst dX0_run_14 ?_
  refine r_iadd dX0_run_15 ?_
  refine r_ist4 dX0_run_16 rfl ?_
  refine r_ild1 dX0_run_18 ?_
  refine r_tabIn 102 dX0_run_19 (by omega) (by omega) (by rfl) (by decide) ?_
  refine r_ald0 dX0_run_102 ?_
  refine r_bipush dX0_run_103 (by decide +kernel) ?_
  refine r_ild2 dX0_run_105 ?_
  refine r_ild4 dX0_run_106 ?_
  refine s_callS4r hM10 (c_r10 E (by omega) (by omega) (by first | with_reducible assumption | omega | exact lvM_b (by first | with_reducible assumption | exact lvM_b (by first | with_reducible assumption | exact lvM_b (by first | with_reducible assumption | exact lvM_b (by with_reducible assumption)))))) cs_X0_run wM_X0_34 (Nat.le_of_ble_eq_true rfl) (by decide) dX0_run_108 (fun hM108 => ?_)
  refine r_ald0 dX0_run_111 ?_
  refine r_ald0 dX0_run_112 ?_
  refine r_ild2 dX0_run_113 ?_
  refine s_callV1r hM108 (c_X0_markBody E (by omega) (by simp (disch := omega) only [lvM_ne]; omega)) cv_X0_markBody wM_X0_31 (sh_161) rfl rfl (Nat.le_of_ble_eq_true rfl) (by decide) dX0_run_114 (fun _ => ?_)
  simp (disch := omega) only [lvM_ne, hkd]
  refine r_ild2 dX0_run_117 ?_
  refine r_ild4 dX0_run_118 ?_
  refine s_callS4r hM108 (c_r21 E (by omega) (by omega) (by first | with_reducible assumption | omega | exact lvM_b (by first | with_reducible assumption | exact lvM_b (by first | with_reducible assumption | exact lvM_b (by first | with_reducible assumption | exact lvM_b (by with_reducible assumption)))))) cs_X0_run wM_X0_34 (Nat.le_of_ble_eq_true rfl) (by decide) dX0_run_120 (fun hM120 => ?_)
  refine r_iadd dX0_run_123 ?_
  exact s_iret hM120 rfl dX0_run_124 (by simp (disch := omega) only [lvM_ne]) (by rfl)
set_option maxHeartbeats 4000000 in
theorem c_r11_2 (E : xE) {M : xMem} {s dep : Int} (hs : 0 ≤ s ∧ s ≤ 5) (hdp : 0 ≤ dep ∧ dep ≤ 13) (htr : 0 ≤ M 161 3 ∧ M 161 3 ≤ 16) (hkd : M 5 s.toNat = 2) : Ct E mX0_run 5 4 [xr E 161, xi 11, xi s, xi dep] M (some (xi (M 7 s.toNat + (2 * (s + M 9 7))))) (lvM (lvM (lvM (lvM (lvM M 11) 10) 24) 21) 20) := by
  refine Ct.of 1 5 (by rfl) (by decide +kernel) (fun hM => ?_)
  show VS E mX0_run 4 _ _ 0 [some (xr E 161), some (xi 11), some (xi s), some (xi dep), none] [] M
  refine r_ild3 dX0_run_0 ?_
  refine r_bipush dX0_run_1 (by decide +kernel) ?_
  refine r_icmp_le 8 dX0_run_3 (by decide) (by omega) (by omega) (fun c3 => ?_) (fun c3 => by exfalso; omega)
  refine r_ald0 dX0_run_8 ?_
  refine r_ild1 dX0_run_9 ?_
  refine s_callV1v hM (c_X0_leave E (by first | with_reducible assumption | with_reducible exact xSt_9 | with_reducible exact xSt_13 | omega) (by first | with_reducible assumption | with_reducible exact xSt_9 | with_reducible exact xSt_13 | omega)) cv_X0_leave wM_X0_49 (sh_161) rfl rfl (Nat.le_of_ble_eq_true rfl) (by decide) dX0_run_10 (fun hM10 => ?_)
  refine r_ild3 dX0_run_13 ?_
  refine r_iconst dX0_run_14 ?_
  refine r_iadd dX0_run_15 ?_
  refine r_ist4 dX0_run_16 rfl ?_
  refine r_ild1 dX0_run_18 ?_
  refine r_tabIn 102 dX0_run_19 (by omega) (by omega) (by rfl) (by decide) ?_
  refine r_ald0 dX0_run_102 ?_
  refine r_bipush dX0_run_103 (by decide +kernel) ?_
  refine r_ild2 dX0_run_105 ?_
  refine r_ild4 dX0_run_106 ?_
  refine s_callS4r hM10 (c_r10 E (by omega) (by omega) (by first | with_reducible assumption | omega | exact lvM_b (by first | with_reducible assumption | exact lvM_b (by first | with_reducible assumption | exact lvM_b (by first | with_reducible assumption | exact lvM_b (by with_reducible assumption)))))) cs_X0_run wM_X0_34 (Nat.le_of_ble_eq_true rfl) (by decide) dX0_run_108 (fun hM108 => ?_)
  refine r_ald0 dX0_run_111 ?_
  refine r_ald0 dX0_run_112 ?_
  refine r_ild2 dX0_run_113 ?_
  refine s_callV1r hM108 (c_X0_markBody E (by omega) (by simp (disch := omega) only [lvM_ne]; omega)) cv_X0_markBody wM_X0_31 (sh_161) rfl rfl (Nat.le_of_ble_eq_true rfl) (by decide) dX0_run_114 (fun _ => ?_)
  simp (disch := omega) only [lvM_ne, hkd]
  refine r_ild2 dX0_run_117 ?_
  refine r_ild4 dX0_run_118 ?_
  refine s_callS4r hM108 (c_r24 E (by omega) (by omega) (by first | with_reducible assumption | omega | exact lvM_b (by first | with_reducible assumption | exact lvM_b (by first | with_reducible assumption | exact lvM_b (by first | with_reducible assumption | exact lvM_b (by with_reducible assumption)))))) cs_X0_run wM_X0_34 (Nat.le_of_ble_eq_true rfl) (by decide) dX0_run_120 (fun hM120 => ?_)
  refine r_iadd dX0_run_123 ?_
  exact s_iret hM120 rfl dX0_run_124 (by simp (disch := omega) only [lvM_ne]) (by rfl)
set_option maxHeartbeats 4000000 in
theorem c_r11_3 (E : xE) {M : xMem} {s dep : Int} (hs : 0 ≤ s ∧ s ≤ 5) (hdp : 0 ≤ dep ∧ dep ≤ 13) (htr : 0 ≤ M 161 3 ∧ M 161 3 ≤ 16) (hkd : M 5 s.toNat = 3) : Ct E mX0_run 5 4 [xr E 161, xi 11, xi s, xi dep] M (some (xi (M 7 s.toNat + (s + M 9 7 - 1000)))) (lvM (lvM (lvM (lvM (lvM M 11) 10) 22) 21) 20) := by
  refine Ct.of 1 5 (by rfl) (by decide +kernel) (fun hM => ?_)
  show VS E mX0_run 4 _ _ 0 [some (xr E 161), some (xi 11), some (xi s), some (xi dep), none] [] M
  refine r_ild3 dX0_run_0 ?_
  refine r_bipush dX0_run_1 (by decide +kernel) ?_
  refine r_icmp_le 8 dX0_run_3 (by decide) (by omega) (by omega) (fun c3 => ?_) (fun c3 => by exfalso; omega)
  refine r_ald0 dX0_run_8 ?_
  refine r_ild1 dX0_run_9 ?_
  refine s_callV1v hM (c_X0_leave E (by first | with_reducible assumption | with_reducible exact xSt_9 | with_reducible exact xSt_13 | omega) (by first | with_reducible assumption | with_reducible exact xSt_9 | with_reducible exact xSt_13 | omega)) cv_X0_leave wM_X0_49 (sh_161) rfl rfl (Nat.le_of_ble_eq_true rfl) (by decide) dX0_run_10 (fun hM10 => ?_)
  refine r_ild3 dX0_run_13 ?_
  refine r_iconst dX0_run_14 ?_
  refine r_iadd dX0_run_15 ?_
  refine r_ist4 dX0_run_16 rfl ?_
  refine r_ild1 dX0_run_18 ?_
  refine r_tabIn 102 dX0_run_19 (by omega) (by omega) (by rfl) (by decide) ?_
  refine r_ald0 dX0_run_102 ?_
  refine r_bipush dX0_run_103 (by decide +kernel) ?_
  refine r_ild2 dX0_run_105 ?_
  refine r_ild4 dX0_run_106 ?_
  refine s_callS4r hM10 (c_r10 E (by omega) (by omega) (by first | with_reducible assumption | omega | exact lvM_b (by first | with_reducible assumption | exact lvM_b (by first | with_reducible assumption | exact lvM_b (by first | with_reducible assumption | exact lvM_b (by with_reducible assumption)))))) cs_X0_run wM_X0_34 (Nat.le_of_ble_eq_true rfl) (by decide) dX0_run_108 (fun hM108 => ?_)
  refine r_ald0 dX0_run_111 ?_
  refine r_ald0 dX0_run_112 ?_
  refine r_ild2 dX0_run_113 ?_
  refine s_callV1r hM108 (c_X0_markBody E (by omega) (by simp (disch := omega) only [lvM_ne]; omega)) cv_X0_markBody wM_X0_31 (sh_161) rfl rfl (Nat.le_of_ble_eq_true rfl) (by decide) dX0_run_114 (fun _ => ?_)
  simp (disch := omega) only [lvM_ne, hkd]
  refine r_ild2 dX0_run_117 ?_
  refine r_ild4 dX0_run_118 ?_
  refine s_callS4r hM108 (c_r22 E (by omega) (by omega) (by first | with_reducible assumption | omega | exact lvM_b (by first | with_reducible assumption | exact lvM_b (by first | with_reducible assumption | exact lvM_b (by first | with_reducible assumption | exact lvM_b (by with_reducible assumption)))))) cs_X0_run wM_X0_34 (Nat.le_of_ble_eq_true rfl) (by decide) dX0_run_120 (fun hM120 => ?_)
  refine r_iadd dX0_run_123 ?_
  exact s_iret hM120 rfl dX0_run_124 (by simp (disch := omega) only [lvM_ne]) (by rfl)
set_option maxHeartbeats 4000000 in
theorem c_r12 (E : xE) {M : xMem} {s dep : Int} (hs : 0 ≤ s ∧ s ≤ 5) (hdp : 0 ≤ dep ∧ dep ≤ 12) (htr : 0 ≤ M 161 3 ∧ M 161 3 ≤ 16) (hkd : M 5 s.toNat = 2) : Ct E mX0_run 5 5 [xr E 161, xi 12, xi s, xi dep] M (some (xi (0 - (M 7 s.toNat + (2 * (s + M 9 7)))))) (lvM (lvM (lvM (lvM (lvM (lvM M 12) 11) 10) 24) 21) 20) := by
  refine Ct.of 1 5 (by rfl) (by decide +kernel) (fun hM => ?_)
  show VS E mX0_run 5 _ _ 0 [some (xr E 161), some (xi 12), some (xi s), some (xi dep), none] [] M
  refine r_ild3 dX0_run_0 ?_
  refine r_bipush dX0_run_1 (by decide +kernel) ?_
  refine r_icmp_le 8 dX0_run_3 (by decide) (by omega) (by omega) (fun c3 => ?_) (fun c3 => by exfalso; omega)
  refine r_ald0 dX0_run_8 ?_
  refine r_ild1 dX0_run_9 ?_
  refine s_callV1v hM (c_X0_leave E (by first | with_reducible assumption | with_reducible exact xSt_9 | with_reducible exact xSt_13 | omega) (by first | with_reducible assumption | with_reducible exact xSt_9 | with_reducible exact xSt_13 | omega)) cv_X0_leave wM_X0_49 (sh_161) rfl rfl (Nat.le_of_ble_eq_true rfl) (by decide) dX0_run_10 (fun hM10 => ?_)
  refine r_ild3 dX0_run_13 ?_
  refine r_iconst dX0_run_14 ?_
  refine r_iadd dX0_run_15 ?_
  refine r_ist4 dX0_run_16 rfl ?_
  refine r_ild1 dX0_run_18 ?_
  refine r_tabIn 125 dX0_run_19 (by omega) (by omega) (by rfl) (by decide) ?_
  refine r_iconst dX0_run_125 ?_
  refine r_ald0 dX0_run_126 ?_
  refine r_bipush dX0_run_127 (by decide +kernel) ?_
  refine r_ild2 dX0_run_129 ?_
  refine r_ild4 dX0_run_130 ?_
  refine s_callS4r hM10 (c_r11_2 E (by omega) (by omega) (by first | with_reducible assumption | omega | exact lvM_b (by first | with_reducible assumption | exact lvM_b (by first | with_reducible assumption | exact lvM_b (by first | with_reducible assumption | exact lvM_b (by with_reducible assumption))))) (by first | with_reducible assumption | (simp (disch := omega) only [lvM_ne]; exact hkd))) cs_X0_run wM_X0_34 (Nat.le_of_ble_eq_true rfl) (by decide) dX0_run_132 (fun hM132 => ?_)
  refine r_isub dX0_run_135 ?_
  exact s_iret hM132 rfl dX0_run_136 (by simp (disch := omega) only [lvM_ne]) (by rfl)
set_option maxHeartbeats 4000000 in
theorem c_r13 (E : xE) {M : xMem} {s dep : Int} (hs : 0 ≤ s ∧ s ≤ 5) (hdp : 0 ≤ dep ∧ dep ≤ 15) (htr : 0 ≤ M 161 3 ∧ M 161 3 ≤ 16) : Ct E mX0_run 5 2 [xr E 161, xi 13, xi s, xi dep] M (some (xi (M 7 s.toNat - 100))) (lvM (lvM M 13) 10) := by
  refine Ct.of 1 5 (by rfl) (by decide +kernel) (fun hM => ?_)
  show VS E mX0_run 2 _ _ 0 [some (xr E 161), some (xi 13), some (xi s), some (xi dep), none] [] M
  refine r_ild3 dX0_run_0 ?_
  refine r_bipush dX0_run_1 (by decide +kernel) ?_
  refine r_icmp_le 8 dX0_run_3 (by decide) (by omega) (by omega) (fun c3 => ?_) (fun c3 => by exfalso; omega)
  refine r_ald0 dX0_run_8 ?_
  refine r_ild1 dX0_run_9 ?_
  refine s_callV1v hM (c_X0_leave E (by first | with_reducible assumption | with_reducible exact xSt_9 | with_reducible exact xSt_13 | omega) (by first | with_reducible assumption | with_reducible exact xSt_9 | with_reducible exact xSt_13 | omega)) cv_X0_leave wM_X0_49 (sh_161) rfl rfl (Nat.le_of_ble_eq_true rfl) (by decide) dX0_run_10 (fun hM10 => ?_)
  refine r_ild3 dX0_run_13 ?_
  refine r_iconst dX0_run_14 ?_
  refine r_iadd dX0_run_15 ?_
  refine r_ist4 dX0_run_16 rfl ?_
  refine r_ild1 dX0_run_18 ?_
  refine r_tabIn 137 dX0_run_19 (by omega) (by omega) (by rfl) (by decide) ?_
  refine r_ald0 dX0_run_137 ?_
  refine r_bipush dX0_run_138 (by decide +kernel) ?_
  refine r_ild2 dX0_run_140 ?_
  refine r_ild4 dX0_run_141 ?_
  refine s_callS4r hM10 (c_r10 E (by omega) (by omega) (by first | with_reducible assumption | omega | exact lvM_b (by first | with_reducible assumption | exact lvM_b (by first | with_reducible assumption | exact lvM_b (by first | with_reducible assumption | exact lvM_b (by with_reducible assumption)))))) cs_X0_run wM_X0_34 (Nat.le_of_ble_eq_true rfl) (by decide) dX0_run_143 (fun hM143 => ?_)
  refine r_bipush dX0_run_146 (by decide +kernel) ?_
  refine r_isub dX0_run_148 ?_
  exact s_iret hM143 rfl dX0_run_149 (by simp (disch := omega) only [lvM_ne]) (by rfl)
set_option maxHeartbeats 4000000 in
theorem c_r14 (E : xE) {M : xMem} {s dep : Int} (hs : 0 ≤ s ∧ s ≤ 5) (hdp : 0 ≤ dep ∧ dep ≤ 14) (htr : 0 ≤ M 161 3 ∧ M 161 3 ≤ 16) : Ct E mX0_run 5 3 [xr E 161, xi 14, xi s, xi dep] M (some (xi (2 * (M 7 s.toNat - 100)))) (lvM (lvM (lvM M 14) 13) 10) := by
  refine Ct.of 1 5 (by rfl) (by decide +kernel) (fun hM => ?_)
  show VS E mX0_run 3 _ _ 0 [some (xr E 161), some (xi 14), some (xi s), some (xi dep), none] [] M
  refine r_ild3 dX0_run_0 ?_
  refine r_bipush dX0_run_1 (by decide +kernel) ?_
  refine r_icmp_le 8 dX0_run_3 (by decide) (by omega) (by omega) (fun c3 => ?_) (fun c3 => by exfalso; omega)
  refine r_ald0 dX0_run_8 ?_
  refine r_ild1 dX0_run_9 ?_
  refine s_callV1v hM (c_X0_leave E (by first | with_reducible assumption | with_reducible exact xSt_9 | with_reducible exact xSt_13 | omega) (by first | with_reducible assumption | with_reducible exact xSt_9 | with_reducible exact xSt_13 | omega)) cv_X0_leave wM_X0_49 (sh_161) rfl rfl (Nat.le_of_ble_eq_true rfl) (by decide) dX0_run_10 (fun hM10 => ?_)
  refine r_ild3 dX0_run_13 ?_
  refine r_iconst dX0_run_14 ?_
  refine r_iadd dX0_run_15 ?_
  refine r_ist4 dX0_run_16 rfl ?_
  refine r_ild1 dX0_run_18 ?_
  refine r_tabIn 150 dX0_run_19 (by omega) (by omega) (by rfl) (by decide) ?_
  refine r_iconst dX0_run_150 ?_
  refine r_ald0 dX0_run_151 ?_
  refine r_bipush dX0_run_152 (by decide +kernel) ?_
  refine r_ild2 dX0_run_154 ?_
  refine r_ild4 dX0_run_155 ?_
  refine s_callS4r hM10 (c_r13 E (by omega) (by omega) (by first | with_reducible assumption | omega | exact lvM_b (by first | with_reducible assumption | exact lvM_b (by first | with_reducible assumption | exact lvM_b (by first | with_reducible assumption | exact lvM_b (by with_reducible assumption)))))) cs_X0_run wM_X0_34 (Nat.le_of_ble_eq_true rfl) (by decide) dX0_run_157 (fun hM157 => ?_)
  refine r_imul dX0_run_160 ?_
  exact s_iret hM157 rfl dX0_run_161 (by simp (disch := omega) only [lvM_ne]) (by rfl)
set_option maxHeartbeats 4000000 in
theorem c_r23_4 (E : xE) {M : xMem} {s dep : Int} (hs : 0 ≤ s ∧ s ≤ 5) (hdp : 0 ≤ dep ∧ dep ≤ 13) (htr : 0 ≤ M 161 3 ∧ M 161 3 ≤ 16) (hkd : M 5 s.toNat = 4) : Ct E mX0_run 5 4 [xr E 161, xi 23, xi s, xi dep] M (some (xi (s - (M 7 s.toNat - 100)))) (lvM (lvM (lvM (lvM M 23) 20) 13) 10) := by
  refine Ct.of 1 5 (by rfl) (by decide +kernel) (fun hM => ?_)
  show VS E mX0_run 4 _ _ 0 [some (xr E 161), some (xi 23), some (xi s), some (xi dep), none] [] M
  refine r_ild3 dX0_run_0 ?_
  refine r_bipush dX0_run_1 (by decide +kernel) ?_
  refine r_icmp_le 8 dX0_run_3 (by decide) (by omega) (by omega) (fun c3 => ?_) (fun c3 => by exfalso; omega)
  refine r_ald0 dX0_run_8 ?_
  refine r_ild1 dX0_run_9 ?_
  refine s_callV1v hM (c_X0_leave E (by first | with_reducible assumption | with_reducible exact xSt_9 | with_reducible exact xSt_13 | omega) (by first | with_reducible assumption | with_reducible exact xSt_9 | with_reducible exact xSt_13 | omega)) cv_X0_leave wM_X0_49 (sh_161) rfl rfl (Nat.le_of_ble_eq_true rfl) (by decide) dX0_run_10 (fun hM10 => ?_)
  refine r_ild3 dX0_run_13 ?_
  refine r_iconst dX0_run_14 ?_
  refine r_iadd dX0_run_15 ?_
  refine r_ist4 dX0_run_16 rfl ?_
  refine r_ild1 dX0_run_18 ?_
  refine r_tabIn 196 dX0_run_19 (by omega) (by omega) (by rfl) (by decide) ?_
  refine r_ald0 dX0_run_196 ?_
  refine r_bipush dX0_run_197 (by decide +kernel) ?_
  refine r_ild2 dX0_run_199 ?_
  refine r_ild4 dX0_run_200 ?_
  refine s_callS4r hM10 (c_r20 E (by omega) (by omega) (by first | with_reducible assumption | omega | exact lvM_b (by first | with_reducible assumption | exact lvM_b (by first | with_reducible assumption | exact lvM_b (by first | with_reducible assumption | exact lvM_b (by with_reducible assumption)))))) cs_X0_run wM_X0_34 (Nat.le_of_ble_eq_true rfl) (by decide) dX0_run_202 (fun hM202 => ?_)
  refine r_ald0 dX0_run_205 ?_
  refine r_ald0 dX0_run_206 ?_
  refine r_ild2 dX0_run_207 ?_
  refine s_callV1r hM202 (c_X0_sizeBody E (by omega) (by simp (disch := omega) only [lvM_ne]; omega)) cv_X0_sizeBody wM_X0_27 (sh_161) rfl rfl (Nat.le_of_ble_eq_true rfl) (by decide) dX0_run_208 (fun _ => ?_)
  simp (disch := omega) only [lvM_ne, hkd]
  refine r_ild2 dX0_run_211 ?_
  refine r_ild4 dX0_run_212 ?_
  refine s_callS4r hM202 (c_r13 E (by omega) (by omega) (by first | with_reducible assumption | omega | exact lvM_b (by first | with_reducible assumption | exact lvM_b (by first | with_reducible assumption | exact lvM_b (by first | with_reducible assumption | exact lvM_b (by with_reducible assumption)))))) cs_X0_run wM_X0_34 (Nat.le_of_ble_eq_true rfl) (by decide) dX0_run_214 (fun hM214 => ?_)
  refine r_isub dX0_run_217 ?_
  exact s_iret hM214 rfl dX0_run_218 (by simp (disch := omega) only [lvM_ne]) (by rfl)
set_option maxHeartbeats 4000000 in
theorem c_r23_5 (E : xE) {M : xMem} {s dep : Int} (hs : 0 ≤ s ∧ s ≤ 5) (hdp : 0 ≤ dep ∧ dep ≤ 13) (htr : 0 ≤ M 161 3 ∧ M 161 3 ≤ 16) (hkd : M 5 s.toNat = 5) : Ct E mX0_run 5 4 [xr E 161, xi 23, xi s, xi dep] M (some (xi (s - (2 * (M 7 s.toNat - 100))))) (lvM (lvM (lvM (lvM (lvM M 23) 20) 14) 13) 10) := by
  refine Ct.of 1 5 (by rfl) (by decide +kernel) (fun hM => ?_)
  show VS E mX0_run 4 _ _ 0 [some (xr E 161), some (xi 23), some (xi s), some (xi dep), none] [] M
  refine r_ild3 dX0_run_0 ?_
  refine r_bipush dX0_run_1 (by decide +kernel) ?_
  refine r_icmp_le 8 dX0_run_3 (by decide) (by omega) (by omega) (fun c3 => ?_) (fun c3 => by exfalso; omega)
  refine r_ald0 dX0_run_8 ?_
  refine r_ild1 dX0_run_9 ?_
  refine s_callV1v hM (c_X0_leave E (by first | with_reducible assumption | with_reducible exact xSt_9 | with_reducible exact xSt_13 | omega) (by first | with_reducible assumption | with_reducible exact xSt_9 | with_reducible exact xSt_13 | omega)) cv_X0_leave wM_X0_49 (sh_161) rfl rfl (Nat.le_of_ble_eq_true rfl) (by decide) dX0_run_10 (fun hM10 => ?_)
  refine r_ild3 dX0_run_13 ?_
  refine r_iconst dX0_run_14 ?_
  refine r_iadd dX0_run_15 ?_
  refine r_ist4 dX0_run_16 rfl ?_
  refine r_ild1 dX0_run_18 ?_
  refine r_tabIn 196 dX0_run_19 (by omega) (by omega) (by rfl) (by decide) ?_
  refine r_ald0 dX0_run_196 ?_
  refine r_bipush dX0_run_197 (by decide +kernel) ?_
  refine r_ild2 dX0_run_199 ?_
  refine r_ild4 dX0_run_200 ?_
  refine s_callS4r hM10 (c_r20 E (by omega) (by omega) (by first | with_reducible assumption | omega | exact lvM_b (by first | with_reducible assumption | exact lvM_b (by first | with_reducible assumption | exact lvM_b (by first | with_reducible assumption | exact lvM_b (by with_reducible assumption)))))) cs_X0_run wM_X0_34 (Nat.le_of_ble_eq_true rfl) (by decide) dX0_run_202 (fun hM202 => ?_)
  refine r_ald0 dX0_run_205 ?_
  refine r_ald0 dX0_run_206 ?_
  refine r_ild2 dX0_run_207 ?_
  refine s_callV1r hM202 (c_X0_sizeBody E (by omega) (by simp (disch := omega) only [lvM_ne]; omega)) cv_X0_sizeBody wM_X0_27 (sh_161) rfl rfl (Nat.le_of_ble_eq_true rfl) (by decide) dX0_run_208 (fun _ => ?_)
  simp (disch := omega) only [lvM_ne, hkd]
  refine r_ild2 dX0_run_211 ?_
  refine r_ild4 dX0_run_212 ?_
  refine s_callS4r hM202 (c_r14 E (by omega) (by omega) (by first | with_reducible assumption | omega | exact lvM_b (by first | with_reducible assumption | exact lvM_b (by first | with_reducible assumption | exact lvM_b (by first | with_reducible assumption | exact lvM_b (by with_reducible assumption)))))) cs_X0_run wM_X0_34 (Nat.le_of_ble_eq_true rfl) (by decide) dX0_run_214 (fun hM214 => ?_)
  refine r_isub dX0_run_217 ?_
  exact s_iret hM214 rfl dX0_run_218 (by simp (disch := omega) only [lvM_ne]) (by rfl)
