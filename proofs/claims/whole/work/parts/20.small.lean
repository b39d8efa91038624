set_option maxHeartbeats 4000000 in
theorem c_X10_in (E : xE) {M : xMem} {v lo hi : Int} (hv : -2147483648 ≤ v ∧ v < 2147483648) (hlo : -2147483648 ≤ lo ∧ lo < 2147483648) (hhi : -2147483648 ≤ hi ∧ hi < 2147483648) : Ct E mX10_in 3 0 [xi v, xi lo, xi hi] M (some (xi (b2i (lo ≤ v ∧ v ≤ hi)))) (M) := by
  refine Ct.of 0 3 (by rfl) (by decide +kernel) (fun hM => ?_)
  show VS E mX10_in 0 _ _ 0 [some (xi v), some (xi lo), some (xi hi)] [] M
  refine r_ild0 dX10_in_0 ?_
  refine r_ild1 dX10_in_1 ?_
  refine r_icmp_lt 14 dX10_in_2 (by decide) (by omega) (by omega) (fun c2 => ?_) (fun c2 => ?_)
  · skip
    refine r_iconst dX10_in_14 ?_
    exact s_zret hM rfl (by omega) dX10_in_15 (by unfold b2i; split <;> omega) (by rfl)
  refine r_ild0 dX10_in_5 ?_
  refine r_ild2 dX10_in_6 ?_
  refine r_icmp_gt 14 dX10_in_7 (by decide) (by omega) (by omega) (fun c7 => ?_) (fun c7 => ?_)
  · skip
    refine r_iconst dX10_in_14 ?_
    exact s_zret hM rfl (by omega) dX10_in_15 (by unfold b2i; split <;> omega) (by rfl)
  refine r_iconst dX10_in_10 ?_
  refine r_goto 15 dX10_in_11 (by decide) ?_
  exact s_zret hM rfl (by omega) dX10_in_15 (by unfold b2i; split <;> omega) (by rfl)
set_option maxHeartbeats 4000000 in
theorem c_X9_within (E : xE) {M : xMem} {v lo hi : Int} (hv : -2147483648 ≤ v ∧ v < 2147483648) (hlo : -2147483648 ≤ lo ∧ lo < 2147483648) (hhi : -2147483648 ≤ hi ∧ hi < 2147483648) : Ct E mX9_within 3 0 [xi v, xi lo, xi hi] M (some (xi (b2i (lo ≤ v ∧ v ≤ hi)))) (M) := by
  refine Ct.of 0 3 (by rfl) (by decide +kernel) (fun hM => ?_)
  show VS E mX9_within 0 _ _ 0 [some (xi v), some (xi lo), some (xi hi)] [] M
  refine r_ild0 dX9_within_0 ?_
  refine r_ild1 dX9_within_1 ?_
  refine r_icmp_lt 14 dX9_within_2 (by decide) (by omega) (by omega) (fun c2 => ?_) (fun c2 => ?_)
  · skip
    refine r_iconst dX9_within_14 ?_
    exact s_zret hM rfl (by omega) dX9_within_15 (by unfold b2i; split <;> omega) (by rfl)
  refine r_ild0 dX9_within_5 ?_
  refine r_ild2 dX9_within_6 ?_
  refine r_icmp_gt 14 dX9_within_7 (by decide) (by omega) (by omega) (fun c7 => ?_) (fun c7 => ?_)
  · skip
    refine r_iconst dX9_within_14 ?_
    exact s_zret hM rfl (by omega) dX9_within_15 (by unfold b2i; split <;> omega) (by rfl)
  refine r_iconst dX9_within_10 ?_
  refine r_goto 15 dX9_within_11 (by decide) ?_
  exact s_zret hM rfl (by omega) dX9_within_15 (by unfold b2i; split <;> omega) (by rfl)
set_option maxHeartbeats 4000000 in
theorem c_X9_isRow (E : xE) {M : xMem} {v : Int} (hv : -2147483648 ≤ v ∧ v < 2147483648) : Ct E mX9_isRow 1 0 [xi v] M (some (xi (b2i (0 ≤ v ∧ v ≤ 7)))) (M) := by
  refine Ct.of 0 1 (by rfl) (by decide +kernel) (fun hM => ?_)
  show VS E mX9_isRow 0 _ _ 0 [some (xi v)] [] M
  refine r_ild0 dX9_isRow_0 ?_
  refine r_if_lt 14 dX9_isRow_1 (by decide) (by omega) (fun c1 => ?_) (fun c1 => ?_)
  · skip
    refine r_iconst dX9_isRow_14 ?_
    exact s_zret hM rfl (by omega) dX9_isRow_15 (by unfold b2i; split <;> omega) (by rfl)
  refine r_ild0 dX9_isRow_4 ?_
  refine r_bipush dX9_isRow_5 (by decide +kernel) ?_
  refine r_icmp_ge 14 dX9_isRow_7 (by decide) (by omega) (by omega) (fun c7 => ?_) (fun c7 => ?_)
  · skip
    refine r_iconst dX9_isRow_14 ?_
    exact s_zret hM rfl (by omega) dX9_isRow_15 (by unfold b2i; split <;> omega) (by rfl)
  refine r_iconst dX9_isRow_10 ?_
  refine r_goto 15 dX9_isRow_11 (by decide) ?_
  exact s_zret hM rfl (by omega) dX9_isRow_15 (by unfold b2i; split <;> omega) (by rfl)
set_option maxHeartbeats 4000000 in
theorem c_X10_isRow (E : xE) {M : xMem} {v : Int} (hv : -2147483648 ≤ v ∧ v < 2147483648) : Ct E mX10_isRow 1 1 [xi v] M (some (xi (b2i (0 ≤ v ∧ v ≤ 7)))) (M) := by
  refine Ct.of 0 1 (by rfl) (by decide +kernel) (fun hM => ?_)
  show VS E mX10_isRow 1 _ _ 0 [some (xi v)] [] M
  refine r_ild0 dX10_isRow_0 ?_
  refine r_iconst dX10_isRow_1 ?_
  refine r_bipush dX10_isRow_2 (by decide +kernel) ?_
  refine s_callS3r hM (c_X10_in E (by first | with_reducible assumption | with_reducible exact xSt_9 | with_reducible exact xSt_13 | omega) (by first | with_reducible assumption | with_reducible exact xSt_9 | with_reducible exact xSt_13 | omega) (by first | with_reducible assumption | with_reducible exact xSt_9 | with_reducible exact xSt_13 | omega)) cs_X10_in wM_X10_70 (Nat.le_of_ble_eq_true rfl) (by decide) dX10_isRow_4 (fun _ => ?_)
  exact s_zret hM rfl (by have := @b2i_rg; unfold b2i; split <;> simp) dX10_isRow_7 (by rfl) (by rfl)
set_option maxHeartbeats 4000000 in
theorem c_X9_found (E : xE) {M : xMem} {v : Int} (hv : 0 ≤ v ∧ v ≤ 10) : Ct E mX9_found 2 0 [xr E 0, xi v] M (some (xi (-1000010 - v))) (mS M 0 10 v) := by
  refine Ct.of 0 2 (by rfl) (by decide +kernel) (fun hM => ?_)
  show VS E mX9_found 0 _ _ 0 [some (xr E 0), some (xi v)] [] M
  refine r_ald0 dX9_found_0 ?_
  refine r_ild1 dX9_found_1 ?_
  refine s_putI hM fp_X9_362 (sh_0) rfl (by omega) dX9_found_2 (fun hM2 => ?_)
  refine r_ldcw (-1000010) dX9_found_5 wC_X9_365 ?_
  refine r_ild1 dX9_found_8 ?_
  refine r_isub dX9_found_9 ?_
  exact s_iret hM2 rfl dX9_found_10 (by rfl) (by rfl)
set_option maxHeartbeats 4000000 in
theorem c_X9_fine (E : xE) {M : xMem} {v : Int}  : Ct E mX9_fine 2 0 [xr E 0, xi v] M (some (xi v)) (mS M 0 10 0) := by
  refine Ct.of 0 2 (by rfl) (by decide +kernel) (fun hM => ?_)
  show VS E mX9_fine 0 _ _ 0 [some (xr E 0), some (xi v)] [] M
  refine r_ald0 dX9_fine_0 ?_
  refine r_iconst dX9_fine_1 ?_
  refine s_putI hM fp_X9_362 (sh_0) rfl (by omega) dX9_fine_2 (fun hM2 => ?_)
  refine r_ild1 dX9_fine_5 ?_
  exact s_iret hM2 rfl dX9_fine_6 (by rfl) (by rfl)
set_option maxHeartbeats 4000000 in
theorem c_X9_noDuchy (E : xE) {M : xMem}   : Ct E mX9_noDuchy 1 0 [xr E 0] M (some (xi (b2i (M 3 6 = 0)))) (M) := by
  refine Ct.of 0 1 (by rfl) (by decide +kernel) (fun hM => ?_)
  show VS E mX9_noDuchy 0 _ _ 0 [some (xr E 0)] [] M
  refine r_ald0 dX9_noDuchy_0 ?_
  refine s_getR fi_X9_24 (sh_0) rfl dX9_noDuchy_1 ?_
  refine s_getI hM fi_X9_315 (sh_3) rfl dX9_noDuchy_4 (fun g4 => ?_)
  refine r_if_ne 14 dX9_noDuchy_7 (by decide) (by omega) (fun c7 => ?_) (fun c7 => ?_)
  · skip
    refine r_iconst dX9_noDuchy_14 ?_
    exact s_zret hM rfl (by omega) dX9_noDuchy_15 (by unfold b2i; split <;> omega) (by rfl)
  refine r_iconst dX9_noDuchy_10 ?_
  refine r_goto 15 dX9_noDuchy_11 (by decide) ?_
  exact s_zret hM rfl (by omega) dX9_noDuchy_15 (by unfold b2i; split <;> omega) (by rfl)
set_option maxHeartbeats 4000000 in
theorem c_X10_meets (E : xE) {M : xMem} {v : Int} (hv : 0 ≤ v ∧ v ≤ 10) : Ct E mX10_meets 2 0 [xr E 201, xi v] M (some (xi (-1000010 - v))) (mS M 201 3 v) := by
  refine Ct.of 0 2 (by rfl) (by decide +kernel) (fun hM => ?_)
  show VS E mX10_meets 0 _ _ 0 [some (xr E 201), some (xi v)] [] M
  refine r_ald0 dX10_meets_0 ?_
  refine r_ild1 dX10_meets_1 ?_
  refine s_putI hM fp_X10_65 (sh_201) rfl (by omega) dX10_meets_2 (fun hM2 => ?_)
  refine r_ldc (-1000010) dX10_meets_5 wC_X10_69 ?_
  refine r_ild1 dX10_meets_7 ?_
  refine r_isub dX10_meets_8 ?_
  exact s_iret hM2 rfl dX10_meets_9 (by rfl) (by rfl)
set_option maxHeartbeats 4000000 in
theorem c_X10_well (E : xE) {M : xMem} {v : Int}  : Ct E mX10_well 2 0 [xr E 201, xi v] M (some (xi v)) (mS M 201 3 0) := by
  refine Ct.of 0 2 (by rfl) (by decide +kernel) (fun hM => ?_)
  show VS E mX10_well 0 _ _ 0 [some (xr E 201), some (xi v)] [] M
  refine r_ald0 dX10_well_0 ?_
  refine r_iconst dX10_well_1 ?_
  refine s_putI hM fp_X10_65 (sh_201) rfl (by omega) dX10_well_2 (fun hM2 => ?_)
  refine r_ild1 dX10_well_5 ?_
  exact s_iret hM2 rfl dX10_well_6 (by rfl) (by rfl)
set_option maxHeartbeats 4000000 in
theorem c_X10_status (E : xE) {M : xMem}   : Ct E mX10_status 1 0 [xr E 201] M (some (xi (M 201 3))) (M) := by
  refine Ct.of 0 1 (by rfl) (by decide +kernel) (fun hM => ?_)
  show VS E mX10_status 0 _ _ 0 [some (xr E 201)] [] M
  refine r_ald0 dX10_status_0 ?_
  refine s_getI hM fi_X10_65 (sh_201) rfl dX10_status_1 (fun g1 => ?_)
  exact s_iret hM rfl dX10_status_4 (by rfl) (by rfl)
set_option maxHeartbeats 4000000 in
theorem c_X9_status (E : xE) {M : xMem}   : Ct E mX9_status 1 0 [xr E 0] M (some (xi (M 0 10))) (M) := by
  refine Ct.of 0 1 (by rfl) (by decide +kernel) (fun hM => ?_)
  show VS E mX9_status 0 _ _ 0 [some (xr E 0)] [] M
  refine r_ald0 dX9_status_0 ?_
  refine s_getI hM fi_X9_362 (sh_0) rfl dX9_status_1 (fun g1 => ?_)
  exact s_iret hM rfl dX9_status_4 (by rfl) (by rfl)
