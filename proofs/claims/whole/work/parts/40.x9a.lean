set_option maxHeartbeats 4000000 in
theorem c_X9_row (E : xE) {M : xMem} {r l n : Int} (hr : -2147483648 ≤ r ∧ r < 2147483648) (hl : -2147483648 ≤ l ∧ l < 2147483648) (hn : -2147483648 ≤ n ∧ n < 2147483648) : Ct E mX9_row 4 1 [xr E 0, xi r, xi l, xi n] M (some (xi ((xRow M r l n).1))) ((xRow M r l n).2) := by
  refine Ct.of 0 4 (by rfl) (by decide +kernel) (fun hM => ?_)
  show VS E mX9_row 1 _ _ 0 [some (xr E 0), some (xi r), some (xi l), some (xi n)] [] M
  refine r_ild1 dX9_row_0 ?_
  refine s_callS1r hM (c_X9_isRow E (by first | with_reducible assumption | with_reducible exact xSt_9 | with_reducible exact xSt_13 | omega)) cs_X9_isRow wM_X9_79 (Nat.le_of_ble_eq_true rfl) (by decide) dX9_row_1 (fun _ => ?_)
  refine r_ifb_eq 22 dX9_row_4 (by decide) (fun c4 => ?_) (fun c4 => ?_)
  · skip
    refine r_ldc (-1000001) dX9_row_22 wC_X9_87 ?_
    exact s_iret hM rfl dX9_row_24 (by unfold xRow fndX finX; (repeat' split) <;> first | rfl | omega | (exfalso; omega)) (by unfold xRow fndX finX; (repeat' split) <;> first | rfl | omega | (exfalso; omega))
  refine r_ild2 dX9_row_7 ?_
  refine r_iconst dX9_row_8 ?_
  refine r_iconst dX9_row_9 ?_
  refine s_callS3r hM (c_X9_within E (by first | with_reducible assumption | with_reducible exact xSt_9 | with_reducible exact xSt_13 | omega) (by first | with_reducible assumption | with_reducible exact xSt_9 | with_reducible exact xSt_13 | omega) (by first | with_reducible assumption | with_reducible exact xSt_9 | with_reducible exact xSt_13 | omega)) cs_X9_within wM_X9_83 (Nat.le_of_ble_eq_true rfl) (by decide) dX9_row_10 (fun _ => ?_)
  refine r_ifb_eq 22 dX9_row_13 (by decide) (fun c13 => ?_) (fun c13 => ?_)
  · skip
    refine r_ldc (-1000001) dX9_row_22 wC_X9_87 ?_
    exact s_iret hM rfl dX9_row_24 (by unfold xRow fndX finX; (repeat' split) <;> first | rfl | omega | (exfalso; omega)) (by unfold xRow fndX finX; (repeat' split) <;> first | rfl | omega | (exfalso; omega))
  refine r_ild3 dX9_row_16 ?_
  refine r_bipush dX9_row_17 (by decide +kernel) ?_
  refine r_icmp_le 25 dX9_row_19 (by decide) (by omega) (by omega) (fun c19 => ?_) (fun c19 => ?_)
  · skip
    refine r_ild3 dX9_row_25 ?_
    refine r_if_ge 35 dX9_row_26 (by decide) (by omega) (fun c26 => ?_) (fun c26 => ?_)
    · skip
      refine r_ald0 dX9_row_35 ?_
      refine s_getR fi_X9_11 (sh_0) rfl dX9_row_36 ?_
      refine r_ild1 dX9_row_39 ?_
      refine s_rows (by omega) dX9_row_40 (fun p40 ep40 hp40 => ?_)
      subst ep40
      refine r_ild2 dX9_row_41 ?_
      refine r_ild3 dX9_row_42 ?_
      refine s_callV2v hM (c_X5_begin E (by first | with_reducible assumption | with_reducible exact xSt_9 | with_reducible exact xSt_13 | omega) (by first | with_reducible assumption | with_reducible exact xSt_9 | with_reducible exact xSt_13 | omega) (by first | with_reducible assumption | with_reducible exact xSt_9 | with_reducible exact xSt_13 | omega)) cv_X5_begin wM_X9_92 (hp40.1) rfl rfl (Nat.le_of_ble_eq_true rfl) (by decide) dX9_row_43 (fun hM43 => ?_)
      refine r_ald0 dX9_row_46 ?_
      refine r_ild3 dX9_row_47 ?_
      refine s_callV1r hM43 (c_X9_fine E ) cv_X9_fine wM_X9_96 (sh_0) rfl rfl (Nat.le_of_ble_eq_true rfl) (by decide) dX9_row_48 (fun hM48 => ?_)
      exact s_iret hM48 rfl dX9_row_51 (by unfold xRow fndX finX; (repeat' split) <;> first | rfl | omega | (exfalso; omega)) (by unfold xRow fndX finX; (repeat' split) <;> first | rfl | omega | (exfalso; omega))
    refine r_ald0 dX9_row_29 ?_
    refine r_iconst dX9_row_30 ?_
    refine s_callV1r hM (c_X9_found E (by first | with_reducible assumption | with_reducible exact xSt_9 | with_reducible exact xSt_13 | omega)) cv_X9_found wM_X9_88 (sh_0) rfl rfl (Nat.le_of_ble_eq_true rfl) (by decide) dX9_row_31 (fun hM31 => ?_)
    exact s_iret hM31 rfl dX9_row_34 (by unfold xRow fndX finX; (repeat' split) <;> first | rfl | omega | (exfalso; omega)) (by unfold xRow fndX finX; (repeat' split) <;> first | rfl | omega | (exfalso; omega))
  refine r_ldc (-1000001) dX9_row_22 wC_X9_87 ?_
  exact s_iret hM rfl dX9_row_24 (by unfold xRow fndX finX; (repeat' split) <;> first | rfl | omega | (exfalso; omega)) (by unfold xRow fndX finX; (repeat' split) <;> first | rfl | omega | (exfalso; omega))
set_option maxHeartbeats 4000000 in
theorem c_X9_stretchFinding (E : xE) {M : xMem} {r i n : Int} (hr : 0 ≤ r ∧ r ≤ 7) (hi : -2147483648 ≤ i ∧ i < 2147483648) (hn : -2147483648 ≤ n ∧ n < 2147483648) (hrw : ∀ i : Nat, i < 8 → (M (163 + 2 * i) 1 = 0 ∨ M (163 + 2 * i) 1 = 1) ∧ (0 ≤ M (163 + 2 * i) 2 ∧ M (163 + 2 * i) 2 ≤ 2) ∧ (0 ≤ M (163 + 2 * i) 3 ∧ M (163 + 2 * i) 3 ≤ 40)) : Ct E mX9_stretchFinding 4 1 [xr E 0, xi r, xi i, xi n] M (some (xi (sfT M r i n))) (M) := by
  refine Ct.of 0 4 (by rfl) (by decide +kernel) (fun hM => ?_)
  have hr1 := hrw r.toNat (by omega)
  show VS E mX9_stretchFinding 1 _ _ 0 [some (xr E 0), some (xi r), some (xi i), some (xi n)] [] M
  refine r_ald0 dX9_stretchFinding_0 ?_
  refine s_getR fi_X9_11 (sh_0) rfl dX9_stretchFinding_1 ?_
  refine r_ild1 dX9_stretchFinding_4 ?_
  refine s_rows (by omega) dX9_stretchFinding_5 (fun p5 ep5 hp5 => ?_)
  subst ep5
  refine s_getI hM fi_X9_107 (hp5.1) rfl dX9_stretchFinding_6 (fun g6 => ?_)
  refine r_if_ne 14 dX9_stretchFinding_9 (by decide) (by omega) (fun c9 => ?_) (fun c9 => ?_)
  · skip
    refine r_ald0 dX9_stretchFinding_14 ?_
    refine s_getR fi_X9_11 (sh_0) rfl dX9_stretchFinding_15 ?_
    refine r_ild1 dX9_stretchFinding_18 ?_
    refine s_rows (by omega) dX9_stretchFinding_19 (fun p19 ep19 hp19 => ?_)
    subst ep19
    refine r_ild2 dX9_stretchFinding_20 ?_
    refine r_ild3 dX9_stretchFinding_21 ?_
    refine s_callV2r hM (c_X5_holds E (by first | with_reducible assumption | with_reducible exact xSt_9 | with_reducible exact xSt_13 | omega) (by first | with_reducible assumption | with_reducible exact xSt_9 | with_reducible exact xSt_13 | omega) (by first | with_reducible assumption | with_reducible exact xSt_9 | with_reducible exact xSt_13 | omega) (by first | with_reducible assumption | with_reducible exact xSt_9 | with_reducible exact xSt_13 | omega)) cv_X5_holds wM_X9_115 (hp19.1) rfl rfl (Nat.le_of_ble_eq_true rfl) (by decide) dX9_stretchFinding_22 (fun _ => ?_)
    refine r_ifb_eq 32 dX9_stretchFinding_25 (by decide) (fun c25 => ?_) (fun c25 => ?_)
    · skip
      refine r_iconst dX9_stretchFinding_32 ?_
      exact s_iret hM rfl dX9_stretchFinding_33 (by unfold sfT; (repeat' split) <;> first | rfl | omega | (exfalso; omega)) (by rfl)
    refine r_iconst dX9_stretchFinding_28 ?_
    refine r_goto 33 dX9_stretchFinding_29 (by decide) ?_
    exact s_iret hM rfl dX9_stretchFinding_33 (by unfold sfT; (repeat' split) <;> first | rfl | omega | (exfalso; omega)) (by rfl)
  refine r_iconst dX9_stretchFinding_12 ?_
  exact s_iret hM rfl dX9_stretchFinding_13 (by unfold sfT; (repeat' split) <;> first | rfl | omega | (exfalso; omega)) (by rfl)
set_option maxHeartbeats 4000000 in
theorem c_X9_set (E : xE) {M : xMem} {r i v : Int} (hr : -2147483648 ≤ r ∧ r < 2147483648) (hi : -2147483648 ≤ i ∧ i < 2147483648) (hv : -2147483648 ≤ v ∧ v < 2147483648) (hrw : ∀ i : Nat, i < 8 → (M (163 + 2 * i) 1 = 0 ∨ M (163 + 2 * i) 1 = 1) ∧ (0 ≤ M (163 + 2 * i) 2 ∧ M (163 + 2 * i) 2 ≤ 2) ∧ (0 ≤ M (163 + 2 * i) 3 ∧ M (163 + 2 * i) 3 ≤ 40)) : Ct E mX9_set 5 2 [xr E 0, xi r, xi i, xi v] M (some (xi ((xSet M r i v).1))) ((xSet M r i v).2) := by
  refine Ct.of 1 5 (by rfl) (by decide +kernel) (fun hM => ?_)
  show VS E mX9_set 2 _ _ 0 [some (xr E 0), some (xi r), some (xi i), some (xi v), none] [] M
  refine r_ild1 dX9_set_0 ?_
  refine s_callS1r hM (c_X9_isRow E (by first | with_reducible assumption | with_reducible exact xSt_9 | with_reducible exact xSt_13 | omega)) cs_X9_isRow wM_X9_79 (Nat.le_of_ble_eq_true rfl) (by decide) dX9_set_1 (fun _ => ?_)
  refine r_ifb_ne 10 dX9_set_4 (by decide) (fun c4 => ?_) (fun c4 => ?_)
  · skip
    have hr1 := hrw r.toNat (by omega)
    have hsf : 0 ≤ sfT M r i 1 ∧ sfT M r i 1 ≤ 2 := by unfold sfT; split <;> (try split) <;> omega
    refine r_ald0 dX9_set_10 ?_
    refine r_ild1 dX9_set_11 ?_
    refine r_ild2 dX9_set_12 ?_
    refine r_iconst dX9_set_13 ?_
    refine s_callV3r hM (c_X9_stretchFinding E (by first | with_reducible assumption | with_reducible exact xSt_9 | with_reducible exact xSt_13 | omega) (by first | with_reducible assumption | with_reducible exact xSt_9 | with_reducible exact xSt_13 | omega) (by first | with_reducible assumption | with_reducible exact xSt_9 | with_reducible exact xSt_13 | omega) (by first | with_reducible assumption | with_reducible exact xSt_9 | with_reducible exact xSt_13 | omega)) cv_X9_stretchFinding wM_X9_99 (sh_0) rfl rfl (Nat.le_of_ble_eq_true rfl) (by decide) dX9_set_14 (fun _ => ?_)
    refine r_ist4 dX9_set_17 rfl ?_
    refine r_ild4 dX9_set_19 ?_
    refine r_if_eq 31 dX9_set_21 (by decide) (by omega) (fun c21 => ?_) (fun c21 => ?_)
    · skip
      have hin : 0 ≤ i ∧ i < 40 := by unfold sfT at *; split at * <;> (try split at *) <;> omega
      refine r_ald0 dX9_set_31 ?_
      refine r_ald0 dX9_set_32 ?_
      refine s_getR fi_X9_11 (sh_0) rfl dX9_set_33 ?_
      refine r_ild1 dX9_set_36 ?_
      refine s_rows (by omega) dX9_set_37 (fun p37 ep37 hp37 => ?_)
      subst ep37
      refine r_ild2 dX9_set_38 ?_
      refine r_ild3 dX9_set_39 ?_
      refine s_callV2r hM (c_X5_put E (by first | with_reducible assumption | with_reducible exact xSt_9 | with_reducible exact xSt_13 | omega) (by first | with_reducible assumption | with_reducible exact xSt_9 | with_reducible exact xSt_13 | omega) (by first | with_reducible assumption | with_reducible exact xSt_9 | with_reducible exact xSt_13 | omega)) cv_X5_put wM_X9_103 (hp37.1) rfl rfl (Nat.le_of_ble_eq_true rfl) (by decide) dX9_set_40 (fun hM40 => ?_)
      refine s_callV1r hM40 (c_X9_fine E ) cv_X9_fine wM_X9_96 (sh_0) rfl rfl (Nat.le_of_ble_eq_true rfl) (by decide) dX9_set_43 (fun hM43 => ?_)
      exact s_iret hM43 rfl dX9_set_46 (by unfold xSet fndX finX; (repeat' split) <;> first | rfl | omega | (exfalso; omega)) (by unfold xSet fndX finX; (repeat' split) <;> first | rfl | omega | (exfalso; omega))
    refine r_ald0 dX9_set_24 ?_
    refine r_ild4 dX9_set_25 ?_
    refine s_callV1r hM (c_X9_found E (by first | with_reducible assumption | with_reducible exact xSt_9 | with_reducible exact xSt_13 | omega)) cv_X9_found wM_X9_88 (sh_0) rfl rfl (Nat.le_of_ble_eq_true rfl) (by decide) dX9_set_27 (fun hM27 => ?_)
    exact s_iret hM27 rfl dX9_set_30 (by unfold xSet fndX finX; (repeat' split) <;> first | rfl | omega | (exfalso; omega)) (by unfold xSet fndX finX; (repeat' split) <;> first | rfl | omega | (exfalso; omega))
  refine r_ldc (-1000001) dX9_set_7 wC_X9_87 ?_
  exact s_iret hM rfl dX9_set_9 (by unfold xSet fndX finX; (repeat' split) <;> first | rfl | omega | (exfalso; omega)) (by unfold xSet fndX finX; (repeat' split) <;> first | rfl | omega | (exfalso; omega))
set_option maxHeartbeats 4000000 in
theorem c_X9_copy (E : xE) {M : xMem} {a i b j n : Int} (ha : -2147483648 ≤ a ∧ a < 2147483648) (hi : -2147483648 ≤ i ∧ i < 2147483648) (hb : -2147483648 ≤ b ∧ b < 2147483648) (hj : -2147483648 ≤ j ∧ j < 2147483648) (hn : -2147483648 ≤ n ∧ n < 2147483648) (hrw : ∀ i : Nat, i < 8 → (M (163 + 2 * i) 1 = 0 ∨ M (163 + 2 * i) 1 = 1) ∧ (0 ≤ M (163 + 2 * i) 2 ∧ M (163 + 2 * i) 2 ≤ 2) ∧ (0 ≤ M (163 + 2 * i) 3 ∧ M (163 + 2 * i) 3 ≤ 40)) : Ct E mX9_copy 8 1 [xr E 0, xi a, xi i, xi b, xi j, xi n] M (some (xi ((xCopy M a i b j n).1))) ((xCopy M a i b j n).2) := by
  refine Ct.of 2 8 (by rfl) (by decide +kernel) (fun hM => ?_)
  show VS E mX9_copy 1 _ _ 0 [some (xr E 0), some (xi a), some (xi i), some (xi b), some (xi j), some (xi n), none, none] [] M
  refine r_ild1 dX9_copy_0 ?_
  refine s_callS1r hM (c_X9_isRow E (by first | with_reducible assumption | with_reducible exact xSt_9 | with_reducible exact xSt_13 | omega)) cs_X9_isRow wM_X9_79 (Nat.le_of_ble_eq_true rfl) (by decide) dX9_copy_1 (fun _ => ?_)
  refine r_ifb_eq 14 dX9_copy_4 (by decide) (fun c4 => ?_) (fun c4 => ?_)
  · skip
    refine r_ldc (-1000001) dX9_copy_14 wC_X9_87 ?_
    exact s_iret hM rfl dX9_copy_16 (by unfold xCopy fndX finX; (repeat' split) <;> first | rfl | omega | (exfalso; omega)) (by unfold xCopy fndX finX; (repeat' split) <;> first | rfl | omega | (exfalso; omega))
  refine r_ild3 dX9_copy_7 ?_
  refine s_callS1r hM (c_X9_isRow E (by first | with_reducible assumption | with_reducible exact xSt_9 | with_reducible exact xSt_13 | omega)) cs_X9_isRow wM_X9_79 (Nat.le_of_ble_eq_true rfl) (by decide) dX9_copy_8 (fun _ => ?_)
  refine r_ifb_ne 17 dX9_copy_11 (by decide) (fun c11 => ?_) (fun c11 => ?_)
  · skip
    have hr1 := hrw a.toNat (by omega)
    have hr2 := hrw b.toNat (by omega)
    refine r_ald0 dX9_copy_17 ?_
    refine s_getR fi_X9_11 (sh_0) rfl dX9_copy_18 ?_
    refine r_ild1 dX9_copy_21 ?_
    refine s_rows (by omega) dX9_copy_22 (fun p22 ep22 hp22 => ?_)
    subst ep22
    refine r_ast6 dX9_copy_23 rfl ?_
    refine r_ald0 dX9_copy_25 ?_
    refine s_getR fi_X9_11 (sh_0) rfl dX9_copy_26 ?_
    refine r_ild3 dX9_copy_29 ?_
    refine s_rows (by omega) dX9_copy_30 (fun p30 ep30 hp30 => ?_)
    subst ep30
    refine r_ast7 dX9_copy_31 rfl ?_
    refine r_ald6 dX9_copy_33 ?_
    refine s_getI hM fi_X9_107 (hp22.1) rfl dX9_copy_35 (fun g35 => ?_)
    refine r_if_eq 49 dX9_copy_38 (by decide) (by omega) (fun c38 => ?_) (fun c38 => ?_)
    · skip
      refine r_ald0 dX9_copy_49 ?_
      refine r_iconst dX9_copy_50 ?_
      refine s_callV1r hM (c_X9_found E (by first | with_reducible assumption | with_reducible exact xSt_9 | with_reducible exact xSt_13 | omega)) cv_X9_found wM_X9_88 (sh_0) rfl rfl (Nat.le_of_ble_eq_true rfl) (by decide) dX9_copy_51 (fun hM51 => ?_)
      exact s_iret hM51 rfl dX9_copy_54 (by unfold xCopy fndX finX; (repeat' split) <;> first | rfl | omega | (exfalso; omega)) (by unfold xCopy fndX finX; (repeat' split) <;> first | rfl | omega | (exfalso; omega))
    refine r_ald7 dX9_copy_41 ?_
    refine s_getI hM fi_X9_107 (hp30.1) rfl dX9_copy_43 (fun g43 => ?_)
    refine r_if_ne 55 dX9_copy_46 (by decide) (by omega) (fun c46 => ?_) (fun c46 => ?_)
    · skip
      refine r_ald6 dX9_copy_55 ?_
      refine s_getI hM fi_X9_111 (hp22.1) rfl dX9_copy_57 (fun g57 => ?_)
      refine r_ald7 dX9_copy_60 ?_
      refine s_getI hM fi_X9_111 (hp30.1) rfl dX9_copy_62 (fun g62 => ?_)
      refine r_icmp_eq 74 dX9_copy_65 (by decide) (by omega) (by omega) (fun c65 => ?_) (fun c65 => ?_)
      · skip
        refine r_ald6 dX9_copy_74 ?_
        refine r_ild2 dX9_copy_76 ?_
        refine r_ild5 dX9_copy_77 ?_
        refine s_callV2r hM (c_X5_holds E (by first | with_reducible assumption | with_reducible exact xSt_9 | with_reducible exact xSt_13 | omega) (by first | with_reducible assumption | with_reducible exact xSt_9 | with_reducible exact xSt_13 | omega) (by first | with_reducible assumption | with_reducible exact xSt_9 | with_reducible exact xSt_13 | omega) (by first | with_reducible assumption | with_reducible exact xSt_9 | with_reducible exact xSt_13 | omega)) cv_X5_holds wM_X9_115 (hp22.1) rfl rfl (Nat.le_of_ble_eq_true rfl) (by decide) dX9_copy_79 (fun _ => ?_)
        refine r_ifb_eq 97 dX9_copy_82 (by decide) (fun c82 => ?_) (fun c82 => ?_)
        · skip
          refine r_ald0 dX9_copy_97 ?_
          refine r_iconst dX9_copy_98 ?_
          refine s_callV1r hM (c_X9_found E (by first | with_reducible assumption | with_reducible exact xSt_9 | with_reducible exact xSt_13 | omega)) cv_X9_found wM_X9_88 (sh_0) rfl rfl (Nat.le_of_ble_eq_true rfl) (by decide) dX9_copy_99 (fun hM99 => ?_)
          exact s_iret hM99 rfl dX9_copy_102 (by unfold xCopy fndX finX; (repeat' split) <;> first | rfl | omega | (exfalso; omega)) (by unfold xCopy fndX finX; (repeat' split) <;> first | rfl | omega | (exfalso; omega))
        refine r_ald7 dX9_copy_85 ?_
        refine r_ild4 dX9_copy_87 ?_
        refine r_ild5 dX9_copy_89 ?_
        refine s_callV2r hM (c_X5_holds E (by first | with_reducible assumption | with_reducible exact xSt_9 | with_reducible exact xSt_13 | omega) (by first | with_reducible assumption | with_reducible exact xSt_9 | with_reducible exact xSt_13 | omega) (by first | with_reducible assumption | with_reducible exact xSt_9 | with_reducible exact xSt_13 | omega) (by first | with_reducible assumption | with_reducible exact xSt_9 | with_reducible exact xSt_13 | omega)) cv_X5_holds wM_X9_115 (hp30.1) rfl rfl (Nat.le_of_ble_eq_true rfl) (by decide) dX9_copy_91 (fun _ => ?_)
        refine r_ifb_ne 103 dX9_copy_94 (by decide) (fun c94 => ?_) (fun c94 => ?_)
        · skip
          refine r_ald6 dX9_copy_103 ?_
          refine s_getR fi_X9_119 (hp22.1) rfl dX9_copy_105 ?_
          refine r_ild2 dX9_copy_108 ?_
          refine r_ald7 dX9_copy_109 ?_
          refine s_getR fi_X9_119 (hp30.1) rfl dX9_copy_111 ?_
          refine r_ild4 dX9_copy_114 ?_
          refine r_ild5 dX9_copy_116 ?_
          refine s_acopy hM wM_X9_123 (hp22.2.1) (hp30.2.1) (by omega) (Nat.le_of_ble_eq_true rfl) (by decide) dX9_copy_118 (fun hM118 => ?_)
          refine r_ald0 dX9_copy_121 ?_
          refine r_ild5 dX9_copy_122 ?_
          refine s_callV1r hM118 (c_X9_fine E ) cv_X9_fine wM_X9_96 (sh_0) rfl rfl (Nat.le_of_ble_eq_true rfl) (by decide) dX9_copy_124 (fun hM124 => ?_)
          exact s_iret hM124 rfl dX9_copy_127 (by unfold xCopy fndX finX; (repeat' split) <;> first | rfl | omega | (exfalso; omega)) (by unfold xCopy fndX finX; (repeat' split) <;> first | rfl | omega | (exfalso; omega))
        refine r_ald0 dX9_copy_97 ?_
        refine r_iconst dX9_copy_98 ?_
        refine s_callV1r hM (c_X9_found E (by first | with_reducible assumption | with_reducible exact xSt_9 | with_reducible exact xSt_13 | omega)) cv_X9_found wM_X9_88 (sh_0) rfl rfl (Nat.le_of_ble_eq_true rfl) (by decide) dX9_copy_99 (fun hM99 => ?_)
        exact s_iret hM99 rfl dX9_copy_102 (by unfold xCopy fndX finX; (repeat' split) <;> first | rfl | omega | (exfalso; omega)) (by unfold xCopy fndX finX; (repeat' split) <;> first | rfl | omega | (exfalso; omega))
      refine r_ald0 dX9_copy_68 ?_
      refine r_iconst dX9_copy_69 ?_
      refine s_callV1r hM (c_X9_found E (by first | with_reducible assumption | with_reducible exact xSt_9 | with_reducible exact xSt_13 | omega)) cv_X9_found wM_X9_88 (sh_0) rfl rfl (Nat.le_of_ble_eq_true rfl) (by decide) dX9_copy_70 (fun hM70 => ?_)
      exact s_iret hM70 rfl dX9_copy_73 (by unfold xCopy fndX finX; (repeat' split) <;> first | rfl | omega | (exfalso; omega)) (by unfold xCopy fndX finX; (repeat' split) <;> first | rfl | omega | (exfalso; omega))
    refine r_ald0 dX9_copy_49 ?_
    refine r_iconst dX9_copy_50 ?_
    refine s_callV1r hM (c_X9_found E (by first | with_reducible assumption | with_reducible exact xSt_9 | with_reducible exact xSt_13 | omega)) cv_X9_found wM_X9_88 (sh_0) rfl rfl (Nat.le_of_ble_eq_true rfl) (by decide) dX9_copy_51 (fun hM51 => ?_)
    exact s_iret hM51 rfl dX9_copy_54 (by unfold xCopy fndX finX; (repeat' split) <;> first | rfl | omega | (exfalso; omega)) (by unfold xCopy fndX finX; (repeat' split) <;> first | rfl | omega | (exfalso; omega))
  refine r_ldc (-1000001) dX9_copy_14 wC_X9_87 ?_
  exact s_iret hM rfl dX9_copy_16 (by unfold xCopy fndX finX; (repeat' split) <;> first | rfl | omega | (exfalso; omega)) (by unfold xCopy fndX finX; (repeat' split) <;> first | rfl | omega | (exfalso; omega))
set_option maxHeartbeats 4000000 in
theorem c_X9_drop (E : xE) {M : xMem} {r : Int} (hr : -2147483648 ≤ r ∧ r < 2147483648) (hrw : ∀ i : Nat, i < 8 → (M (163 + 2 * i) 1 = 0 ∨ M (163 + 2 * i) 1 = 1) ∧ (0 ≤ M (163 + 2 * i) 2 ∧ M (163 + 2 * i) 2 ≤ 2) ∧ (0 ≤ M (163 + 2 * i) 3 ∧ M (163 + 2 * i) 3 ≤ 40)) : Ct E mX9_drop 2 1 [xr E 0, xi r] M (some (xi ((xDrop M r).1))) ((xDrop M r).2) := by
  refine Ct.of 0 2 (by rfl) (by decide +kernel) (fun hM => ?_)
  show VS E mX9_drop 1 _ _ 0 [some (xr E 0), some (xi r)] [] M
  refine r_ild1 dX9_drop_0 ?_
  refine s_callS1r hM (c_X9_isRow E (by first | with_reducible assumption | with_reducible exact xSt_9 | with_reducible exact xSt_13 | omega)) cs_X9_isRow wM_X9_79 (Nat.le_of_ble_eq_true rfl) (by decide) dX9_drop_1 (fun _ => ?_)
  refine r_ifb_ne 10 dX9_drop_4 (by decide) (fun c4 => ?_) (fun c4 => ?_)
  · skip
    have hr1 := hrw r.toNat (by omega)
    refine r_ald0 dX9_drop_10 ?_
    refine s_getR fi_X9_11 (sh_0) rfl dX9_drop_11 ?_
    refine r_ild1 dX9_drop_14 ?_
    refine s_rows (by omega) dX9_drop_15 (fun p15 ep15 hp15 => ?_)
    subst ep15
    refine s_getI hM fi_X9_107 (hp15.1) rfl dX9_drop_16 (fun g16 => ?_)
    refine r_if_ne 28 dX9_drop_19 (by decide) (by omega) (fun c19 => ?_) (fun c19 => ?_)
    · skip
      refine r_ald0 dX9_drop_28 ?_
      refine s_getR fi_X9_11 (sh_0) rfl dX9_drop_29 ?_
      refine r_ild1 dX9_drop_32 ?_
      refine s_rows (by omega) dX9_drop_33 (fun p33 ep33 hp33 => ?_)
      subst ep33
      refine r_iconst dX9_drop_34 ?_
      refine s_putZ hM fp_X9_107 (hp33.1) rfl (by omega) dX9_drop_35 (fun hM35 => ?_)
      refine r_ald0 dX9_drop_38 ?_
      refine r_ald0 dX9_drop_39 ?_
      refine s_getR fi_X9_11 (sh_0) rfl dX9_drop_40 ?_
      refine r_ild1 dX9_drop_43 ?_
      refine s_rows (by omega) dX9_drop_44 (fun p44 ep44 hp44 => ?_)
      subst ep44
      refine s_getI hM35 fi_X9_129 (hp44.1) rfl dX9_drop_45 (fun g45 => ?_)
      try simp (disch := omega) only [mS_ne, mS_eq]
      refine s_callV1r hM35 (c_X9_fine E ) cv_X9_fine wM_X9_96 (sh_0) rfl rfl (Nat.le_of_ble_eq_true rfl) (by decide) dX9_drop_48 (fun hM48 => ?_)
      exact s_iret hM48 rfl dX9_drop_51 (by unfold xDrop fndX finX; (repeat' split) <;> first | rfl | omega | (exfalso; omega)) (by unfold xDrop fndX finX; (repeat' split) <;> first | rfl | omega | (exfalso; omega))
    refine r_ald0 dX9_drop_22 ?_
    refine r_iconst dX9_drop_23 ?_
    refine s_callV1r hM (c_X9_found E (by first | with_reducible assumption | with_reducible exact xSt_9 | with_reducible exact xSt_13 | omega)) cv_X9_found wM_X9_88 (sh_0) rfl rfl (Nat.le_of_ble_eq_true rfl) (by decide) dX9_drop_24 (fun hM24 => ?_)
    exact s_iret hM24 rfl dX9_drop_27 (by unfold xDrop fndX finX; (repeat' split) <;> first | rfl | omega | (exfalso; omega)) (by unfold xDrop fndX finX; (repeat' split) <;> first | rfl | omega | (exfalso; omega))
  refine r_ldc (-1000001) dX9_drop_7 wC_X9_87 ?_
  exact s_iret hM rfl dX9_drop_9 (by unfold xDrop fndX finX; (repeat' split) <;> first | rfl | omega | (exfalso; omega)) (by unfold xDrop fndX finX; (repeat' split) <;> first | rfl | omega | (exfalso; omega))
set_option maxHeartbeats 4000000 in
theorem c_X4_append (E : xE) {M : xMem} {c : Int} (hln : 0 ≤ M 149 3 ∧ M 149 3 ≤ 120) (hc : 0 ≤ c ∧ c ≤ 255) : Ct E mX4_append 2 0 [xr E 149, xi c] M (some (xi (b2i (M 149 3 < 120)))) (if M 149 3 < 120 then mS (mS M 150 (M 149 3).toNat c) 149 3 (M 149 3 + 1) else M) := by
  refine Ct.of 0 2 (by rfl) (by decide +kernel) (fun hM => ?_)
  show VS E mX4_append 0 _ _ 0 [some (xr E 149), some (xi c)] [] M
  refine r_ald0 dX4_append_0 ?_
  refine s_getI hM fi_X4_31 (sh_149) rfl dX4_append_1 (fun g1 => ?_)
  refine r_bipush dX4_append_4 (by decide +kernel) ?_
  refine r_icmp_lt 11 dX4_append_6 (by decide) (by omega) (by omega) (fun c6 => ?_) (fun c6 => ?_)
  · skip
    refine r_ald0 dX4_append_11 ?_
    refine s_getR fi_X4_9 (sh_149) rfl dX4_append_12 ?_
    refine r_ald0 dX4_append_15 ?_
    refine s_getI hM fi_X4_31 (sh_149) rfl dX4_append_16 (fun g16 => ?_)
    refine r_ild1 dX4_append_19 ?_
    refine s_iast hM (sh_150) (by omega) (by decide) (by omega) dX4_append_20 (fun hM20 => ?_)
    refine r_ald0 dX4_append_21 ?_
    refine r_dup dX4_append_22 rfl ?_
    refine s_getI hM20 fi_X4_31 (sh_149) rfl dX4_append_23 (fun g23 => ?_)
    try simp (disch := omega) only [mS_ne, mS_eq]
    refine r_iconst dX4_append_26 ?_
    refine r_iadd dX4_append_27 ?_
    refine s_putI hM20 fp_X4_31 (sh_149) rfl (by omega) dX4_append_28 (fun hM28 => ?_)
    refine r_iconst dX4_append_31 ?_
    exact s_zret hM28 rfl (by omega) dX4_append_32 (by unfold b2i; split <;> omega) (by split <;> first | rfl | omega)
  refine r_iconst dX4_append_9 ?_
  exact s_zret hM rfl (by omega) dX4_append_10 (by unfold b2i; split <;> omega) (by split <;> first | rfl | omega)
set_option maxHeartbeats 4000000 in
theorem c_X9_feed (E : xE) {M : xMem} {c : Int} (hc : -2147483648 ≤ c ∧ c < 2147483648) (hln : 0 ≤ M 149 3 ∧ M 149 3 ≤ 120) : Ct E mX9_feed 2 1 [xr E 0, xi c] M (some (xi ((xFeed M c).1))) ((xFeed M c).2) := by
  refine Ct.of 0 2 (by rfl) (by decide +kernel) (fun hM => ?_)
  show VS E mX9_feed 1 _ _ 0 [some (xr E 0), some (xi c)] [] M
  refine r_ild1 dX9_feed_0 ?_
  refine r_iconst dX9_feed_1 ?_
  refine r_sipush dX9_feed_2 (by decide +kernel) ?_
  refine s_callS3r hM (c_X9_within E (by first | with_reducible assumption | with_reducible exact xSt_9 | with_reducible exact xSt_13 | omega) (by first | with_reducible assumption | with_reducible exact xSt_9 | with_reducible exact xSt_13 | omega) (by first | with_reducible assumption | with_reducible exact xSt_9 | with_reducible exact xSt_13 | omega)) cs_X9_within wM_X9_83 (Nat.le_of_ble_eq_true rfl) (by decide) dX9_feed_5 (fun _ => ?_)
  refine r_ifb_ne 14 dX9_feed_8 (by decide) (fun c8 => ?_) (fun c8 => ?_)
  · skip
    refine r_ald0 dX9_feed_14 ?_
    refine s_getR fi_X9_64 (sh_0) rfl dX9_feed_15 ?_
    refine r_ild1 dX9_feed_18 ?_
    refine s_callV1r hM (c_X4_append E (by first | with_reducible assumption | with_reducible exact xSt_9 | with_reducible exact xSt_13 | omega) (by first | with_reducible assumption | with_reducible exact xSt_9 | with_reducible exact xSt_13 | omega)) cv_X4_append wM_X9_132 (sh_149) rfl rfl (Nat.le_of_ble_eq_true rfl) (by decide) dX9_feed_19 (fun hM19 => ?_)
    refine r_ifb_eq 35 dX9_feed_22 (by decide) (fun c22 => ?_) (fun c22 => ?_)
    · skip
      rw [if_neg (by assumption)] at hM19 ⊢
      refine r_ldc (-1000003) dX9_feed_35 wC_X9_138 ?_
      exact s_iret hM19 rfl dX9_feed_37 (by unfold xFeed ; (repeat' split) <;> first | rfl | omega | (exfalso; omega)) (by unfold xFeed ; (repeat' split) <;> first | rfl | omega | (exfalso; omega))
    rw [if_pos (by assumption)] at hM19 ⊢
    refine r_ald0 dX9_feed_25 ?_
    refine s_getR fi_X9_64 (sh_0) rfl dX9_feed_26 ?_
    refine s_getI hM19 fi_X9_135 (sh_149) rfl dX9_feed_29 (fun g29 => ?_)
    try simp (disch := omega) only [mS_ne, mS_eq]
    refine r_goto 37 dX9_feed_32 (by decide) ?_
    exact s_iret hM19 rfl dX9_feed_37 (by unfold xFeed ; (repeat' split) <;> first | rfl | omega | (exfalso; omega)) (by unfold xFeed ; (repeat' split) <;> first | rfl | omega | (exfalso; omega))
  refine r_ldc (-1000001) dX9_feed_11 wC_X9_87 ?_
  exact s_iret hM rfl dX9_feed_13 (by unfold xFeed ; (repeat' split) <;> first | rfl | omega | (exfalso; omega)) (by unfold xFeed ; (repeat' split) <;> first | rfl | omega | (exfalso; omega))
set_option maxHeartbeats 4000000 in
theorem c_X9_fault (E : xE) {M : xMem}   : Ct E mX9_fault 1 0 [xr E 0] M (some (xi (M 149 4))) (M) := by
  refine Ct.of 0 1 (by rfl) (by decide +kernel) (fun hM => ?_)
  show VS E mX9_fault 0 _ _ 0 [some (xr E 0)] [] M
  refine r_ald0 dX9_fault_0 ?_
  refine s_getR fi_X9_64 (sh_0) rfl dX9_fault_1 ?_
  refine s_getI hM fi_X9_161 (sh_149) rfl dX9_fault_4 (fun g4 => ?_)
  exact s_iret hM rfl dX9_fault_7 (by rfl) (by rfl)
