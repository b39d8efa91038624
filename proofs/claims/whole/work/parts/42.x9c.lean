set_option maxHeartbeats 4000000 in
theorem c_an01 (E : xE) {M : xMem} {s : Int} (hs : 0 ≤ s ∧ s ≤ 5) (hkd : M 5 s.toNat = 1) : Ct E mX0_answer 3 6 [xr E 161, xi s, xi 0] M (some (xi (M 7 s.toNat + (s + M 9 7)))) (lvM (lvM (lvM (lvM (mS M 161 3 0) 11) 10) 21) 20) := by
  refine Ct.of 0 3 (by rfl) (by decide +kernel) (fun hM => ?_)
  show VS E mX0_answer 6 _ _ 0 [some (xr E 161), some (xi s), some (xi 0)] [] M
  refine r_ald0 dX0_answer_0 ?_
  refine r_iconst dX0_answer_1 ?_
  refine s_putI hM fp_X0_23 (sh_161) rfl (by omega) dX0_answer_2 (fun hM2 => ?_)
  refine r_ald0 dX0_answer_5 ?_
  refine r_ild2 dX0_answer_6 ?_
  refine r_if_ne 18 dX0_answer_7 (by decide) (by omega) (fun c7 => by exfalso; omega) (fun c7 => ?_)
  refine r_ald0 dX0_answer_10 ?_
  refine r_ild1 dX0_answer_11 ?_
  refine s_callV1r hM2 (c_X0_sizeBody E (by omega) (by rw [mS_ne (Or.inl (by decide)), hkd]; decide)) cv_X0_sizeBody wM_X0_27 (sh_161) rfl rfl (Nat.le_of_ble_eq_true rfl) (by decide) dX0_answer_12 (fun _ => ?_)
  simp (disch := omega) only [mS_ne, hkd]
  refine r_goto 23 dX0_answer_15 (by decide) ?_
  refine r_ild1 dX0_answer_23 ?_
  refine r_iconst dX0_answer_24 ?_
  refine s_callS4r hM2 (c_r11_1 E (by omega) (by omega) (by rw [mS_eq]; decide) (by rw [mS_ne (Or.inl (by decide))]; exact hkd)) cs_X0_run wM_X0_34 (Nat.le_of_ble_eq_true rfl) (by decide) dX0_answer_25 (fun hM25 => ?_)
  exact s_iret hM25 rfl dX0_answer_28 (by simp (disch := omega) only [mS_ne]) (by rfl)
set_option maxHeartbeats 4000000 in
theorem c_an02 (E : xE) {M : xMem} {s : Int} (hs : 0 ≤ s ∧ s ≤ 5) (hkd : M 5 s.toNat = 2) : Ct E mX0_answer 3 6 [xr E 161, xi s, xi 0] M (some (xi (0 - (M 7 s.toNat + (2 * (s + M 9 7)))))) (lvM (lvM (lvM (lvM (lvM (lvM (mS M 161 3 0) 12) 11) 10) 24) 21) 20) := by
  refine Ct.of 0 3 (by rfl) (by decide +kernel) (fun hM => ?_)
  show VS E mX0_answer 6 _ _ 0 [some (xr E 161), some (xi s), some (xi 0)] [] M
  refine r_ald0 dX0_answer_0 ?_
  refine r_iconst dX0_answer_1 ?_
  refine s_putI hM fp_X0_23 (sh_161) rfl (by omega) dX0_answer_2 (fun hM2 => ?_)
  refine r_ald0 dX0_answer_5 ?_
  refine r_ild2 dX0_answer_6 ?_
  refine r_if_ne 18 dX0_answer_7 (by decide) (by omega) (fun c7 => by exfalso; omega) (fun c7 => ?_)
  refine r_ald0 dX0_answer_10 ?_
  refine r_ild1 dX0_answer_11 ?_
  refine s_callV1r hM2 (c_X0_sizeBody E (by omega) (by rw [mS_ne (Or.inl (by decide)), hkd]; decide)) cv_X0_sizeBody wM_X0_27 (sh_161) rfl rfl (Nat.le_of_ble_eq_true rfl) (by decide) dX0_answer_12 (fun _ => ?_)
  simp (disch := omega) only [mS_ne, hkd]
  refine r_goto 23 dX0_answer_15 (by decide) ?_
  refine r_ild1 dX0_answer_23 ?_
  refine r_iconst dX0_answer_24 ?_
  refine s_callS4r hM2 (c_r12 E (by omega) (by omega) (by rw [mS_eq]; decide) (by rw [mS_ne (Or.inl (by decide))]; exact hkd)) cs_X0_run wM_X0_34 (Nat.le_of_ble_eq_true rfl) (by decide) dX0_answer_25 (fun hM25 => ?_)
  exact s_iret hM25 rfl dX0_answer_28 (by simp (disch := omega) only [mS_ne]) (by rfl)
set_option maxHeartbeats 4000000 in
theorem c_an03 (E : xE) {M : xMem} {s : Int} (hs : 0 ≤ s ∧ s ≤ 5) (hkd : M 5 s.toNat = 3) : Ct E mX0_answer 3 6 [xr E 161, xi s, xi 0] M (some (xi (M 7 s.toNat + (s + M 9 7 - 1000)))) (lvM (lvM (lvM (lvM (lvM (mS M 161 3 0) 11) 10) 22) 21) 20) := by
  refine Ct.of 0 3 (by rfl) (by decide +kernel) (fun hM => ?_)
  show VS E mX0_answer 6 _ _ 0 [some (xr E 161), some (xi s), some (xi 0)] [] M
  refine r_ald0 dX0_answer_0 ?_
  refine r_iconst dX0_answer_1 ?_
  refine s_putI hM fp_X0_23 (sh_161) rfl (by omega) dX0_answer_2 (fun hM2 => ?_)
  refine r_ald0 dX0_answer_5 ?_
  refine r_ild2 dX0_answer_6 ?_
  refine r_if_ne 18 dX0_answer_7 (by decide) (by omega) (fun c7 => by exfalso; omega) (fun c7 => ?_)
  refine r_ald0 dX0_answer_10 ?_
  refine r_ild1 dX0_answer_11 ?_
  refine s_callV1r hM2 (c_X0_sizeBody E (by omega) (by rw [mS_ne (Or.inl (by decide)), hkd]; decide)) cv_X0_sizeBody wM_X0_27 (sh_161) rfl rfl (Nat.le_of_ble_eq_true rfl) (by decide) dX0_answer_12 (fun _ => ?_)
  simp (disch := omega) only [mS_ne, hkd]
  refine r_goto 23 dX0_answer_15 (by decide) ?_
  refine r_ild1 dX0_answer_23 ?_
  refine r_iconst dX0_answer_24 ?_
  refine s_callS4r hM2 (c_r11_3 E (by omega) (by omega) (by rw [mS_eq]; decide) (by rw [mS_ne (Or.inl (by decide))]; exact hkd)) cs_X0_run wM_X0_34 (Nat.le_of_ble_eq_true rfl) (by decide) dX0_answer_25 (fun hM25 => ?_)
  exact s_iret hM25 rfl dX0_answer_28 (by simp (disch := omega) only [mS_ne]) (by rfl)
set_option maxHeartbeats 4000000 in
theorem c_an04 (E : xE) {M : xMem} {s : Int} (hs : 0 ≤ s ∧ s ≤ 5) (hkd : M 5 s.toNat = 4) : Ct E mX0_answer 3 6 [xr E 161, xi s, xi 0] M (some (xi (M 7 s.toNat - 100))) (lvM (lvM (mS M 161 3 0) 13) 10) := by
  refine Ct.of 0 3 (by rfl) (by decide +kernel) (fun hM => ?_)
  show VS E mX0_answer 6 _ _ 0 [some (xr E 161), some (xi s), some (xi 0)] [] M
  refine r_ald0 dX0_answer_0 ?_
  refine r_iconst dX0_answer_1 ?_
  refine s_putI hM fp_X0_23 (sh_161) rfl (by omega) dX0_answer_2 (fun hM2 => ?_)
  refine r_ald0 dX0_answer_5 ?_
  refine r_ild2 dX0_answer_6 ?_
  refine r_if_ne 18 dX0_answer_7 (by decide) (by omega) (fun c7 => by exfalso; omega) (fun c7 => ?_)
  refine r_ald0 dX0_answer_10 ?_
  refine r_ild1 dX0_answer_11 ?_
  refine s_callV1r hM2 (c_X0_sizeBody E (by omega) (by rw [mS_ne (Or.inl (by decide)), hkd]; decide)) cv_X0_sizeBody wM_X0_27 (sh_161) rfl rfl (Nat.le_of_ble_eq_true rfl) (by decide) dX0_answer_12 (fun _ => ?_)
  simp (disch := omega) only [mS_ne, hkd]
  refine r_goto 23 dX0_answer_15 (by decide) ?_
  refine r_ild1 dX0_answer_23 ?_
  refine r_iconst dX0_answer_24 ?_
  refine s_callS4r hM2 (c_r13 E (by omega) (by omega) (by rw [mS_eq]; decide)) cs_X0_run wM_X0_34 (Nat.le_of_ble_eq_true rfl) (by decide) dX0_answer_25 (fun hM25 => ?_)
  exact s_iret hM25 rfl dX0_answer_28 (by simp (disch := omega) only [mS_ne]) (by rfl)
set_option maxHeartbeats 4000000 in
theorem c_an05 (E : xE) {M : xMem} {s : Int} (hs : 0 ≤ s ∧ s ≤ 5) (hkd : M 5 s.toNat = 5) : Ct E mX0_answer 3 6 [xr E 161, xi s, xi 0] M (some (xi (2 * (M 7 s.toNat - 100)))) (lvM (lvM (lvM (mS M 161 3 0) 14) 13) 10) := by
  refine Ct.of 0 3 (by rfl) (by decide +kernel) (fun hM => ?_)
  show VS E mX0_answer 6 _ _ 0 [some (xr E 161), some (xi s), some (xi 0)] [] M
  refine r_ald0 dX0_answer_0 ?_
  refine r_iconst dX0_answer_1 ?_
  refine s_putI hM fp_X0_23 (sh_161) rfl (by omega) dX0_answer_2 (fun hM2 => ?_)
  refine r_ald0 dX0_answer_5 ?_
  refine r_ild2 dX0_answer_6 ?_
  refine r_if_ne 18 dX0_answer_7 (by decide) (by omega) (fun c7 => by exfalso; omega) (fun c7 => ?_)
  refine r_ald0 dX0_answer_10 ?_
  refine r_ild1 dX0_answer_11 ?_
  refine s_callV1r hM2 (c_X0_sizeBody E (by omega) (by rw [mS_ne (Or.inl (by decide)), hkd]; decide)) cv_X0_sizeBody wM_X0_27 (sh_161) rfl rfl (Nat.le_of_ble_eq_true rfl) (by decide) dX0_answer_12 (fun _ => ?_)
  simp (disch := omega) only [mS_ne, hkd]
  refine r_goto 23 dX0_answer_15 (by decide) ?_
  refine r_ild1 dX0_answer_23 ?_
  refine r_iconst dX0_answer_24 ?_
  refine s_callS4r hM2 (c_r14 E (by omega) (by omega) (by rw [mS_eq]; decide)) cs_X0_run wM_X0_34 (Nat.le_of_ble_eq_true rfl) (by decide) dX0_answer_25 (fun hM25 => ?_)
  exact s_iret hM25 rfl dX0_answer_28 (by simp (disch := omega) only [mS_ne]) (by rfl)
set_option maxHeartbeats 4000000 in
theorem c_an11 (E : xE) {M : xMem} {s : Int} (hs : 0 ≤ s ∧ s ≤ 5) (hkd : M 5 s.toNat = 1) : Ct E mX0_answer 3 6 [xr E 161, xi s, xi 1] M (some (xi (s + M 9 7))) (lvM (lvM (mS M 161 3 0) 21) 20) := by
  refine Ct.of 0 3 (by rfl) (by decide +kernel) (fun hM => ?_)
  show VS E mX0_answer 6 _ _ 0 [some (xr E 161), some (xi s), some (xi 1)] [] M
  refine r_ald0 dX0_answer_0 ?_
  refine r_iconst dX0_answer_1 ?_
  refine s_putI hM fp_X0_23 (sh_161) rfl (by omega) dX0_answer_2 (fun hM2 => ?_)
  refine r_ald0 dX0_answer_5 ?_
  refine r_ild2 dX0_answer_6 ?_
  refine r_if_ne 18 dX0_answer_7 (by decide) (by omega) (fun c7 => ?_) (fun c7 => by exfalso; omega)
  refine r_ald0 dX0_answer_18 ?_
  refine r_ild1 dX0_answer_19 ?_
  refine s_callV1r hM2 (c_X0_markBody E (by omega) (by rw [mS_ne (Or.inl (by decide)), hkd]; decide)) cv_X0_markBody wM_X0_31 (sh_161) rfl rfl (Nat.le_of_ble_eq_true rfl) (by decide) dX0_answer_20 (fun _ => ?_)
  simp (disch := omega) only [mS_ne, hkd]
  refine r_ild1 dX0_answer_23 ?_
  refine r_iconst dX0_answer_24 ?_
  refine s_callS4r hM2 (c_r21 E (by omega) (by omega) (by rw [mS_eq]; decide)) cs_X0_run wM_X0_34 (Nat.le_of_ble_eq_true rfl) (by decide) dX0_answer_25 (fun hM25 => ?_)
  exact s_iret hM25 rfl dX0_answer_28 (by simp (disch := omega) only [mS_ne]) (by rfl)
set_option maxHeartbeats 4000000 in
theorem c_an12 (E : xE) {M : xMem} {s : Int} (hs : 0 ≤ s ∧ s ≤ 5) (hkd : M 5 s.toNat = 2) : Ct E mX0_answer 3 6 [xr E 161, xi s, xi 1] M (some (xi (2 * (s + M 9 7)))) (lvM (lvM (lvM (mS M 161 3 0) 24) 21) 20) := by
  refine Ct.of 0 3 (by rfl) (by decide +kernel) (fun hM => ?_)
  show VS E mX0_answer 6 _ _ 0 [some (xr E 161), some (xi s), some (xi 1)] [] M
  refine r_ald0 dX0_answer_0 ?_
  refine r_iconst dX0_answer_1 ?_
  refine s_putI hM fp_X0_23 (sh_161) rfl (by omega) dX0_answer_2 (fun hM2 => ?_)
  refine r_ald0 dX0_answer_5 ?_
  refine r_ild2 dX0_answer_6 ?_
  refine r_if_ne 18 dX0_answer_7 (by decide) (by omega) (fun c7 => ?_) (fun c7 => by exfalso; omega)
  refine r_ald0 dX0_answer_18 ?_
  refine r_ild1 dX0_answer_19 ?_
  refine s_callV1r hM2 (c_X0_markBody E (by omega) (by rw [mS_ne (Or.inl (by decide)), hkd]; decide)) cv_X0_markBody wM_X0_31 (sh_161) rfl rfl (Nat.le_of_ble_eq_true rfl) (by decide) dX0_answer_20 (fun _ => ?_)
  simp (disch := omega) only [mS_ne, hkd]
  refine r_ild1 dX0_answer_23 ?_
  refine r_iconst dX0_answer_24 ?_
  refine s_callS4r hM2 (c_r24 E (by omega) (by omega) (by rw [mS_eq]; decide)) cs_X0_run wM_X0_34 (Nat.le_of_ble_eq_true rfl) (by decide) dX0_answer_25 (fun hM25 => ?_)
  exact s_iret hM25 rfl dX0_answer_28 (by simp (disch := omega) only [mS_ne]) (by rfl)
set_option maxHeartbeats 4000000 in
theorem c_an13 (E : xE) {M : xMem} {s : Int} (hs : 0 ≤ s ∧ s ≤ 5) (hkd : M 5 s.toNat = 3) : Ct E mX0_answer 3 6 [xr E 161, xi s, xi 1] M (some (xi (s + M 9 7 - 1000))) (lvM (lvM (lvM (mS M 161 3 0) 22) 21) 20) := by
  refine Ct.of 0 3 (by rfl) (by decide +kernel) (fun hM => ?_)
  show VS E mX0_answer 6 _ _ 0 [some (xr E 161), some (xi s), some (xi 1)] [] M
  refine r_ald0 dX0_answer_0 ?_
  refine r_iconst dX0_answer_1 ?_
  refine s_putI hM fp_X0_23 (sh_161) rfl (by omega) dX0_answer_2 (fun hM2 => ?_)
  refine r_ald0 dX0_answer_5 ?_
  refine r_ild2 dX0_answer_6 ?_
  refine r_if_ne 18 dX0_answer_7 (by decide) (by omega) (fun c7 => ?_) (fun c7 => by exfalso; omega)
  refine r_ald0 dX0_answer_18 ?_
  refine r_ild1 dX0_answer_19 ?_
  refine s_callV1r hM2 (c_X0_markBody E (by omega) (by rw [mS_ne (Or.inl (by decide)), hkd]; decide)) cv_X0_markBody wM_X0_31 (sh_161) rfl rfl (Nat.le_of_ble_eq_true rfl) (by decide) dX0_answer_20 (fun _ => ?_)
  simp (disch := omega) only [mS_ne, hkd]
  refine r_ild1 dX0_answer_23 ?_
  refine r_iconst dX0_answer_24 ?_
  refine s_callS4r hM2 (c_r22 E (by omega) (by omega) (by rw [mS_eq]; decide)) cs_X0_run wM_X0_34 (Nat.le_of_ble_eq_true rfl) (by decide) dX0_answer_25 (fun hM25 => ?_)
  exact s_iret hM25 rfl dX0_answer_28 (by simp (disch := omega) only [mS_ne]) (by rfl)
set_option maxHeartbeats 4000000 in
theorem c_an14 (E : xE) {M : xMem} {s : Int} (hs : 0 ≤ s ∧ s ≤ 5) (hkd : M 5 s.toNat = 4) : Ct E mX0_answer 3 6 [xr E 161, xi s, xi 1] M (some (xi (s - (M 7 s.toNat - 100)))) (lvM (lvM (lvM (lvM (mS M 161 3 0) 23) 20) 13) 10) := by
  refine Ct.of 0 3 (by rfl) (by decide +kernel) (fun hM => ?_)
  show VS E mX0_answer 6 _ _ 0 [some (xr E 161), some (xi s), some (xi 1)] [] M
  refine r_ald0 dX0_answer_0 ?_
  refine r_iconst dX0_answer_1 ?_
  refine s_putI hM fp_X0_23 (sh_161) rfl (by omega) dX0_answer_2 (fun hM2 => ?_)
  refine r_ald0 dX0_answer_5 ?_
  refine r_ild2 dX0_answer_6 ?_
  refine r_if_ne 18 dX0_answer_7 (by decide) (by omega) (fun c7 => ?_) (fun c7 => by exfalso; omega)
  refine r_ald0 dX0_answer_18 ?_
  refine r_ild1 dX0_answer_19 ?_
  refine s_callV1r hM2 (c_X0_markBody E (by omega) (by rw [mS_ne (Or.inl (by decide)), hkd]; decide)) cv_X0_markBody wM_X0_31 (sh_161) rfl rfl (Nat.le_of_ble_eq_true rfl) (by decide) dX0_answer_20 (fun _ => ?_)
  simp (disch := omega) only [mS_ne, hkd]
  refine r_ild1 dX0_answer_23 ?_
  refine r_iconst dX0_answer_24 ?_
  refine s_callS4r hM2 (c_r23_4 E (by omega) (by omega) (by rw [mS_eq]; decide) (by rw [mS_ne (Or.inl (by decide))]; exact hkd)) cs_X0_run wM_X0_34 (Nat.le_of_ble_eq_true rfl) (by decide) dX0_answer_25 (fun hM25 => ?_)
  exact s_iret hM25 rfl dX0_answer_28 (by simp (disch := omega) only [mS_ne]) (by rfl)
set_option maxHeartbeats 4000000 in
theorem c_an15 (E : xE) {M : xMem} {s : Int} (hs : 0 ≤ s ∧ s ≤ 5) (hkd : M 5 s.toNat = 5) : Ct E mX0_answer 3 6 [xr E 161, xi s, xi 1] M (some (xi (s - (2 * (M 7 s.toNat - 100))))) (lvM (lvM (lvM (lvM (lvM (mS M 161 3 0) 23) 20) 14) 13) 10) := by
  refine Ct.of 0 3 (by rfl) (by decide +kernel) (fun hM => ?_)
  show VS E mX0_answer 6 _ _ 0 [some (xr E 161), some (xi s), some (xi 1)] [] M
  refine r_ald0 dX0_answer_0 ?_
  refine r_iconst dX0_answer_1 ?_
  refine s_putI hM fp_X0_23 (sh_161) rfl (by omega) dX0_answer_2 (fun hM2 => ?_)
  refine r_ald0 dX0_answer_5 ?_
  refine r_ild2 dX0_answer_6 ?_
  refine r_if_ne 18 dX0_answer_7 (by decide) (by omega) (fun c7 => ?_) (fun c7 => by exfalso; omega)
  refine r_ald0 dX0_answer_18 ?_
  refine r_ild1 dX0_answer_19 ?_
  refine s_callV1r hM2 (c_X0_markBody E (by omega) (by rw [mS_ne (Or.inl (by decide)), hkd]; decide)) cv_X0_markBody wM_X0_31 (sh_161) rfl rfl (Nat.le_of_ble_eq_true rfl) (by decide) dX0_answer_20 (fun _ => ?_)
  simp (disch := omega) only [mS_ne, hkd]
  refine r_ild1 dX0_answer_23 ?_
  refine r_iconst dX0_answer_24 ?_
  refine s_callS4r hM2 (c_r23_5 E (by omega) (by omega) (by rw [mS_eq]; decide) (by rw [mS_ne (Or.inl (by decide))]; exact hkd)) cs_X0_run wM_X0_34 (Nat.le_of_ble_eq_true rfl) (by decide) dX0_answer_25 (fun hM25 => ?_)
  exact s_iret hM25 rfl dX0_answer_28 (by simp (disch := omega) only [mS_ne]) (by rfl)
set_option maxHeartbeats 4000000 in
theorem c_X0_answer (E : xE) {M : xMem} {s w : Int} (hs : 0 ≤ s ∧ s ≤ 5) (hkd : 1 ≤ M 5 s.toNat ∧ M 5 s.toNat ≤ 5) (hw : 0 ≤ w ∧ w ≤ 1) : Ct E mX0_answer 3 6 [xr E 161, xi s, xi w] M (some (xi (if w = 0 then sizT (tw M) (sv M 9) s else mrkT (tw M) (sv M 9) s))) ((trc (M 5 s.toNat) w).foldl lvM (mS M 161 3 0)) := by
  rcases (show w = 0 ∨ w = 1 by omega) with rfl | rfl
  · rcases (show M 5 s.toNat = 1 ∨ M 5 s.toNat = 2 ∨ M 5 s.toNat = 3 ∨ M 5 s.toNat = 4 ∨ M 5 s.toNat = 5 by omega) with h | h | h | h | h
    · exact Ct_eq (c_an01 E hs h) (congrArg (fun z => some (xi z)) (by simp [sizT, mrkT, szwT, tw, sv, h])) (by rw [h]; rfl)
    · exact Ct_eq (c_an02 E hs h) (congrArg (fun z => some (xi z)) (by simp [sizT, mrkT, szwT, tw, sv, h])) (by rw [h]; rfl)
    · exact Ct_eq (c_an03 E hs h) (congrArg (fun z => some (xi z)) (by simp [sizT, mrkT, szwT, tw, sv, h])) (by rw [h]; rfl)
    · exact Ct_eq (c_an04 E hs h) (congrArg (fun z => some (xi z)) (by simp [sizT, mrkT, szwT, tw, sv, h])) (by rw [h]; rfl)
    · exact Ct_eq (c_an05 E hs h) (congrArg (fun z => some (xi z)) (by simp [sizT, mrkT, szwT, tw, sv, h])) (by rw [h]; rfl)
  · rcases (show M 5 s.toNat = 1 ∨ M 5 s.toNat = 2 ∨ M 5 s.toNat = 3 ∨ M 5 s.toNat = 4 ∨ M 5 s.toNat = 5 by omega) with h | h | h | h | h
    · exact Ct_eq (c_an11 E hs h) (congrArg (fun z => some (xi z)) (by simp [sizT, mrkT, szwT, tw, sv, h])) (by rw [h]; rfl)
    · exact Ct_eq (c_an12 E hs h) (congrArg (fun z => some (xi z)) (by simp [sizT, mrkT, szwT, tw, sv, h])) (by rw [h]; rfl)
    · exact Ct_eq (c_an13 E hs h) (congrArg (fun z => some (xi z)) (by simp [sizT, mrkT, szwT, tw, sv, h])) (by rw [h]; rfl)
    · exact Ct_eq (c_an14 E hs h) (congrArg (fun z => some (xi z)) (by simp [sizT, mrkT, szwT, tw, sv, h])) (by rw [h]; rfl)
    · exact Ct_eq (c_an15 E hs h) (congrArg (fun z => some (xi z)) (by simp [sizT, mrkT, szwT, tw, sv, h])) (by rw [h]; rfl)
set_option maxHeartbeats 4000000 in
theorem c_X9_ask (E : xE) {M : xMem} {s w : Int} (hs : -2147483648 ≤ s ∧ s < 2147483648) (hw : -2147483648 ≤ w ∧ w < 2147483648) (hD : (M 3 6 = 0 ∧ M 3 7 = 0) ∨ (TI (tw M) ∧ SI (tw M) (sv M 9))) : Ct E mX9_ask 3 7 [xr E 0, xi s, xi w] M (some (xi ((xAsk M s w).1))) ((xAsk M s w).2) := by
  refine Ct.of 0 3 (by rfl) (by decide +kernel) (fun hM => ?_)
  show VS E mX9_ask 7 _ _ 0 [some (xr E 0), some (xi s), some (xi w)] [] M
  refine r_ald0 dX9_ask_0 ?_
  refine s_getR fi_X9_24 (sh_0) rfl dX9_ask_1 ?_
  refine r_ild1 dX9_ask_4 ?_
  refine s_callV1r hM (c_X8_hasSpeech E (by first | with_reducible assumption | with_reducible exact xSt_9 | with_reducible exact xSt_13 | omega)) cv_X8_hasSpeech wM_X9_188 (sh_3) rfl rfl (Nat.le_of_ble_eq_true rfl) (by decide) dX9_ask_5 (fun _ => ?_)
  refine r_ifb_eq 20 dX9_ask_8 (by decide) (fun c8 => ?_) (fun c8 => ?_)
  · skip
    refine r_ldc (-1000001) dX9_ask_20 wC_X9_87 ?_
    exact s_iret hM rfl dX9_ask_22 (by unfold xAsk ; (repeat' split) <;> first | rfl | omega | (exfalso; omega)) (by unfold xAsk ; (repeat' split) <;> first | rfl | omega | (exfalso; omega))
  refine r_ild2 dX9_ask_11 ?_
  refine r_iconst dX9_ask_12 ?_
  refine r_iconst dX9_ask_13 ?_
  refine s_callS3r hM (c_X9_within E (by first | with_reducible assumption | with_reducible exact xSt_9 | with_reducible exact xSt_13 | omega) (by first | with_reducible assumption | with_reducible exact xSt_9 | with_reducible exact xSt_13 | omega) (by first | with_reducible assumption | with_reducible exact xSt_9 | with_reducible exact xSt_13 | omega)) cs_X9_within wM_X9_83 (Nat.le_of_ble_eq_true rfl) (by decide) dX9_ask_14 (fun _ => ?_)
  refine r_ifb_ne 23 dX9_ask_17 (by decide) (fun c17 => ?_) (fun c17 => ?_)
  · skip
    obtain ⟨hT, hS⟩ := hD.resolve_left (by omega)
    have hn : 1 ≤ M 3 6 ∧ M 3 6 ≤ 5 := hT.1
    have hN : 1 ≤ M 3 7 ∧ M 3 7 ≤ 6 := hT.2.1
    have hr : 1 ≤ M 3 5 ∧ M 3 5 ≤ 60 := hT.2.2.1
    have hl : 0 ≤ M 9 5 ∧ M 9 5 ≤ 99 := hS.2.1
    have hh : 0 ≤ M 9 6 ∧ M 9 6 ≤ 999 := hS.2.2.1
    have hpr : 1 ≤ M 9 7 ∧ M 9 7 ≤ 9 := hS.2.2.2.1
    have hsd : 0 ≤ M 9 8 ∧ M 9 8 ≤ 63 := hS.2.2.2.2.1
    have hwk : 0 ≤ M 9 4 ∧ M 9 4 ≤ 100000 := hS.1
    have hs : 0 ≤ s ∧ s < M 3 7 := by omega
    have hq : (1 ≤ M 5 s.toNat ∧ M 5 s.toNat ≤ 5) ∧ (0 ≤ M 6 s.toNat ∧ M 6 s.toNat < M 3 6) ∧ (1 ≤ M 7 s.toNat ∧ M 7 s.toNat ≤ 30) ∧ (0 ≤ M 8 s.toNat ∧ M 8 s.toNat ≤ s) := hT.2.2.2.2 s hs
    have hkn : 0 ≤ M 12 s.toNat ∧ M 12 s.toNat ≤ 31 := hS.2.2.2.2.2.2 s hs
    refine r_ald0 dX9_ask_23 ?_
    refine s_getR fi_X9_73 (sh_0) rfl dX9_ask_24 ?_
    refine r_ild1 dX9_ask_27 ?_
    refine r_ild2 dX9_ask_28 ?_
    refine s_callV2r hM (c_X0_answer E (by omega) (by exact hq.1) (by omega)) cv_X0_answer wM_X9_350 (sh_161) rfl rfl (Nat.le_of_ble_eq_true rfl) (by decide) dX9_ask_29 (fun hM29 => ?_)
    exact s_iret hM29 rfl dX9_ask_32 (by unfold xAsk ; (repeat' split) <;> first | rfl | omega | (exfalso; omega)) (by unfold xAsk ; (repeat' split) <;> first | rfl | omega | (exfalso; omega))
  refine r_ldc (-1000001) dX9_ask_20 wC_X9_87 ?_
  exact s_iret hM rfl dX9_ask_22 (by unfold xAsk ; (repeat' split) <;> first | rfl | omega | (exfalso; omega)) (by unfold xAsk ; (repeat' split) <;> first | rfl | omega | (exfalso; omega))
set_option maxHeartbeats 4000000 in
theorem c_X9_image (E : xE) {M : xMem} {k : Int} (hk : -2147483648 ≤ k ∧ k < 2147483648) (hD : (M 3 6 = 0 ∧ M 3 7 = 0) ∨ (TI (tw M) ∧ SI (tw M) (sv M 9))) : Ct E mX9_image 2 2 [xr E 0, xi k] M (some (xi ((xImage M k).1))) ((xImage M k).2) := by
  refine Ct.of 0 2 (by rfl) (by decide +kernel) (fun hM => ?_)
  show VS E mX9_image 2 _ _ 0 [some (xr E 0), some (xi k)] [] M
  refine r_ild1 dX9_image_0 ?_
  refine r_iconst dX9_image_1 ?_
  refine r_iconst dX9_image_2 ?_
  refine s_callS3r hM (c_X9_within E (by first | with_reducible assumption | with_reducible exact xSt_9 | with_reducible exact xSt_13 | omega) (by first | with_reducible assumption | with_reducible exact xSt_9 | with_reducible exact xSt_13 | omega) (by first | with_reducible assumption | with_reducible exact xSt_9 | with_reducible exact xSt_13 | omega)) cs_X9_within wM_X9_83 (Nat.le_of_ble_eq_true rfl) (by decide) dX9_image_3 (fun _ => ?_)
  refine r_ifb_ne 12 dX9_image_6 (by decide) (fun c6 => ?_) (fun c6 => ?_)
  · skip
    refine r_ald0 dX9_image_12 ?_
    refine s_callV0r hM (c_X9_noDuchy E ) cv_X9_noDuchy wM_X9_172 (sh_0) rfl rfl (Nat.le_of_ble_eq_true rfl) (by decide) dX9_image_13 (fun _ => ?_)
    refine r_ifb_eq 22 dX9_image_16 (by decide) (fun c16 => ?_) (fun c16 => ?_)
    · skip
      refine r_ald0 dX9_image_22 ?_
      refine s_getR fi_X9_17 (sh_0) rfl dX9_image_23 ?_
      refine r_ild1 dX9_image_26 ?_
      refine s_imgs (by omega) dX9_image_27 (fun p27 ep27 hp27 => ?_)
      subst ep27
      refine s_getR fi_X9_340 (hp27.1) rfl dX9_image_28 ?_
      refine r_ald0 dX9_image_31 ?_
      refine s_getR fi_X9_24 (sh_0) rfl dX9_image_32 ?_
      refine s_callV1v hM (c_X8_takeFrom E (by first | exact hp27.2.1 | exact xTw_3) (by exact xTw_3)) cv_X8_takeFrom wM_X9_148 (hp27.2.1.1) rfl rfl (Nat.le_of_ble_eq_true rfl) (by decide) dX9_image_35 (fun hM35 => ?_)
      refine r_ald0 dX9_image_38 ?_
      refine s_getR fi_X9_17 (sh_0) rfl dX9_image_39 ?_
      refine r_ild1 dX9_image_42 ?_
      refine s_imgs (by omega) dX9_image_43 (fun p43 ep43 hp43 => ?_)
      subst ep43
      refine s_getR fi_X9_341 (hp43.1) rfl dX9_image_44 ?_
      refine r_ald0 dX9_image_47 ?_
      refine s_getR fi_X9_33 (sh_0) rfl dX9_image_48 ?_
      refine s_callV1v hM35 (c_X6_takeFrom E (by exact hp43.2.2.1) (by exact xSt_9.g)) cv_X6_takeFrom wM_X9_152 (hp43.2.2.1.1) rfl rfl (Nat.le_of_ble_eq_true rfl) (by decide) dX9_image_51 (fun hM51 => ?_)
      refine r_ald0 dX9_image_54 ?_
      refine s_getR fi_X9_17 (sh_0) rfl dX9_image_55 ?_
      refine r_ild1 dX9_image_58 ?_
      refine s_imgs (by omega) dX9_image_59 (fun p59 ep59 hp59 => ?_)
      subst ep59
      refine r_iconst dX9_image_60 ?_
      refine s_putZ hM51 fp_X9_342 (hp59.1) rfl (by omega) dX9_image_61 (fun hM61 => ?_)
      refine r_iconst dX9_image_64 ?_
      exact s_iret hM61 rfl dX9_image_65 (by unfold xImage ; (repeat' split) <;> first | rfl | omega | (exfalso; omega)) (by unfold xImage ; (repeat' split) <;> first | rfl | omega | (exfalso; omega))
    refine r_ldc (-1000002) dX9_image_19 wC_X9_171 ?_
    exact s_iret hM rfl dX9_image_21 (by unfold xImage ; (repeat' split) <;> first | rfl | omega | (exfalso; omega)) (by unfold xImage ; (repeat' split) <;> first | rfl | omega | (exfalso; omega))
  refine r_ldc (-1000001) dX9_image_9 wC_X9_87 ?_
  exact s_iret hM rfl dX9_image_11 (by unfold xImage ; (repeat' split) <;> first | rfl | omega | (exfalso; omega)) (by unfold xImage ; (repeat' split) <;> first | rfl | omega | (exfalso; omega))
set_option maxHeartbeats 4000000 in
theorem c_X9_restore (E : xE) {M : xMem} {k : Int} (hk : -2147483648 ≤ k ∧ k < 2147483648) (himg : ∀ i : Nat, i < 2 → M (179 + 11 * i) 2 = 0 ∨ M (179 + 11 * i) 2 = 1) : Ct E mX9_restore 2 2 [xr E 0, xi k] M (some (xi ((xRestore M k).1))) ((xRestore M k).2) := by
  refine Ct.of 0 2 (by rfl) (by decide +kernel) (fun hM => ?_)
  show VS E mX9_restore 2 _ _ 0 [some (xr E 0), some (xi k)] [] M
  refine r_ild1 dX9_restore_0 ?_
  refine r_iconst dX9_restore_1 ?_
  refine r_iconst dX9_restore_2 ?_
  refine s_callS3r hM (c_X9_within E (by first | with_reducible assumption | with_reducible exact xSt_9 | with_reducible exact xSt_13 | omega) (by first | with_reducible assumption | with_reducible exact xSt_9 | with_reducible exact xSt_13 | omega) (by first | with_reducible assumption | with_reducible exact xSt_9 | with_reducible exact xSt_13 | omega)) cs_X9_within wM_X9_83 (Nat.le_of_ble_eq_true rfl) (by decide) dX9_restore_3 (fun _ => ?_)
  refine r_ifb_ne 12 dX9_restore_6 (by decide) (fun c6 => ?_) (fun c6 => ?_)
  · skip
    have hi1 := himg k.toNat (by omega)
    refine r_ald0 dX9_restore_12 ?_
    refine s_getR fi_X9_17 (sh_0) rfl dX9_restore_13 ?_
    refine r_ild1 dX9_restore_16 ?_
    refine s_imgs (by omega) dX9_restore_17 (fun p17 ep17 hp17 => ?_)
    subst ep17
    refine s_getI hM fi_X9_342 (hp17.1) rfl dX9_restore_18 (fun g18 => ?_)
    refine r_if_ne 27 dX9_restore_21 (by decide) (by omega) (fun c21 => ?_) (fun c21 => ?_)
    · skip
      refine r_ald0 dX9_restore_27 ?_
      refine s_getR fi_X9_24 (sh_0) rfl dX9_restore_28 ?_
      refine r_ald0 dX9_restore_31 ?_
      refine s_getR fi_X9_17 (sh_0) rfl dX9_restore_32 ?_
      refine r_ild1 dX9_restore_35 ?_
      refine s_imgs (by omega) dX9_restore_36 (fun p36 ep36 hp36 => ?_)
      subst ep36
      refine s_getR fi_X9_340 (hp36.1) rfl dX9_restore_37 ?_
      refine s_callV1v hM (c_X8_takeFrom E (by exact xTw_3) (by exact hp36.2.1)) cv_X8_takeFrom wM_X9_148 (sh_3) rfl rfl (Nat.le_of_ble_eq_true rfl) (by decide) dX9_restore_40 (fun hM40 => ?_)
      refine r_ald0 dX9_restore_43 ?_
      refine s_getR fi_X9_33 (sh_0) rfl dX9_restore_44 ?_
      refine r_ald0 dX9_restore_47 ?_
      refine s_getR fi_X9_17 (sh_0) rfl dX9_restore_48 ?_
      refine r_ild1 dX9_restore_51 ?_
      refine s_imgs (by omega) dX9_restore_52 (fun p52 ep52 hp52 => ?_)
      subst ep52
      refine s_getR fi_X9_341 (hp52.1) rfl dX9_restore_53 ?_
      refine s_callV1v hM40 (c_X6_takeFrom E (by exact xSt_9.g) (by exact hp52.2.2.1)) cv_X6_takeFrom wM_X9_152 (sh_9) rfl rfl (Nat.le_of_ble_eq_true rfl) (by decide) dX9_restore_56 (fun hM56 => ?_)
      refine r_ald0 dX9_restore_59 ?_
      refine s_getR fi_X9_43 (sh_0) rfl dX9_restore_60 ?_
      refine s_callV0v hM56 (c_X3_forget E ) cv_X3_forget wM_X9_155 (sh_17) rfl rfl (Nat.le_of_ble_eq_true rfl) (by decide) dX9_restore_63 (fun hM63 => ?_)
      refine r_iconst dX9_restore_66 ?_
      exact s_iret hM63 rfl dX9_restore_67 (by unfold xRestore ; (repeat' split) <;> first | rfl | omega | (exfalso; omega)) (by unfold xRestore ; (repeat' split) <;> first | rfl | omega | (exfalso; omega))
    refine r_ldc (-1000002) dX9_restore_24 wC_X9_171 ?_
    exact s_iret hM rfl dX9_restore_26 (by unfold xRestore ; (repeat' split) <;> first | rfl | omega | (exfalso; omega)) (by unfold xRestore ; (repeat' split) <;> first | rfl | omega | (exfalso; omega))
  refine r_ldc (-1000001) dX9_restore_9 wC_X9_87 ?_
  exact s_iret hM rfl dX9_restore_11 (by unfold xRestore ; (repeat' split) <;> first | rfl | omega | (exfalso; omega)) (by unfold xRestore ; (repeat' split) <;> first | rfl | omega | (exfalso; omega))
set_option maxHeartbeats 4000000 in
theorem c_X9_allKnow (E : xE) {M : xMem} {s : Int} (hs : -2147483648 ≤ s ∧ s < 2147483648) (hD : (M 3 6 = 0 ∧ M 3 7 = 0) ∨ (TI (tw M) ∧ SI (tw M) (sv M 9))) : Ct E mX9_allKnow 3 4 [xr E 0, xi s] M (some (xi (xAllKnow M s))) (M) := by
  refine Ct.of 1 3 (by rfl) (by decide +kernel) (fun hM => ?_)
  show VS E mX9_allKnow 4 _ _ 0 [some (xr E 0), some (xi s), none] [] M
  have L16 : ∀ (fu : Nat) (w : Int), (TI (tw M)) → (SI (tw M) (sv M 9)) → (0 ≤ s ∧ s < M 3 7) → (0 ≤ w ∧ w ≤ 61) → (akL (tw M) (sv M 9) s (61 - w).toNat w = xAllKnow M s) → (61 - w).toNat < fu → VS E mX9_allKnow 4 (some (xi (xAllKnow M s))) (M) 16 [some (xr E 0), some (xi s), some (xi w)] [] M := by
    intro fu
    induction fu with
    | zero => intro w  hT hS hs hb hi hme; exact absurd hme (Nat.not_lt_zero _)
    | succ fu ih =>
      intro w  hT hS hs hb hi hme
      have hn : 1 ≤ M 3 6 ∧ M 3 6 ≤ 5 := hT.1
      have hN : 1 ≤ M 3 7 ∧ M 3 7 ≤ 6 := hT.2.1
      have hr : 1 ≤ M 3 5 ∧ M 3 5 ≤ 60 := hT.2.2.1
      have hl : 0 ≤ M 9 5 ∧ M 9 5 ≤ 99 := hS.2.1
      have hh : 0 ≤ M 9 6 ∧ M 9 6 ≤ 999 := hS.2.2.1
      have hpr : 1 ≤ M 9 7 ∧ M 9 7 ≤ 9 := hS.2.2.2.1
      have hsd : 0 ≤ M 9 8 ∧ M 9 8 ≤ 63 := hS.2.2.2.2.1
      have hwk : 0 ≤ M 9 4 ∧ M 9 4 ≤ 100000 := hS.1
      have hp5 := p2_5 (n := M 3 6) (by omega)
      refine r_ild2 dX9_allKnow_16 ?_
      refine r_bipush dX9_allKnow_17 (by decide +kernel) ?_
      refine r_icmp_gt 49 dX9_allKnow_19 (by decide) (by omega) (by omega) (fun c19 => ?_) (fun c19 => ?_)
      · skip
        refine r_ldc (-1000000) dX9_allKnow_49 wC_X9_221 ?_
        exact s_iret hM rfl dX9_allKnow_51 (by rw [← hi, show (61 - w).toNat = 0 by omega]; rfl) (by rfl)
      refine r_ald0 dX9_allKnow_22 ?_
      refine s_getR fi_X9_33 (sh_0) rfl dX9_allKnow_23 ?_
      refine r_ild1 dX9_allKnow_26 ?_
      refine r_ild2 dX9_allKnow_27 ?_
      refine s_callV2r hM (c_X6_knownAhead E (by first | with_reducible assumption | with_reducible exact xSt_9 | with_reducible exact xSt_13 | omega) (by first | with_reducible assumption | with_reducible exact xSt_9 | with_reducible exact xSt_13 | omega) (by first | with_reducible assumption | with_reducible exact xSt_9 | with_reducible exact xSt_13 | omega) (by first | with_reducible assumption | with_reducible exact xSt_9 | with_reducible exact xSt_13 | omega) (by first | with_reducible assumption | with_reducible exact xSt_9 | with_reducible exact xSt_13 | omega)) cv_X6_knownAhead wM_X9_264 (sh_9) rfl rfl (Nat.le_of_ble_eq_true rfl) (by decide) dX9_allKnow_28 (fun _ => ?_)
      have hkw : 0 ≤ knwT (tw M) (sv M 9) s w ∧ knwT (tw M) (sv M 9) s w ≤ 31 := onwT_b (by show 0 ≤ M 3 6 ∧ M 3 6 ≤ 5; omega) (hS.2.2.2.2.2.2 s hs)
      refine r_ald0 dX9_allKnow_31 ?_
      refine s_getR fi_X9_24 (sh_0) rfl dX9_allKnow_32 ?_
      refine s_callV0r hM (c_X8_everyone E (by first | with_reducible assumption | with_reducible exact xSt_9 | with_reducible exact xSt_13 | omega)) cv_X8_everyone wM_X9_267 (sh_3) rfl rfl (Nat.le_of_ble_eq_true rfl) (by decide) dX9_allKnow_35 (fun _ => ?_)
      refine r_icmp_ne 43 dX9_allKnow_38 (by decide) (by omega) (by omega) (fun c38 => ?_) (fun c38 => ?_)
      · skip
        refine r_iinc2 dX9_allKnow_43 rfl ?_
        refine r_goto 16 dX9_allKnow_46 (by decide) ?_
        exact ih _  (by exact hT) (by exact hS) (by omega) (by omega) (by rw [← hi, show (61 - w).toNat = (61 - (w + 1)).toNat + 1 by omega, akL, if_neg (by assumption)]) (by omega)
      refine r_ild2 dX9_allKnow_41 ?_
      exact s_iret hM rfl dX9_allKnow_42 (by rw [← hi, show (61 - w).toNat = (61 - (w + 1)).toNat + 1 by omega, akL, if_pos (by assumption)]) (by rfl)
  refine r_ald0 dX9_allKnow_0 ?_
  refine s_getR fi_X9_24 (sh_0) rfl dX9_allKnow_1 ?_
  refine r_ild1 dX9_allKnow_4 ?_
  refine s_callV1r hM (c_X8_hasSpeech E (by first | with_reducible assumption | with_reducible exact xSt_9 | with_reducible exact xSt_13 | omega)) cv_X8_hasSpeech wM_X9_188 (sh_3) rfl rfl (Nat.le_of_ble_eq_true rfl) (by decide) dX9_allKnow_5 (fun _ => ?_)
  refine r_ifb_ne 14 dX9_allKnow_8 (by decide) (fun c8 => ?_) (fun c8 => ?_)
  · skip
    obtain ⟨hT, hS⟩ := hD.resolve_left (by omega)
    have hn : 1 ≤ M 3 6 ∧ M 3 6 ≤ 5 := hT.1
    have hN : 1 ≤ M 3 7 ∧ M 3 7 ≤ 6 := hT.2.1
    have hr : 1 ≤ M 3 5 ∧ M 3 5 ≤ 60 := hT.2.2.1
    have hl : 0 ≤ M 9 5 ∧ M 9 5 ≤ 99 := hS.2.1
    have hh : 0 ≤ M 9 6 ∧ M 9 6 ≤ 999 := hS.2.2.1
    have hpr : 1 ≤ M 9 7 ∧ M 9 7 ≤ 9 := hS.2.2.2.1
    have hsd : 0 ≤ M 9 8 ∧ M 9 8 ≤ 63 := hS.2.2.2.2.1
    have hwk : 0 ≤ M 9 4 ∧ M 9 4 ≤ 100000 := hS.1
    have hs : 0 ≤ s ∧ s < M 3 7 := by omega
    have hq : (1 ≤ M 5 s.toNat ∧ M 5 s.toNat ≤ 5) ∧ (0 ≤ M 6 s.toNat ∧ M 6 s.toNat < M 3 6) ∧ (1 ≤ M 7 s.toNat ∧ M 7 s.toNat ≤ 30) ∧ (0 ≤ M 8 s.toNat ∧ M 8 s.toNat ≤ s) := hT.2.2.2.2 s hs
    have hkn : 0 ≤ M 12 s.toNat ∧ M 12 s.toNat ≤ 31 := hS.2.2.2.2.2.2 s hs
    have hp5 := p2_5 (n := M 3 6) (by omega)
    refine r_iconst dX9_allKnow_14 ?_
    refine r_ist2 dX9_allKnow_15 rfl ?_
    exact L16 62 _  (by exact hT) (by exact hS) (by omega) (by omega) (by unfold xAllKnow; rw [if_neg (by omega)]; rfl) (by omega)
  refine r_ldc (-1000001) dX9_allKnow_11 wC_X9_87 ?_
  exact s_iret hM rfl dX9_allKnow_13 (by unfold xAllKnow ; (repeat' split) <;> first | rfl | omega | (exfalso; omega)) (by rfl)
set_option maxHeartbeats 4000000 in
theorem c_X9_weeks (E : xE) {M : xMem} {n : Int} (hn : -2147483648 ≤ n ∧ n < 2147483648) (hD : (M 3 6 = 0 ∧ M 3 7 = 0) ∨ (TI (tw M) ∧ SI (tw M) (sv M 9))) (hnx : 0 ≤ M 17 1 ∧ M 17 1 < 24) (hkp : 0 ≤ M 17 2 ∧ M 17 2 ≤ 24) : Ct E mX9_weeks 3 4 [xr E 0, xi n] M (some (xi ((xWeeks M n).1))) ((xWeeks M n).2) := by
  refine Ct.of 1 3 (by rfl) (by decide +kernel) (fun hM => ?_)
  show VS E mX9_weeks 4 _ _ 0 [some (xr E 0), some (xi n), none] [] M
  have L43 : ∀ (fu : Nat) (i : Int) (Mc : xMem), InR Mc → (¬ M 3 6 = 0 ∧ 1 ≤ n ∧ n ≤ 24 ∧ M 9 4 + n ≤ 999) → (0 ≤ i ∧ i ≤ n) → (TI (tw Mc)) → (SI (tw Mc) (sv Mc 9)) → ((0 ≤ Mc 17 1 ∧ Mc 17 1 < 24) ∧ (0 ≤ Mc 17 2 ∧ Mc 17 2 ≤ 24)) → (Mc 9 4 = M 9 4 + i) → (wkM (n - i).toNat Mc = wkM n.toNat M) → (n - i).toNat < fu → VS E mX9_weeks 4 (some (xi ((xWeeks M n).1))) ((xWeeks M n).2) 43 [some (xr E 0), some (xi n), some (xi i)] [] Mc := by
    intro fu
    induction fu with
    | zero => intro i Mc hML43 hg hb hTc hSc hnc hwk hi hme; exact absurd hme (Nat.not_lt_zero _)
    | succ fu ih =>
      intro i Mc hML43 hg hb hTc hSc hnc hwk hi hme
      have hwr : 0 ≤ Mc 9 4 ∧ Mc 9 4 ≤ 100000 := hSc.1
      refine r_ild2 dX9_weeks_43 ?_
      refine r_ild1 dX9_weeks_44 ?_
      refine r_icmp_ge 73 dX9_weeks_45 (by decide) (by omega) (by omega) (fun c45 => ?_) (fun c45 => ?_)
      · skip
        refine r_ald0 dX9_weeks_73 ?_
        refine s_getR fi_X9_33 (sh_0) rfl dX9_weeks_74 ?_
        refine s_getI hML43 fi_X9_185 (sh_9) rfl dX9_weeks_77 (fun g77 => ?_)
        exact s_iret hML43 rfl dX9_weeks_80 (by unfold xWeeks; rw [if_neg (by omega), if_neg (by omega), if_neg (by omega), ← hi, show (n - i).toNat = 0 by omega]; rfl) (by first | (unfold xWeeks; (repeat' split) <;> first | rfl | (exfalso; omega)) | (unfold xWeeks; rw [if_neg (by omega), if_neg (by omega), if_neg (by omega), ← hi, show (n - i).toNat = 0 by omega]; rfl))
      have hkb := kp_b (M := Mc) hnc.1 hnc.2
      refine r_ald0 dX9_weeks_48 ?_
      refine s_getR fi_X9_43 (sh_0) rfl dX9_weeks_49 ?_
      refine r_ald0 dX9_weeks_52 ?_
      refine s_getR fi_X9_33 (sh_0) rfl dX9_weeks_53 ?_
      refine s_callV1v hML43 (c_X3_keep E (by exact hnc.1) (by exact hnc.2)) cv_X3_keep wM_X9_178 (sh_17) rfl rfl (Nat.le_of_ble_eq_true rfl) (by decide) dX9_weeks_56 (fun hM56 => ?_)
      refine r_ald0 dX9_weeks_59 ?_
      refine s_getR fi_X9_33 (sh_0) rfl dX9_weeks_60 ?_
      refine r_iconst dX9_weeks_63 ?_
      refine s_callV1v hM56 (c_X6_passWeeks E (by exact xSt_9) (by rw [tw_kp]; exact hTc) (by rw [tw_kp, sv_kp]; exact hSc) (by decide)) cv_X6_passWeeks wM_X9_181 (sh_9) rfl rfl (Nat.le_of_ble_eq_true rfl) (by decide) dX9_weeks_64 (fun hM64 => ?_)
      refine r_iinc2 dX9_weeks_67 rfl ?_
      refine r_goto 43 dX9_weeks_70 (by decide) ?_
      exact ih _ _  hM64 (by omega) (by omega) (by rw [tw_pas (by decide), tw_kp]; exact hTc) (by rw [tw_pas (by decide), sv_pas (by decide), tw_kp, sv_kp]; exact SI_pas hTc hSc (by decide) (by show Mc 9 4 + 1 ≤ 100000; omega)) (by rw [pas_lo (by decide) (by decide), pas_lo (by decide) (by decide)]; exact hkb) (by rw [show pasM (kpM Mc) 9 1 9 4 = kpM Mc 9 4 + 1 from mS_eq, kp_lo (by decide)]; omega) (by rw [← hi, show (n - i).toNat = (n - (i + 1)).toNat + 1 by omega]; rfl) (by omega)
  refine r_ald0 dX9_weeks_0 ?_
  refine s_callV0r hM (c_X9_noDuchy E ) cv_X9_noDuchy wM_X9_172 (sh_0) rfl rfl (Nat.le_of_ble_eq_true rfl) (by decide) dX9_weeks_1 (fun _ => ?_)
  refine r_ifb_eq 10 dX9_weeks_4 (by decide) (fun c4 => ?_) (fun c4 => ?_)
  · skip
    obtain ⟨hT, hS⟩ := hD.resolve_left (by omega)
    have hn : 1 ≤ M 3 6 ∧ M 3 6 ≤ 5 := hT.1
    have hN : 1 ≤ M 3 7 ∧ M 3 7 ≤ 6 := hT.2.1
    have hr : 1 ≤ M 3 5 ∧ M 3 5 ≤ 60 := hT.2.2.1
    have hl : 0 ≤ M 9 5 ∧ M 9 5 ≤ 99 := hS.2.1
    have hh : 0 ≤ M 9 6 ∧ M 9 6 ≤ 999 := hS.2.2.1
    have hpr : 1 ≤ M 9 7 ∧ M 9 7 ≤ 9 := hS.2.2.2.1
    have hsd : 0 ≤ M 9 8 ∧ M 9 8 ≤ 63 := hS.2.2.2.2.1
    have hwk : 0 ≤ M 9 4 ∧ M 9 4 ≤ 100000 := hS.1
    refine r_ild1 dX9_weeks_10 ?_
    refine r_iconst dX9_weeks_11 ?_
    refine r_bipush dX9_weeks_12 (by decide +kernel) ?_
    refine s_callS3r hM (c_X9_within E (by first | with_reducible assumption | with_reducible exact xSt_9 | with_reducible exact xSt_13 | omega) (by first | with_reducible assumption | with_reducible exact xSt_9 | with_reducible exact xSt_13 | omega) (by first | with_reducible assumption | with_reducible exact xSt_9 | with_reducible exact xSt_13 | omega)) cs_X9_within wM_X9_83 (Nat.le_of_ble_eq_true rfl) (by decide) dX9_weeks_14 (fun _ => ?_)
    refine r_ifb_ne 23 dX9_weeks_17 (by decide) (fun c17 => ?_) (fun c17 => ?_)
    · skip
      refine r_ald0 dX9_weeks_23 ?_
      refine s_getR fi_X9_33 (sh_0) rfl dX9_weeks_24 ?_
      refine s_getI hM fi_X9_175 (sh_9) rfl dX9_weeks_27 (fun g27 => ?_)
      refine r_ild1 dX9_weeks_30 ?_
      refine r_iadd dX9_weeks_31 ?_
      refine r_sipush dX9_weeks_32 (by decide +kernel) ?_
      refine r_icmp_le 41 dX9_weeks_35 (by decide) (by omega) (by omega) (fun c35 => ?_) (fun c35 => ?_)
      · skip
        refine r_iconst dX9_weeks_41 ?_
        refine r_ist2 dX9_weeks_42 rfl ?_
        exact L43 25 _ _  hM (by omega) (by omega) (by exact hT) (by exact hS) (by omega) (by omega) (by rw [Int.sub_zero]) (by omega)
      refine r_ldc (-1000003) dX9_weeks_38 wC_X9_138 ?_
      exact s_iret hM rfl dX9_weeks_40 (by unfold xWeeks ; (repeat' split) <;> first | rfl | omega | (exfalso; omega)) (by first | (unfold xWeeks; (repeat' split) <;> first | rfl | (exfalso; omega)) | (unfold xWeeks; rw [if_neg (by omega), if_neg (by omega), if_neg (by omega), ← hi, show (n - i).toNat = 0 by omega]; rfl))
    refine r_ldc (-1000001) dX9_weeks_20 wC_X9_87 ?_
    exact s_iret hM rfl dX9_weeks_22 (by unfold xWeeks ; (repeat' split) <;> first | rfl | omega | (exfalso; omega)) (by first | (unfold xWeeks; (repeat' split) <;> first | rfl | (exfalso; omega)) | (unfold xWeeks; rw [if_neg (by omega), if_neg (by omega), if_neg (by omega), ← hi, show (n - i).toNat = 0 by omega]; rfl))
  refine r_ldc (-1000002) dX9_weeks_7 wC_X9_171 ?_
  exact s_iret hM rfl dX9_weeks_9 (by unfold xWeeks ; (repeat' split) <;> first | rfl | omega | (exfalso; omega)) (by first | (unfold xWeeks; (repeat' split) <;> first | rfl | (exfalso; omega)) | (unfold xWeeks; rw [if_neg (by omega), if_neg (by omega), if_neg (by omega), ← hi, show (n - i).toNat = 0 by omega]; rfl))
