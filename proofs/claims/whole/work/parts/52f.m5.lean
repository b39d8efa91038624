set_option maxHeartbeats 4000000 in
theorem c_X10_purse (E : xE) {M : xMem} {p n : Int} (hp : -2147483648 ≤ p ∧ p < 2147483648) (hn : -2147483648 ≤ n ∧ n < 2147483648) (hD : MD M) : Ct E mX10_purse 3 5 [xr E 201, xi p, xi n] M (some (xi ((yPurse M p n).1))) ((yPurse M p n).2) := by
  refine Ct.of 0 3 (by rfl) (by decide +kernel) (fun hM => ?_)
  have hmn := MD_n hD
  show VS E mX10_purse 5 _ _ 0 [some (xr E 201), some (xi p), some (xi n)] [] M
  refine r_ald0 dX10_purse_0 ?_
  refine r_ild1 dX10_purse_1 ?_
  refine s_callV1r hM (c_X10_isPerson E (by first | with_reducible assumption | with_reducible exact xSt_9 | with_reducible exact xSt_13 | omega) (by first | with_reducible assumption | with_reducible exact xSt_9 | with_reducible exact xSt_13 | omega)) cv_X10_isPerson wM_X10_215 (sh_201) rfl rfl (Nat.le_of_ble_eq_true rfl) (by decide) dX10_purse_2 (fun _ => ?_)
  refine r_ifb_eq 15 dX10_purse_5 (by decide) (fun c5 => ?_) (fun c5 => ?_)
  · skip
    refine r_ldc (-1000001) dX10_purse_15 wC_X10_78 ?_
    exact s_iret hM rfl dX10_purse_17 (by unfold yPurse; first | (rw [if_pos (by omega)]; done) | (rw [if_neg (by omega)]; done) | (rw [if_neg (by omega), if_neg (by omega)]; done) | (rw [if_neg (by omega), if_pos (by omega)]; done)) (by unfold yPurse; first | (rw [if_pos (by omega)]; done) | (rw [if_neg (by omega)]; done) | (rw [if_neg (by omega), if_neg (by omega)]; done) | (rw [if_neg (by omega), if_pos (by omega)]; done))
  refine r_ild2 dX10_purse_8 ?_
  refine s_callS1r hM (c_X10_isAhead E (by first | with_reducible assumption | with_reducible exact xSt_9 | with_reducible exact xSt_13 | omega)) cs_X10_isAhead wM_X10_224 (Nat.le_of_ble_eq_true rfl) (by decide) dX10_purse_9 (fun _ => ?_)
  refine r_ifb_ne 18 dX10_purse_12 (by decide) (fun c12 => ?_) (fun c12 => ?_)
  · skip
    obtain ⟨hd1, hT, hG, hNN⟩ := MD_g hD (by omega)
    have hn : 1 ≤ M 209 0 ∧ M 209 0 ≤ 5 := hT.1
    have hN : 1 ≤ M 209 1 ∧ M 209 1 ≤ 6 := hT.2.1
    have hra : 1 ≤ M 209 2 ∧ M 209 2 ≤ 60 := hT.2.2.1
    refine r_ald0 dX10_purse_18 ?_
    refine r_ild2 dX10_purse_19 ?_
    refine s_callV1v hM (c_X10_ahead E (by exact hT) (by exact hG) (by omega)) cv_X10_ahead wM_X10_227 (sh_201) rfl rfl (Nat.le_of_ble_eq_true rfl) (by decide) dX10_purse_20 (fun hM20 => ?_)
    refine r_ald0 dX10_purse_23 ?_
    refine s_getR fi_X10_37 (sh_201) rfl dX10_purse_24 ?_
    refine r_iconst dX10_purse_27 ?_
    refine r_ild1 dX10_purse_28 ?_
    refine r_iadd dX10_purse_29 ?_
    refine s_iald hM20 (sh_211) (by omega) (by decide) dX10_purse_30 (fun g30 => ?_)
    try simp (disch := omega) only [Int.reduceToNat]
    exact s_iret hM20 rfl dX10_purse_31 (by unfold yPurse; first | (rw [if_pos (by omega)]; done) | (rw [if_neg (by omega)]; done) | (rw [if_neg (by omega), if_neg (by omega)]; done) | (rw [if_neg (by omega), if_pos (by omega)]; done)) (by unfold yPurse; first | (rw [if_pos (by omega)]; done) | (rw [if_neg (by omega)]; done) | (rw [if_neg (by omega), if_neg (by omega)]; done) | (rw [if_neg (by omega), if_pos (by omega)]; done))
  refine r_ldc (-1000001) dX10_purse_15 wC_X10_78 ?_
  exact s_iret hM rfl dX10_purse_17 (by unfold yPurse; first | (rw [if_pos (by omega)]; done) | (rw [if_neg (by omega)]; done) | (rw [if_neg (by omega), if_neg (by omega)]; done) | (rw [if_neg (by omega), if_pos (by omega)]; done)) (by unfold yPurse; first | (rw [if_pos (by omega)]; done) | (rw [if_neg (by omega)]; done) | (rw [if_neg (by omega), if_neg (by omega)]; done) | (rw [if_neg (by omega), if_pos (by omega)]; done))
set_option maxHeartbeats 4000000 in
theorem c_X10_hill (E : xE) {M : xMem} {n : Int} (hn : -2147483648 ≤ n ∧ n < 2147483648) (hD : MD M) : Ct E mX10_hill 3 5 [xr E 201, xi n] M (some (xi ((yHill M n).1))) ((yHill M n).2) := by
  refine Ct.of 1 3 (by rfl) (by decide +kernel) (fun hM => ?_)
  show VS E mX10_hill 5 _ _ 0 [some (xr E 201), some (xi n), none] [] M
  refine r_ald0 dX10_hill_0 ?_
  refine r_ild1 dX10_hill_1 ?_
  refine s_callS1r hM (c_X10_isAhead E (by first | with_reducible assumption | with_reducible exact xSt_9 | with_reducible exact xSt_13 | omega)) cs_X10_isAhead wM_X10_224 (Nat.le_of_ble_eq_true rfl) (by decide) dX10_hill_2 (fun _ => ?_)
  refine s_callV1r hM (c_X10_need E (by first | exact b01 | omega)) cv_X10_need wM_X10_194 (sh_201) rfl rfl (Nat.le_of_ble_eq_true rfl) (by decide) dX10_hill_5 (fun _ => ?_)
  refine r_ist2 dX10_hill_8 rfl ?_
  have hnd := need_b M (0 ≤ n ∧ n ≤ 60)
  refine r_ild2 dX10_hill_9 ?_
  refine r_if_ge 15 dX10_hill_10 (by decide) (by omega) (fun c10 => ?_) (fun c10 => ?_)
  · skip
    obtain ⟨hd1, hT, hG, hNN⟩ := MD_g hD (by omega)
    have hn : 1 ≤ M 209 0 ∧ M 209 0 ≤ 5 := hT.1
    have hN : 1 ≤ M 209 1 ∧ M 209 1 ≤ 6 := hT.2.1
    have hra : 1 ≤ M 209 2 ∧ M 209 2 ≤ 60 := hT.2.2.1
    refine r_ald0 dX10_hill_15 ?_
    refine r_ild1 dX10_hill_16 ?_
    refine s_callV1v hM (c_X10_ahead E (by exact hT) (by exact hG) (by omega)) cv_X10_ahead wM_X10_227 (sh_201) rfl rfl (Nat.le_of_ble_eq_true rfl) (by decide) dX10_hill_17 (fun hM17 => ?_)
    refine r_ald0 dX10_hill_20 ?_
    refine s_getR fi_X10_37 (sh_201) rfl dX10_hill_21 ?_
    refine r_iconst dX10_hill_24 ?_
    refine s_iald hM17 (sh_211) (by omega) (by decide) dX10_hill_25 (fun g25 => ?_)
    try simp (disch := omega) only [Int.reduceToNat]
    exact s_iret hM17 rfl dX10_hill_26 (by unfold yHill; (repeat' split) <;> first | rfl | omega | (exfalso; omega)) (by unfold yHill; (repeat' split) <;> first | rfl | omega | (exfalso; omega))
  refine r_ild2 dX10_hill_13 ?_
  exact s_iret hM rfl dX10_hill_14 (by unfold yHill; (repeat' split) <;> first | rfl | omega | (exfalso; omega)) (by unfold yHill; (repeat' split) <;> first | rfl | omega | (exfalso; omega))
set_option maxHeartbeats 4000000 in
theorem c_X10_known (E : xE) {M : xMem} {s n : Int} (hs : -2147483648 ≤ s ∧ s < 2147483648) (hn : -2147483648 ≤ n ∧ n < 2147483648) (hD : MD M) : Ct E mX10_known 3 5 [xr E 201, xi s, xi n] M (some (xi ((yKnown M s n).1))) ((yKnown M s n).2) := by
  refine Ct.of 0 3 (by rfl) (by decide +kernel) (fun hM => ?_)
  have hmn := MD_n hD
  show VS E mX10_known 5 _ _ 0 [some (xr E 201), some (xi s), some (xi n)] [] M
  refine r_ald0 dX10_known_0 ?_
  refine r_ild1 dX10_known_1 ?_
  refine s_callV1r hM (c_X10_isSpeech E (by first | with_reducible assumption | with_reducible exact xSt_9 | with_reducible exact xSt_13 | omega) (by first | with_reducible assumption | with_reducible exact xSt_9 | with_reducible exact xSt_13 | omega)) cv_X10_isSpeech wM_X10_205 (sh_201) rfl rfl (Nat.le_of_ble_eq_true rfl) (by decide) dX10_known_2 (fun _ => ?_)
  refine r_ifb_eq 15 dX10_known_5 (by decide) (fun c5 => ?_) (fun c5 => ?_)
  · skip
    refine r_ldc (-1000001) dX10_known_15 wC_X10_78 ?_
    exact s_iret hM rfl dX10_known_17 (by unfold yKnown; first | (rw [if_pos (by omega)]; done) | (rw [if_neg (by omega)]; done) | (rw [if_neg (by omega), if_neg (by omega)]; done) | (rw [if_neg (by omega), if_pos (by omega)]; done)) (by unfold yKnown; first | (rw [if_pos (by omega)]; done) | (rw [if_neg (by omega)]; done) | (rw [if_neg (by omega), if_neg (by omega)]; done) | (rw [if_neg (by omega), if_pos (by omega)]; done))
  refine r_ild2 dX10_known_8 ?_
  refine s_callS1r hM (c_X10_isAhead E (by first | with_reducible assumption | with_reducible exact xSt_9 | with_reducible exact xSt_13 | omega)) cs_X10_isAhead wM_X10_224 (Nat.le_of_ble_eq_true rfl) (by decide) dX10_known_9 (fun _ => ?_)
  refine r_ifb_ne 18 dX10_known_12 (by decide) (fun c12 => ?_) (fun c12 => ?_)
  · skip
    obtain ⟨hd1, hT, hG, hNN⟩ := MD_g hD (by omega)
    have hn : 1 ≤ M 209 0 ∧ M 209 0 ≤ 5 := hT.1
    have hN : 1 ≤ M 209 1 ∧ M 209 1 ≤ 6 := hT.2.1
    have hra : 1 ≤ M 209 2 ∧ M 209 2 ≤ 60 := hT.2.2.1
    refine r_ald0 dX10_known_18 ?_
    refine r_ild2 dX10_known_19 ?_
    refine s_callV1v hM (c_X10_ahead E (by exact hT) (by exact hG) (by omega)) cv_X10_ahead wM_X10_227 (sh_201) rfl rfl (Nat.le_of_ble_eq_true rfl) (by decide) dX10_known_20 (fun hM20 => ?_)
    refine r_ald0 dX10_known_23 ?_
    refine s_getR fi_X10_37 (sh_201) rfl dX10_known_24 ?_
    refine r_bipush dX10_known_27 (by decide +kernel) ?_
    refine r_ild1 dX10_known_29 ?_
    refine r_iadd dX10_known_30 ?_
    refine s_iald hM20 (sh_211) (by omega) (by decide) dX10_known_31 (fun g31 => ?_)
    try simp (disch := omega) only [Int.reduceToNat]
    exact s_iret hM20 rfl dX10_known_32 (by unfold yKnown; first | (rw [if_pos (by omega)]; done) | (rw [if_neg (by omega)]; done) | (rw [if_neg (by omega), if_neg (by omega)]; done) | (rw [if_neg (by omega), if_pos (by omega)]; done)) (by unfold yKnown; first | (rw [if_pos (by omega)]; done) | (rw [if_neg (by omega)]; done) | (rw [if_neg (by omega), if_neg (by omega)]; done) | (rw [if_neg (by omega), if_pos (by omega)]; done))
  refine r_ldc (-1000001) dX10_known_15 wC_X10_78 ?_
  exact s_iret hM rfl dX10_known_17 (by unfold yKnown; first | (rw [if_pos (by omega)]; done) | (rw [if_neg (by omega)]; done) | (rw [if_neg (by omega), if_neg (by omega)]; done) | (rw [if_neg (by omega), if_pos (by omega)]; done)) (by unfold yKnown; first | (rw [if_pos (by omega)]; done) | (rw [if_neg (by omega)]; done) | (rw [if_neg (by omega), if_neg (by omega)]; done) | (rw [if_neg (by omega), if_pos (by omega)]; done))
set_option maxHeartbeats 4000000 in
theorem c_X10_allKnow (E : xE) {M : xMem} {s : Int} (hs : -2147483648 ≤ s ∧ s < 2147483648) (hD : MD M) : Ct E mX10_allKnow 3 5 [xr E 201, xi s] M (some (xi ((yAllKnow M s).1))) ((yAllKnow M s).2) := by
  refine Ct.of 1 3 (by rfl) (by decide +kernel) (fun hM => ?_)
  have hmn := MD_n hD
  show VS E mX10_allKnow 5 _ _ 0 [some (xr E 201), some (xi s), none] [] M
  have L17 : ∀ (fu : Nat) (n : Int) (Mc : xMem), InR Mc → (0 ≤ s ∧ s < M 209 1) → (TI (tg (M 209))) → (0 ≤ n ∧ n ≤ 61) → (Mc 209 = M 209) → (GI (tg (M 209)) (sk (Mc 211)) (999 + n)) → (ayL s (61 - n).toNat n Mc = yAllKnow M s) → (61 - n).toNat < fu → VS E mX10_allKnow 5 (some (xi ((yAllKnow M s).1))) ((yAllKnow M s).2) 17 [some (xr E 201), some (xi s), some (xi n)] [] Mc := by
    intro fu
    induction fu with
    | zero => intro n Mc hML17 hs hT hb h9 hg hi hme; exact absurd hme (Nat.not_lt_zero _)
    | succ fu ih =>
      intro n Mc hML17 hs hT hb h9 hg hi hme
      have w9 : ∀ j, Mc 209 j = M 209 j := fun j => by rw [h9]
      have hn5 : 1 ≤ M 209 0 ∧ M 209 0 ≤ 5 := hT.1
      have hN6 : 1 ≤ M 209 1 ∧ M 209 1 ≤ 6 := hT.2.1
      have hp5 := p2_5 (n := M 209 0) (by omega)
      refine r_ild2 dX10_allKnow_17 ?_
      refine r_bipush dX10_allKnow_18 (by decide +kernel) ?_
      refine r_icmp_gt 55 dX10_allKnow_20 (by decide) (by omega) (by omega) (fun c20 => ?_) (fun c20 => ?_)
      · skip
        refine r_ldc (-1000000) dX10_allKnow_55 wC_X10_133 ?_
        exact s_iret hML17 rfl dX10_allKnow_57 (by first | (rw [← hi, show (61 - n).toNat = 0 by omega]; rfl) | (rw [← hi, show (61 - n).toNat = (61 - (n + 1)).toNat + 1 by omega, ayL, if_pos (by rw [w9]; rw [w9] at c36; omega)]) | (unfold yAllKnow; first | (rw [if_pos (by omega)]; done) | (rw [if_neg (by omega), if_pos (by assumption)]; done))) (by first | (rw [← hi, show (61 - n).toNat = 0 by omega]; rfl) | (rw [← hi, show (61 - n).toNat = (61 - (n + 1)).toNat + 1 by omega, ayL, if_pos (by rw [w9]; rw [w9] at c36; omega)]) | (unfold yAllKnow; first | (rw [if_pos (by omega)]; done) | (rw [if_neg (by omega), if_pos (by assumption)]; done)))
      refine r_ald0 dX10_allKnow_23 ?_
      refine s_getR fi_X10_37 (sh_201) rfl dX10_allKnow_24 ?_
      refine r_bipush dX10_allKnow_27 (by decide +kernel) ?_
      refine r_ild1 dX10_allKnow_29 ?_
      refine r_iadd dX10_allKnow_30 ?_
      refine s_iald hML17 (sh_211) (by omega) (by decide) dX10_allKnow_31 (fun g31 => ?_)
      try simp (disch := omega) only [Int.reduceToNat]
      refine r_ald0 dX10_allKnow_32 ?_
      refine s_callV0r hML17 (c_X10_all E (by rw [w9]; omega)) cv_X10_all wM_X10_176 (sh_201) rfl rfl (Nat.le_of_ble_eq_true rfl) (by decide) dX10_allKnow_33 (fun _ => ?_)
      refine r_icmp_ne 41 dX10_allKnow_36 (by decide) (by omega) (by rw [w9]; omega) (fun c36 => ?_) (fun c36 => ?_)
      · skip
        refine r_ald0 dX10_allKnow_41 ?_
        refine r_ald0 dX10_allKnow_42 ?_
        refine s_getR fi_X10_37 (sh_201) rfl dX10_allKnow_43 ?_
        refine s_callV1v hML17 (c_X10_passes E (by exact sh_211) (by decide) (by rw [h9]; exact hT) (by rw [h9]; exact hg.1) (by rw [h9]; exact hg.2.1)) cv_X10_passes wM_X10_201 (sh_201) rfl rfl (Nat.le_of_ble_eq_true rfl) (by decide) dX10_allKnow_46 (fun hM46 => ?_)
        refine r_iinc2 dX10_allKnow_49 rfl ?_
        refine r_goto 17 dX10_allKnow_52 (by decide) ?_
        exact ih (n + 1) _  hM46 (by omega) (by exact hT) (by omega) (by rw [ps_lo (by decide)]; exact h9) (by have := ps_GI (M := Mc) (k := 211) (w := 999 + n) (by rw [h9]; exact hT) (by omega) (by rw [h9]; exact hg); rw [h9] at this; rw [show (999 + (n + 1) : Int) = 999 + n + 1 by omega]; exact this) (by rw [← hi, show (61 - n).toNat = (61 - (n + 1)).toNat + 1 by omega, ayL, if_neg (by rw [w9]; rw [w9] at c36; omega)]) (by omega)
      refine r_ild2 dX10_allKnow_39 ?_
      exact s_iret hML17 rfl dX10_allKnow_40 (by first | (rw [← hi, show (61 - n).toNat = 0 by omega]; rfl) | (rw [← hi, show (61 - n).toNat = (61 - (n + 1)).toNat + 1 by omega, ayL, if_pos (by rw [w9]; rw [w9] at c36; omega)]) | (unfold yAllKnow; first | (rw [if_pos (by omega)]; done) | (rw [if_neg (by omega), if_pos (by assumption)]; done))) (by first | (rw [← hi, show (61 - n).toNat = 0 by omega]; rfl) | (rw [← hi, show (61 - n).toNat = (61 - (n + 1)).toNat + 1 by omega, ayL, if_pos (by rw [w9]; rw [w9] at c36; omega)]) | (unfold yAllKnow; first | (rw [if_pos (by omega)]; done) | (rw [if_neg (by omega), if_pos (by assumption)]; done)))
  refine r_ald0 dX10_allKnow_0 ?_
  refine r_ild1 dX10_allKnow_1 ?_
  refine s_callV1r hM (c_X10_isSpeech E (by first | with_reducible assumption | with_reducible exact xSt_9 | with_reducible exact xSt_13 | omega) (by first | with_reducible assumption | with_reducible exact xSt_9 | with_reducible exact xSt_13 | omega)) cv_X10_isSpeech wM_X10_205 (sh_201) rfl rfl (Nat.le_of_ble_eq_true rfl) (by decide) dX10_allKnow_2 (fun _ => ?_)
  refine r_ifb_ne 11 dX10_allKnow_5 (by decide) (fun c5 => ?_) (fun c5 => ?_)
  · skip
    obtain ⟨hd1, hT, hG, hNN⟩ := MD_g hD (by omega)
    have hn : 1 ≤ M 209 0 ∧ M 209 0 ≤ 5 := hT.1
    have hN : 1 ≤ M 209 1 ∧ M 209 1 ≤ 6 := hT.2.1
    have hra : 1 ≤ M 209 2 ∧ M 209 2 ≤ 60 := hT.2.2.1
    refine r_ald0 dX10_allKnow_11 ?_
    refine s_callV0v hM (c_X10_copyNow E ) cv_X10_copyNow wM_X10_221 (sh_201) rfl rfl (Nat.le_of_ble_eq_true rfl) (by decide) dX10_allKnow_12 (fun hM12 => ?_)
    refine r_iconst dX10_allKnow_15 ?_
    refine r_ist2 dX10_allKnow_16 rfl ?_
    exact L17 62 0 _  hM12 (by omega) (by exact hT) (by omega) (by exact cn_row (by decide)) (by rw [Int.add_zero]; exact GI_SA (cn_SA hT) hG) (by unfold yAllKnow; rw [if_neg (by omega)]; rfl) (by omega)
  refine r_ldc (-1000001) dX10_allKnow_8 wC_X10_78 ?_
  exact s_iret hM rfl dX10_allKnow_10 (by first | (rw [← hi, show (61 - n).toNat = 0 by omega]; rfl) | (rw [← hi, show (61 - n).toNat = (61 - (n + 1)).toNat + 1 by omega, ayL, if_pos (by rw [w9]; rw [w9] at c36; omega)]) | (unfold yAllKnow; first | (rw [if_pos (by omega)]; done) | (rw [if_neg (by omega), if_pos (by assumption)]; done))) (by first | (rw [← hi, show (61 - n).toNat = 0 by omega]; rfl) | (rw [← hi, show (61 - n).toNat = (61 - (n + 1)).toNat + 1 by omega, ayL, if_pos (by rw [w9]; rw [w9] at c36; omega)]) | (unfold yAllKnow; first | (rw [if_pos (by omega)]; done) | (rw [if_neg (by omega), if_pos (by assumption)]; done)))
set_option maxHeartbeats 4000000 in
theorem c_X10_when (E : xE) {M : xMem} {s : Int} (hs : -2147483648 ≤ s ∧ s < 2147483648) (hD : MD M) : Ct E mX10_when 3 5 [xr E 201, xi s] M (some (xi ((yWhen M s).1))) ((yWhen M s).2) := by
  refine Ct.of 1 3 (by rfl) (by decide +kernel) (fun hM => ?_)
  have hmn := MD_n hD
  show VS E mX10_when 5 _ _ 0 [some (xr E 201), some (xi s), none] [] M
  have L33 : ∀ (fu : Nat) (n : Int) (Mc : xMem), InR Mc → (0 ≤ s ∧ s < M 209 1) → (TI (tg (M 209))) → (0 ≤ n ∧ n ≤ 61) → (Mc 209 = M 209) → (GI (tg (M 209)) (sk (Mc 211)) (999 + n)) → (ywL s (61 - n).toNat n Mc = yWhen M s) → (61 - n).toNat < fu → VS E mX10_when 5 (some (xi ((yWhen M s).1))) ((yWhen M s).2) 33 [some (xr E 201), some (xi s), some (xi n)] [] Mc := by
    intro fu
    induction fu with
    | zero => intro n Mc hML33 hs hT hb h9 hg hi hme; exact absurd hme (Nat.not_lt_zero _)
    | succ fu ih =>
      intro n Mc hML33 hs hT hb h9 hg hi hme
      have w9 : ∀ j, Mc 209 j = M 209 j := fun j => by rw [h9]
      have hn5 : 1 ≤ M 209 0 ∧ M 209 0 ≤ 5 := hT.1
      have hN6 : 1 ≤ M 209 1 ∧ M 209 1 ≤ 6 := hT.2.1
      have hp5 := p2_5 (n := M 209 0) (by omega)
      refine r_ild2 dX10_when_33 ?_
      refine r_bipush dX10_when_34 (by decide +kernel) ?_
      refine r_icmp_gt 67 dX10_when_36 (by decide) (by omega) (by omega) (fun c36 => ?_) (fun c36 => ?_)
      · skip
        refine r_ldc (-1000000) dX10_when_67 wC_X10_133 ?_
        exact s_iret hML33 rfl dX10_when_69 (by first | (rw [← hi, show (61 - n).toNat = 0 by omega]; rfl) | (rw [← hi, show (61 - n).toNat = (61 - (n + 1)).toNat + 1 by omega, ywL, if_pos (by assumption)]) | (unfold yWhen; first | (rw [if_pos (by omega)]; done) | (rw [if_neg (by omega), if_pos (by assumption)]; done))) (by first | (rw [← hi, show (61 - n).toNat = 0 by omega]; rfl) | (rw [← hi, show (61 - n).toNat = (61 - (n + 1)).toNat + 1 by omega, ywL, if_pos (by assumption)]) | (unfold yWhen; first | (rw [if_pos (by omega)]; done) | (rw [if_neg (by omega), if_pos (by assumption)]; done)))
      refine r_ald0 dX10_when_39 ?_
      refine r_ald0 dX10_when_40 ?_
      refine s_getR fi_X10_37 (sh_201) rfl dX10_when_41 ?_
      refine r_ild1 dX10_when_44 ?_
      refine s_callV2r hML33 (c_X10_can E (by exact sh_211) (by rw [h9]; exact hT) (by rw [h9]; exact hg.1) (by rw [w9]; exact hs)) cv_X10_can wM_X10_208 (sh_201) rfl rfl (Nat.le_of_ble_eq_true rfl) (by decide) dX10_when_45 (fun _ => ?_)
      refine r_ifb_eq 53 dX10_when_48 (by decide) (fun c48 => ?_) (fun c48 => ?_)
      · skip
        refine r_ald0 dX10_when_53 ?_
        refine r_ald0 dX10_when_54 ?_
        refine s_getR fi_X10_37 (sh_201) rfl dX10_when_55 ?_
        refine s_callV1v hML33 (c_X10_passes E (by exact sh_211) (by decide) (by rw [h9]; exact hT) (by rw [h9]; exact hg.1) (by rw [h9]; exact hg.2.1)) cv_X10_passes wM_X10_201 (sh_201) rfl rfl (Nat.le_of_ble_eq_true rfl) (by decide) dX10_when_58 (fun hM58 => ?_)
        refine r_iinc2 dX10_when_61 rfl ?_
        refine r_goto 33 dX10_when_64 (by decide) ?_
        exact ih (n + 1) _  hM58 (by omega) (by exact hT) (by omega) (by rw [ps_lo (by decide)]; exact h9) (by have := ps_GI (M := Mc) (k := 211) (w := 999 + n) (by rw [h9]; exact hT) (by omega) (by rw [h9]; exact hg); rw [h9] at this; rw [show (999 + (n + 1) : Int) = 999 + n + 1 by omega]; exact this) (by rw [← hi, show (61 - n).toNat = (61 - (n + 1)).toNat + 1 by omega, ywL, if_neg (by assumption)]) (by omega)
      refine r_ild2 dX10_when_51 ?_
      exact s_iret hML33 rfl dX10_when_52 (by first | (rw [← hi, show (61 - n).toNat = 0 by omega]; rfl) | (rw [← hi, show (61 - n).toNat = (61 - (n + 1)).toNat + 1 by omega, ywL, if_pos (by assumption)]) | (unfold yWhen; first | (rw [if_pos (by omega)]; done) | (rw [if_neg (by omega), if_pos (by assumption)]; done))) (by first | (rw [← hi, show (61 - n).toNat = 0 by omega]; rfl) | (rw [← hi, show (61 - n).toNat = (61 - (n + 1)).toNat + 1 by omega, ywL, if_pos (by assumption)]) | (unfold yWhen; first | (rw [if_pos (by omega)]; done) | (rw [if_neg (by omega), if_pos (by assumption)]; done)))
  refine r_ald0 dX10_when_0 ?_
  refine r_ild1 dX10_when_1 ?_
  refine s_callV1r hM (c_X10_isSpeech E (by first | with_reducible assumption | with_reducible exact xSt_9 | with_reducible exact xSt_13 | omega) (by first | with_reducible assumption | with_reducible exact xSt_9 | with_reducible exact xSt_13 | omega)) cv_X10_isSpeech wM_X10_205 (sh_201) rfl rfl (Nat.le_of_ble_eq_true rfl) (by decide) dX10_when_2 (fun _ => ?_)
  refine r_ifb_ne 11 dX10_when_5 (by decide) (fun c5 => ?_) (fun c5 => ?_)
  · skip
    obtain ⟨hd1, hT, hG, hNN⟩ := MD_g hD (by omega)
    have hn : 1 ≤ M 209 0 ∧ M 209 0 ≤ 5 := hT.1
    have hN : 1 ≤ M 209 1 ∧ M 209 1 ≤ 6 := hT.2.1
    have hra : 1 ≤ M 209 2 ∧ M 209 2 ≤ 60 := hT.2.2.1
    have hl : 0 ≤ M 210 1 ∧ M 210 1 ≤ 99 := hG.1.2.1
    have hh : 0 ≤ M 210 2 ∧ M 210 2 ≤ 999 := hG.1.2.2.1
    have hpr : 1 ≤ M 210 3 ∧ M 210 3 ≤ 9 := hG.1.2.2.2.1
    have hsd : 0 ≤ M 210 4 ∧ M 210 4 ≤ 63 := hG.1.2.2.2.2.1
    have hwk : 0 ≤ M 210 0 ∧ M 210 0 ≤ 100000 := hG.1.1
    refine r_ald0 dX10_when_11 ?_
    refine s_getR fi_X10_34 (sh_201) rfl dX10_when_12 ?_
    refine r_iconst dX10_when_15 ?_
    refine s_iald hM (sh_210) (by omega) (by decide) dX10_when_16 (fun g16 => ?_)
    try simp (disch := omega) only [Int.reduceToNat]
    refine r_ild1 dX10_when_17 ?_
    refine s_callS2r hM (c_X10_has E (by omega) (by omega)) cs_X10_has wM_X10_165 (Nat.le_of_ble_eq_true rfl) (by decide) dX10_when_18 (fun _ => ?_)
    refine r_ifb_eq 27 dX10_when_21 (by decide) (fun c21 => ?_) (fun c21 => ?_)
    · skip
      refine r_ald0 dX10_when_27 ?_
      refine s_callV0v hM (c_X10_copyNow E ) cv_X10_copyNow wM_X10_221 (sh_201) rfl rfl (Nat.le_of_ble_eq_true rfl) (by decide) dX10_when_28 (fun hM28 => ?_)
      refine r_iconst dX10_when_31 ?_
      refine r_ist2 dX10_when_32 rfl ?_
      exact L33 62 0 _  hM28 (by omega) (by exact hT) (by omega) (by exact cn_row (by decide)) (by rw [Int.add_zero]; exact GI_SA (cn_SA hT) hG) (by unfold yWhen; rw [if_neg (by omega), if_neg (by assumption)]; rfl) (by omega)
    refine r_ldc (-1000002) dX10_when_24 wC_X10_193 ?_
    exact s_iret hM rfl dX10_when_26 (by first | (rw [← hi, show (61 - n).toNat = 0 by omega]; rfl) | (rw [← hi, show (61 - n).toNat = (61 - (n + 1)).toNat + 1 by omega, ywL, if_pos (by assumption)]) | (unfold yWhen; first | (rw [if_pos (by omega)]; done) | (rw [if_neg (by omega), if_pos (by assumption)]; done))) (by first | (rw [← hi, show (61 - n).toNat = 0 by omega]; rfl) | (rw [← hi, show (61 - n).toNat = (61 - (n + 1)).toNat + 1 by omega, ywL, if_pos (by assumption)]) | (unfold yWhen; first | (rw [if_pos (by omega)]; done) | (rw [if_neg (by omega), if_pos (by assumption)]; done)))
  refine r_ldc (-1000001) dX10_when_8 wC_X10_78 ?_
  exact s_iret hM rfl dX10_when_10 (by first | (rw [← hi, show (61 - n).toNat = 0 by omega]; rfl) | (rw [← hi, show (61 - n).toNat = (61 - (n + 1)).toNat + 1 by omega, ywL, if_pos (by assumption)]) | (unfold yWhen; first | (rw [if_pos (by omega)]; done) | (rw [if_neg (by omega), if_pos (by assumption)]; done))) (by first | (rw [← hi, show (61 - n).toNat = 0 by omega]; rfl) | (rw [← hi, show (61 - n).toNat = (61 - (n + 1)).toNat + 1 by omega, ywL, if_pos (by assumption)]) | (unfold yWhen; first | (rw [if_pos (by omega)]; done) | (rw [if_neg (by omega), if_pos (by assumption)]; done)))
set_option maxHeartbeats 4000000 in
theorem c_X10_clear (E : xE) {M : xMem}  (hD : MD M) : Ct E mX10_clear 4 2 [xr E 201] M (some (xi (gClear M))) (M) := by
  refine Ct.of 3 4 (by rfl) (by decide +kernel) (fun hM => ?_)
  have hmn := MD_n hD
  show VS E mX10_clear 2 _ _ 0 [some (xr E 201), none, none, none] [] M
  have L16 : ∀ (fu : Nat) (a s : Int), (¬ M 201 16 = 0) → (TI (tg (M 209))) → (GI (tg (M 209)) (sk (M 210)) 999) → (NN (M 209)) → (0 ≤ s ∧ s ≤ M 209 1) → (0 ≤ a ∧ a ≤ 63) → (foldI (fun s a => if xand (understT (tg (M 209)) (sk (M 210)) s) (2 ^ (M 209 0).toNat - 1) = 2 ^ (M 209 0).toNat - 1 then xor2 a (1 * 2 ^ s.toNat) else a) (M 209 1 - s).toNat s a = undByT (tg (M 209)) (sk (M 210)) (2 ^ (M 209 0).toNat - 1)) → (M 209 1 - s).toNat < fu → VS E mX10_clear 2 (some (xi (gClear M))) (M) 16 [some (xr E 201), none, some (xi a), some (xi s)] [] M := by
    intro fu
    induction fu with
    | zero => intro a s  hz hT hG hNN hb ha hi hme; exact absurd hme (Nat.not_lt_zero _)
    | succ fu ih =>
      intro a s  hz hT hG hNN hb ha hi hme
      have hn : 1 ≤ M 209 0 ∧ M 209 0 ≤ 5 := hT.1
      have hN : 1 ≤ M 209 1 ∧ M 209 1 ≤ 6 := hT.2.1
      have hra : 1 ≤ M 209 2 ∧ M 209 2 ≤ 60 := hT.2.2.1
      refine r_ild3 dX10_clear_16 ?_
      refine r_ald0 dX10_clear_17 ?_
      refine s_getR fi_X10_31 (sh_201) rfl dX10_clear_18 ?_
      refine r_iconst dX10_clear_21 ?_
      refine s_iald hM (sh_209) (by omega) (by decide) dX10_clear_22 (fun g22 => ?_)
      try simp (disch := omega) only [Int.reduceToNat]
      refine r_icmp_ge 58 dX10_clear_23 (by decide) (by omega) (by omega) (fun c23 => ?_) (fun c23 => ?_)
      · skip
        refine r_ild2 dX10_clear_58 ?_
        exact s_iret hM rfl dX10_clear_59 (by unfold gClear; first | (rw [if_pos (by omega)]; omega) | (rw [if_neg (by omega)]; exact (foldI_end (by omega)).symm.trans hi)) (by rfl)
      have hud := underst_b hT hG.1 (s := s) (show 0 ≤ s ∧ s < M 209 1 by omega)
      have hun : understT (tg (M 209)) (sk (M 210)) s < 2 ^ (M 209 0).toNat := und_n hT hG.1 hG.2.1 (s := s) (show 0 ≤ s ∧ s < M 209 1 by omega)
      have hp25 := p2_5 (n := s) (by omega)
      have hp5 := p2_5 (n := M 209 0) (by omega)
      have hx2 := xor2_63 (a := a) (b := 1 * 2 ^ s.toNat) ha (by omega)
      have hx4 := xor2_63 (a := a) (b := 0) ha (by omega)
      refine r_ild2 dX10_clear_26 ?_
      refine r_ald0 dX10_clear_27 ?_
      refine r_ald0 dX10_clear_28 ?_
      refine s_getR fi_X10_34 (sh_201) rfl dX10_clear_29 ?_
      refine r_ild3 dX10_clear_32 ?_
      refine s_callV2r hM (c_X10_clearTo E (by exact sh_210) (by exact hT) (by exact hG.1) (by omega) (by exact hNN)) cv_X10_clearTo wM_X10_218 (sh_201) rfl rfl (Nat.le_of_ble_eq_true rfl) (by decide) dX10_clear_33 (fun _ => ?_)
      refine r_ald0 dX10_clear_36 ?_
      refine s_callV0r hM (c_X10_all E (by omega)) cv_X10_all wM_X10_176 (sh_201) rfl rfl (Nat.le_of_ble_eq_true rfl) (by decide) dX10_clear_37 (fun _ => ?_)
      refine r_icmp_ne 49 dX10_clear_40 (by decide) (by omega) (by omega) (fun c40 => ?_) (fun c40 => ?_)
      · skip
        refine r_iconst dX10_clear_49 ?_
        refine r_ior dX10_clear_50 (by omega) (by omega) (fun g50 => ?_)
        refine r_ist2 dX10_clear_51 rfl ?_
        refine r_iinc3 dX10_clear_52 rfl ?_
        refine r_goto 16 dX10_clear_55 (by decide) ?_
        exact ih _ _  (by exact hz) (by exact hT) (by exact hG) (by exact hNN) (by omega) (by omega) (by refine foldI_go (by omega) hi ?_; first | (rw [if_pos ((and_all hn ⟨hud.1, hun⟩).mpr (by assumption))]; done) | (rw [if_neg (fun q => absurd ((and_all hn ⟨hud.1, hun⟩).mp q) (by assumption)), xor2_0 (by omega)]; done)) (by omega)
      refine r_iconst dX10_clear_43 ?_
      refine r_ild3 dX10_clear_44 ?_
      refine r_ishl dX10_clear_45 (by omega) ?_
      refine r_goto 50 dX10_clear_46 (by decide) ?_
      refine r_ior dX10_clear_50 (by omega) (by omega) (fun g50 => ?_)
      refine r_ist2 dX10_clear_51 rfl ?_
      refine r_iinc3 dX10_clear_52 rfl ?_
      refine r_goto 16 dX10_clear_55 (by decide) ?_
      exact ih _ _  (by exact hz) (by exact hT) (by exact hG) (by exact hNN) (by omega) (by omega) (by refine foldI_go (by omega) hi ?_; first | (rw [if_pos ((and_all hn ⟨hud.1, hun⟩).mpr (by assumption))]; done) | (rw [if_neg (fun q => absurd ((and_all hn ⟨hud.1, hun⟩).mp q) (by assumption)), xor2_0 (by omega)]; done)) (by omega)
  refine r_ald0 dX10_clear_0 ?_
  refine r_iconst dX10_clear_1 ?_
  refine s_callV1r hM (c_X10_need E (by first | exact b01 | omega)) cv_X10_need wM_X10_194 (sh_201) rfl rfl (Nat.le_of_ble_eq_true rfl) (by decide) dX10_clear_2 (fun _ => ?_)
  refine r_ist1 dX10_clear_5 rfl ?_
  have hnd : (M 201 16 = 0 ∧ needV M 1 = -1000002) ∨ (¬ M 201 16 = 0 ∧ needV M 1 = 0) := by unfold needV; split <;> omega
  refine r_ild1 dX10_clear_6 ?_
  refine r_if_ge 12 dX10_clear_7 (by decide) (by omega) (fun c7 => ?_) (fun c7 => ?_)
  · skip
    obtain ⟨hd1, hT, hG, hNN⟩ := MD_g hD (by omega)
    have hn : 1 ≤ M 209 0 ∧ M 209 0 ≤ 5 := hT.1
    have hN : 1 ≤ M 209 1 ∧ M 209 1 ≤ 6 := hT.2.1
    have hra : 1 ≤ M 209 2 ∧ M 209 2 ≤ 60 := hT.2.2.1
    refine r_iconst dX10_clear_12 ?_
    refine r_ist2 dX10_clear_13 rfl ?_
    refine r_iconst dX10_clear_14 ?_
    refine r_ist3 dX10_clear_15 rfl ?_
    refine r_fgt1 ?_
    exact L16 7 _ _  (by omega) (by exact hT) (by exact hG) (by exact hNN) (by omega) (by omega) (by rw [Int.sub_zero]; rfl) (by omega)
  refine r_ild1 dX10_clear_10 ?_
  exact s_iret hM rfl dX10_clear_11 (by unfold gClear; first | (rw [if_pos (by omega)]; omega) | (rw [if_neg (by omega)]; exact (foldI_end (by omega)).symm.trans hi)) (by rfl)
set_option maxHeartbeats 4000000 in
theorem c_X10_kind (E : xE) {M : xMem} {s : Int} (hs : -2147483648 ≤ s ∧ s < 2147483648) (hD : MD M) : Ct E mX10_kind 2 2 [xr E 201, xi s] M (some (xi (yKind M s))) (M) := by
  refine Ct.of 0 2 (by rfl) (by decide +kernel) (fun hM => ?_)
  have hmn := MD_n hD
  show VS E mX10_kind 2 _ _ 0 [some (xr E 201), some (xi s)] [] M
  refine r_ald0 dX10_kind_0 ?_
  refine r_ild1 dX10_kind_1 ?_
  refine s_callV1r hM (c_X10_isSpeech E (by first | with_reducible assumption | with_reducible exact xSt_9 | with_reducible exact xSt_13 | omega) (by first | with_reducible assumption | with_reducible exact xSt_9 | with_reducible exact xSt_13 | omega)) cv_X10_isSpeech wM_X10_205 (sh_201) rfl rfl (Nat.le_of_ble_eq_true rfl) (by decide) dX10_kind_2 (fun _ => ?_)
  refine r_ifb_eq 20 dX10_kind_5 (by decide) (fun c5 => ?_) (fun c5 => ?_)
  · skip
    refine r_ldc (-1000001) dX10_kind_20 wC_X10_78 ?_
    exact s_iret hM rfl dX10_kind_22 (by unfold yKind ; (repeat' split) <;> first | rfl | omega | (exfalso; omega)) (by rfl)
  have e8 : M 209 (8 + s).toNat = tg (M 209) 2 s.toNat := ix8 (by omega)
  refine r_ald0 dX10_kind_8 ?_
  refine s_getR fi_X10_31 (sh_201) rfl dX10_kind_9 ?_
  refine r_bipush dX10_kind_12 (by decide +kernel) ?_
  refine r_ild1 dX10_kind_14 ?_
  refine r_iadd dX10_kind_15 ?_
  refine s_iald hM (sh_209) (by omega) (by decide) dX10_kind_16 (fun g16 => ?_)
  try simp (disch := omega) only [Int.reduceToNat]
  try simp only [e8]
  refine r_goto 22 dX10_kind_17 (by decide) ?_
  exact s_iret hM rfl dX10_kind_22 (by unfold yKind ; (repeat' split) <;> first | rfl | omega | (exfalso; omega)) (by rfl)
set_option maxHeartbeats 4000000 in
theorem c_X10_as (E : xE) {M : xMem} {s k : Int} (hs : -2147483648 ≤ s ∧ s < 2147483648) (hk : -2147483648 ≤ k ∧ k < 2147483648) (hD : MD M) : Ct E mX10_as 5 2 [xr E 201, xi s, xi k] M (some (xi ((yAs M s k).1))) ((yAs M s k).2) := by
  refine Ct.of 2 5 (by rfl) (by decide +kernel) (fun hM => ?_)
  have hmn := MD_n hD
  show VS E mX10_as 2 _ _ 0 [some (xr E 201), some (xi s), some (xi k), none, none] [] M
  refine r_ald0 dX10_as_0 ?_
  refine r_ild1 dX10_as_1 ?_
  refine s_callV1r hM (c_X10_isSpeech E (by first | with_reducible assumption | with_reducible exact xSt_9 | with_reducible exact xSt_13 | omega) (by first | with_reducible assumption | with_reducible exact xSt_9 | with_reducible exact xSt_13 | omega)) cv_X10_isSpeech wM_X10_205 (sh_201) rfl rfl (Nat.le_of_ble_eq_true rfl) (by decide) dX10_as_2 (fun _ => ?_)
  refine r_ifb_eq 17 dX10_as_5 (by decide) (fun c5 => ?_) (fun c5 => ?_)
  · skip
    refine r_ldc (-1000001) dX10_as_17 wC_X10_78 ?_
    exact s_iret hM rfl dX10_as_19 (by unfold yAs mfn mfi; (repeat' split) <;> first | rfl | omega | (exfalso; omega)) (by unfold yAs mfn mfi; (repeat' split) <;> first | rfl | omega | (exfalso; omega))
  refine r_ild2 dX10_as_8 ?_
  refine r_iconst dX10_as_9 ?_
  refine r_iconst dX10_as_10 ?_
  refine s_callS3r hM (c_X10_in E (by first | with_reducible assumption | with_reducible exact xSt_9 | with_reducible exact xSt_13 | omega) (by first | with_reducible assumption | with_reducible exact xSt_9 | with_reducible exact xSt_13 | omega) (by first | with_reducible assumption | with_reducible exact xSt_9 | with_reducible exact xSt_13 | omega)) cs_X10_in wM_X10_70 (Nat.le_of_ble_eq_true rfl) (by decide) dX10_as_11 (fun _ => ?_)
  refine r_ifb_ne 20 dX10_as_14 (by decide) (fun c14 => ?_) (fun c14 => ?_)
  · skip
    obtain ⟨hd1, hT, hG, hNN⟩ := MD_g hD (by omega)
    have hn : 1 ≤ M 209 0 ∧ M 209 0 ≤ 5 := hT.1
    have hN : 1 ≤ M 209 1 ∧ M 209 1 ≤ 6 := hT.2.1
    have hra : 1 ≤ M 209 2 ∧ M 209 2 ≤ 60 := hT.2.2.1
    have hq : (1 ≤ tg (M 209) 2 s.toNat ∧ tg (M 209) 2 s.toNat ≤ 5) ∧ (0 ≤ tg (M 209) 3 s.toNat ∧ tg (M 209) 3 s.toNat < M 209 0) ∧ (1 ≤ tg (M 209) 4 s.toNat ∧ tg (M 209) 4 s.toNat ≤ 30) ∧ (0 ≤ tg (M 209) 5 s.toNat ∧ tg (M 209) 5 s.toNat ≤ s) := hT.2.2.2.2 s (show 0 ≤ s ∧ s < M 209 1 by omega)
    have e8 : M 209 (8 + s).toNat = tg (M 209) 2 s.toNat := ix8 (by omega)
    refine r_ald0 dX10_as_20 ?_
    refine s_getR fi_X10_31 (sh_201) rfl dX10_as_21 ?_
    refine r_bipush dX10_as_24 (by decide +kernel) ?_
    refine r_ild1 dX10_as_26 ?_
    refine r_iadd dX10_as_27 ?_
    refine s_iald hM (sh_209) (by omega) (by decide) dX10_as_28 (fun g28 => ?_)
    try simp (disch := omega) only [Int.reduceToNat]
    try simp only [e8]
    refine r_ist3 dX10_as_29 rfl ?_
    refine r_ild2 dX10_as_30 ?_
    refine r_if_eq 64 dX10_as_31 (by decide) (by omega) (fun c31 => ?_) (fun c31 => ?_)
    · skip
      refine r_iconst dX10_as_64 ?_
      refine r_goto 69 dX10_as_65 (by decide) ?_
      refine r_ist4 dX10_as_69 rfl ?_
      refine r_ild4 dX10_as_71 ?_
      refine r_if_eq 84 dX10_as_73 (by decide) (by omega) (fun c73 => by exfalso; omega) (fun c73 => ?_)
      refine r_ald0 dX10_as_76 ?_
      refine r_ild1 dX10_as_77 ?_
      refine s_callV1r hM (c_X10_well E ) cv_X10_well wM_X10_83 (sh_201) rfl rfl (Nat.le_of_ble_eq_true rfl) (by decide) dX10_as_78 (fun hM78 => ?_)
      refine r_goto 89 dX10_as_81 (by decide) ?_
      exact s_iret hM78 rfl dX10_as_89 (by unfold yAs mfn mfi; (repeat' split) <;> first | rfl | omega | (exfalso; omega)) (by unfold yAs mfn mfi; (repeat' split) <;> first | rfl | omega | (exfalso; omega))
    refine r_ild2 dX10_as_34 ?_
    refine r_ild3 dX10_as_35 ?_
    refine r_icmp_eq 64 dX10_as_36 (by decide) (by omega) (by omega) (fun c36 => ?_) (fun c36 => ?_)
    · skip
      refine r_iconst dX10_as_64 ?_
      refine r_goto 69 dX10_as_65 (by decide) ?_
      refine r_ist4 dX10_as_69 rfl ?_
      refine r_ild4 dX10_as_71 ?_
      refine r_if_eq 84 dX10_as_73 (by decide) (by omega) (fun c73 => by exfalso; omega) (fun c73 => ?_)
      refine r_ald0 dX10_as_76 ?_
      refine r_ild1 dX10_as_77 ?_
      refine s_callV1r hM (c_X10_well E ) cv_X10_well wM_X10_83 (sh_201) rfl rfl (Nat.le_of_ble_eq_true rfl) (by decide) dX10_as_78 (fun hM78 => ?_)
      refine r_goto 89 dX10_as_81 (by decide) ?_
      exact s_iret hM78 rfl dX10_as_89 (by unfold yAs mfn mfi; (repeat' split) <;> first | rfl | omega | (exfalso; omega)) (by unfold yAs mfn mfi; (repeat' split) <;> first | rfl | omega | (exfalso; omega))
    refine r_ild2 dX10_as_39 ?_
    refine r_iconst dX10_as_40 ?_
    refine r_icmp_ne 54 dX10_as_41 (by decide) (by omega) (by omega) (fun c41 => ?_) (fun c41 => ?_)
    · skip
      refine r_ild2 dX10_as_54 ?_
      refine r_iconst dX10_as_55 ?_
      refine r_icmp_ne 68 dX10_as_56 (by decide) (by omega) (by omega) (fun c56 => ?_) (fun c56 => ?_)
      · skip
        refine r_iconst dX10_as_68 ?_
        refine r_ist4 dX10_as_69 rfl ?_
        refine r_ild4 dX10_as_71 ?_
        refine r_if_eq 84 dX10_as_73 (by decide) (by omega) (fun c73 => ?_) (fun c73 => by exfalso; omega)
        refine r_ald0 dX10_as_84 ?_
        refine r_iconst dX10_as_85 ?_
        refine s_callV1r hM (c_X10_meets E (by first | with_reducible assumption | with_reducible exact xSt_9 | with_reducible exact xSt_13 | omega)) cv_X10_meets wM_X10_79 (sh_201) rfl rfl (Nat.le_of_ble_eq_true rfl) (by decide) dX10_as_86 (fun hM86 => ?_)
        exact s_iret hM86 rfl dX10_as_89 (by unfold yAs mfn mfi; (repeat' split) <;> first | rfl | omega | (exfalso; omega)) (by unfold yAs mfn mfi; (repeat' split) <;> first | rfl | omega | (exfalso; omega))
      refine r_ild3 dX10_as_59 ?_
      refine r_iconst dX10_as_60 ?_
      refine r_icmp_ne 68 dX10_as_61 (by decide) (by omega) (by omega) (fun c61 => ?_) (fun c61 => ?_)
      · skip
        refine r_iconst dX10_as_68 ?_
        refine r_ist4 dX10_as_69 rfl ?_
        refine r_ild4 dX10_as_71 ?_
        refine r_if_eq 84 dX10_as_73 (by decide) (by omega) (fun c73 => ?_) (fun c73 => by exfalso; omega)
        refine r_ald0 dX10_as_84 ?_
        refine r_iconst dX10_as_85 ?_
        refine s_callV1r hM (c_X10_meets E (by first | with_reducible assumption | with_reducible exact xSt_9 | with_reducible exact xSt_13 | omega)) cv_X10_meets wM_X10_79 (sh_201) rfl rfl (Nat.le_of_ble_eq_true rfl) (by decide) dX10_as_86 (fun hM86 => ?_)
        exact s_iret hM86 rfl dX10_as_89 (by unfold yAs mfn mfi; (repeat' split) <;> first | rfl | omega | (exfalso; omega)) (by unfold yAs mfn mfi; (repeat' split) <;> first | rfl | omega | (exfalso; omega))
      refine r_iconst dX10_as_64 ?_
      refine r_goto 69 dX10_as_65 (by decide) ?_
      refine r_ist4 dX10_as_69 rfl ?_
      refine r_ild4 dX10_as_71 ?_
      refine r_if_eq 84 dX10_as_73 (by decide) (by omega) (fun c73 => by exfalso; omega) (fun c73 => ?_)
      refine r_ald0 dX10_as_76 ?_
      refine r_ild1 dX10_as_77 ?_
      refine s_callV1r hM (c_X10_well E ) cv_X10_well wM_X10_83 (sh_201) rfl rfl (Nat.le_of_ble_eq_true rfl) (by decide) dX10_as_78 (fun hM78 => ?_)
      refine r_goto 89 dX10_as_81 (by decide) ?_
      exact s_iret hM78 rfl dX10_as_89 (by unfold yAs mfn mfi; (repeat' split) <;> first | rfl | omega | (exfalso; omega)) (by unfold yAs mfn mfi; (repeat' split) <;> first | rfl | omega | (exfalso; omega))
    refine r_ild3 dX10_as_44 ?_
    refine r_iconst dX10_as_45 ?_
    refine r_icmp_eq 64 dX10_as_46 (by decide) (by omega) (by omega) (fun c46 => ?_) (fun c46 => ?_)
    · skip
      refine r_iconst dX10_as_64 ?_
      refine r_goto 69 dX10_as_65 (by decide) ?_
      refine r_ist4 dX10_as_69 rfl ?_
      refine r_ild4 dX10_as_71 ?_
      refine r_if_eq 84 dX10_as_73 (by decide) (by omega) (fun c73 => by exfalso; omega) (fun c73 => ?_)
      refine r_ald0 dX10_as_76 ?_
      refine r_ild1 dX10_as_77 ?_
      refine s_callV1r hM (c_X10_well E ) cv_X10_well wM_X10_83 (sh_201) rfl rfl (Nat.le_of_ble_eq_true rfl) (by decide) dX10_as_78 (fun hM78 => ?_)
      refine r_goto 89 dX10_as_81 (by decide) ?_
      exact s_iret hM78 rfl dX10_as_89 (by unfold yAs mfn mfi; (repeat' split) <;> first | rfl | omega | (exfalso; omega)) (by unfold yAs mfn mfi; (repeat' split) <;> first | rfl | omega | (exfalso; omega))
    refine r_ild3 dX10_as_49 ?_
    refine r_iconst dX10_as_50 ?_
    refine r_icmp_eq 64 dX10_as_51 (by decide) (by omega) (by omega) (fun c51 => ?_) (fun c51 => ?_)
    · skip
      refine r_iconst dX10_as_64 ?_
      refine r_goto 69 dX10_as_65 (by decide) ?_
      refine r_ist4 dX10_as_69 rfl ?_
      refine r_ild4 dX10_as_71 ?_
      refine r_if_eq 84 dX10_as_73 (by decide) (by omega) (fun c73 => by exfalso; omega) (fun c73 => ?_)
      refine r_ald0 dX10_as_76 ?_
      refine r_ild1 dX10_as_77 ?_
      refine s_callV1r hM (c_X10_well E ) cv_X10_well wM_X10_83 (sh_201) rfl rfl (Nat.le_of_ble_eq_true rfl) (by decide) dX10_as_78 (fun hM78 => ?_)
      refine r_goto 89 dX10_as_81 (by decide) ?_
      exact s_iret hM78 rfl dX10_as_89 (by unfold yAs mfn mfi; (repeat' split) <;> first | rfl | omega | (exfalso; omega)) (by unfold yAs mfn mfi; (repeat' split) <;> first | rfl | omega | (exfalso; omega))
    refine r_ild2 dX10_as_54 ?_
    refine r_iconst dX10_as_55 ?_
    refine r_icmp_ne 68 dX10_as_56 (by decide) (by omega) (by omega) (fun c56 => ?_) (fun c56 => ?_)
    · skip
      refine r_iconst dX10_as_68 ?_
      refine r_ist4 dX10_as_69 rfl ?_
      refine r_ild4 dX10_as_71 ?_
      refine r_if_eq 84 dX10_as_73 (by decide) (by omega) (fun c73 => ?_) (fun c73 => by exfalso; omega)
      refine r_ald0 dX10_as_84 ?_
      refine r_iconst dX10_as_85 ?_
      refine s_callV1r hM (c_X10_meets E (by first | with_reducible assumption | with_reducible exact xSt_9 | with_reducible exact xSt_13 | omega)) cv_X10_meets wM_X10_79 (sh_201) rfl rfl (Nat.le_of_ble_eq_true rfl) (by decide) dX10_as_86 (fun hM86 => ?_)
      exact s_iret hM86 rfl dX10_as_89 (by unfold yAs mfn mfi; (repeat' split) <;> first | rfl | omega | (exfalso; omega)) (by unfold yAs mfn mfi; (repeat' split) <;> first | rfl | omega | (exfalso; omega))
    refine r_ild3 dX10_as_59 ?_
    refine r_iconst dX10_as_60 ?_
    refine r_icmp_ne 68 dX10_as_61 (by decide) (by omega) (by omega) (fun c61 => ?_) (fun c61 => ?_)
    · skip
      refine r_iconst dX10_as_68 ?_
      refine r_ist4 dX10_as_69 rfl ?_
      refine r_ild4 dX10_as_71 ?_
      refine r_if_eq 84 dX10_as_73 (by decide) (by omega) (fun c73 => ?_) (fun c73 => by exfalso; omega)
      refine r_ald0 dX10_as_84 ?_
      refine r_iconst dX10_as_85 ?_
      refine s_callV1r hM (c_X10_meets E (by first | with_reducible assumption | with_reducible exact xSt_9 | with_reducible exact xSt_13 | omega)) cv_X10_meets wM_X10_79 (sh_201) rfl rfl (Nat.le_of_ble_eq_true rfl) (by decide) dX10_as_86 (fun hM86 => ?_)
      exact s_iret hM86 rfl dX10_as_89 (by unfold yAs mfn mfi; (repeat' split) <;> first | rfl | omega | (exfalso; omega)) (by unfold yAs mfn mfi; (repeat' split) <;> first | rfl | omega | (exfalso; omega))
    refine r_iconst dX10_as_64 ?_
    refine r_goto 69 dX10_as_65 (by decide) ?_
    refine r_ist4 dX10_as_69 rfl ?_
    refine r_ild4 dX10_as_71 ?_
    refine r_if_eq 84 dX10_as_73 (by decide) (by omega) (fun c73 => by exfalso; omega) (fun c73 => ?_)
    refine r_ald0 dX10_as_76 ?_
    refine r_ild1 dX10_as_77 ?_
    refine s_callV1r hM (c_X10_well E ) cv_X10_well wM_X10_83 (sh_201) rfl rfl (Nat.le_of_ble_eq_true rfl) (by decide) dX10_as_78 (fun hM78 => ?_)
    refine r_goto 89 dX10_as_81 (by decide) ?_
    exact s_iret hM78 rfl dX10_as_89 (by unfold yAs mfn mfi; (repeat' split) <;> first | rfl | omega | (exfalso; omega)) (by unfold yAs mfn mfi; (repeat' split) <;> first | rfl | omega | (exfalso; omega))
  refine r_ldc (-1000001) dX10_as_17 wC_X10_78 ?_
  exact s_iret hM rfl dX10_as_19 (by unfold yAs mfn mfi; (repeat' split) <;> first | rfl | omega | (exfalso; omega)) (by unfold yAs mfn mfi; (repeat' split) <;> first | rfl | omega | (exfalso; omega))
set_option maxHeartbeats 4000000 in
theorem c_X10_leaves (E : xE) {M : xMem} {b : Int} (htr : 0 ≤ M 201 29 ∧ M 201 29 ≤ 16) (hb : 0 ≤ b ∧ b ≤ 100) : Ct E mX10_leaves 2 0 [xr E 201, xi b] M (none) (lvY M b) := by
  refine Ct.of 0 2 (by rfl) (by decide +kernel) (fun hM => ?_)
  show VS E mX10_leaves 0 _ _ 0 [some (xr E 201), some (xi b)] [] M
  refine r_ald0 dX10_leaves_0 ?_
  refine s_getI hM fi_X10_270 (sh_201) rfl dX10_leaves_1 (fun g1 => ?_)
  refine r_bipush dX10_leaves_4 (by decide +kernel) ?_
  refine r_icmp_ge 29 dX10_leaves_6 (by decide) (by omega) (by omega) (fun c6 => ?_) (fun c6 => ?_)
  · skip
    exact s_vret hM rfl dX10_leaves_29 (by unfold lvY; first | (rw [if_pos (by omega)]; done) | (rw [if_neg (by omega)]; done))
  refine r_ald0 dX10_leaves_9 ?_
  refine s_getR fi_X10_62 (sh_201) rfl dX10_leaves_10 ?_
  refine r_ald0 dX10_leaves_13 ?_
  refine s_getI hM fi_X10_270 (sh_201) rfl dX10_leaves_14 (fun g14 => ?_)
  refine r_ild1 dX10_leaves_17 ?_
  refine s_iast hM (sh_219) (by omega) (by decide) (by omega) dX10_leaves_18 (fun hM18 => ?_)
  refine r_ald0 dX10_leaves_19 ?_
  refine r_dup dX10_leaves_20 rfl ?_
  refine s_getI hM18 fi_X10_270 (sh_201) rfl dX10_leaves_21 (fun g21 => ?_)
  try simp (disch := omega) only [mS_ne, mS_eq]
  refine r_iconst dX10_leaves_24 ?_
  refine r_iadd dX10_leaves_25 ?_
  refine s_putI hM18 fp_X10_270 (sh_201) rfl (by omega) dX10_leaves_26 (fun hM26 => ?_)
  exact s_vret hM26 rfl dX10_leaves_29 (by unfold lvY; first | (rw [if_pos (by omega)]; done) | (rw [if_neg (by omega)]; done))
set_option maxHeartbeats 4000000 in
theorem c_X10_b10 (E : xE) {M : xMem} {s : Int} (htr : 0 ≤ M 201 29 ∧ M 201 29 ≤ 16) (hs : 0 ≤ s ∧ s ≤ 5) : Ct E mX10_b10 2 1 [xr E 201, xi s] M (some (xi (tg (M 209) 4 s.toNat))) (([10]).foldl lvY M) := by
  refine Ct.of 0 2 (by rfl) (by decide +kernel) (fun hM => ?_)
  show VS E mX10_b10 1 _ _ 0 [some (xr E 201), some (xi s)] [] M
  refine r_ald0 dX10_b10_0 ?_
  refine r_bipush dX10_b10_1 (by decide +kernel) ?_
  refine s_callV1v hM (c_X10_leaves E (by first | exact htr | exact lvL_b _ _ (by assumption) | exact lvY_b (by assumption) | (refine lvY_b ?_; exact lvL_b _ _ (by assumption)) | (refine lvL_b _ _ ?_; exact lvY_b (by assumption)) | (refine lvY_b (lvY_b ?_); exact htr)) (by first | with_reducible assumption | with_reducible exact xSt_9 | with_reducible exact xSt_13 | omega)) cv_X10_leaves wM_X10_273 (sh_201) rfl rfl (Nat.le_of_ble_eq_true rfl) (by decide) dX10_b10_3 (fun hM3 => ?_)
  refine r_ald0 dX10_b10_6 ?_
  refine s_getR fi_X10_31 (sh_201) rfl dX10_b10_7 ?_
  refine r_bipush dX10_b10_10 (by decide +kernel) ?_
  refine r_ild1 dX10_b10_12 ?_
  refine r_iadd dX10_b10_13 ?_
  refine s_iald hM3 (sh_209) (by omega) (by decide) dX10_b10_14 (fun g14 => ?_)
  try simp (disch := omega) only [Int.reduceToNat]
  try simp only [lvL_row (a := 209) (by decide), lvL_row (a := 210) (by decide), lvY_row (a := 209) (by decide), lvY_row (a := 210) (by decide)]
  try simp only [ix20 (g := M 209) (s := s) hs.1]
  exact s_iret hM3 rfl dX10_b10_15 (by rfl) (by rfl)
set_option maxHeartbeats 4000000 in
theorem c_X10_b20 (E : xE) {M : xMem} {s : Int} (htr : 0 ≤ M 201 29 ∧ M 201 29 ≤ 16) (hs : 0 ≤ s ∧ s ≤ 5) : Ct E mX10_b20 2 1 [xr E 201, xi s] M (some (xi (s))) (([20]).foldl lvY M) := by
  refine Ct.of 0 2 (by rfl) (by decide +kernel) (fun hM => ?_)
  show VS E mX10_b20 1 _ _ 0 [some (xr E 201), some (xi s)] [] M
  refine r_ald0 dX10_b20_0 ?_
  refine r_bipush dX10_b20_1 (by decide +kernel) ?_
  refine s_callV1v hM (c_X10_leaves E (by first | exact htr | exact lvL_b _ _ (by assumption) | exact lvY_b (by assumption) | (refine lvY_b ?_; exact lvL_b _ _ (by assumption)) | (refine lvL_b _ _ ?_; exact lvY_b (by assumption)) | (refine lvY_b (lvY_b ?_); exact htr)) (by first | with_reducible assumption | with_reducible exact xSt_9 | with_reducible exact xSt_13 | omega)) cv_X10_leaves wM_X10_273 (sh_201) rfl rfl (Nat.le_of_ble_eq_true rfl) (by decide) dX10_b20_3 (fun hM3 => ?_)
  refine r_ild1 dX10_b20_6 ?_
  exact s_iret hM3 rfl dX10_b20_7 (by rfl) (by rfl)
set_option maxHeartbeats 4000000 in
theorem c_X10_b21 (E : xE) {M : xMem} {s : Int} (htr : 0 ≤ M 201 29 ∧ M 201 29 ≤ 16) (hs : 0 ≤ s ∧ s ≤ 5) (hpr : 1 ≤ M 210 3 ∧ M 210 3 ≤ 9) : Ct E mX10_b21 2 2 [xr E 201, xi s] M (some (xi (s + M 210 3))) (([21, 20]).foldl lvY M) := by
  refine Ct.of 0 2 (by rfl) (by decide +kernel) (fun hM => ?_)
  show VS E mX10_b21 2 _ _ 0 [some (xr E 201), some (xi s)] [] M
  refine r_ald0 dX10_b21_0 ?_
  refine r_bipush dX10_b21_1 (by decide +kernel) ?_
  refine s_callV1v hM (c_X10_leaves E (by first | exact htr | exact lvL_b _ _ (by assumption) | exact lvY_b (by assumption) | (refine lvY_b ?_; exact lvL_b _ _ (by assumption)) | (refine lvL_b _ _ ?_; exact lvY_b (by assumption)) | (refine lvY_b (lvY_b ?_); exact htr)) (by first | with_reducible assumption | with_reducible exact xSt_9 | with_reducible exact xSt_13 | omega)) cv_X10_leaves wM_X10_273 (sh_201) rfl rfl (Nat.le_of_ble_eq_true rfl) (by decide) dX10_b21_3 (fun hM3 => ?_)
  refine r_ald0 dX10_b21_6 ?_
  refine r_ild1 dX10_b21_7 ?_
  refine s_callV1r hM3 (c_X10_b20 E (by first | exact htr | exact lvL_b _ _ (by assumption) | exact lvY_b (by assumption) | (refine lvY_b ?_; exact lvL_b _ _ (by assumption)) | (refine lvL_b _ _ ?_; exact lvY_b (by assumption)) | (refine lvY_b (lvY_b ?_); exact htr)) (by first | with_reducible assumption | with_reducible exact xSt_9 | with_reducible exact xSt_13 | omega)) cv_X10_b20 wM_X10_276 (sh_201) rfl rfl (Nat.le_of_ble_eq_true rfl) (by decide) dX10_b21_8 (fun hM8 => ?_)
  refine r_ald0 dX10_b21_11 ?_
  refine s_getR fi_X10_34 (sh_201) rfl dX10_b21_12 ?_
  refine r_iconst dX10_b21_15 ?_
  refine s_iald hM8 (sh_210) (by omega) (by decide) dX10_b21_16 (fun g16 => ?_)
  try simp (disch := omega) only [Int.reduceToNat]
  try simp only [lvL_row (a := 209) (by decide), lvL_row (a := 210) (by decide), lvY_row (a := 209) (by decide), lvY_row (a := 210) (by decide)]
  refine r_iadd dX10_b21_17 ?_
  exact s_iret hM8 rfl dX10_b21_18 (by rfl) (by rfl)
set_option maxHeartbeats 4000000 in
theorem c_X10_markOfNotice (E : xE) {M : xMem} {s : Int} (htr : 0 ≤ M 201 29 ∧ M 201 29 ≤ 16) (hs : 0 ≤ s ∧ s ≤ 5) (hpr : 1 ≤ M 210 3 ∧ M 210 3 ≤ 9) (hkd : 1 ≤ tg (M 209) 2 s.toNat ∧ tg (M 209) 2 s.toNat ≤ 5) : Ct E mX10_markOfNotice 2 3 [xr E 201, xi s] M (some (xi (if tg (M 209) 2 s.toNat = 2 then 2 * (s + M 210 3) else if tg (M 209) 2 s.toNat = 3 then s + M 210 3 - 1000 else s + M 210 3))) (((if tg (M 209) 2 s.toNat = 2 then [24, 21, 20] else if tg (M 209) 2 s.toNat = 3 then [22, 21, 20] else [21, 20])).foldl lvY M) := by
  refine Ct.of 0 2 (by rfl) (by decide +kernel) (fun hM => ?_)
  have e8 : M 209 (8 + s).toNat = tg (M 209) 2 s.toNat := ix8 (by omega)
  show VS E mX10_markOfNotice 3 _ _ 0 [some (xr E 201), some (xi s)] [] M
  refine r_ald0 dX10_markOfNotice_0 ?_
  refine s_getR fi_X10_31 (sh_201) rfl dX10_markOfNotice_1 ?_
  refine r_bipush dX10_markOfNotice_4 (by decide +kernel) ?_
  refine r_ild1 dX10_markOfNotice_6 ?_
  refine r_iadd dX10_markOfNotice_7 ?_
  refine s_iald hM (sh_209) (by omega) (by decide) dX10_markOfNotice_8 (fun g8 => ?_)
  try simp (disch := omega) only [Int.reduceToNat]
  try simp only [e8]
  by_cases c9_2 : tg (M 209) 2 s.toNat = 2
  · skip
    refine r_look 36 dX10_markOfNotice_9 (by decide) (by omega) (by rw [c9_2]; first | done | decide) (by decide) ?_
    refine r_ald0 dX10_markOfNotice_36 ?_
    refine r_bipush dX10_markOfNotice_37 (by decide +kernel) ?_
    refine s_callV1v hM (c_X10_leaves E (by first | exact htr | exact lvL_b _ _ (by assumption) | exact lvY_b (by assumption) | (refine lvY_b ?_; exact lvL_b _ _ (by assumption)) | (refine lvL_b _ _ ?_; exact lvY_b (by assumption)) | (refine lvY_b (lvY_b ?_); exact htr)) (by first | with_reducible assumption | with_reducible exact xSt_9 | with_reducible exact xSt_13 | omega)) cv_X10_leaves wM_X10_273 (sh_201) rfl rfl (Nat.le_of_ble_eq_true rfl) (by decide) dX10_markOfNotice_39 (fun hM39 => ?_)
    refine r_iconst dX10_markOfNotice_42 ?_
    refine r_ald0 dX10_markOfNotice_43 ?_
    refine r_ild1 dX10_markOfNotice_44 ?_
    refine s_callV1r hM39 (c_X10_b21 E (by first | exact htr | exact lvL_b _ _ (by assumption) | exact lvY_b (by assumption) | (refine lvY_b ?_; exact lvL_b _ _ (by assumption)) | (refine lvL_b _ _ ?_; exact lvY_b (by assumption)) | (refine lvY_b (lvY_b ?_); exact htr)) (by first | with_reducible assumption | with_reducible exact xSt_9 | with_reducible exact xSt_13 | omega) (by rw [lvY_row (by decide)]; exact hpr)) cv_X10_b21 wM_X10_279 (sh_201) rfl rfl (Nat.le_of_ble_eq_true rfl) (by decide) dX10_markOfNotice_45 (fun hM45 => ?_)
    try rw [lvY_row (a := 210) (by decide)]
    refine r_imul dX10_markOfNotice_48 ?_
    exact s_iret hM45 rfl dX10_markOfNotice_49 (by first | (rw [if_pos (by assumption)]; done) | (rw [if_neg (by assumption), if_pos (by assumption)]; done) | (rw [if_neg (by assumption), if_neg (by assumption)]; done)) (by first | (rw [if_pos (by assumption)]; rfl) | (rw [if_neg (by assumption), if_pos (by assumption)]; rfl) | (rw [if_neg (by assumption), if_neg (by assumption)]; done))
  by_cases c9_3 : tg (M 209) 2 s.toNat = 3
  · skip
    refine r_look 50 dX10_markOfNotice_9 (by decide) (by omega) (by rw [c9_3]; first | done | decide) (by decide) ?_
    refine r_ald0 dX10_markOfNotice_50 ?_
    refine r_bipush dX10_markOfNotice_51 (by decide +kernel) ?_
    refine s_callV1v hM (c_X10_leaves E (by first | exact htr | exact lvL_b _ _ (by assumption) | exact lvY_b (by assumption) | (refine lvY_b ?_; exact lvL_b _ _ (by assumption)) | (refine lvL_b _ _ ?_; exact lvY_b (by assumption)) | (refine lvY_b (lvY_b ?_); exact htr)) (by first | with_reducible assumption | with_reducible exact xSt_9 | with_reducible exact xSt_13 | omega)) cv_X10_leaves wM_X10_273 (sh_201) rfl rfl (Nat.le_of_ble_eq_true rfl) (by decide) dX10_markOfNotice_53 (fun hM53 => ?_)
    refine r_ald0 dX10_markOfNotice_56 ?_
    refine r_ild1 dX10_markOfNotice_57 ?_
    refine s_callV1r hM53 (c_X10_b21 E (by first | exact htr | exact lvL_b _ _ (by assumption) | exact lvY_b (by assumption) | (refine lvY_b ?_; exact lvL_b _ _ (by assumption)) | (refine lvL_b _ _ ?_; exact lvY_b (by assumption)) | (refine lvY_b (lvY_b ?_); exact htr)) (by first | with_reducible assumption | with_reducible exact xSt_9 | with_reducible exact xSt_13 | omega) (by rw [lvY_row (by decide)]; exact hpr)) cv_X10_b21 wM_X10_279 (sh_201) rfl rfl (Nat.le_of_ble_eq_true rfl) (by decide) dX10_markOfNotice_58 (fun hM58 => ?_)
    try rw [lvY_row (a := 210) (by decide)]
    refine r_sipush dX10_markOfNotice_61 (by decide +kernel) ?_
    refine r_isub dX10_markOfNotice_64 ?_
    exact s_iret hM58 rfl dX10_markOfNotice_65 (by first | (rw [if_pos (by assumption)]; done) | (rw [if_neg (by assumption), if_pos (by assumption)]; done) | (rw [if_neg (by assumption), if_neg (by assumption)]; done)) (by first | (rw [if_pos (by assumption)]; rfl) | (rw [if_neg (by assumption), if_pos (by assumption)]; rfl) | (rw [if_neg (by assumption), if_neg (by assumption)]; done))
  refine r_look 66 dX10_markOfNotice_9 (by decide) (by omega) (look_def (by simp; omega)) (by decide) ?_
  refine r_ald0 dX10_markOfNotice_66 ?_
  refine r_ild1 dX10_markOfNotice_67 ?_
  refine s_callV1r hM (c_X10_b21 E (by first | exact htr | exact lvL_b _ _ (by assumption) | exact lvY_b (by assumption) | (refine lvY_b ?_; exact lvL_b _ _ (by assumption)) | (refine lvL_b _ _ ?_; exact lvY_b (by assumption)) | (refine lvY_b (lvY_b ?_); exact htr)) (by first | with_reducible assumption | with_reducible exact xSt_9 | with_reducible exact xSt_13 | omega) (by first | with_reducible assumption | with_reducible exact xSt_9 | with_reducible exact xSt_13 | omega)) cv_X10_b21 wM_X10_279 (sh_201) rfl rfl (Nat.le_of_ble_eq_true rfl) (by decide) dX10_markOfNotice_68 (fun hM68 => ?_)
  exact s_iret hM68 rfl dX10_markOfNotice_71 (by first | (rw [if_pos (by assumption)]; done) | (rw [if_neg (by assumption), if_pos (by assumption)]; done) | (rw [if_neg (by assumption), if_neg (by assumption)]; done)) (by first | (rw [if_pos (by assumption)]; rfl) | (rw [if_neg (by assumption), if_pos (by assumption)]; rfl) | (rw [if_neg (by assumption), if_neg (by assumption)]; done))
set_option maxHeartbeats 4000000 in
theorem c_X10_b11 (E : xE) {M : xMem} {s : Int} (htr : 0 ≤ M 201 29 ∧ M 201 29 ≤ 16) (hs : 0 ≤ s ∧ s ≤ 5) (hpr : 1 ≤ M 210 3 ∧ M 210 3 ≤ 9) (hkd : 1 ≤ tg (M 209) 2 s.toNat ∧ tg (M 209) 2 s.toNat ≤ 5) (hle : 1 ≤ tg (M 209) 4 s.toNat ∧ tg (M 209) 4 s.toNat ≤ 30) : Ct E mX10_b11 3 4 [xr E 201, xi s] M (some (xi (tg (M 209) 4 s.toNat + (if tg (M 209) 2 s.toNat = 2 then 2 * (s + M 210 3) else if tg (M 209) 2 s.toNat = 3 then s + M 210 3 - 1000 else s + M 210 3)))) ((11 :: 10 :: (if tg (M 209) 2 s.toNat = 2 then [24, 21, 20] else if tg (M 209) 2 s.toNat = 3 then [22, 21, 20] else [21, 20])).foldl lvY M) := by
  refine Ct.of 1 3 (by rfl) (by decide +kernel) (fun hM => ?_)
  show VS E mX10_b11 4 _ _ 0 [some (xr E 201), some (xi s), none] [] M
  refine r_ald0 dX10_b11_0 ?_
  refine r_bipush dX10_b11_1 (by decide +kernel) ?_
  refine s_callV1v hM (c_X10_leaves E (by first | exact htr | exact lvL_b _ _ (by assumption) | exact lvY_b (by assumption) | (refine lvY_b ?_; exact lvL_b _ _ (by assumption)) | (refine lvL_b _ _ ?_; exact lvY_b (by assumption)) | (refine lvY_b (lvY_b ?_); exact htr)) (by first | with_reducible assumption | with_reducible exact xSt_9 | with_reducible exact xSt_13 | omega)) cv_X10_leaves wM_X10_273 (sh_201) rfl rfl (Nat.le_of_ble_eq_true rfl) (by decide) dX10_b11_3 (fun hM3 => ?_)
  refine r_ald0 dX10_b11_6 ?_
  refine r_ild1 dX10_b11_7 ?_
  refine s_callV1r hM3 (c_X10_b10 E (by first | exact htr | exact lvL_b _ _ (by assumption) | exact lvY_b (by assumption) | (refine lvY_b ?_; exact lvL_b _ _ (by assumption)) | (refine lvL_b _ _ ?_; exact lvY_b (by assumption)) | (refine lvY_b (lvY_b ?_); exact htr)) (by first | with_reducible assumption | with_reducible exact xSt_9 | with_reducible exact xSt_13 | omega)) cv_X10_b10 wM_X10_282 (sh_201) rfl rfl (Nat.le_of_ble_eq_true rfl) (by decide) dX10_b11_8 (fun hM8 => ?_)
  try simp only [lvL_row (a := 209) (by decide), lvL_row (a := 210) (by decide), lvY_row (a := 209) (by decide), lvY_row (a := 210) (by decide)] at hM8 ⊢
  refine r_ist2 dX10_b11_11 rfl ?_
  refine r_ild2 dX10_b11_12 ?_
  refine r_ald0 dX10_b11_13 ?_
  refine r_ild1 dX10_b11_14 ?_
  refine s_callV1r hM8 (c_X10_markOfNotice E (by first | exact htr | exact lvL_b _ _ (by assumption) | exact lvY_b (by assumption) | (refine lvY_b ?_; exact lvL_b _ _ (by assumption)) | (refine lvL_b _ _ ?_; exact lvY_b (by assumption)) | (refine lvY_b (lvY_b ?_); exact htr)) (by first | with_reducible assumption | with_reducible exact xSt_9 | with_reducible exact xSt_13 | omega) (by simp only [lvL_row (a := 209) (by decide), lvL_row (a := 210) (by decide), lvY_row (a := 209) (by decide), lvY_row (a := 210) (by decide)]; exact hpr) (by simp only [lvL_row (a := 209) (by decide), lvL_row (a := 210) (by decide), lvY_row (a := 209) (by decide), lvY_row (a := 210) (by decide)]; exact hkd)) cv_X10_markOfNotice wM_X10_285 (sh_201) rfl rfl (Nat.le_of_ble_eq_true rfl) (by decide) dX10_b11_15 (fun hM15 => ?_)
  try simp only [lvL_row (a := 209) (by decide), lvL_row (a := 210) (by decide), lvY_row (a := 209) (by decide), lvY_row (a := 210) (by decide)] at hM15 ⊢
  have hmv : -2000 ≤ (if tg (M 209) 2 s.toNat = 2 then 2 * (s + M 210 3) else if tg (M 209) 2 s.toNat = 3 then s + M 210 3 - 1000 else s + M 210 3) ∧ (if tg (M 209) 2 s.toNat = 2 then 2 * (s + M 210 3) else if tg (M 209) 2 s.toNat = 3 then s + M 210 3 - 1000 else s + M 210 3) ≤ 2000 := by (repeat' split) <;> omega
  refine r_iadd dX10_b11_18 ?_
  exact s_iret hM15 rfl dX10_b11_19 (by rfl) (by rfl)
set_option maxHeartbeats 4000000 in
theorem c_X10_b13 (E : xE) {M : xMem} {s : Int} (htr : 0 ≤ M 201 29 ∧ M 201 29 ≤ 16) (hs : 0 ≤ s ∧ s ≤ 5) (hle : 1 ≤ tg (M 209) 4 s.toNat ∧ tg (M 209) 4 s.toNat ≤ 30) : Ct E mX10_b13 2 2 [xr E 201, xi s] M (some (xi (tg (M 209) 4 s.toNat - 100))) (([13, 10]).foldl lvY M) := by
  refine Ct.of 0 2 (by rfl) (by decide +kernel) (fun hM => ?_)
  show VS E mX10_b13 2 _ _ 0 [some (xr E 201), some (xi s)] [] M
  refine r_ald0 dX10_b13_0 ?_
  refine r_bipush dX10_b13_1 (by decide +kernel) ?_
  refine s_callV1v hM (c_X10_leaves E (by first | exact htr | exact lvL_b _ _ (by assumption) | exact lvY_b (by assumption) | (refine lvY_b ?_; exact lvL_b _ _ (by assumption)) | (refine lvL_b _ _ ?_; exact lvY_b (by assumption)) | (refine lvY_b (lvY_b ?_); exact htr)) (by first | with_reducible assumption | with_reducible exact xSt_9 | with_reducible exact xSt_13 | omega)) cv_X10_leaves wM_X10_273 (sh_201) rfl rfl (Nat.le_of_ble_eq_true rfl) (by decide) dX10_b13_3 (fun hM3 => ?_)
  refine r_ald0 dX10_b13_6 ?_
  refine r_ild1 dX10_b13_7 ?_
  refine s_callV1r hM3 (c_X10_b10 E (by first | exact htr | exact lvL_b _ _ (by assumption) | exact lvY_b (by assumption) | (refine lvY_b ?_; exact lvL_b _ _ (by assumption)) | (refine lvL_b _ _ ?_; exact lvY_b (by assumption)) | (refine lvY_b (lvY_b ?_); exact htr)) (by first | with_reducible assumption | with_reducible exact xSt_9 | with_reducible exact xSt_13 | omega)) cv_X10_b10 wM_X10_282 (sh_201) rfl rfl (Nat.le_of_ble_eq_true rfl) (by decide) dX10_b13_8 (fun hM8 => ?_)
  try simp only [lvL_row (a := 209) (by decide), lvL_row (a := 210) (by decide), lvY_row (a := 209) (by decide), lvY_row (a := 210) (by decide)]
  refine r_bipush dX10_b13_11 (by decide +kernel) ?_
  refine r_isub dX10_b13_13 ?_
  exact s_iret hM8 rfl dX10_b13_14 (by rfl) (by rfl)
set_option maxHeartbeats 4000000 in
theorem c_X10_sizeOf (E : xE) {M : xMem} {s : Int} (htr : 0 ≤ M 201 29 ∧ M 201 29 ≤ 16) (hs : 0 ≤ s ∧ s ≤ 5) (hpr : 1 ≤ M 210 3 ∧ M 210 3 ≤ 9) (hkd : 1 ≤ tg (M 209) 2 s.toNat ∧ tg (M 209) 2 s.toNat ≤ 5) (hle : 1 ≤ tg (M 209) 4 s.toNat ∧ tg (M 209) 4 s.toNat ≤ 30) : Ct E mX10_sizeOf 2 5 [xr E 201, xi s] M (some (xi (sizT (tg (M 209)) (sk (M 210)) s))) ((trc (tg (M 209) 2 s.toNat) 0).foldl lvY M) := by
  refine Ct.of 0 2 (by rfl) (by decide +kernel) (fun hM => ?_)
  have e8 : M 209 (8 + s).toNat = tg (M 209) 2 s.toNat := ix8 (by omega)
  have es : sizT (tg (M 209)) (sk (M 210)) s = if tg (M 209) 2 s.toNat = 1 then tg (M 209) 4 s.toNat + (s + M 210 3) else if tg (M 209) 2 s.toNat = 2 then 0 - (tg (M 209) 4 s.toNat + 2 * (s + M 210 3)) else if tg (M 209) 2 s.toNat = 3 then tg (M 209) 4 s.toNat + (s + M 210 3 - 1000) else if tg (M 209) 2 s.toNat = 4 then tg (M 209) 4 s.toNat - 100 else 2 * (tg (M 209) 4 s.toNat - 100) := by unfold sizT mrkT szwT; (repeat' split) <;> first | rfl | omega | (exfalso; omega)
  show VS E mX10_sizeOf 5 _ _ 0 [some (xr E 201), some (xi s)] [] M
  refine r_ald0 dX10_sizeOf_0 ?_
  refine s_getR fi_X10_31 (sh_201) rfl dX10_sizeOf_1 ?_
  refine r_bipush dX10_sizeOf_4 (by decide +kernel) ?_
  refine r_ild1 dX10_sizeOf_6 ?_
  refine r_iadd dX10_sizeOf_7 ?_
  refine s_iald hM (sh_209) (by omega) (by decide) dX10_sizeOf_8 (fun g8 => ?_)
  try simp (disch := omega) only [Int.reduceToNat]
  try simp only [e8]
  by_cases c9 : 2 ≤ tg (M 209) 2 s.toNat ∧ tg (M 209) 2 s.toNat ≤ 5
  · skip
    rcases (show tg (M 209) 2 s.toNat = 2 ∨ tg (M 209) 2 s.toNat = 3 ∨ tg (M 209) 2 s.toNat = 4 ∨ tg (M 209) 2 s.toNat = 5 by omega) with c9v | c9v | c9v | c9v
    · skip
      refine r_tabIn 40 dX10_sizeOf_9 (by omega) (by omega) (by rw [c9v]; rfl) (by decide) ?_
      refine r_ald0 dX10_sizeOf_40 ?_
      refine r_bipush dX10_sizeOf_41 (by decide +kernel) ?_
      refine s_callV1v hM (c_X10_leaves E (by first | exact htr | exact lvL_b _ _ (by assumption) | exact lvY_b (by assumption) | (refine lvY_b ?_; exact lvL_b _ _ (by assumption)) | (refine lvL_b _ _ ?_; exact lvY_b (by assumption)) | (refine lvY_b (lvY_b ?_); exact htr)) (by first | with_reducible assumption | with_reducible exact xSt_9 | with_reducible exact xSt_13 | omega)) cv_X10_leaves wM_X10_273 (sh_201) rfl rfl (Nat.le_of_ble_eq_true rfl) (by decide) dX10_sizeOf_43 (fun hM43 => ?_)
      refine r_ald0 dX10_sizeOf_46 ?_
      refine r_ild1 dX10_sizeOf_47 ?_
      refine s_callV1r hM43 (c_X10_b11 E (by first | exact htr | exact lvL_b _ _ (by assumption) | exact lvY_b (by assumption) | (refine lvY_b ?_; exact lvL_b _ _ (by assumption)) | (refine lvL_b _ _ ?_; exact lvY_b (by assumption)) | (refine lvY_b (lvY_b ?_); exact htr)) (by first | with_reducible assumption | with_reducible exact xSt_9 | with_reducible exact xSt_13 | omega) (by rw [lvY_row (by decide)]; exact hpr) (by rw [lvY_row (by decide)]; exact hkd) (by rw [lvY_row (by decide)]; exact hle)) cv_X10_b11 wM_X10_288 (sh_201) rfl rfl (Nat.le_of_ble_eq_true rfl) (by decide) dX10_sizeOf_48 (fun hM48 => ?_)
      try simp only [lvL_row (a := 209) (by decide), lvL_row (a := 210) (by decide), lvY_row (a := 209) (by decide), lvY_row (a := 210) (by decide)] at hM48 ⊢
      refine r_ineg dX10_sizeOf_51 ?_
      exact s_iret hM48 rfl dX10_sizeOf_52 (by rw [es]; (repeat' split) <;> first | rfl | omega | (exfalso; omega)) (by unfold trc; (repeat' split) <;> first | rfl | (exfalso; omega))
    · skip
      refine r_tabIn 73 dX10_sizeOf_9 (by omega) (by omega) (by rw [c9v]; rfl) (by decide) ?_
      refine r_ald0 dX10_sizeOf_73 ?_
      refine r_ild1 dX10_sizeOf_74 ?_
      refine s_callV1r hM (c_X10_b11 E (by first | exact htr | exact lvL_b _ _ (by assumption) | exact lvY_b (by assumption) | (refine lvY_b ?_; exact lvL_b _ _ (by assumption)) | (refine lvL_b _ _ ?_; exact lvY_b (by assumption)) | (refine lvY_b (lvY_b ?_); exact htr)) (by first | with_reducible assumption | with_reducible exact xSt_9 | with_reducible exact xSt_13 | omega) (by first | with_reducible assumption | with_reducible exact xSt_9 | with_reducible exact xSt_13 | omega) (by first | with_reducible assumption | with_reducible exact xSt_9 | with_reducible exact xSt_13 | omega) (by first | with_reducible assumption | with_reducible exact xSt_9 | with_reducible exact xSt_13 | omega)) cv_X10_b11 wM_X10_288 (sh_201) rfl rfl (Nat.le_of_ble_eq_true rfl) (by decide) dX10_sizeOf_75 (fun hM75 => ?_)
      exact s_iret hM75 rfl dX10_sizeOf_78 (by rw [es]; (repeat' split) <;> first | rfl | omega | (exfalso; omega)) (by unfold trc; (repeat' split) <;> first | rfl | (exfalso; omega))
    · skip
      refine r_tabIn 53 dX10_sizeOf_9 (by omega) (by omega) (by rw [c9v]; rfl) (by decide) ?_
      refine r_ald0 dX10_sizeOf_53 ?_
      refine r_ild1 dX10_sizeOf_54 ?_
      refine s_callV1r hM (c_X10_b13 E (by first | exact htr | exact lvL_b _ _ (by assumption) | exact lvY_b (by assumption) | (refine lvY_b ?_; exact lvL_b _ _ (by assumption)) | (refine lvL_b _ _ ?_; exact lvY_b (by assumption)) | (refine lvY_b (lvY_b ?_); exact htr)) (by first | with_reducible assumption | with_reducible exact xSt_9 | with_reducible exact xSt_13 | omega) (by first | with_reducible assumption | with_reducible exact xSt_9 | with_reducible exact xSt_13 | omega)) cv_X10_b13 wM_X10_291 (sh_201) rfl rfl (Nat.le_of_ble_eq_true rfl) (by decide) dX10_sizeOf_55 (fun hM55 => ?_)
      exact s_iret hM55 rfl dX10_sizeOf_58 (by rw [es]; (repeat' split) <;> first | rfl | omega | (exfalso; omega)) (by unfold trc; (repeat' split) <;> first | rfl | (exfalso; omega))
    · skip
      refine r_tabIn 59 dX10_sizeOf_9 (by omega) (by omega) (by rw [c9v]; rfl) (by decide) ?_
      refine r_ald0 dX10_sizeOf_59 ?_
      refine r_bipush dX10_sizeOf_60 (by decide +kernel) ?_
      refine s_callV1v hM (c_X10_leaves E (by first | exact htr | exact lvL_b _ _ (by assumption) | exact lvY_b (by assumption) | (refine lvY_b ?_; exact lvL_b _ _ (by assumption)) | (refine lvL_b _ _ ?_; exact lvY_b (by assumption)) | (refine lvY_b (lvY_b ?_); exact htr)) (by first | with_reducible assumption | with_reducible exact xSt_9 | with_reducible exact xSt_13 | omega)) cv_X10_leaves wM_X10_273 (sh_201) rfl rfl (Nat.le_of_ble_eq_true rfl) (by decide) dX10_sizeOf_62 (fun hM62 => ?_)
      refine r_iconst dX10_sizeOf_65 ?_
      refine r_ald0 dX10_sizeOf_66 ?_
      refine r_ild1 dX10_sizeOf_67 ?_
      refine s_callV1r hM62 (c_X10_b13 E (by first | exact htr | exact lvL_b _ _ (by assumption) | exact lvY_b (by assumption) | (refine lvY_b ?_; exact lvL_b _ _ (by assumption)) | (refine lvL_b _ _ ?_; exact lvY_b (by assumption)) | (refine lvY_b (lvY_b ?_); exact htr)) (by first | with_reducible assumption | with_reducible exact xSt_9 | with_reducible exact xSt_13 | omega) (by rw [lvY_row (by decide)]; exact hle)) cv_X10_b13 wM_X10_291 (sh_201) rfl rfl (Nat.le_of_ble_eq_true rfl) (by decide) dX10_sizeOf_68 (fun hM68 => ?_)
      try simp only [lvL_row (a := 209) (by decide), lvL_row (a := 210) (by decide), lvY_row (a := 209) (by decide), lvY_row (a := 210) (by decide)] at hM68 ⊢
      refine r_imul dX10_sizeOf_71 ?_
      exact s_iret hM68 rfl dX10_sizeOf_72 (by rw [es]; (repeat' split) <;> first | rfl | omega | (exfalso; omega)) (by unfold trc; (repeat' split) <;> first | rfl | (exfalso; omega))
  refine r_tabOut 73 dX10_sizeOf_9 (by omega) (by omega) (by decide) ?_
  refine r_ald0 dX10_sizeOf_73 ?_
  refine r_ild1 dX10_sizeOf_74 ?_
  refine s_callV1r hM (c_X10_b11 E (by first | exact htr | exact lvL_b _ _ (by assumption) | exact lvY_b (by assumption) | (refine lvY_b ?_; exact lvL_b _ _ (by assumption)) | (refine lvL_b _ _ ?_; exact lvY_b (by assumption)) | (refine lvY_b (lvY_b ?_); exact htr)) (by first | with_reducible assumption | with_reducible exact xSt_9 | with_reducible exact xSt_13 | omega) (by first | with_reducible assumption | with_reducible exact xSt_9 | with_reducible exact xSt_13 | omega) (by first | with_reducible assumption | with_reducible exact xSt_9 | with_reducible exact xSt_13 | omega) (by first | with_reducible assumption | with_reducible exact xSt_9 | with_reducible exact xSt_13 | omega)) cv_X10_b11 wM_X10_288 (sh_201) rfl rfl (Nat.le_of_ble_eq_true rfl) (by decide) dX10_sizeOf_75 (fun hM75 => ?_)
  exact s_iret hM75 rfl dX10_sizeOf_78 (by rw [es]; (repeat' split) <;> first | rfl | omega | (exfalso; omega)) (by unfold trc; (repeat' split) <;> first | rfl | (exfalso; omega))
set_option maxHeartbeats 4000000 in
theorem c_X10_markOf (E : xE) {M : xMem} {s : Int} (htr : 0 ≤ M 201 29 ∧ M 201 29 ≤ 16) (hs : 0 ≤ s ∧ s ≤ 5) (hpr : 1 ≤ M 210 3 ∧ M 210 3 ≤ 9) (hkd : 1 ≤ tg (M 209) 2 s.toNat ∧ tg (M 209) 2 s.toNat ≤ 5) (hle : 1 ≤ tg (M 209) 4 s.toNat ∧ tg (M 209) 4 s.toNat ≤ 30) : Ct E mX10_markOf 3 6 [xr E 201, xi s] M (some (xi (mrkT (tg (M 209)) (sk (M 210)) s))) ((trc (tg (M 209) 2 s.toNat) 1).foldl lvY M) := by
  refine Ct.of 1 3 (by rfl) (by decide +kernel) (fun hM => ?_)
  have e8 : M 209 (8 + s).toNat = tg (M 209) 2 s.toNat := ix8 (by omega)
  have es : mrkT (tg (M 209)) (sk (M 210)) s = if tg (M 209) 2 s.toNat = 1 then s + M 210 3 else if tg (M 209) 2 s.toNat = 2 then 2 * (s + M 210 3) else if tg (M 209) 2 s.toNat = 3 then s + M 210 3 - 1000 else if tg (M 209) 2 s.toNat = 4 then s - (tg (M 209) 4 s.toNat - 100) else s - 2 * (tg (M 209) 4 s.toNat - 100) := by unfold mrkT szwT; (repeat' split) <;> first | rfl | omega | (exfalso; omega)
  have ez : sizT (tg (M 209)) (sk (M 210)) s = if tg (M 209) 2 s.toNat = 1 then tg (M 209) 4 s.toNat + (s + M 210 3) else if tg (M 209) 2 s.toNat = 2 then 0 - (tg (M 209) 4 s.toNat + 2 * (s + M 210 3)) else if tg (M 209) 2 s.toNat = 3 then tg (M 209) 4 s.toNat + (s + M 210 3 - 1000) else if tg (M 209) 2 s.toNat = 4 then tg (M 209) 4 s.toNat - 100 else 2 * (tg (M 209) 4 s.toNat - 100) := by unfold sizT mrkT szwT; (repeat' split) <;> first | rfl | omega | (exfalso; omega)
  show VS E mX10_markOf 6 _ _ 0 [some (xr E 201), some (xi s), none] [] M
  refine r_ald0 dX10_markOf_0 ?_
  refine s_getR fi_X10_31 (sh_201) rfl dX10_markOf_1 ?_
  refine r_bipush dX10_markOf_4 (by decide +kernel) ?_
  refine r_ild1 dX10_markOf_6 ?_
  refine r_iadd dX10_markOf_7 ?_
  refine s_iald hM (sh_209) (by omega) (by decide) dX10_markOf_8 (fun g8 => ?_)
  try simp (disch := omega) only [Int.reduceToNat]
  try simp only [e8]
  refine r_iconst dX10_markOf_9 ?_
  refine r_icmp_ge 19 dX10_markOf_10 (by decide) (by omega) (by omega) (fun c10 => ?_) (fun c10 => ?_)
  · skip
    refine r_ald0 dX10_markOf_19 ?_
    refine r_bipush dX10_markOf_20 (by decide +kernel) ?_
    refine s_callV1v hM (c_X10_leaves E (by first | exact htr | exact lvL_b _ _ (by assumption) | exact lvY_b (by assumption) | (refine lvY_b ?_; exact lvL_b _ _ (by assumption)) | (refine lvL_b _ _ ?_; exact lvY_b (by assumption)) | (refine lvY_b (lvY_b ?_); exact htr)) (by first | with_reducible assumption | with_reducible exact xSt_9 | with_reducible exact xSt_13 | omega)) cv_X10_leaves wM_X10_273 (sh_201) rfl rfl (Nat.le_of_ble_eq_true rfl) (by decide) dX10_markOf_22 (fun hM22 => ?_)
    refine r_ald0 dX10_markOf_25 ?_
    refine r_ild1 dX10_markOf_26 ?_
    refine s_callV1r hM22 (c_X10_b20 E (by first | exact htr | exact lvL_b _ _ (by assumption) | exact lvY_b (by assumption) | (refine lvY_b ?_; exact lvL_b _ _ (by assumption)) | (refine lvL_b _ _ ?_; exact lvY_b (by assumption)) | (refine lvY_b (lvY_b ?_); exact htr)) (by first | with_reducible assumption | with_reducible exact xSt_9 | with_reducible exact xSt_13 | omega)) cv_X10_b20 wM_X10_276 (sh_201) rfl rfl (Nat.le_of_ble_eq_true rfl) (by decide) dX10_markOf_27 (fun hM27 => ?_)
    skip
    refine r_ist2 dX10_markOf_30 rfl ?_
    refine r_ild2 dX10_markOf_31 ?_
    refine r_ald0 dX10_markOf_32 ?_
    refine r_ild1 dX10_markOf_33 ?_
    refine s_callV1r hM27 (c_X10_sizeOf E (by first | exact htr | exact lvL_b _ _ (by assumption) | exact lvY_b (by assumption) | (refine lvY_b ?_; exact lvL_b _ _ (by assumption)) | (refine lvL_b _ _ ?_; exact lvY_b (by assumption)) | (refine lvY_b (lvY_b ?_); exact htr)) (by first | with_reducible assumption | with_reducible exact xSt_9 | with_reducible exact xSt_13 | omega) (by simp only [lvL_row (a := 209) (by decide), lvL_row (a := 210) (by decide), lvY_row (a := 209) (by decide), lvY_row (a := 210) (by decide)]; exact hpr) (by simp only [lvL_row (a := 209) (by decide), lvL_row (a := 210) (by decide), lvY_row (a := 209) (by decide), lvY_row (a := 210) (by decide)]; exact hkd) (by simp only [lvL_row (a := 209) (by decide), lvL_row (a := 210) (by decide), lvY_row (a := 209) (by decide), lvY_row (a := 210) (by decide)]; exact hle)) cv_X10_sizeOf wM_X10_294 (sh_201) rfl rfl (Nat.le_of_ble_eq_true rfl) (by decide) dX10_markOf_34 (fun hM34 => ?_)
    try simp only [lvL_row (a := 209) (by decide), lvL_row (a := 210) (by decide), lvY_row (a := 209) (by decide), lvY_row (a := 210) (by decide)] at hM34 ⊢
    refine r_isub dX10_markOf_37 ?_
    exact s_iret hM34 rfl dX10_markOf_38 (by first | (rw [es, ez]; (repeat' split) <;> first | rfl | omega | (exfalso; omega)) | (rw [es]; (repeat' split) <;> first | rfl | omega | (exfalso; omega))) (by unfold trc; (repeat' split) <;> first | rfl | (exfalso; omega))
  refine r_ald0 dX10_markOf_13 ?_
  refine r_ild1 dX10_markOf_14 ?_
  refine s_callV1r hM (c_X10_markOfNotice E (by first | exact htr | exact lvL_b _ _ (by assumption) | exact lvY_b (by assumption) | (refine lvY_b ?_; exact lvL_b _ _ (by assumption)) | (refine lvL_b _ _ ?_; exact lvY_b (by assumption)) | (refine lvY_b (lvY_b ?_); exact htr)) (by first | with_reducible assumption | with_reducible exact xSt_9 | with_reducible exact xSt_13 | omega) (by first | with_reducible assumption | with_reducible exact xSt_9 | with_reducible exact xSt_13 | omega) (by first | with_reducible assumption | with_reducible exact xSt_9 | with_reducible exact xSt_13 | omega)) cv_X10_markOfNotice wM_X10_285 (sh_201) rfl rfl (Nat.le_of_ble_eq_true rfl) (by decide) dX10_markOf_15 (fun hM15 => ?_)
  exact s_iret hM15 rfl dX10_markOf_18 (by first | (rw [es, ez]; (repeat' split) <;> first | rfl | omega | (exfalso; omega)) | (rw [es]; (repeat' split) <;> first | rfl | omega | (exfalso; omega))) (by unfold trc; (repeat' split) <;> first | rfl | (exfalso; omega))
set_option maxHeartbeats 4000000 in
theorem c_X10_ask (E : xE) {M : xMem} {s w : Int} (hs : -2147483648 ≤ s ∧ s < 2147483648) (hw : -2147483648 ≤ w ∧ w < 2147483648) (hD : MD M) : Ct E mX10_ask 3 7 [xr E 201, xi s, xi w] M (some (xi ((yAsk M s w).1))) ((yAsk M s w).2) := by
  refine Ct.of 0 3 (by rfl) (by decide +kernel) (fun hM => ?_)
  have hmn := MD_n hD
  show VS E mX10_ask 7 _ _ 0 [some (xr E 201), some (xi s), some (xi w)] [] M
  refine r_ald0 dX10_ask_0 ?_
  refine r_ild1 dX10_ask_1 ?_
  refine s_callV1r hM (c_X10_isSpeech E (by first | with_reducible assumption | with_reducible exact xSt_9 | with_reducible exact xSt_13 | omega) (by first | with_reducible assumption | with_reducible exact xSt_9 | with_reducible exact xSt_13 | omega)) cv_X10_isSpeech wM_X10_205 (sh_201) rfl rfl (Nat.le_of_ble_eq_true rfl) (by decide) dX10_ask_2 (fun _ => ?_)
  refine r_ifb_eq 17 dX10_ask_5 (by decide) (fun c5 => ?_) (fun c5 => ?_)
  · skip
    refine r_ldc (-1000001) dX10_ask_17 wC_X10_78 ?_
    exact s_iret hM rfl dX10_ask_19 (by unfold yAsk; first | (rw [if_pos (by omega)]; done) | (rw [if_neg (by omega)]; show _ = if w = 0 then _ else _; first | (rw [if_pos (by omega)]; done) | (rw [if_neg (by omega)]; done))) (by unfold yAsk; first | (rw [if_pos (by omega)]; done) | (rw [if_neg (by omega)]; first | (rw [show w = 0 by omega]; done) | (rw [show w = 1 by omega]; done)))
  refine r_ild2 dX10_ask_8 ?_
  refine r_iconst dX10_ask_9 ?_
  refine r_iconst dX10_ask_10 ?_
  refine s_callS3r hM (c_X10_in E (by first | with_reducible assumption | with_reducible exact xSt_9 | with_reducible exact xSt_13 | omega) (by first | with_reducible assumption | with_reducible exact xSt_9 | with_reducible exact xSt_13 | omega) (by first | with_reducible assumption | with_reducible exact xSt_9 | with_reducible exact xSt_13 | omega)) cs_X10_in wM_X10_70 (Nat.le_of_ble_eq_true rfl) (by decide) dX10_ask_11 (fun _ => ?_)
  refine r_ifb_ne 20 dX10_ask_14 (by decide) (fun c14 => ?_) (fun c14 => ?_)
  · skip
    obtain ⟨hd1, hT, hG, hNN⟩ := MD_g hD (by omega)
    have hn : 1 ≤ M 209 0 ∧ M 209 0 ≤ 5 := hT.1
    have hN : 1 ≤ M 209 1 ∧ M 209 1 ≤ 6 := hT.2.1
    have hra : 1 ≤ M 209 2 ∧ M 209 2 ≤ 60 := hT.2.2.1
    have hq : (1 ≤ tg (M 209) 2 s.toNat ∧ tg (M 209) 2 s.toNat ≤ 5) ∧ (0 ≤ tg (M 209) 3 s.toNat ∧ tg (M 209) 3 s.toNat < M 209 0) ∧ (1 ≤ tg (M 209) 4 s.toNat ∧ tg (M 209) 4 s.toNat ≤ 30) ∧ (0 ≤ tg (M 209) 5 s.toNat ∧ tg (M 209) 5 s.toNat ≤ s) := hT.2.2.2.2 s (show 0 ≤ s ∧ s < M 209 1 by omega)
    have hpr : 1 ≤ M 210 3 ∧ M 210 3 ≤ 9 := hG.1.2.2.2.1
    have hz2 : 0 ≤ mS M 201 29 0 201 29 ∧ mS M 201 29 0 201 29 ≤ 16 := by rw [mS_eq]; decide
    have r9 : mS M 201 29 0 209 = M 209 := mS_row (by decide)
    have r10 : mS M 201 29 0 210 = M 210 := mS_row (by decide)
    refine r_ald0 dX10_ask_20 ?_
    refine r_iconst dX10_ask_21 ?_
    refine s_putI hM fp_X10_270 (sh_201) rfl (by omega) dX10_ask_22 (fun hM22 => ?_)
    refine r_ild2 dX10_ask_25 ?_
    refine r_if_ne 37 dX10_ask_26 (by decide) (by omega) (fun c26 => ?_) (fun c26 => ?_)
    · skip
      refine r_ald0 dX10_ask_37 ?_
      refine r_ild1 dX10_ask_38 ?_
      refine s_callV1r hM22 (c_X10_markOf E (by exact hz2) (by omega) (by rw [r10]; exact hpr) (by rw [r9]; exact hq.1) (by rw [r9]; exact hq.2.2.1)) cv_X10_markOf wM_X10_297 (sh_201) rfl rfl (Nat.le_of_ble_eq_true rfl) (by decide) dX10_ask_39 (fun hM39 => ?_)
      rw [r9, r10]
      exact s_iret hM39 rfl dX10_ask_42 (by unfold yAsk; first | (rw [if_pos (by omega)]; done) | (rw [if_neg (by omega)]; show _ = if w = 0 then _ else _; first | (rw [if_pos (by omega)]; done) | (rw [if_neg (by omega)]; done))) (by unfold yAsk; first | (rw [if_pos (by omega)]; done) | (rw [if_neg (by omega)]; first | (rw [show w = 0 by omega]; done) | (rw [show w = 1 by omega]; done)))
    refine r_ald0 dX10_ask_29 ?_
    refine r_ild1 dX10_ask_30 ?_
    refine s_callV1r hM22 (c_X10_sizeOf E (by exact hz2) (by omega) (by rw [r10]; exact hpr) (by rw [r9]; exact hq.1) (by rw [r9]; exact hq.2.2.1)) cv_X10_sizeOf wM_X10_294 (sh_201) rfl rfl (Nat.le_of_ble_eq_true rfl) (by decide) dX10_ask_31 (fun hM31 => ?_)
    rw [r9, r10]
    refine r_goto 42 dX10_ask_34 (by decide) ?_
    exact s_iret hM31 rfl dX10_ask_42 (by unfold yAsk; first | (rw [if_pos (by omega)]; done) | (rw [if_neg (by omega)]; show _ = if w = 0 then _ else _; first | (rw [if_pos (by omega)]; done) | (rw [if_neg (by omega)]; done))) (by unfold yAsk; first | (rw [if_pos (by omega)]; done) | (rw [if_neg (by omega)]; first | (rw [show w = 0 by omega]; done) | (rw [show w = 1 by omega]; done)))
  refine r_ldc (-1000001) dX10_ask_17 wC_X10_78 ?_
  exact s_iret hM rfl dX10_ask_19 (by unfold yAsk; first | (rw [if_pos (by omega)]; done) | (rw [if_neg (by omega)]; show _ = if w = 0 then _ else _; first | (rw [if_pos (by omega)]; done) | (rw [if_neg (by omega)]; done))) (by unfold yAsk; first | (rw [if_pos (by omega)]; done) | (rw [if_neg (by omega)]; first | (rw [show w = 0 by omega]; done) | (rw [show w = 1 by omega]; done)))
set_option maxHeartbeats 4000000 in
theorem c_X10_image (E : xE) {M : xMem} {k : Int} (hk : -2147483648 ≤ k ∧ k < 2147483648) : Ct E mX10_image 3 1 [xr E 201, xi k] M (some (xi ((yImage M k).1))) ((yImage M k).2) := by
  refine Ct.of 1 3 (by rfl) (by decide +kernel) (fun hM => ?_)
  show VS E mX10_image 1 _ _ 0 [some (xr E 201), some (xi k), none] [] M
  have L62 : ∀ (fu : Nat) (j : Int) (Mc : xMem), InR Mc → (0 ≤ j ∧ j ≤ 21) → ((0 ≤ k ∧ k ≤ 1) ∧ ¬ M 201 16 = 0) → (Mc = rngM (rngM (mS M 216 k.toNat 1) 217 (32 * k) (M 209) 32) 218 (21 * k) (M 210) j) → (21 - j).toNat < fu → VS E mX10_image 1 (some (xi ((yImage M k).1))) ((yImage M k).2) 62 [some (xr E 201), some (xi k), some (xi j)] [] Mc := by
    intro fu
    induction fu with
    | zero => intro j Mc hML62 hb hg hMc hme; exact absurd hme (Nat.not_lt_zero _)
    | succ fu ih =>
      intro j Mc hML62 hb hg hMc hme
      have w10 : ∀ i, Mc 210 i = M 210 i := fun i => by rw [hMc, rng_ne (by decide), rng_ne (by decide), mS_ne (Or.inl (by decide))]
      refine r_ild2 dX10_image_62 ?_
      refine r_bipush dX10_image_63 (by decide +kernel) ?_
      refine r_icmp_ge 91 dX10_image_65 (by decide) (by omega) (by omega) (fun c65 => ?_) (fun c65 => ?_)
      · skip
        refine r_iconst dX10_image_91 ?_
        exact s_iret hML62 rfl dX10_image_92 (by unfold yImage; (repeat' split) <;> first | rfl | omega | (exfalso; omega)) (by first | (unfold yImage; rw [if_neg (by omega), if_neg (by omega), hMc, show j = 21 by omega]; done) | (unfold yImage; (repeat' split) <;> first | rfl | omega | (exfalso; omega)))
      refine r_ald0 dX10_image_68 ?_
      refine s_getR fi_X10_59 (sh_201) rfl dX10_image_69 ?_
      refine r_bipush dX10_image_72 (by decide +kernel) ?_
      refine r_ild1 dX10_image_74 ?_
      refine r_imul dX10_image_75 ?_
      refine r_ild2 dX10_image_76 ?_
      refine r_iadd dX10_image_77 ?_
      refine r_ald0 dX10_image_78 ?_
      refine s_getR fi_X10_34 (sh_201) rfl dX10_image_79 ?_
      refine r_ild2 dX10_image_82 ?_
      refine s_iald hML62 (sh_210) (by omega) (by decide) dX10_image_83 (fun g83 => ?_)
      try simp (disch := omega) only [Int.reduceToNat]
      try simp only [w10]
      have hr84 := hM 210 j.toNat
      refine s_iast hML62 (sh_218) (by omega) (by decide) (by omega) dX10_image_84 (fun hM84 => ?_)
      refine r_iinc2 dX10_image_85 rfl ?_
      refine r_goto 62 dX10_image_88 (by decide) ?_
      exact ih (j + 1) _  hM84 (by omega) (by assumption) (by rw [hMc]; exact rng_s (by omega) rfl) (by omega)
  have L31 : ∀ (fu : Nat) (j : Int) (Mc : xMem), InR Mc → (0 ≤ j ∧ j ≤ 32) → ((0 ≤ k ∧ k ≤ 1) ∧ ¬ M 201 16 = 0) → (Mc = rngM (mS M 216 k.toNat 1) 217 (32 * k) (M 209) j) → (32 - j).toNat < fu → VS E mX10_image 1 (some (xi ((yImage M k).1))) ((yImage M k).2) 31 [some (xr E 201), some (xi k), some (xi j)] [] Mc := by
    intro fu
    induction fu with
    | zero => intro j Mc hML31 hb hg hMc hme; exact absurd hme (Nat.not_lt_zero _)
    | succ fu ih =>
      intro j Mc hML31 hb hg hMc hme
      have w9 : ∀ i, Mc 209 i = M 209 i := fun i => by rw [hMc, rng_ne (by decide), mS_ne (Or.inl (by decide))]
      refine r_ild2 dX10_image_31 ?_
      refine r_bipush dX10_image_32 (by decide +kernel) ?_
      refine r_icmp_ge 60 dX10_image_34 (by decide) (by omega) (by omega) (fun c34 => ?_) (fun c34 => ?_)
      · skip
        refine r_iconst dX10_image_60 ?_
        refine r_ist2 dX10_image_61 rfl ?_
        exact L62 22 0 _  hML31 (by omega) (by assumption) (by rw [hMc, show j = 32 by omega]; exact rng_0 _ _ _ _) (by omega)
      refine r_ald0 dX10_image_37 ?_
      refine s_getR fi_X10_56 (sh_201) rfl dX10_image_38 ?_
      refine r_bipush dX10_image_41 (by decide +kernel) ?_
      refine r_ild1 dX10_image_43 ?_
      refine r_imul dX10_image_44 ?_
      refine r_ild2 dX10_image_45 ?_
      refine r_iadd dX10_image_46 ?_
      refine r_ald0 dX10_image_47 ?_
      refine s_getR fi_X10_31 (sh_201) rfl dX10_image_48 ?_
      refine r_ild2 dX10_image_51 ?_
      refine s_iald hML31 (sh_209) (by omega) (by decide) dX10_image_52 (fun g52 => ?_)
      try simp (disch := omega) only [Int.reduceToNat]
      try simp only [w9]
      have hr53 := hM 209 j.toNat
      refine s_iast hML31 (sh_217) (by omega) (by decide) (by omega) dX10_image_53 (fun hM53 => ?_)
      refine r_iinc2 dX10_image_54 rfl ?_
      refine r_goto 31 dX10_image_57 (by decide) ?_
      exact ih (j + 1) _  hM53 (by omega) (by assumption) (by rw [hMc]; exact rng_s (by omega) rfl) (by omega)
  refine r_ild1 dX10_image_0 ?_
  refine r_iconst dX10_image_1 ?_
  refine r_iconst dX10_image_2 ?_
  refine s_callS3r hM (c_X10_in E (by first | with_reducible assumption | with_reducible exact xSt_9 | with_reducible exact xSt_13 | omega) (by first | with_reducible assumption | with_reducible exact xSt_9 | with_reducible exact xSt_13 | omega) (by first | with_reducible assumption | with_reducible exact xSt_9 | with_reducible exact xSt_13 | omega)) cs_X10_in wM_X10_70 (Nat.le_of_ble_eq_true rfl) (by decide) dX10_image_3 (fun _ => ?_)
  refine r_ifb_ne 12 dX10_image_6 (by decide) (fun c6 => ?_) (fun c6 => ?_)
  · skip
    refine r_ald0 dX10_image_12 ?_
    refine s_getI hM fi_X10_151 (sh_201) rfl dX10_image_13 (fun g13 => ?_)
    try simp (disch := omega) only [Int.reduceToNat]
    refine r_if_ne 22 dX10_image_16 (by decide) (by omega) (fun c16 => ?_) (fun c16 => ?_)
    · skip
      refine r_ald0 dX10_image_22 ?_
      refine s_getR fi_X10_52 (sh_201) rfl dX10_image_23 ?_
      refine r_ild1 dX10_image_26 ?_
      refine r_iconst dX10_image_27 ?_
      refine s_zast hM (sh_216) (by omega) (by decide) (by omega) dX10_image_28 (fun hM28 => ?_)
      refine r_iconst dX10_image_29 ?_
      refine r_ist2 dX10_image_30 rfl ?_
      exact L31 33 0 _  hM28 (by omega) (by omega) (by exact rng_0 _ _ _ _) (by omega)
    refine r_ldc (-1000002) dX10_image_19 wC_X10_193 ?_
    exact s_iret hM rfl dX10_image_21 (by unfold yImage; (repeat' split) <;> first | rfl | omega | (exfalso; omega)) (by first | (unfold yImage; rw [if_neg (by omega), if_neg (by omega), hMc, show j = 21 by omega]; done) | (unfold yImage; (repeat' split) <;> first | rfl | omega | (exfalso; omega)))
  refine r_ldc (-1000001) dX10_image_9 wC_X10_78 ?_
  exact s_iret hM rfl dX10_image_11 (by unfold yImage; (repeat' split) <;> first | rfl | omega | (exfalso; omega)) (by first | (unfold yImage; rw [if_neg (by omega), if_neg (by omega), hMc, show j = 21 by omega]; done) | (unfold yImage; (repeat' split) <;> first | rfl | omega | (exfalso; omega)))
set_option maxHeartbeats 4000000 in
theorem c_X10_restore (E : xE) {M : xMem} {k : Int} (hk : -2147483648 ≤ k ∧ k < 2147483648) (hki : ∀ i : Nat, i < 2 → M 216 i = 0 ∨ M 216 i = 1) : Ct E mX10_restore 3 1 [xr E 201, xi k] M (some (xi ((yRestore M k).1))) ((yRestore M k).2) := by
  refine Ct.of 1 3 (by rfl) (by decide +kernel) (fun hM => ?_)
  show VS E mX10_restore 1 _ _ 0 [some (xr E 201), some (xi k), none] [] M
  have L62 : ∀ (fu : Nat) (j : Int) (Mc : xMem), InR Mc → (0 ≤ j ∧ j ≤ 21) → ((0 ≤ k ∧ k ≤ 1) ∧ ¬ M 216 k.toNat = 0) → (Mc = rngM (rngM (mS M 201 20 0) 209 0 (fun i => M 217 (32 * k + i).toNat) 32) 210 0 (fun i => M 218 (21 * k + i).toNat) j) → (21 - j).toNat < fu → VS E mX10_restore 1 (some (xi ((yRestore M k).1))) ((yRestore M k).2) 62 [some (xr E 201), some (xi k), some (xi j)] [] Mc := by
    intro fu
    induction fu with
    | zero => intro j Mc hML62 hb hg hMc hme; exact absurd hme (Nat.not_lt_zero _)
    | succ fu ih =>
      intro j Mc hML62 hb hg hMc hme
      have w18 : ∀ i, Mc 218 i = M 218 i := fun i => by rw [hMc, rng_ne (by decide), rng_ne (by decide), mS_ne (Or.inl (by decide))]
      refine r_ild2 dX10_restore_62 ?_
      refine r_bipush dX10_restore_63 (by decide +kernel) ?_
      refine r_icmp_ge 91 dX10_restore_65 (by decide) (by omega) (by omega) (fun c65 => ?_) (fun c65 => ?_)
      · skip
        refine r_iconst dX10_restore_91 ?_
        exact s_iret hML62 rfl dX10_restore_92 (by unfold yRestore; (repeat' split) <;> first | rfl | omega | (exfalso; omega)) (by first | (unfold yRestore; rw [if_neg (by omega), if_neg (by omega), hMc, show j = 21 by omega]; done) | (unfold yRestore; (repeat' split) <;> first | rfl | omega | (exfalso; omega)))
      refine r_ald0 dX10_restore_68 ?_
      refine s_getR fi_X10_34 (sh_201) rfl dX10_restore_69 ?_
      refine r_ild2 dX10_restore_72 ?_
      refine r_ald0 dX10_restore_73 ?_
      refine s_getR fi_X10_59 (sh_201) rfl dX10_restore_74 ?_
      refine r_bipush dX10_restore_77 (by decide +kernel) ?_
      refine r_ild1 dX10_restore_79 ?_
      refine r_imul dX10_restore_80 ?_
      refine r_ild2 dX10_restore_81 ?_
      refine r_iadd dX10_restore_82 ?_
      refine s_iald hML62 (sh_218) (by omega) (by decide) dX10_restore_83 (fun g83 => ?_)
      try simp (disch := omega) only [Int.reduceToNat]
      try simp only [w18]
      have hr84 := hM 218 (21 * k + j).toNat
      refine s_iast hML62 (sh_210) (by omega) (by decide) (by omega) dX10_restore_84 (fun hM84 => ?_)
      refine r_iinc2 dX10_restore_85 rfl ?_
      refine r_goto 62 dX10_restore_88 (by decide) ?_
      exact ih (j + 1) _  hM84 (by omega) (by assumption) (by rw [hMc]; exact rng_0s (by omega) (by rw [show ((j.toNat : Nat) : Int) = j by omega])) (by omega)
  have L31 : ∀ (fu : Nat) (j : Int) (Mc : xMem), InR Mc → (0 ≤ j ∧ j ≤ 32) → ((0 ≤ k ∧ k ≤ 1) ∧ ¬ M 216 k.toNat = 0) → (Mc = rngM (mS M 201 20 0) 209 0 (fun i => M 217 (32 * k + i).toNat) j) → (32 - j).toNat < fu → VS E mX10_restore 1 (some (xi ((yRestore M k).1))) ((yRestore M k).2) 31 [some (xr E 201), some (xi k), some (xi j)] [] Mc := by
    intro fu
    induction fu with
    | zero => intro j Mc hML31 hb hg hMc hme; exact absurd hme (Nat.not_lt_zero _)
    | succ fu ih =>
      intro j Mc hML31 hb hg hMc hme
      have w17 : ∀ i, Mc 217 i = M 217 i := fun i => by rw [hMc, rng_ne (by decide), mS_ne (Or.inl (by decide))]
      refine r_ild2 dX10_restore_31 ?_
      refine r_bipush dX10_restore_32 (by decide +kernel) ?_
      refine r_icmp_ge 60 dX10_restore_34 (by decide) (by omega) (by omega) (fun c34 => ?_) (fun c34 => ?_)
      · skip
        refine r_iconst dX10_restore_60 ?_
        refine r_ist2 dX10_restore_61 rfl ?_
        exact L62 22 0 _  hML31 (by omega) (by assumption) (by rw [hMc, show j = 32 by omega]; exact rng_0 _ _ _ _) (by omega)
      refine r_ald0 dX10_restore_37 ?_
      refine s_getR fi_X10_31 (sh_201) rfl dX10_restore_38 ?_
      refine r_ild2 dX10_restore_41 ?_
      refine r_ald0 dX10_restore_42 ?_
      refine s_getR fi_X10_56 (sh_201) rfl dX10_restore_43 ?_
      refine r_bipush dX10_restore_46 (by decide +kernel) ?_
      refine r_ild1 dX10_restore_48 ?_
      refine r_imul dX10_restore_49 ?_
      refine r_ild2 dX10_restore_50 ?_
      refine r_iadd dX10_restore_51 ?_
      refine s_iald hML31 (sh_217) (by omega) (by decide) dX10_restore_52 (fun g52 => ?_)
      try simp (disch := omega) only [Int.reduceToNat]
      try simp only [w17]
      have hr53 := hM 217 (32 * k + j).toNat
      refine s_iast hML31 (sh_209) (by omega) (by decide) (by omega) dX10_restore_53 (fun hM53 => ?_)
      refine r_iinc2 dX10_restore_54 rfl ?_
      refine r_goto 31 dX10_restore_57 (by decide) ?_
      exact ih (j + 1) _  hM53 (by omega) (by assumption) (by rw [hMc]; exact rng_0s (by omega) (by rw [show ((j.toNat : Nat) : Int) = j by omega])) (by omega)
  refine r_ild1 dX10_restore_0 ?_
  refine r_iconst dX10_restore_1 ?_
  refine r_iconst dX10_restore_2 ?_
  refine s_callS3r hM (c_X10_in E (by first | with_reducible assumption | with_reducible exact xSt_9 | with_reducible exact xSt_13 | omega) (by first | with_reducible assumption | with_reducible exact xSt_9 | with_reducible exact xSt_13 | omega) (by first | with_reducible assumption | with_reducible exact xSt_9 | with_reducible exact xSt_13 | omega)) cs_X10_in wM_X10_70 (Nat.le_of_ble_eq_true rfl) (by decide) dX10_restore_3 (fun _ => ?_)
  refine r_ifb_ne 12 dX10_restore_6 (by decide) (fun c6 => ?_) (fun c6 => ?_)
  · skip
    have hki1 := hki k.toNat (by omega)
    refine r_ald0 dX10_restore_12 ?_
    refine s_getR fi_X10_52 (sh_201) rfl dX10_restore_13 ?_
    refine r_ild1 dX10_restore_16 ?_
    refine s_zald hM (sh_216) (by omega) (by decide) dX10_restore_17 (fun g17 => ?_)
    try simp (disch := omega) only [Int.reduceToNat]
    refine r_if_ne 24 dX10_restore_18 (by decide) (by omega) (fun c18 => ?_) (fun c18 => ?_)
    · skip
      refine r_ald0 dX10_restore_24 ?_
      refine r_iconst dX10_restore_25 ?_
      refine s_putI hM fp_X10_155 (sh_201) rfl (by omega) dX10_restore_26 (fun hM26 => ?_)
      refine r_iconst dX10_restore_29 ?_
      refine r_ist2 dX10_restore_30 rfl ?_
      exact L31 33 0 _  hM26 (by omega) (by omega) (by exact rng_0 _ _ _ _) (by omega)
    refine r_ldc (-1000002) dX10_restore_21 wC_X10_193 ?_
    exact s_iret hM rfl dX10_restore_23 (by unfold yRestore; (repeat' split) <;> first | rfl | omega | (exfalso; omega)) (by first | (unfold yRestore; rw [if_neg (by omega), if_neg (by omega), hMc, show j = 21 by omega]; done) | (unfold yRestore; (repeat' split) <;> first | rfl | omega | (exfalso; omega)))
  refine r_ldc (-1000001) dX10_restore_9 wC_X10_78 ?_
  exact s_iret hM rfl dX10_restore_11 (by unfold yRestore; (repeat' split) <;> first | rfl | omega | (exfalso; omega)) (by first | (unfold yRestore; rw [if_neg (by omega), if_neg (by omega), hMc, show j = 21 by omega]; done) | (unfold yRestore; (repeat' split) <;> first | rfl | omega | (exfalso; omega)))
