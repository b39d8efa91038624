set_option maxHeartbeats 4000000 in
theorem c_X9_undo (E : xE) {M : xMem}  (hnx : 0 ≤ M 17 1 ∧ M 17 1 < 24) (hkp : 0 ≤ M 17 2 ∧ M 17 2 ≤ 24) : Ct E mX9_undo 1 3 [xr E 0] M (some (xi ((xUndo M).1))) ((xUndo M).2) := by
  refine Ct.of 0 1 (by rfl) (by decide +kernel) (fun hM => ?_)
  show VS E mX9_undo 3 _ _ 0 [some (xr E 0)] [] M
  refine r_ald0 dX9_undo_0 ?_
  refine s_getR fi_X9_43 (sh_0) rfl dX9_undo_1 ?_
  refine r_ald0 dX9_undo_4 ?_
  refine s_getR fi_X9_33 (sh_0) rfl dX9_undo_5 ?_
  refine s_callV1r hM (c_X3_giveBack E (by first | with_reducible assumption | with_reducible exact xSt_9 | with_reducible exact xSt_13 | omega) (by first | with_reducible assumption | with_reducible exact xSt_9 | with_reducible exact xSt_13 | omega)) cv_X3_giveBack wM_X9_164 (sh_17) rfl rfl (Nat.le_of_ble_eq_true rfl) (by decide) dX9_undo_8 (fun hM8 => ?_)
  refine r_ifb_eq 24 dX9_undo_11 (by decide) (fun c11 => ?_) (fun c11 => ?_)
  · skip
    have hz : M 17 2 = 0 := Decidable.byContradiction (fun q => by contradiction)
    have eg : gbM M = M := by unfold gbM; rw [if_pos hz]
    rw [eg] at hM8 ⊢
    refine r_ldc (-1000002) dX9_undo_24 wC_X9_171 ?_
    exact s_iret hM8 rfl dX9_undo_26 (by unfold xUndo; (repeat' split) <;> first | rfl | exact ek | (exfalso; omega)) (by unfold xUndo ; (repeat' split) <;> first | rfl | omega | (exfalso; omega))
  have hz : ¬ M 17 2 = 0 := by assumption
  have ek : gbM M 17 2 = M 17 2 - 1 := by unfold gbM; rw [if_neg hz, stCp_ne (by omega), mS_eq]
  refine r_ald0 dX9_undo_14 ?_
  refine s_getR fi_X9_43 (sh_0) rfl dX9_undo_15 ?_
  refine s_getI hM8 fi_X9_168 (sh_17) rfl dX9_undo_18 (fun g18 => ?_)
  refine r_goto 26 dX9_undo_21 (by decide) ?_
  exact s_iret hM8 rfl dX9_undo_26 (by unfold xUndo; (repeat' split) <;> first | rfl | exact ek | (exfalso; omega)) (by unfold xUndo ; (repeat' split) <;> first | rfl | omega | (exfalso; omega))
set_option maxHeartbeats 4000000 in
theorem c_X9_say (E : xE) {M : xMem} {s : Int} (hs : -2147483648 ≤ s ∧ s < 2147483648) (hD : (M 3 6 = 0 ∧ M 3 7 = 0) ∨ (TI (tw M) ∧ SI (tw M) (sv M 9))) (hnx : 0 ≤ M 17 1 ∧ M 17 1 < 24) (hkp : 0 ≤ M 17 2 ∧ M 17 2 ≤ 24) : Ct E mX9_say 2 4 [xr E 0, xi s] M (some (xi ((xSay M s).1))) ((xSay M s).2) := by
  refine Ct.of 0 2 (by rfl) (by decide +kernel) (fun hM => ?_)
  show VS E mX9_say 4 _ _ 0 [some (xr E 0), some (xi s)] [] M
  refine r_ald0 dX9_say_0 ?_
  refine s_getR fi_X9_24 (sh_0) rfl dX9_say_1 ?_
  refine r_ild1 dX9_say_4 ?_
  refine s_callV1r hM (c_X8_hasSpeech E (by first | with_reducible assumption | with_reducible exact xSt_9 | with_reducible exact xSt_13 | omega)) cv_X8_hasSpeech wM_X9_188 (sh_3) rfl rfl (Nat.le_of_ble_eq_true rfl) (by decide) dX9_say_5 (fun _ => ?_)
  refine r_ifb_ne 14 dX9_say_8 (by decide) (fun c8 => ?_) (fun c8 => ?_)
  · skip
    obtain ⟨hT, hS⟩ := hD.resolve_left (by omega)
    have hn : 1 ≤ M 3 6 ∧ M 3 6 ≤ 5 := hT.1
    have hN : 1 ≤ M 3 7 ∧ M 3 7 ≤ 6 := hT.2.1
    have hr : 1 ≤ M 3 5 ∧ M 3 5 ≤ 60 := hT.2.2.1
    have hl : 0 ≤ M 9 5 ∧ M 9 5 ≤ 99 := hS.2.1
    have hh : 0 ≤ M 9 6 ∧ M 9 6 ≤ 999 := hS.2.2.1
    have hpr : 1 ≤ M 9 7 ∧ M 9 7 ≤ 9 := hS.2.2.2.1
    have hsd : 0 ≤ M 9 8 ∧ M 9 8 ≤ 63 := hS.2.2.2.2.1
    have hwk : 0 ≤ M 9 4 ∧ M 9 4 ≤ 100000 := hS.1
    refine r_ald0 dX9_say_14 ?_
    refine s_getR fi_X9_33 (sh_0) rfl dX9_say_15 ?_
    refine r_ild1 dX9_say_18 ?_
    refine s_callV1r hM (c_X6_canSay E (by first | with_reducible assumption | with_reducible exact xSt_9 | with_reducible exact xSt_13 | omega) (by first | with_reducible assumption | with_reducible exact xSt_9 | with_reducible exact xSt_13 | omega) (by first | with_reducible assumption | with_reducible exact xSt_9 | with_reducible exact xSt_13 | omega) (by first | with_reducible assumption | with_reducible exact xSt_9 | with_reducible exact xSt_13 | omega)) cv_X6_canSay wM_X9_191 (sh_9) rfl rfl (Nat.le_of_ble_eq_true rfl) (by decide) dX9_say_19 (fun _ => ?_)
    refine r_ifb_ne 28 dX9_say_22 (by decide) (fun c22 => ?_) (fun c22 => ?_)
    · skip
      refine r_ald0 dX9_say_28 ?_
      refine s_getR fi_X9_43 (sh_0) rfl dX9_say_29 ?_
      refine r_ald0 dX9_say_32 ?_
      refine s_getR fi_X9_33 (sh_0) rfl dX9_say_33 ?_
      refine s_callV1v hM (c_X3_keep E (by first | with_reducible assumption | with_reducible exact xSt_9 | with_reducible exact xSt_13 | omega) (by first | with_reducible assumption | with_reducible exact xSt_9 | with_reducible exact xSt_13 | omega)) cv_X3_keep wM_X9_178 (sh_17) rfl rfl (Nat.le_of_ble_eq_true rfl) (by decide) dX9_say_36 (fun hM36 => ?_)
      have hkb := kp_b hnx hkp
      have e9 : ∀ j, kpM M 9 j = M 9 j := fun j => kp_lo (by omega)
      refine r_ald0 dX9_say_39 ?_
      refine s_getR fi_X9_33 (sh_0) rfl dX9_say_40 ?_
      refine r_ild1 dX9_say_43 ?_
      refine s_callV1r hM36 (c_X6_speak E (by exact xSt_9) (by rw [tw_kp]; exact hT) (by rw [tw_kp, sv_kp]; exact hS) (by rw [kp_lo (by omega)]; omega)) cv_X6_speak wM_X9_194 (sh_9) rfl rfl (Nat.le_of_ble_eq_true rfl) (by decide) dX9_say_44 (fun hM44 => ?_)
      rw [tw_kp, sv_kp]
      exact s_iret hM44 rfl dX9_say_47 (by unfold xSay; (repeat' split) <;> first | rfl | omega | (exfalso; omega) | contradiction) (by unfold xSay; (repeat' split) <;> first | rfl | omega | (exfalso; omega) | contradiction)
    refine r_ldc (-1000002) dX9_say_25 wC_X9_171 ?_
    exact s_iret hM rfl dX9_say_27 (by unfold xSay; (repeat' split) <;> first | rfl | omega | (exfalso; omega) | contradiction) (by unfold xSay; (repeat' split) <;> first | rfl | omega | (exfalso; omega) | contradiction)
  refine r_ldc (-1000001) dX9_say_11 wC_X9_87 ?_
  exact s_iret hM rfl dX9_say_13 (by unfold xSay; (repeat' split) <;> first | rfl | omega | (exfalso; omega) | contradiction) (by unfold xSay; (repeat' split) <;> first | rfl | omega | (exfalso; omega) | contradiction)
set_option maxHeartbeats 4000000 in
theorem c_X9_buy (E : xE) {M : xMem} {p n : Int} (hp : -2147483648 ≤ p ∧ p < 2147483648) (hn : -2147483648 ≤ n ∧ n < 2147483648) (hD : (M 3 6 = 0 ∧ M 3 7 = 0) ∨ (TI (tw M) ∧ SI (tw M) (sv M 9))) (hnx : 0 ≤ M 17 1 ∧ M 17 1 < 24) (hkp : 0 ≤ M 17 2 ∧ M 17 2 ≤ 24) : Ct E mX9_buy 3 3 [xr E 0, xi p, xi n] M (some (xi ((xBuy M p n).1))) ((xBuy M p n).2) := by
  refine Ct.of 0 3 (by rfl) (by decide +kernel) (fun hM => ?_)
  show VS E mX9_buy 3 _ _ 0 [some (xr E 0), some (xi p), some (xi n)] [] M
  refine r_ald0 dX9_buy_0 ?_
  refine s_getR fi_X9_24 (sh_0) rfl dX9_buy_1 ?_
  refine r_ild1 dX9_buy_4 ?_
  refine s_callV1r hM (c_X8_hasPerson E (by first | with_reducible assumption | with_reducible exact xSt_9 | with_reducible exact xSt_13 | omega)) cv_X8_hasPerson wM_X9_197 (sh_3) rfl rfl (Nat.le_of_ble_eq_true rfl) (by decide) dX9_buy_5 (fun _ => ?_)
  refine r_ifb_eq 21 dX9_buy_8 (by decide) (fun c8 => ?_) (fun c8 => ?_)
  · skip
    refine r_ldc (-1000001) dX9_buy_21 wC_X9_87 ?_
    exact s_iret hM rfl dX9_buy_23 (by unfold xBuy ; (repeat' split) <;> first | rfl | omega | (exfalso; omega)) (by unfold xBuy ; (repeat' split) <;> first | rfl | omega | (exfalso; omega))
  refine r_ild2 dX9_buy_11 ?_
  refine r_iconst dX9_buy_12 ?_
  refine r_bipush dX9_buy_13 (by decide +kernel) ?_
  refine s_callS3r hM (c_X9_within E (by first | with_reducible assumption | with_reducible exact xSt_9 | with_reducible exact xSt_13 | omega) (by first | with_reducible assumption | with_reducible exact xSt_9 | with_reducible exact xSt_13 | omega) (by first | with_reducible assumption | with_reducible exact xSt_9 | with_reducible exact xSt_13 | omega)) cs_X9_within wM_X9_83 (Nat.le_of_ble_eq_true rfl) (by decide) dX9_buy_15 (fun _ => ?_)
  refine r_ifb_ne 24 dX9_buy_18 (by decide) (fun c18 => ?_) (fun c18 => ?_)
  · skip
    obtain ⟨hT, hS⟩ := hD.resolve_left (by omega)
    have hn : 1 ≤ M 3 6 ∧ M 3 6 ≤ 5 := hT.1
    have hN : 1 ≤ M 3 7 ∧ M 3 7 ≤ 6 := hT.2.1
    have hr : 1 ≤ M 3 5 ∧ M 3 5 ≤ 60 := hT.2.2.1
    have hl : 0 ≤ M 9 5 ∧ M 9 5 ≤ 99 := hS.2.1
    have hh : 0 ≤ M 9 6 ∧ M 9 6 ≤ 999 := hS.2.2.1
    have hpr : 1 ≤ M 9 7 ∧ M 9 7 ≤ 9 := hS.2.2.2.1
    have hsd : 0 ≤ M 9 8 ∧ M 9 8 ≤ 63 := hS.2.2.2.2.1
    have hwk : 0 ≤ M 9 4 ∧ M 9 4 ≤ 100000 := hS.1
    refine r_ald0 dX9_buy_24 ?_
    refine s_getR fi_X9_33 (sh_0) rfl dX9_buy_25 ?_
    refine r_ild1 dX9_buy_28 ?_
    refine r_ild2 dX9_buy_29 ?_
    refine s_callV2r hM (c_X6_canBank E (by exact xSt_9) (by first | with_reducible assumption | with_reducible exact xSt_9 | with_reducible exact xSt_13 | omega) (by first | with_reducible assumption | with_reducible exact xSt_9 | with_reducible exact xSt_13 | omega) (by first | with_reducible assumption | with_reducible exact xSt_9 | with_reducible exact xSt_13 | omega) (by first | with_reducible assumption | with_reducible exact xSt_9 | with_reducible exact xSt_13 | omega)) cv_X6_canBank wM_X9_200 (sh_9) rfl rfl (Nat.le_of_ble_eq_true rfl) (by decide) dX9_buy_30 (fun _ => ?_)
    refine r_ifb_ne 39 dX9_buy_33 (by decide) (fun c33 => ?_) (fun c33 => ?_)
    · skip
      refine r_ald0 dX9_buy_39 ?_
      refine s_getR fi_X9_43 (sh_0) rfl dX9_buy_40 ?_
      refine r_ald0 dX9_buy_43 ?_
      refine s_getR fi_X9_33 (sh_0) rfl dX9_buy_44 ?_
      refine s_callV1v hM (c_X3_keep E (by first | with_reducible assumption | with_reducible exact xSt_9 | with_reducible exact xSt_13 | omega) (by first | with_reducible assumption | with_reducible exact xSt_9 | with_reducible exact xSt_13 | omega)) cv_X3_keep wM_X9_178 (sh_17) rfl rfl (Nat.le_of_ble_eq_true rfl) (by decide) dX9_buy_47 (fun hM47 => ?_)
      have hkb := kp_b hnx hkp
      have e9 : ∀ j, kpM M 9 j = M 9 j := fun j => kp_lo (by omega)
      have e11 : ∀ j, kpM M 11 j = M 11 j := fun j => kp_lo (by omega)
      refine r_ald0 dX9_buy_50 ?_
      refine s_getR fi_X9_33 (sh_0) rfl dX9_buy_51 ?_
      refine r_ild1 dX9_buy_54 ?_
      refine r_ild2 dX9_buy_55 ?_
      refine s_callV2r hM47 (c_X6_bank E (by exact xSt_9) (by rw [tw_kp]; exact hT) (by rw [tw_kp, sv_kp]; exact hS) (by rw [kp_lo (by omega)]; omega) (by omega)) cv_X6_bank wM_X9_203 (sh_9) rfl rfl (Nat.le_of_ble_eq_true rfl) (by decide) dX9_buy_56 (fun hM56 => ?_)
      rw [show kpM M (9 + 2) p.toNat = M 11 p.toNat from kp_lo (by omega)]
      exact s_iret hM56 rfl dX9_buy_59 (by unfold xBuy ; (repeat' split) <;> first | rfl | omega | (exfalso; omega)) (by unfold xBuy ; (repeat' split) <;> first | rfl | omega | (exfalso; omega))
    refine r_ldc (-1000002) dX9_buy_36 wC_X9_171 ?_
    exact s_iret hM rfl dX9_buy_38 (by unfold xBuy ; (repeat' split) <;> first | rfl | omega | (exfalso; omega)) (by unfold xBuy ; (repeat' split) <;> first | rfl | omega | (exfalso; omega))
  refine r_ldc (-1000001) dX9_buy_21 wC_X9_87 ?_
  exact s_iret hM rfl dX9_buy_23 (by unfold xBuy ; (repeat' split) <;> first | rfl | omega | (exfalso; omega)) (by unfold xBuy ; (repeat' split) <;> first | rfl | omega | (exfalso; omega))
set_option maxHeartbeats 4000000 in
theorem c_X9_letOut (E : xE) {M : xMem} {n : Int} (hn : -2147483648 ≤ n ∧ n < 2147483648) (hD : (M 3 6 = 0 ∧ M 3 7 = 0) ∨ (TI (tw M) ∧ SI (tw M) (sv M 9))) (hnx : 0 ≤ M 17 1 ∧ M 17 1 < 24) (hkp : 0 ≤ M 17 2 ∧ M 17 2 ≤ 24) : Ct E mX9_letOut 2 3 [xr E 0, xi n] M (some (xi ((xLet M n).1))) ((xLet M n).2) := by
  refine Ct.of 0 2 (by rfl) (by decide +kernel) (fun hM => ?_)
  show VS E mX9_letOut 3 _ _ 0 [some (xr E 0), some (xi n)] [] M
  refine r_ald0 dX9_letOut_0 ?_
  refine s_callV0r hM (c_X9_noDuchy E ) cv_X9_noDuchy wM_X9_172 (sh_0) rfl rfl (Nat.le_of_ble_eq_true rfl) (by decide) dX9_letOut_1 (fun _ => ?_)
  refine r_ifb_eq 10 dX9_letOut_4 (by decide) (fun c4 => ?_) (fun c4 => ?_)
  · skip
    obtain ⟨hT, hS⟩ := hD.resolve_left (by omega)
    have hn : 1 ≤ M 3 6 ∧ M 3 6 ≤ 5 := hT.1
    have hN : 1 ≤ M 3 7 ∧ M 3 7 ≤ 6 := hT.2.1
    have hr : 1 ≤ M 3 5 ∧ M 3 5 ≤ 60 := hT.2.2.1
    have hl : 0 ≤ M 9 5 ∧ M 9 5 ≤ 99 := hS.2.1
    have hh : 0 ≤ M 9 6 ∧ M 9 6 ≤ 999 := hS.2.2.1
    have hpr : 1 ≤ M 9 7 ∧ M 9 7 ≤ 9 := hS.2.2.2.1
    have hsd : 0 ≤ M 9 8 ∧ M 9 8 ≤ 63 := hS.2.2.2.2.1
    have hwk : 0 ≤ M 9 4 ∧ M 9 4 ≤ 100000 := hS.1
    refine r_ild1 dX9_letOut_10 ?_
    refine r_iconst dX9_letOut_11 ?_
    refine r_bipush dX9_letOut_12 (by decide +kernel) ?_
    refine s_callS3r hM (c_X9_within E (by first | with_reducible assumption | with_reducible exact xSt_9 | with_reducible exact xSt_13 | omega) (by first | with_reducible assumption | with_reducible exact xSt_9 | with_reducible exact xSt_13 | omega) (by first | with_reducible assumption | with_reducible exact xSt_9 | with_reducible exact xSt_13 | omega)) cs_X9_within wM_X9_83 (Nat.le_of_ble_eq_true rfl) (by decide) dX9_letOut_14 (fun _ => ?_)
    refine r_ifb_ne 23 dX9_letOut_17 (by decide) (fun c17 => ?_) (fun c17 => ?_)
    · skip
      refine r_ild1 dX9_letOut_23 ?_
      refine r_ald0 dX9_letOut_24 ?_
      refine s_getR fi_X9_33 (sh_0) rfl dX9_letOut_25 ?_
      refine s_getI hM fi_X9_185 (sh_9) rfl dX9_letOut_28 (fun g28 => ?_)
      refine r_icmp_gt 48 dX9_letOut_31 (by decide) (by omega) (by omega) (fun c31 => ?_) (fun c31 => ?_)
      · skip
        refine r_ldc (-1000002) dX9_letOut_48 wC_X9_171 ?_
        exact s_iret hM rfl dX9_letOut_50 (by unfold xLet ; (repeat' split) <;> first | rfl | omega | (exfalso; omega)) (by unfold xLet ; (repeat' split) <;> first | rfl | omega | (exfalso; omega))
      refine r_ald0 dX9_letOut_34 ?_
      refine s_getR fi_X9_33 (sh_0) rfl dX9_letOut_35 ?_
      refine s_getI hM fi_X9_206 (sh_9) rfl dX9_letOut_38 (fun g38 => ?_)
      refine r_ild1 dX9_letOut_41 ?_
      refine r_iadd dX9_letOut_42 ?_
      refine r_bipush dX9_letOut_43 (by decide +kernel) ?_
      refine r_icmp_le 51 dX9_letOut_45 (by decide) (by omega) (by omega) (fun c45 => ?_) (fun c45 => ?_)
      · skip
        refine r_ald0 dX9_letOut_51 ?_
        refine s_getR fi_X9_43 (sh_0) rfl dX9_letOut_52 ?_
        refine r_ald0 dX9_letOut_55 ?_
        refine s_getR fi_X9_33 (sh_0) rfl dX9_letOut_56 ?_
        refine s_callV1v hM (c_X3_keep E (by first | with_reducible assumption | with_reducible exact xSt_9 | with_reducible exact xSt_13 | omega) (by first | with_reducible assumption | with_reducible exact xSt_9 | with_reducible exact xSt_13 | omega)) cv_X3_keep wM_X9_178 (sh_17) rfl rfl (Nat.le_of_ble_eq_true rfl) (by decide) dX9_letOut_59 (fun hM59 => ?_)
        refine r_ald0 dX9_letOut_62 ?_
        refine s_getR fi_X9_33 (sh_0) rfl dX9_letOut_63 ?_
        refine r_dup dX9_letOut_66 rfl ?_
        refine s_getI hM59 fi_X9_185 (sh_9) rfl dX9_letOut_67 (fun g67 => ?_)
        try simp (disch := omega) only [mS_ne, mS_eq, kp_lo]
        refine r_ild1 dX9_letOut_70 ?_
        refine r_isub dX9_letOut_71 ?_
        refine s_putI hM59 fp_X9_185 (sh_9) rfl (by omega) dX9_letOut_72 (fun hM72 => ?_)
        refine r_ald0 dX9_letOut_75 ?_
        refine s_getR fi_X9_33 (sh_0) rfl dX9_letOut_76 ?_
        refine r_dup dX9_letOut_79 rfl ?_
        refine s_getI hM72 fi_X9_206 (sh_9) rfl dX9_letOut_80 (fun g80 => ?_)
        try simp (disch := omega) only [mS_ne, mS_eq, kp_lo]
        refine r_ild1 dX9_letOut_83 ?_
        refine r_iadd dX9_letOut_84 ?_
        refine s_putI hM72 fp_X9_206 (sh_9) rfl (by omega) dX9_letOut_85 (fun hM85 => ?_)
        refine r_ald0 dX9_letOut_88 ?_
        refine s_getR fi_X9_33 (sh_0) rfl dX9_letOut_89 ?_
        refine s_getI hM85 fi_X9_206 (sh_9) rfl dX9_letOut_92 (fun g92 => ?_)
        try simp (disch := omega) only [mS_ne, mS_eq, kp_lo]
        exact s_iret hM85 rfl dX9_letOut_95 (by unfold xLet ; (repeat' split) <;> first | rfl | omega | (exfalso; omega)) (by unfold xLet ; (repeat' split) <;> first | rfl | omega | (exfalso; omega))
      refine r_ldc (-1000002) dX9_letOut_48 wC_X9_171 ?_
      exact s_iret hM rfl dX9_letOut_50 (by unfold xLet ; (repeat' split) <;> first | rfl | omega | (exfalso; omega)) (by unfold xLet ; (repeat' split) <;> first | rfl | omega | (exfalso; omega))
    refine r_ldc (-1000001) dX9_letOut_20 wC_X9_87 ?_
    exact s_iret hM rfl dX9_letOut_22 (by unfold xLet ; (repeat' split) <;> first | rfl | omega | (exfalso; omega)) (by unfold xLet ; (repeat' split) <;> first | rfl | omega | (exfalso; omega))
  refine r_ldc (-1000002) dX9_letOut_7 wC_X9_171 ?_
  exact s_iret hM rfl dX9_letOut_9 (by unfold xLet ; (repeat' split) <;> first | rfl | omega | (exfalso; omega)) (by unfold xLet ; (repeat' split) <;> first | rfl | omega | (exfalso; omega))
set_option maxHeartbeats 4000000 in
theorem c_X9_price (E : xE) {M : xMem} {v : Int} (hv : -2147483648 ≤ v ∧ v < 2147483648) (hD : (M 3 6 = 0 ∧ M 3 7 = 0) ∨ (TI (tw M) ∧ SI (tw M) (sv M 9))) (hnx : 0 ≤ M 17 1 ∧ M 17 1 < 24) (hkp : 0 ≤ M 17 2 ∧ M 17 2 ≤ 24) : Ct E mX9_price 3 3 [xr E 0, xi v] M (some (xi ((xPrice M v).1))) ((xPrice M v).2) := by
  refine Ct.of 1 3 (by rfl) (by decide +kernel) (fun hM => ?_)
  show VS E mX9_price 3 _ _ 0 [some (xr E 0), some (xi v), none] [] M
  refine r_ald0 dX9_price_0 ?_
  refine s_callV0r hM (c_X9_noDuchy E ) cv_X9_noDuchy wM_X9_172 (sh_0) rfl rfl (Nat.le_of_ble_eq_true rfl) (by decide) dX9_price_1 (fun _ => ?_)
  refine r_ifb_eq 10 dX9_price_4 (by decide) (fun c4 => ?_) (fun c4 => ?_)
  · skip
    obtain ⟨hT, hS⟩ := hD.resolve_left (by omega)
    have hn : 1 ≤ M 3 6 ∧ M 3 6 ≤ 5 := hT.1
    have hN : 1 ≤ M 3 7 ∧ M 3 7 ≤ 6 := hT.2.1
    have hr : 1 ≤ M 3 5 ∧ M 3 5 ≤ 60 := hT.2.2.1
    have hl : 0 ≤ M 9 5 ∧ M 9 5 ≤ 99 := hS.2.1
    have hh : 0 ≤ M 9 6 ∧ M 9 6 ≤ 999 := hS.2.2.1
    have hpr : 1 ≤ M 9 7 ∧ M 9 7 ≤ 9 := hS.2.2.2.1
    have hsd : 0 ≤ M 9 8 ∧ M 9 8 ≤ 63 := hS.2.2.2.2.1
    have hwk : 0 ≤ M 9 4 ∧ M 9 4 ≤ 100000 := hS.1
    refine r_ild1 dX9_price_10 ?_
    refine r_iconst dX9_price_11 ?_
    refine r_bipush dX9_price_12 (by decide +kernel) ?_
    refine s_callS3r hM (c_X9_within E (by first | with_reducible assumption | with_reducible exact xSt_9 | with_reducible exact xSt_13 | omega) (by first | with_reducible assumption | with_reducible exact xSt_9 | with_reducible exact xSt_13 | omega) (by first | with_reducible assumption | with_reducible exact xSt_9 | with_reducible exact xSt_13 | omega)) cs_X9_within wM_X9_83 (Nat.le_of_ble_eq_true rfl) (by decide) dX9_price_14 (fun _ => ?_)
    refine r_ifb_ne 23 dX9_price_17 (by decide) (fun c17 => ?_) (fun c17 => ?_)
    · skip
      refine r_ald0 dX9_price_23 ?_
      refine s_getR fi_X9_43 (sh_0) rfl dX9_price_24 ?_
      refine r_ald0 dX9_price_27 ?_
      refine s_getR fi_X9_33 (sh_0) rfl dX9_price_28 ?_
      refine s_callV1v hM (c_X3_keep E (by first | with_reducible assumption | with_reducible exact xSt_9 | with_reducible exact xSt_13 | omega) (by first | with_reducible assumption | with_reducible exact xSt_9 | with_reducible exact xSt_13 | omega)) cv_X3_keep wM_X9_178 (sh_17) rfl rfl (Nat.le_of_ble_eq_true rfl) (by decide) dX9_price_31 (fun hM31 => ?_)
      refine r_ald0 dX9_price_34 ?_
      refine s_getR fi_X9_33 (sh_0) rfl dX9_price_35 ?_
      refine s_getI hM31 fi_X9_209 (sh_9) rfl dX9_price_38 (fun g38 => ?_)
      try simp (disch := omega) only [mS_ne, mS_eq, kp_lo]
      refine r_ist2 dX9_price_41 rfl ?_
      refine r_ald0 dX9_price_42 ?_
      refine s_getR fi_X9_33 (sh_0) rfl dX9_price_43 ?_
      refine r_ild1 dX9_price_46 ?_
      refine s_putI hM31 fp_X9_209 (sh_9) rfl (by omega) dX9_price_47 (fun hM47 => ?_)
      refine r_ild2 dX9_price_50 ?_
      exact s_iret hM47 rfl dX9_price_51 (by unfold xPrice ; (repeat' split) <;> first | rfl | omega | (exfalso; omega)) (by unfold xPrice ; (repeat' split) <;> first | rfl | omega | (exfalso; omega))
    refine r_ldc (-1000001) dX9_price_20 wC_X9_87 ?_
    exact s_iret hM rfl dX9_price_22 (by unfold xPrice ; (repeat' split) <;> first | rfl | omega | (exfalso; omega)) (by unfold xPrice ; (repeat' split) <;> first | rfl | omega | (exfalso; omega))
  refine r_ldc (-1000002) dX9_price_7 wC_X9_171 ?_
  exact s_iret hM rfl dX9_price_9 (by unfold xPrice ; (repeat' split) <;> first | rfl | omega | (exfalso; omega)) (by unfold xPrice ; (repeat' split) <;> first | rfl | omega | (exfalso; omega))
set_option maxHeartbeats 4000000 in
theorem c_X9_speech (E : xE) {M : xMem} {s w : Int} (hs : -2147483648 ≤ s ∧ s < 2147483648) (hw : -2147483648 ≤ w ∧ w < 2147483648) (hD : (M 3 6 = 0 ∧ M 3 7 = 0) ∨ (TI (tw M) ∧ SI (tw M) (sv M 9))) : Ct E mX9_speech 3 4 [xr E 0, xi s, xi w] M (some (xi (xSpeech M s w))) (M) := by
  refine Ct.of 0 3 (by rfl) (by decide +kernel) (fun hM => ?_)
  show VS E mX9_speech 4 _ _ 0 [some (xr E 0), some (xi s), some (xi w)] [] M
  refine r_ald0 dX9_speech_0 ?_
  refine s_getR fi_X9_24 (sh_0) rfl dX9_speech_1 ?_
  refine r_ild1 dX9_speech_4 ?_
  refine s_callV1r hM (c_X8_hasSpeech E (by first | with_reducible assumption | with_reducible exact xSt_9 | with_reducible exact xSt_13 | omega)) cv_X8_hasSpeech wM_X9_188 (sh_3) rfl rfl (Nat.le_of_ble_eq_true rfl) (by decide) dX9_speech_5 (fun _ => ?_)
  refine r_ifb_ne 14 dX9_speech_8 (by decide) (fun c8 => ?_) (fun c8 => ?_)
  · skip
    obtain ⟨hT, hS⟩ := hD.resolve_left (by omega)
    have hn : 1 ≤ M 3 6 ∧ M 3 6 ≤ 5 := hT.1
    have hN : 1 ≤ M 3 7 ∧ M 3 7 ≤ 6 := hT.2.1
    have hr : 1 ≤ M 3 5 ∧ M 3 5 ≤ 60 := hT.2.2.1
    have hl : 0 ≤ M 9 5 ∧ M 9 5 ≤ 99 := hS.2.1
    have hh : 0 ≤ M 9 6 ∧ M 9 6 ≤ 999 := hS.2.2.1
    have hpr : 1 ≤ M 9 7 ∧ M 9 7 ≤ 9 := hS.2.2.2.1
    have hsd : 0 ≤ M 9 8 ∧ M 9 8 ≤ 63 := hS.2.2.2.2.1
    have hwk : 0 ≤ M 9 4 ∧ M 9 4 ≤ 100000 := hS.1
    have hs : 0 ≤ s ∧ s < M 3 7 := by omega
    have hq : (1 ≤ M 5 s.toNat ∧ M 5 s.toNat ≤ 5) ∧ (0 ≤ M 6 s.toNat ∧ M 6 s.toNat < M 3 6) ∧ (1 ≤ M 7 s.toNat ∧ M 7 s.toNat ≤ 30) ∧ (0 ≤ M 8 s.toNat ∧ M 8 s.toNat ≤ s) := hT.2.2.2.2 s hs
    have hkn : 0 ≤ M 12 s.toNat ∧ M 12 s.toNat ≤ 31 := hS.2.2.2.2.2.2 s hs
    refine r_ild2 dX9_speech_14 ?_
    by_cases c15 : 0 ≤ w ∧ w ≤ 8
    · skip
      rcases (show w = 0 ∨ w = 1 ∨ w = 2 ∨ w = 3 ∨ w = 4 ∨ w = 5 ∨ w = 6 ∨ w = 7 ∨ w = 8 by omega) with c15v | c15v | c15v | c15v | c15v | c15v | c15v | c15v | c15v
      · skip
        refine r_tabIn 64 dX9_speech_15 (by omega) (by omega) (by rw [c15v]; rfl) (by decide) ?_
        refine r_ald0 dX9_speech_64 ?_
        refine s_getR fi_X9_24 (sh_0) rfl dX9_speech_65 ?_
        refine s_getR fi_X9_212 (sh_3) rfl dX9_speech_68 ?_
        refine r_ild1 dX9_speech_71 ?_
        refine s_iald hM (sh_6) (by omega) (by decide) dX9_speech_72 (fun g72 => ?_)
        exact s_iret hM rfl dX9_speech_73 (by unfold xSpeech; (repeat' split) <;> first | rfl | omega | (exfalso; omega) | (unfold b2i; split <;> first | rfl | contradiction)) (by rfl)
      · skip
        refine r_tabIn 74 dX9_speech_15 (by omega) (by omega) (by rw [c15v]; rfl) (by decide) ?_
        refine r_ald0 dX9_speech_74 ?_
        refine s_getR fi_X9_24 (sh_0) rfl dX9_speech_75 ?_
        refine s_getR fi_X9_215 (sh_3) rfl dX9_speech_78 ?_
        refine r_ild1 dX9_speech_81 ?_
        refine s_iald hM (sh_7) (by omega) (by decide) dX9_speech_82 (fun g82 => ?_)
        exact s_iret hM rfl dX9_speech_83 (by unfold xSpeech; (repeat' split) <;> first | rfl | omega | (exfalso; omega) | (unfold b2i; split <;> first | rfl | contradiction)) (by rfl)
      · skip
        refine r_tabIn 84 dX9_speech_15 (by omega) (by omega) (by rw [c15v]; rfl) (by decide) ?_
        refine r_ald0 dX9_speech_84 ?_
        refine s_getR fi_X9_24 (sh_0) rfl dX9_speech_85 ?_
        refine s_getR fi_X9_218 (sh_3) rfl dX9_speech_88 ?_
        refine r_ild1 dX9_speech_91 ?_
        refine s_iald hM (sh_8) (by omega) (by decide) dX9_speech_92 (fun g92 => ?_)
        refine r_ild1 dX9_speech_93 ?_
        refine r_icmp_ne 102 dX9_speech_94 (by decide) (by omega) (by omega) (fun c94 => ?_) (fun c94 => ?_)
        · skip
          refine r_ald0 dX9_speech_102 ?_
          refine s_getR fi_X9_24 (sh_0) rfl dX9_speech_103 ?_
          refine s_getR fi_X9_218 (sh_3) rfl dX9_speech_106 ?_
          refine r_ild1 dX9_speech_109 ?_
          refine s_iald hM (sh_8) (by omega) (by decide) dX9_speech_110 (fun g110 => ?_)
          exact s_iret hM rfl dX9_speech_111 (by unfold xSpeech; (repeat' split) <;> first | rfl | omega | (exfalso; omega) | (unfold b2i; split <;> first | rfl | contradiction)) (by rfl)
        refine r_ldc (-1000000) dX9_speech_97 wC_X9_221 ?_
        refine r_goto 111 dX9_speech_99 (by decide) ?_
        exact s_iret hM rfl dX9_speech_111 (by unfold xSpeech; (repeat' split) <;> first | rfl | omega | (exfalso; omega) | (unfold b2i; split <;> first | rfl | contradiction)) (by rfl)
      · skip
        refine r_tabIn 112 dX9_speech_15 (by omega) (by omega) (by rw [c15v]; rfl) (by decide) ?_
        refine r_ald0 dX9_speech_112 ?_
        refine s_getR fi_X9_24 (sh_0) rfl dX9_speech_113 ?_
        refine r_ild1 dX9_speech_116 ?_
        refine s_callV1r hM (c_X8_words E (by first | with_reducible assumption | with_reducible exact xSt_9 | with_reducible exact xSt_13 | omega) (by first | with_reducible assumption | with_reducible exact xSt_9 | with_reducible exact xSt_13 | omega)) cv_X8_words wM_X9_222 (sh_3) rfl rfl (Nat.le_of_ble_eq_true rfl) (by decide) dX9_speech_117 (fun _ => ?_)
        exact s_iret hM rfl dX9_speech_120 (by unfold xSpeech; (repeat' split) <;> first | rfl | omega | (exfalso; omega) | (unfold b2i; split <;> first | rfl | contradiction)) (by rfl)
      · skip
        refine r_tabIn 121 dX9_speech_15 (by omega) (by omega) (by rw [c15v]; rfl) (by decide) ?_
        refine r_ald0 dX9_speech_121 ?_
        refine s_getR fi_X9_33 (sh_0) rfl dX9_speech_122 ?_
        refine r_ild1 dX9_speech_125 ?_
        refine s_callV1r hM (c_X6_crowns E (by first | with_reducible assumption | with_reducible exact xSt_9 | with_reducible exact xSt_13 | omega) (by first | with_reducible assumption | with_reducible exact xSt_9 | with_reducible exact xSt_13 | omega) (by first | with_reducible assumption | with_reducible exact xSt_9 | with_reducible exact xSt_13 | omega) (by first | with_reducible assumption | with_reducible exact xSt_9 | with_reducible exact xSt_13 | omega)) cv_X6_crowns wM_X9_225 (sh_9) rfl rfl (Nat.le_of_ble_eq_true rfl) (by decide) dX9_speech_126 (fun _ => ?_)
        exact s_iret hM rfl dX9_speech_129 (by unfold xSpeech; (repeat' split) <;> first | rfl | omega | (exfalso; omega) | (unfold b2i; split <;> first | rfl | contradiction)) (by rfl)
      · skip
        refine r_tabIn 130 dX9_speech_15 (by omega) (by omega) (by rw [c15v]; rfl) (by decide) ?_
        refine r_ald0 dX9_speech_130 ?_
        refine s_getR fi_X9_33 (sh_0) rfl dX9_speech_131 ?_
        refine r_ild1 dX9_speech_134 ?_
        refine s_callV1r hM (c_X6_canSay E (by first | with_reducible assumption | with_reducible exact xSt_9 | with_reducible exact xSt_13 | omega) (by first | with_reducible assumption | with_reducible exact xSt_9 | with_reducible exact xSt_13 | omega) (by first | with_reducible assumption | with_reducible exact xSt_9 | with_reducible exact xSt_13 | omega) (by first | with_reducible assumption | with_reducible exact xSt_9 | with_reducible exact xSt_13 | omega)) cv_X6_canSay wM_X9_191 (sh_9) rfl rfl (Nat.le_of_ble_eq_true rfl) (by decide) dX9_speech_135 (fun _ => ?_)
        refine r_ifb_eq 145 dX9_speech_138 (by decide) (fun c138 => ?_) (fun c138 => ?_)
        · skip
          refine r_iconst dX9_speech_145 ?_
          exact s_iret hM rfl dX9_speech_146 (by unfold xSpeech; (repeat' split) <;> first | rfl | omega | (exfalso; omega) | (unfold b2i; split <;> first | rfl | contradiction)) (by rfl)
        refine r_iconst dX9_speech_141 ?_
        refine r_goto 146 dX9_speech_142 (by decide) ?_
        exact s_iret hM rfl dX9_speech_146 (by unfold xSpeech; (repeat' split) <;> first | rfl | omega | (exfalso; omega) | (unfold b2i; split <;> first | rfl | contradiction)) (by rfl)
      · skip
        refine r_tabIn 147 dX9_speech_15 (by omega) (by omega) (by rw [c15v]; rfl) (by decide) ?_
        refine r_ald0 dX9_speech_147 ?_
        refine s_getR fi_X9_33 (sh_0) rfl dX9_speech_148 ?_
        refine s_getR fi_X9_228 (sh_9) rfl dX9_speech_151 ?_
        refine r_ild1 dX9_speech_154 ?_
        refine s_iald hM (sh_12) (by omega) (by decide) dX9_speech_155 (fun g155 => ?_)
        exact s_iret hM rfl dX9_speech_156 (by unfold xSpeech; (repeat' split) <;> first | rfl | omega | (exfalso; omega) | (unfold b2i; split <;> first | rfl | contradiction)) (by rfl)
      · skip
        refine r_tabIn 157 dX9_speech_15 (by omega) (by omega) (by rw [c15v]; rfl) (by decide) ?_
        refine r_ald0 dX9_speech_157 ?_
        refine s_getR fi_X9_33 (sh_0) rfl dX9_speech_158 ?_
        refine r_ild1 dX9_speech_161 ?_
        refine s_callV1r hM (c_X6_understanders E (by first | with_reducible assumption | with_reducible exact xSt_9 | with_reducible exact xSt_13 | omega) (by first | with_reducible assumption | with_reducible exact xSt_9 | with_reducible exact xSt_13 | omega) (by first | with_reducible assumption | with_reducible exact xSt_9 | with_reducible exact xSt_13 | omega) (by first | with_reducible assumption | with_reducible exact xSt_9 | with_reducible exact xSt_13 | omega)) cv_X6_understanders wM_X9_231 (sh_9) rfl rfl (Nat.le_of_ble_eq_true rfl) (by decide) dX9_speech_162 (fun _ => ?_)
        exact s_iret hM rfl dX9_speech_165 (by unfold xSpeech; (repeat' split) <;> first | rfl | omega | (exfalso; omega) | (unfold b2i; split <;> first | rfl | contradiction)) (by rfl)
      · skip
        refine r_tabIn 166 dX9_speech_15 (by omega) (by omega) (by rw [c15v]; rfl) (by decide) ?_
        refine r_ald0 dX9_speech_166 ?_
        refine s_getR fi_X9_33 (sh_0) rfl dX9_speech_167 ?_
        refine r_ild1 dX9_speech_170 ?_
        refine s_callV1r hM (c_X6_isSaid E (by first | with_reducible assumption | with_reducible exact xSt_9 | with_reducible exact xSt_13 | omega) (by first | with_reducible assumption | with_reducible exact xSt_9 | with_reducible exact xSt_13 | omega) (by first | with_reducible assumption | with_reducible exact xSt_9 | with_reducible exact xSt_13 | omega)) cv_X6_isSaid wM_X9_234 (sh_9) rfl rfl (Nat.le_of_ble_eq_true rfl) (by decide) dX9_speech_171 (fun _ => ?_)
        refine r_ifb_eq 181 dX9_speech_174 (by decide) (fun c174 => ?_) (fun c174 => ?_)
        · skip
          refine r_iconst dX9_speech_181 ?_
          exact s_iret hM rfl dX9_speech_182 (by unfold xSpeech; (repeat' split) <;> first | rfl | omega | (exfalso; omega) | (unfold b2i; split <;> first | rfl | contradiction)) (by rfl)
        refine r_iconst dX9_speech_177 ?_
        refine r_goto 182 dX9_speech_178 (by decide) ?_
        exact s_iret hM rfl dX9_speech_182 (by unfold xSpeech; (repeat' split) <;> first | rfl | omega | (exfalso; omega) | (unfold b2i; split <;> first | rfl | contradiction)) (by rfl)
    refine r_tabOut 183 dX9_speech_15 (by omega) (by omega) (by decide) ?_
    refine r_ldc (-1000001) dX9_speech_183 wC_X9_87 ?_
    exact s_iret hM rfl dX9_speech_185 (by unfold xSpeech; (repeat' split) <;> first | rfl | omega | (exfalso; omega) | (unfold b2i; split <;> first | rfl | contradiction)) (by rfl)
  refine r_ldc (-1000001) dX9_speech_11 wC_X9_87 ?_
  exact s_iret hM rfl dX9_speech_13 (by unfold xSpeech; (repeat' split) <;> first | rfl | omega | (exfalso; omega) | (unfold b2i; split <;> first | rfl | contradiction)) (by rfl)
set_option maxHeartbeats 4000000 in
theorem c_X9_person (E : xE) {M : xMem} {p w : Int} (hp : -2147483648 ≤ p ∧ p < 2147483648) (hw : -2147483648 ≤ w ∧ w < 2147483648) (hD : (M 3 6 = 0 ∧ M 3 7 = 0) ∨ (TI (tw M) ∧ SI (tw M) (sv M 9))) : Ct E mX9_person 3 2 [xr E 0, xi p, xi w] M (some (xi (xPerson M p w))) (M) := by
  refine Ct.of 0 3 (by rfl) (by decide +kernel) (fun hM => ?_)
  show VS E mX9_person 2 _ _ 0 [some (xr E 0), some (xi p), some (xi w)] [] M
  refine r_ald0 dX9_person_0 ?_
  refine s_getR fi_X9_24 (sh_0) rfl dX9_person_1 ?_
  refine r_ild1 dX9_person_4 ?_
  refine s_callV1r hM (c_X8_hasPerson E (by first | with_reducible assumption | with_reducible exact xSt_9 | with_reducible exact xSt_13 | omega)) cv_X8_hasPerson wM_X9_197 (sh_3) rfl rfl (Nat.le_of_ble_eq_true rfl) (by decide) dX9_person_5 (fun _ => ?_)
  refine r_ifb_ne 14 dX9_person_8 (by decide) (fun c8 => ?_) (fun c8 => ?_)
  · skip
    obtain ⟨hT, hS⟩ := hD.resolve_left (by omega)
    have hn : 1 ≤ M 3 6 ∧ M 3 6 ≤ 5 := hT.1
    have hN : 1 ≤ M 3 7 ∧ M 3 7 ≤ 6 := hT.2.1
    have hr : 1 ≤ M 3 5 ∧ M 3 5 ≤ 60 := hT.2.2.1
    have hl : 0 ≤ M 9 5 ∧ M 9 5 ≤ 99 := hS.2.1
    have hh : 0 ≤ M 9 6 ∧ M 9 6 ≤ 999 := hS.2.2.1
    have hpr : 1 ≤ M 9 7 ∧ M 9 7 ≤ 9 := hS.2.2.2.1
    have hsd : 0 ≤ M 9 8 ∧ M 9 8 ≤ 63 := hS.2.2.2.2.1
    have hwk : 0 ≤ M 9 4 ∧ M 9 4 ≤ 100000 := hS.1
    have hp : 0 ≤ p ∧ p < M 3 6 := by omega
    have hpu : (0 ≤ M 10 p.toNat ∧ M 10 p.toNat ≤ 99) ∧ (0 ≤ M 11 p.toNat ∧ M 11 p.toNat ≤ 99) := hS.2.2.2.2.2.1 p hp
    have hin : 0 ≤ M 4 p.toNat ∧ M 4 p.toNat ≤ 20 := hT.2.2.2.1 p hp
    have hp2 := p2_4 (n := p) (by omega)
    refine r_ild2 dX9_person_14 ?_
    by_cases c15 : 0 ≤ w ∧ w ≤ 4
    · skip
      rcases (show w = 0 ∨ w = 1 ∨ w = 2 ∨ w = 3 ∨ w = 4 by omega) with c15v | c15v | c15v | c15v | c15v
      · skip
        refine r_tabIn 48 dX9_person_15 (by omega) (by omega) (by rw [c15v]; rfl) (by decide) ?_
        refine r_ald0 dX9_person_48 ?_
        refine s_getR fi_X9_33 (sh_0) rfl dX9_person_49 ?_
        refine s_getR fi_X9_237 (sh_9) rfl dX9_person_52 ?_
        refine r_ild1 dX9_person_55 ?_
        refine s_iald hM (sh_10) (by omega) (by decide) dX9_person_56 (fun g56 => ?_)
        exact s_iret hM rfl dX9_person_57 (by unfold xPerson ; (repeat' split) <;> first | rfl | omega | (exfalso; omega)) (by rfl)
      · skip
        refine r_tabIn 58 dX9_person_15 (by omega) (by omega) (by rw [c15v]; rfl) (by decide) ?_
        refine r_ald0 dX9_person_58 ?_
        refine s_getR fi_X9_24 (sh_0) rfl dX9_person_59 ?_
        refine s_getR fi_X9_240 (sh_3) rfl dX9_person_62 ?_
        refine r_ild1 dX9_person_65 ?_
        refine s_iald hM (sh_4) (by omega) (by decide) dX9_person_66 (fun g66 => ?_)
        exact s_iret hM rfl dX9_person_67 (by unfold xPerson ; (repeat' split) <;> first | rfl | omega | (exfalso; omega)) (by rfl)
      · skip
        refine r_tabIn 68 dX9_person_15 (by omega) (by omega) (by rw [c15v]; rfl) (by decide) ?_
        refine r_ald0 dX9_person_68 ?_
        refine s_getR fi_X9_33 (sh_0) rfl dX9_person_69 ?_
        refine s_getR fi_X9_243 (sh_9) rfl dX9_person_72 ?_
        refine r_ild1 dX9_person_75 ?_
        refine s_iald hM (sh_11) (by omega) (by decide) dX9_person_76 (fun g76 => ?_)
        exact s_iret hM rfl dX9_person_77 (by unfold xPerson ; (repeat' split) <;> first | rfl | omega | (exfalso; omega)) (by rfl)
      · skip
        refine r_tabIn 78 dX9_person_15 (by omega) (by omega) (by rw [c15v]; rfl) (by decide) ?_
        refine r_ald0 dX9_person_78 ?_
        refine s_getR fi_X9_33 (sh_0) rfl dX9_person_79 ?_
        refine r_ild1 dX9_person_82 ?_
        refine s_callV1r hM (c_X6_knownTo E (by first | with_reducible assumption | with_reducible exact xSt_9 | with_reducible exact xSt_13 | omega) (by first | with_reducible assumption | with_reducible exact xSt_9 | with_reducible exact xSt_13 | omega) (by first | with_reducible assumption | with_reducible exact xSt_9 | with_reducible exact xSt_13 | omega) (by first | with_reducible assumption | with_reducible exact xSt_9 | with_reducible exact xSt_13 | omega)) cv_X6_knownTo wM_X9_246 (sh_9) rfl rfl (Nat.le_of_ble_eq_true rfl) (by decide) dX9_person_83 (fun _ => ?_)
        exact s_iret hM rfl dX9_person_86 (by unfold xPerson ; (repeat' split) <;> first | rfl | omega | (exfalso; omega)) (by rfl)
      · skip
        refine r_tabIn 87 dX9_person_15 (by omega) (by omega) (by rw [c15v]; rfl) (by decide) ?_
        refine r_ald0 dX9_person_87 ?_
        refine s_getR fi_X9_33 (sh_0) rfl dX9_person_88 ?_
        refine r_iconst dX9_person_91 ?_
        refine r_ild1 dX9_person_92 ?_
        refine r_ishl dX9_person_93 (by omega) ?_
        refine s_callV1r hM (c_X6_understoodBy E (by first | with_reducible assumption | with_reducible exact xSt_9 | with_reducible exact xSt_13 | omega) (by first | with_reducible assumption | with_reducible exact xSt_9 | with_reducible exact xSt_13 | omega) (by first | with_reducible assumption | with_reducible exact xSt_9 | with_reducible exact xSt_13 | omega) (by first | with_reducible assumption | with_reducible exact xSt_9 | with_reducible exact xSt_13 | omega)) cv_X6_understoodBy wM_X9_249 (sh_9) rfl rfl (Nat.le_of_ble_eq_true rfl) (by decide) dX9_person_94 (fun _ => ?_)
        exact s_iret hM rfl dX9_person_97 (by unfold xPerson ; (repeat' split) <;> first | rfl | omega | (exfalso; omega)) (by rfl)
    refine r_tabOut 98 dX9_person_15 (by omega) (by omega) (by decide) ?_
    refine r_ldc (-1000001) dX9_person_98 wC_X9_87 ?_
    exact s_iret hM rfl dX9_person_100 (by unfold xPerson ; (repeat' split) <;> first | rfl | omega | (exfalso; omega)) (by rfl)
  refine r_ldc (-1000001) dX9_person_11 wC_X9_87 ?_
  exact s_iret hM rfl dX9_person_13 (by unfold xPerson ; (repeat' split) <;> first | rfl | omega | (exfalso; omega)) (by rfl)
set_option maxHeartbeats 4000000 in
theorem c_X9_stand (E : xE) {M : xMem} {w : Int} (hw : -2147483648 ≤ w ∧ w < 2147483648) (hD : (M 3 6 = 0 ∧ M 3 7 = 0) ∨ (TI (tw M) ∧ SI (tw M) (sv M 9))) : Ct E mX9_stand 2 1 [xr E 0, xi w] M (some (xi (xStand M w))) (M) := by
  refine Ct.of 0 2 (by rfl) (by decide +kernel) (fun hM => ?_)
  show VS E mX9_stand 1 _ _ 0 [some (xr E 0), some (xi w)] [] M
  refine r_ald0 dX9_stand_0 ?_
  refine s_callV0r hM (c_X9_noDuchy E ) cv_X9_noDuchy wM_X9_172 (sh_0) rfl rfl (Nat.le_of_ble_eq_true rfl) (by decide) dX9_stand_1 (fun _ => ?_)
  refine r_ifb_eq 10 dX9_stand_4 (by decide) (fun c4 => ?_) (fun c4 => ?_)
  · skip
    refine r_ild1 dX9_stand_10 ?_
    by_cases c11 : 0 ≤ w ∧ w ≤ 4
    · skip
      rcases (show w = 0 ∨ w = 1 ∨ w = 2 ∨ w = 3 ∨ w = 4 by omega) with c11v | c11v | c11v | c11v | c11v
      · skip
        refine r_tabIn 44 dX9_stand_11 (by omega) (by omega) (by rw [c11v]; rfl) (by decide) ?_
        refine r_ald0 dX9_stand_44 ?_
        refine s_getR fi_X9_33 (sh_0) rfl dX9_stand_45 ?_
        refine s_getI hM fi_X9_206 (sh_9) rfl dX9_stand_48 (fun g48 => ?_)
        exact s_iret hM rfl dX9_stand_51 (by unfold xStand ; (repeat' split) <;> first | rfl | omega | (exfalso; omega)) (by rfl)
      · skip
        refine r_tabIn 52 dX9_stand_11 (by omega) (by omega) (by rw [c11v]; rfl) (by decide) ?_
        refine r_ald0 dX9_stand_52 ?_
        refine s_getR fi_X9_33 (sh_0) rfl dX9_stand_53 ?_
        refine s_getI hM fi_X9_185 (sh_9) rfl dX9_stand_56 (fun g56 => ?_)
        exact s_iret hM rfl dX9_stand_59 (by unfold xStand ; (repeat' split) <;> first | rfl | omega | (exfalso; omega)) (by rfl)
      · skip
        refine r_tabIn 60 dX9_stand_11 (by omega) (by omega) (by rw [c11v]; rfl) (by decide) ?_
        refine r_ald0 dX9_stand_60 ?_
        refine s_getR fi_X9_33 (sh_0) rfl dX9_stand_61 ?_
        refine s_getI hM fi_X9_209 (sh_9) rfl dX9_stand_64 (fun g64 => ?_)
        exact s_iret hM rfl dX9_stand_67 (by unfold xStand ; (repeat' split) <;> first | rfl | omega | (exfalso; omega)) (by rfl)
      · skip
        refine r_tabIn 68 dX9_stand_11 (by omega) (by omega) (by rw [c11v]; rfl) (by decide) ?_
        refine r_ald0 dX9_stand_68 ?_
        refine s_getR fi_X9_24 (sh_0) rfl dX9_stand_69 ?_
        refine s_getI hM fi_X9_252 (sh_3) rfl dX9_stand_72 (fun g72 => ?_)
        exact s_iret hM rfl dX9_stand_75 (by unfold xStand ; (repeat' split) <;> first | rfl | omega | (exfalso; omega)) (by rfl)
      · skip
        refine r_tabIn 76 dX9_stand_11 (by omega) (by omega) (by rw [c11v]; rfl) (by decide) ?_
        refine r_ald0 dX9_stand_76 ?_
        refine s_getR fi_X9_33 (sh_0) rfl dX9_stand_77 ?_
        refine s_getI hM fi_X9_255 (sh_9) rfl dX9_stand_80 (fun g80 => ?_)
        exact s_iret hM rfl dX9_stand_83 (by unfold xStand ; (repeat' split) <;> first | rfl | omega | (exfalso; omega)) (by rfl)
    refine r_tabOut 84 dX9_stand_11 (by omega) (by omega) (by decide) ?_
    refine r_ldc (-1000001) dX9_stand_84 wC_X9_87 ?_
    exact s_iret hM rfl dX9_stand_86 (by unfold xStand ; (repeat' split) <;> first | rfl | omega | (exfalso; omega)) (by rfl)
  refine r_ldc (-1000002) dX9_stand_7 wC_X9_171 ?_
  exact s_iret hM rfl dX9_stand_9 (by unfold xStand ; (repeat' split) <;> first | rfl | omega | (exfalso; omega)) (by rfl)
set_option maxHeartbeats 4000000 in
theorem c_X9_purse (E : xE) {M : xMem} {p n : Int} (hp : -2147483648 ≤ p ∧ p < 2147483648) (hn : -2147483648 ≤ n ∧ n < 2147483648) (hD : (M 3 6 = 0 ∧ M 3 7 = 0) ∨ (TI (tw M) ∧ SI (tw M) (sv M 9))) : Ct E mX9_purse 3 2 [xr E 0, xi p, xi n] M (some (xi (xPurse M p n))) (M) := by
  refine Ct.of 0 3 (by rfl) (by decide +kernel) (fun hM => ?_)
  show VS E mX9_purse 2 _ _ 0 [some (xr E 0), some (xi p), some (xi n)] [] M
  refine r_ald0 dX9_purse_0 ?_
  refine s_getR fi_X9_24 (sh_0) rfl dX9_purse_1 ?_
  refine r_ild1 dX9_purse_4 ?_
  refine s_callV1r hM (c_X8_hasPerson E (by first | with_reducible assumption | with_reducible exact xSt_9 | with_reducible exact xSt_13 | omega)) cv_X8_hasPerson wM_X9_197 (sh_3) rfl rfl (Nat.le_of_ble_eq_true rfl) (by decide) dX9_purse_5 (fun _ => ?_)
  refine r_ifb_eq 21 dX9_purse_8 (by decide) (fun c8 => ?_) (fun c8 => ?_)
  · skip
    refine r_ldc (-1000001) dX9_purse_21 wC_X9_87 ?_
    exact s_iret hM rfl dX9_purse_23 (by unfold xPurse ; (repeat' split) <;> first | rfl | omega | (exfalso; omega)) (by rfl)
  refine r_ild2 dX9_purse_11 ?_
  refine r_iconst dX9_purse_12 ?_
  refine r_bipush dX9_purse_13 (by decide +kernel) ?_
  refine s_callS3r hM (c_X9_within E (by first | with_reducible assumption | with_reducible exact xSt_9 | with_reducible exact xSt_13 | omega) (by first | with_reducible assumption | with_reducible exact xSt_9 | with_reducible exact xSt_13 | omega) (by first | with_reducible assumption | with_reducible exact xSt_9 | with_reducible exact xSt_13 | omega)) cs_X9_within wM_X9_83 (Nat.le_of_ble_eq_true rfl) (by decide) dX9_purse_15 (fun _ => ?_)
  refine r_ifb_ne 24 dX9_purse_18 (by decide) (fun c18 => ?_) (fun c18 => ?_)
  · skip
    obtain ⟨hT, hS⟩ := hD.resolve_left (by omega)
    have hn : 1 ≤ M 3 6 ∧ M 3 6 ≤ 5 := hT.1
    have hN : 1 ≤ M 3 7 ∧ M 3 7 ≤ 6 := hT.2.1
    have hr : 1 ≤ M 3 5 ∧ M 3 5 ≤ 60 := hT.2.2.1
    have hl : 0 ≤ M 9 5 ∧ M 9 5 ≤ 99 := hS.2.1
    have hh : 0 ≤ M 9 6 ∧ M 9 6 ≤ 999 := hS.2.2.1
    have hpr : 1 ≤ M 9 7 ∧ M 9 7 ≤ 9 := hS.2.2.2.1
    have hsd : 0 ≤ M 9 8 ∧ M 9 8 ≤ 63 := hS.2.2.2.2.1
    have hwk : 0 ≤ M 9 4 ∧ M 9 4 ≤ 100000 := hS.1
    have hp : 0 ≤ p ∧ p < M 3 6 := by omega
    have hpu : (0 ≤ M 10 p.toNat ∧ M 10 p.toNat ≤ 99) ∧ (0 ≤ M 11 p.toNat ∧ M 11 p.toNat ≤ 99) := hS.2.2.2.2.2.1 p hp
    have hin : 0 ≤ M 4 p.toNat ∧ M 4 p.toNat ≤ 20 := hT.2.2.2.1 p hp
    have hp2 := p2_4 (n := p) (by omega)
    refine r_ald0 dX9_purse_24 ?_
    refine s_getR fi_X9_33 (sh_0) rfl dX9_purse_25 ?_
    refine r_ild1 dX9_purse_28 ?_
    refine r_ild2 dX9_purse_29 ?_
    refine s_callV2r hM (c_X6_purseAhead E (by exact xSt_9) (by omega) (by exact hpu.1) (by exact hin) (by omega)) cv_X6_purseAhead wM_X9_258 (sh_9) rfl rfl (Nat.le_of_ble_eq_true rfl) (by decide) dX9_purse_30 (fun _ => ?_)
    exact s_iret hM rfl dX9_purse_33 (by unfold xPurse ; (repeat' split) <;> first | rfl | omega | (exfalso; omega)) (by rfl)
  refine r_ldc (-1000001) dX9_purse_21 wC_X9_87 ?_
  exact s_iret hM rfl dX9_purse_23 (by unfold xPurse ; (repeat' split) <;> first | rfl | omega | (exfalso; omega)) (by rfl)
set_option maxHeartbeats 4000000 in
theorem c_X9_hill (E : xE) {M : xMem} {n : Int} (hn : -2147483648 ≤ n ∧ n < 2147483648) (hD : (M 3 6 = 0 ∧ M 3 7 = 0) ∨ (TI (tw M) ∧ SI (tw M) (sv M 9))) : Ct E mX9_hill 2 2 [xr E 0, xi n] M (some (xi (xHill M n))) (M) := by
  refine Ct.of 0 2 (by rfl) (by decide +kernel) (fun hM => ?_)
  show VS E mX9_hill 2 _ _ 0 [some (xr E 0), some (xi n)] [] M
  refine r_ald0 dX9_hill_0 ?_
  refine s_callV0r hM (c_X9_noDuchy E ) cv_X9_noDuchy wM_X9_172 (sh_0) rfl rfl (Nat.le_of_ble_eq_true rfl) (by decide) dX9_hill_1 (fun _ => ?_)
  refine r_ifb_eq 10 dX9_hill_4 (by decide) (fun c4 => ?_) (fun c4 => ?_)
  · skip
    obtain ⟨hT, hS⟩ := hD.resolve_left (by omega)
    have hn : 1 ≤ M 3 6 ∧ M 3 6 ≤ 5 := hT.1
    have hN : 1 ≤ M 3 7 ∧ M 3 7 ≤ 6 := hT.2.1
    have hr : 1 ≤ M 3 5 ∧ M 3 5 ≤ 60 := hT.2.2.1
    have hl : 0 ≤ M 9 5 ∧ M 9 5 ≤ 99 := hS.2.1
    have hh : 0 ≤ M 9 6 ∧ M 9 6 ≤ 999 := hS.2.2.1
    have hpr : 1 ≤ M 9 7 ∧ M 9 7 ≤ 9 := hS.2.2.2.1
    have hsd : 0 ≤ M 9 8 ∧ M 9 8 ≤ 63 := hS.2.2.2.2.1
    have hwk : 0 ≤ M 9 4 ∧ M 9 4 ≤ 100000 := hS.1
    refine r_ild1 dX9_hill_10 ?_
    refine r_iconst dX9_hill_11 ?_
    refine r_bipush dX9_hill_12 (by decide +kernel) ?_
    refine s_callS3r hM (c_X9_within E (by first | with_reducible assumption | with_reducible exact xSt_9 | with_reducible exact xSt_13 | omega) (by first | with_reducible assumption | with_reducible exact xSt_9 | with_reducible exact xSt_13 | omega) (by first | with_reducible assumption | with_reducible exact xSt_9 | with_reducible exact xSt_13 | omega)) cs_X9_within wM_X9_83 (Nat.le_of_ble_eq_true rfl) (by decide) dX9_hill_14 (fun _ => ?_)
    refine r_ifb_eq 31 dX9_hill_17 (by decide) (fun c17 => ?_) (fun c17 => ?_)
    · skip
      refine r_ldc (-1000001) dX9_hill_31 wC_X9_87 ?_
      exact s_iret hM rfl dX9_hill_33 (by first | exact (show _ = hillT (tw M) (sv M 9) n from rfl).trans (by unfold xHill; rw [if_neg (by omega), if_pos (by omega)]) | (unfold xHill; rw [if_neg (by omega), if_neg (by omega)])) (by rfl)
    refine r_ald0 dX9_hill_20 ?_
    refine s_getR fi_X9_33 (sh_0) rfl dX9_hill_21 ?_
    refine r_ild1 dX9_hill_24 ?_
    refine s_callV1r hM (c_X6_hillAhead E (by exact xSt_9) (by exact hl) (by exact hh) (by exact hr) (by omega)) cv_X6_hillAhead wM_X9_261 (sh_9) rfl rfl (Nat.le_of_ble_eq_true rfl) (by decide) dX9_hill_25 (fun _ => ?_)
    refine r_goto 33 dX9_hill_28 (by decide) ?_
    exact s_iret hM rfl dX9_hill_33 (by first | exact (show _ = hillT (tw M) (sv M 9) n from rfl).trans (by unfold xHill; rw [if_neg (by omega), if_pos (by omega)]) | (unfold xHill; rw [if_neg (by omega), if_neg (by omega)])) (by rfl)
  refine r_ldc (-1000002) dX9_hill_7 wC_X9_171 ?_
  exact s_iret hM rfl dX9_hill_9 (by unfold xHill ; (repeat' split) <;> first | rfl | omega | (exfalso; omega)) (by rfl)
set_option maxHeartbeats 4000000 in
theorem c_X9_known (E : xE) {M : xMem} {s n : Int} (hs : -2147483648 ≤ s ∧ s < 2147483648) (hn : -2147483648 ≤ n ∧ n < 2147483648) (hD : (M 3 6 = 0 ∧ M 3 7 = 0) ∨ (TI (tw M) ∧ SI (tw M) (sv M 9))) : Ct E mX9_known 3 4 [xr E 0, xi s, xi n] M (some (xi (xKnown M s n))) (M) := by
  refine Ct.of 0 3 (by rfl) (by decide +kernel) (fun hM => ?_)
  show VS E mX9_known 4 _ _ 0 [some (xr E 0), some (xi s), some (xi n)] [] M
  refine r_ald0 dX9_known_0 ?_
  refine s_getR fi_X9_24 (sh_0) rfl dX9_known_1 ?_
  refine r_ild1 dX9_known_4 ?_
  refine s_callV1r hM (c_X8_hasSpeech E (by first | with_reducible assumption | with_reducible exact xSt_9 | with_reducible exact xSt_13 | omega)) cv_X8_hasSpeech wM_X9_188 (sh_3) rfl rfl (Nat.le_of_ble_eq_true rfl) (by decide) dX9_known_5 (fun _ => ?_)
  refine r_ifb_eq 21 dX9_known_8 (by decide) (fun c8 => ?_) (fun c8 => ?_)
  · skip
    refine r_ldc (-1000001) dX9_known_21 wC_X9_87 ?_
    exact s_iret hM rfl dX9_known_23 (by unfold xKnown ; (repeat' split) <;> first | rfl | omega | (exfalso; omega)) (by rfl)
  refine r_ild2 dX9_known_11 ?_
  refine r_iconst dX9_known_12 ?_
  refine r_bipush dX9_known_13 (by decide +kernel) ?_
  refine s_callS3r hM (c_X9_within E (by first | with_reducible assumption | with_reducible exact xSt_9 | with_reducible exact xSt_13 | omega) (by first | with_reducible assumption | with_reducible exact xSt_9 | with_reducible exact xSt_13 | omega) (by first | with_reducible assumption | with_reducible exact xSt_9 | with_reducible exact xSt_13 | omega)) cs_X9_within wM_X9_83 (Nat.le_of_ble_eq_true rfl) (by decide) dX9_known_15 (fun _ => ?_)
  refine r_ifb_ne 24 dX9_known_18 (by decide) (fun c18 => ?_) (fun c18 => ?_)
  · skip
    obtain ⟨hT, hS⟩ := hD.resolve_left (by omega)
    have hn : 1 ≤ M 3 6 ∧ M 3 6 ≤ 5 := hT.1
    have hN : 1 ≤ M 3 7 ∧ M 3 7 ≤ 6 := hT.2.1
    have hr : 1 ≤ M 3 5 ∧ M 3 5 ≤ 60 := hT.2.2.1
    have hl : 0 ≤ M 9 5 ∧ M 9 5 ≤ 99 := hS.2.1
    have hh : 0 ≤ M 9 6 ∧ M 9 6 ≤ 999 := hS.2.2.1
    have hpr : 1 ≤ M 9 7 ∧ M 9 7 ≤ 9 := hS.2.2.2.1
    have hsd : 0 ≤ M 9 8 ∧ M 9 8 ≤ 63 := hS.2.2.2.2.1
    have hwk : 0 ≤ M 9 4 ∧ M 9 4 ≤ 100000 := hS.1
    have hs : 0 ≤ s ∧ s < M 3 7 := by omega
    have hq : (1 ≤ M 5 s.toNat ∧ M 5 s.toNat ≤ 5) ∧ (0 ≤ M 6 s.toNat ∧ M 6 s.toNat < M 3 6) ∧ (1 ≤ M 7 s.toNat ∧ M 7 s.toNat ≤ 30) ∧ (0 ≤ M 8 s.toNat ∧ M 8 s.toNat ≤ s) := hT.2.2.2.2 s hs
    have hkn : 0 ≤ M 12 s.toNat ∧ M 12 s.toNat ≤ 31 := hS.2.2.2.2.2.2 s hs
    refine r_ald0 dX9_known_24 ?_
    refine s_getR fi_X9_33 (sh_0) rfl dX9_known_25 ?_
    refine r_ild1 dX9_known_28 ?_
    refine r_ild2 dX9_known_29 ?_
    refine s_callV2r hM (c_X6_knownAhead E (by first | with_reducible assumption | with_reducible exact xSt_9 | with_reducible exact xSt_13 | omega) (by first | with_reducible assumption | with_reducible exact xSt_9 | with_reducible exact xSt_13 | omega) (by first | with_reducible assumption | with_reducible exact xSt_9 | with_reducible exact xSt_13 | omega) (by first | with_reducible assumption | with_reducible exact xSt_9 | with_reducible exact xSt_13 | omega) (by first | with_reducible assumption | with_reducible exact xSt_9 | with_reducible exact xSt_13 | omega)) cv_X6_knownAhead wM_X9_264 (sh_9) rfl rfl (Nat.le_of_ble_eq_true rfl) (by decide) dX9_known_30 (fun _ => ?_)
    exact s_iret hM rfl dX9_known_33 (by unfold xKnown ; (repeat' split) <;> first | rfl | omega | (exfalso; omega)) (by rfl)
  refine r_ldc (-1000001) dX9_known_21 wC_X9_87 ?_
  exact s_iret hM rfl dX9_known_23 (by unfold xKnown ; (repeat' split) <;> first | rfl | omega | (exfalso; omega)) (by rfl)
set_option maxHeartbeats 4000000 in
theorem c_X9_when (E : xE) {M : xMem} {s : Int} (hs : -2147483648 ≤ s ∧ s < 2147483648) (hD : (M 3 6 = 0 ∧ M 3 7 = 0) ∨ (TI (tw M) ∧ SI (tw M) (sv M 9))) : Ct E mX9_when 2 4 [xr E 0, xi s] M (some (xi (xWhen M s))) (M) := by
  refine Ct.of 0 2 (by rfl) (by decide +kernel) (fun hM => ?_)
  show VS E mX9_when 4 _ _ 0 [some (xr E 0), some (xi s)] [] M
  refine r_ald0 dX9_when_0 ?_
  refine s_getR fi_X9_24 (sh_0) rfl dX9_when_1 ?_
  refine r_ild1 dX9_when_4 ?_
  refine s_callV1r hM (c_X8_hasSpeech E (by first | with_reducible assumption | with_reducible exact xSt_9 | with_reducible exact xSt_13 | omega)) cv_X8_hasSpeech wM_X9_188 (sh_3) rfl rfl (Nat.le_of_ble_eq_true rfl) (by decide) dX9_when_5 (fun _ => ?_)
  refine r_ifb_ne 14 dX9_when_8 (by decide) (fun c8 => ?_) (fun c8 => ?_)
  · skip
    obtain ⟨hT, hS⟩ := hD.resolve_left (by omega)
    have hn : 1 ≤ M 3 6 ∧ M 3 6 ≤ 5 := hT.1
    have hN : 1 ≤ M 3 7 ∧ M 3 7 ≤ 6 := hT.2.1
    have hr : 1 ≤ M 3 5 ∧ M 3 5 ≤ 60 := hT.2.2.1
    have hl : 0 ≤ M 9 5 ∧ M 9 5 ≤ 99 := hS.2.1
    have hh : 0 ≤ M 9 6 ∧ M 9 6 ≤ 999 := hS.2.2.1
    have hpr : 1 ≤ M 9 7 ∧ M 9 7 ≤ 9 := hS.2.2.2.1
    have hsd : 0 ≤ M 9 8 ∧ M 9 8 ≤ 63 := hS.2.2.2.2.1
    have hwk : 0 ≤ M 9 4 ∧ M 9 4 ≤ 100000 := hS.1
    have hs : 0 ≤ s ∧ s < M 3 7 := by omega
    have hq : (1 ≤ M 5 s.toNat ∧ M 5 s.toNat ≤ 5) ∧ (0 ≤ M 6 s.toNat ∧ M 6 s.toNat < M 3 6) ∧ (1 ≤ M 7 s.toNat ∧ M 7 s.toNat ≤ 30) ∧ (0 ≤ M 8 s.toNat ∧ M 8 s.toNat ≤ s) := hT.2.2.2.2 s hs
    have hkn : 0 ≤ M 12 s.toNat ∧ M 12 s.toNat ≤ 31 := hS.2.2.2.2.2.2 s hs
    refine r_ald0 dX9_when_14 ?_
    refine s_getR fi_X9_33 (sh_0) rfl dX9_when_15 ?_
    refine r_ild1 dX9_when_18 ?_
    refine s_callV1r hM (c_X6_isSaid E (by exact xSt_9) (by exact hsd) (by omega)) cv_X6_isSaid wM_X9_234 (sh_9) rfl rfl (Nat.le_of_ble_eq_true rfl) (by decide) dX9_when_19 (fun _ => ?_)
    refine r_ifb_eq 30 dX9_when_22 (by decide) (fun c22 => ?_) (fun c22 => ?_)
    · skip
      refine r_ald0 dX9_when_30 ?_
      refine s_getR fi_X9_33 (sh_0) rfl dX9_when_31 ?_
      refine r_ild1 dX9_when_34 ?_
      refine r_bipush dX9_when_35 (by decide +kernel) ?_
      refine s_callV2r hM (c_X6_weeksTill E (by exact xSt_9) (by first | with_reducible assumption | with_reducible exact xSt_9 | with_reducible exact xSt_13 | omega) (by first | with_reducible assumption | with_reducible exact xSt_9 | with_reducible exact xSt_13 | omega) (by first | with_reducible assumption | with_reducible exact xSt_9 | with_reducible exact xSt_13 | omega) (by first | with_reducible assumption | with_reducible exact xSt_9 | with_reducible exact xSt_13 | omega)) cv_X6_weeksTill wM_X9_271 (sh_9) rfl rfl (Nat.le_of_ble_eq_true rfl) (by decide) dX9_when_37 (fun _ => ?_)
      exact s_iret hM rfl dX9_when_40 (by unfold xWhen; (repeat' split) <;> first | rfl | omega | (exfalso; omega) | contradiction) (by rfl)
    refine r_ldc (-1000002) dX9_when_25 wC_X9_171 ?_
    refine r_goto 40 dX9_when_27 (by decide) ?_
    exact s_iret hM rfl dX9_when_40 (by unfold xWhen; (repeat' split) <;> first | rfl | omega | (exfalso; omega) | contradiction) (by rfl)
  refine r_ldc (-1000001) dX9_when_11 wC_X9_87 ?_
  exact s_iret hM rfl dX9_when_13 (by unfold xWhen; (repeat' split) <;> first | rfl | omega | (exfalso; omega) | contradiction) (by rfl)
set_option maxHeartbeats 4000000 in
theorem c_X9_share (E : xE) {M : xMem} {p n : Int} (hp : -2147483648 ≤ p ∧ p < 2147483648) (hn : -2147483648 ≤ n ∧ n < 2147483648) (hD : (M 3 6 = 0 ∧ M 3 7 = 0) ∨ (TI (tw M) ∧ SI (tw M) (sv M 9))) : Ct E mX9_share 3 3 [xr E 0, xi p, xi n] M (some (xi (xShare M p n))) (M) := by
  refine Ct.of 0 3 (by rfl) (by decide +kernel) (fun hM => ?_)
  show VS E mX9_share 3 _ _ 0 [some (xr E 0), some (xi p), some (xi n)] [] M
  refine r_ald0 dX9_share_0 ?_
  refine s_getR fi_X9_24 (sh_0) rfl dX9_share_1 ?_
  refine r_ild1 dX9_share_4 ?_
  refine s_callV1r hM (c_X8_hasPerson E (by first | with_reducible assumption | with_reducible exact xSt_9 | with_reducible exact xSt_13 | omega)) cv_X8_hasPerson wM_X9_197 (sh_3) rfl rfl (Nat.le_of_ble_eq_true rfl) (by decide) dX9_share_5 (fun _ => ?_)
  refine r_ifb_eq 21 dX9_share_8 (by decide) (fun c8 => ?_) (fun c8 => ?_)
  · skip
    refine r_ldc (-1000001) dX9_share_21 wC_X9_87 ?_
    exact s_iret hM rfl dX9_share_23 (by unfold xShare ; (repeat' split) <;> first | rfl | omega | (exfalso; omega)) (by rfl)
  refine r_ild2 dX9_share_11 ?_
  refine r_iconst dX9_share_12 ?_
  refine r_bipush dX9_share_13 (by decide +kernel) ?_
  refine s_callS3r hM (c_X9_within E (by first | with_reducible assumption | with_reducible exact xSt_9 | with_reducible exact xSt_13 | omega) (by first | with_reducible assumption | with_reducible exact xSt_9 | with_reducible exact xSt_13 | omega) (by first | with_reducible assumption | with_reducible exact xSt_9 | with_reducible exact xSt_13 | omega)) cs_X9_within wM_X9_83 (Nat.le_of_ble_eq_true rfl) (by decide) dX9_share_15 (fun _ => ?_)
  refine r_ifb_ne 24 dX9_share_18 (by decide) (fun c18 => ?_) (fun c18 => ?_)
  · skip
    obtain ⟨hT, hS⟩ := hD.resolve_left (by omega)
    have hn : 1 ≤ M 3 6 ∧ M 3 6 ≤ 5 := hT.1
    have hN : 1 ≤ M 3 7 ∧ M 3 7 ≤ 6 := hT.2.1
    have hr : 1 ≤ M 3 5 ∧ M 3 5 ≤ 60 := hT.2.2.1
    have hl : 0 ≤ M 9 5 ∧ M 9 5 ≤ 99 := hS.2.1
    have hh : 0 ≤ M 9 6 ∧ M 9 6 ≤ 999 := hS.2.2.1
    have hpr : 1 ≤ M 9 7 ∧ M 9 7 ≤ 9 := hS.2.2.2.1
    have hsd : 0 ≤ M 9 8 ∧ M 9 8 ≤ 63 := hS.2.2.2.2.1
    have hwk : 0 ≤ M 9 4 ∧ M 9 4 ≤ 100000 := hS.1
    have hp : 0 ≤ p ∧ p < M 3 6 := by omega
    have hpu : (0 ≤ M 10 p.toNat ∧ M 10 p.toNat ≤ 99) ∧ (0 ≤ M 11 p.toNat ∧ M 11 p.toNat ≤ 99) := hS.2.2.2.2.2.1 p hp
    have hin : 0 ≤ M 4 p.toNat ∧ M 4 p.toNat ≤ 20 := hT.2.2.2.1 p hp
    have hp2 := p2_4 (n := p) (by omega)
    refine r_ald0 dX9_share_24 ?_
    refine s_getR fi_X9_33 (sh_0) rfl dX9_share_25 ?_
    refine r_ild1 dX9_share_28 ?_
    refine r_ild2 dX9_share_29 ?_
    refine s_callV2r hM (c_X6_shareOf E (by exact xSt_9) (by first | with_reducible assumption | with_reducible exact xSt_9 | with_reducible exact xSt_13 | omega) (by first | with_reducible assumption | with_reducible exact xSt_9 | with_reducible exact xSt_13 | omega) (by first | with_reducible assumption | with_reducible exact xSt_9 | with_reducible exact xSt_13 | omega) (by first | with_reducible assumption | with_reducible exact xSt_9 | with_reducible exact xSt_13 | omega)) cv_X6_shareOf wM_X9_300 (sh_9) rfl rfl (Nat.le_of_ble_eq_true rfl) (by decide) dX9_share_30 (fun _ => ?_)
    exact s_iret hM rfl dX9_share_33 (by unfold xShare ; (repeat' split) <;> first | rfl | omega | (exfalso; omega)) (by rfl)
  refine r_ldc (-1000001) dX9_share_21 wC_X9_87 ?_
  exact s_iret hM rfl dX9_share_23 (by unfold xShare ; (repeat' split) <;> first | rfl | omega | (exfalso; omega)) (by rfl)
set_option maxHeartbeats 4000000 in
theorem c_X9_kind (E : xE) {M : xMem} {s : Int} (hs : -2147483648 ≤ s ∧ s < 2147483648) (hD : (M 3 6 = 0 ∧ M 3 7 = 0) ∨ (TI (tw M) ∧ SI (tw M) (sv M 9))) : Ct E mX9_kind 2 1 [xr E 0, xi s] M (some (xi (xKind M s))) (M) := by
  refine Ct.of 0 2 (by rfl) (by decide +kernel) (fun hM => ?_)
  show VS E mX9_kind 1 _ _ 0 [some (xr E 0), some (xi s)] [] M
  refine r_ald0 dX9_kind_0 ?_
  refine s_getR fi_X9_24 (sh_0) rfl dX9_kind_1 ?_
  refine r_ild1 dX9_kind_4 ?_
  refine s_callV1r hM (c_X8_hasSpeech E (by first | with_reducible assumption | with_reducible exact xSt_9 | with_reducible exact xSt_13 | omega)) cv_X8_hasSpeech wM_X9_188 (sh_3) rfl rfl (Nat.le_of_ble_eq_true rfl) (by decide) dX9_kind_5 (fun _ => ?_)
  refine r_ifb_eq 23 dX9_kind_8 (by decide) (fun c8 => ?_) (fun c8 => ?_)
  · skip
    refine r_ldc (-1000001) dX9_kind_23 wC_X9_87 ?_
    exact s_iret hM rfl dX9_kind_25 (by unfold xKind ; (repeat' split) <;> first | rfl | omega | (exfalso; omega)) (by rfl)
  obtain ⟨hT, hS⟩ := hD.resolve_left (by omega)
  have hn : 1 ≤ M 3 6 ∧ M 3 6 ≤ 5 := hT.1
  have hN : 1 ≤ M 3 7 ∧ M 3 7 ≤ 6 := hT.2.1
  have hr : 1 ≤ M 3 5 ∧ M 3 5 ≤ 60 := hT.2.2.1
  have hl : 0 ≤ M 9 5 ∧ M 9 5 ≤ 99 := hS.2.1
  have hh : 0 ≤ M 9 6 ∧ M 9 6 ≤ 999 := hS.2.2.1
  have hpr : 1 ≤ M 9 7 ∧ M 9 7 ≤ 9 := hS.2.2.2.1
  have hsd : 0 ≤ M 9 8 ∧ M 9 8 ≤ 63 := hS.2.2.2.2.1
  have hwk : 0 ≤ M 9 4 ∧ M 9 4 ≤ 100000 := hS.1
  have hs : 0 ≤ s ∧ s < M 3 7 := by omega
  have hq : (1 ≤ M 5 s.toNat ∧ M 5 s.toNat ≤ 5) ∧ (0 ≤ M 6 s.toNat ∧ M 6 s.toNat < M 3 6) ∧ (1 ≤ M 7 s.toNat ∧ M 7 s.toNat ≤ 30) ∧ (0 ≤ M 8 s.toNat ∧ M 8 s.toNat ≤ s) := hT.2.2.2.2 s hs
  have hkn : 0 ≤ M 12 s.toNat ∧ M 12 s.toNat ≤ 31 := hS.2.2.2.2.2.2 s hs
  refine r_ald0 dX9_kind_11 ?_
  refine s_getR fi_X9_24 (sh_0) rfl dX9_kind_12 ?_
  refine s_getR fi_X9_344 (sh_3) rfl dX9_kind_15 ?_
  refine r_ild1 dX9_kind_18 ?_
  refine s_iald hM (sh_5) (by omega) (by decide) dX9_kind_19 (fun g19 => ?_)
  refine r_goto 25 dX9_kind_20 (by decide) ?_
  exact s_iret hM rfl dX9_kind_25 (by unfold xKind ; (repeat' split) <;> first | rfl | omega | (exfalso; omega)) (by rfl)
set_option maxHeartbeats 4000000 in
theorem c_X9_trace (E : xE) {M : xMem} {i : Int} (hi : -2147483648 ≤ i ∧ i < 2147483648) (htr : 0 ≤ M 161 3 ∧ M 161 3 ≤ 16) : Ct E mX9_trace 2 0 [xr E 0, xi i] M (some (xi (xTrace M i))) (M) := by
  refine Ct.of 0 2 (by rfl) (by decide +kernel) (fun hM => ?_)
  show VS E mX9_trace 0 _ _ 0 [some (xr E 0), some (xi i)] [] M
  refine r_ild1 dX9_trace_0 ?_
  refine r_if_lt 27 dX9_trace_1 (by decide) (by omega) (fun c1 => ?_) (fun c1 => ?_)
  · skip
    refine r_ldc (-1000000) dX9_trace_27 wC_X9_221 ?_
    exact s_iret hM rfl dX9_trace_29 (by unfold xTrace ; (repeat' split) <;> first | rfl | omega | (exfalso; omega)) (by rfl)
  refine r_ild1 dX9_trace_4 ?_
  refine r_ald0 dX9_trace_5 ?_
  refine s_getR fi_X9_73 (sh_0) rfl dX9_trace_6 ?_
  refine s_getI hM fi_X9_353 (sh_161) rfl dX9_trace_9 (fun g9 => ?_)
  refine r_icmp_ge 27 dX9_trace_12 (by decide) (by omega) (by omega) (fun c12 => ?_) (fun c12 => ?_)
  · skip
    refine r_ldc (-1000000) dX9_trace_27 wC_X9_221 ?_
    exact s_iret hM rfl dX9_trace_29 (by unfold xTrace ; (repeat' split) <;> first | rfl | omega | (exfalso; omega)) (by rfl)
  refine r_ald0 dX9_trace_15 ?_
  refine s_getR fi_X9_73 (sh_0) rfl dX9_trace_16 ?_
  refine s_getR fi_X9_356 (sh_161) rfl dX9_trace_19 ?_
  refine r_ild1 dX9_trace_22 ?_
  refine s_iald hM (sh_162) (by omega) (by decide) dX9_trace_23 (fun g23 => ?_)
  refine r_goto 29 dX9_trace_24 (by decide) ?_
  exact s_iret hM rfl dX9_trace_29 (by unfold xTrace ; (repeat' split) <;> first | rfl | omega | (exfalso; omega)) (by rfl)
set_option maxHeartbeats 4000000 in
theorem c_X9_clear (E : xE) {M : xMem}  (hD : (M 3 6 = 0 ∧ M 3 7 = 0) ∨ (TI (tw M) ∧ SI (tw M) (sv M 9))) : Ct E mX9_clear 1 2 [xr E 0] M (some (xi (xClear M))) (M) := by
  refine Ct.of 0 1 (by rfl) (by decide +kernel) (fun hM => ?_)
  show VS E mX9_clear 2 _ _ 0 [some (xr E 0)] [] M
  refine r_ald0 dX9_clear_0 ?_
  refine s_callV0r hM (c_X9_noDuchy E ) cv_X9_noDuchy wM_X9_172 (sh_0) rfl rfl (Nat.le_of_ble_eq_true rfl) (by decide) dX9_clear_1 (fun _ => ?_)
  refine r_ifb_eq 12 dX9_clear_4 (by decide) (fun c4 => ?_) (fun c4 => ?_)
  · skip
    obtain ⟨hT, hS⟩ := hD.resolve_left (by omega)
    have hn : 1 ≤ M 3 6 ∧ M 3 6 ≤ 5 := hT.1
    have hN : 1 ≤ M 3 7 ∧ M 3 7 ≤ 6 := hT.2.1
    have hr : 1 ≤ M 3 5 ∧ M 3 5 ≤ 60 := hT.2.2.1
    have hl : 0 ≤ M 9 5 ∧ M 9 5 ≤ 99 := hS.2.1
    have hh : 0 ≤ M 9 6 ∧ M 9 6 ≤ 999 := hS.2.2.1
    have hpr : 1 ≤ M 9 7 ∧ M 9 7 ≤ 9 := hS.2.2.2.1
    have hsd : 0 ≤ M 9 8 ∧ M 9 8 ≤ 63 := hS.2.2.2.2.1
    have hwk : 0 ≤ M 9 4 ∧ M 9 4 ≤ 100000 := hS.1
    have hp5 := p2_5 (n := M 3 6) (by omega)
    refine r_ald0 dX9_clear_12 ?_
    refine s_getR fi_X9_33 (sh_0) rfl dX9_clear_13 ?_
    refine r_ald0 dX9_clear_16 ?_
    refine s_getR fi_X9_24 (sh_0) rfl dX9_clear_17 ?_
    refine s_callV0r hM (c_X8_everyone E (by omega)) cv_X8_everyone wM_X9_267 (sh_3) rfl rfl (Nat.le_of_ble_eq_true rfl) (by decide) dX9_clear_20 (fun _ => ?_)
    refine s_callV1r hM (c_X6_understoodBy E (by exact xSt_9) (by exact hT) (by exact hS) (by omega)) cv_X6_understoodBy wM_X9_249 (sh_9) rfl rfl (Nat.le_of_ble_eq_true rfl) (by decide) dX9_clear_23 (fun _ => ?_)
    exact s_iret hM rfl dX9_clear_26 (by unfold xClear ; (repeat' split) <;> first | rfl | omega | (exfalso; omega)) (by rfl)
  refine r_ldc (-1000002) dX9_clear_7 wC_X9_171 ?_
  refine r_goto 26 dX9_clear_9 (by decide) ?_
  exact s_iret hM rfl dX9_clear_26 (by unfold xClear ; (repeat' split) <;> first | rfl | omega | (exfalso; omega)) (by rfl)
set_option maxHeartbeats 4000000 in
theorem c_X9_rowsThere (E : xE) {M : xMem}  (hrw : ∀ i : Nat, i < 8 → (M (163 + 2 * i) 1 = 0 ∨ M (163 + 2 * i) 1 = 1) ∧ (0 ≤ M (163 + 2 * i) 2 ∧ M (163 + 2 * i) 2 ≤ 2) ∧ (0 ≤ M (163 + 2 * i) 3 ∧ M (163 + 2 * i) 3 ≤ 40)) : Ct E mX9_rowsThere 3 0 [xr E 0] M (some (xi (xThere M))) (M) := by
  refine Ct.of 2 3 (by rfl) (by decide +kernel) (fun hM => ?_)
  show VS E mX9_rowsThere 0 _ _ 0 [some (xr E 0), none, none] [] M
  have L4 : ∀ (fu : Nat) (a i : Int), (0 ≤ i ∧ i ≤ 8) → (foldI (fun i a => if M (163 + 2 * i.toNat) 1 = 0 then a else a + 1) (8 - i).toNat i a = xThere M) → (0 ≤ a ∧ a ≤ i) → (8 - i).toNat < fu → VS E mX9_rowsThere 0 (some (xi (xThere M))) (M) 4 [some (xr E 0), some (xi a), some (xi i)] [] M := by
    intro fu
    induction fu with
    | zero => intro a i  hb hi ha hme; exact absurd hme (Nat.not_lt_zero _)
    | succ fu ih =>
      intro a i  hb hi ha hme
      refine r_ild2 dX9_rowsThere_4 ?_
      refine r_bipush dX9_rowsThere_5 (by decide +kernel) ?_
      refine r_icmp_ge 31 dX9_rowsThere_7 (by decide) (by omega) (by omega) (fun c7 => ?_) (fun c7 => ?_)
      · skip
        refine r_ild1 dX9_rowsThere_31 ?_
        exact s_iret hM rfl dX9_rowsThere_32 (by exact (foldI_end (by omega)).symm.trans hi) (by rfl)
      refine r_ald0 dX9_rowsThere_10 ?_
      refine s_getR fi_X9_11 (sh_0) rfl dX9_rowsThere_11 ?_
      refine r_ild2 dX9_rowsThere_14 ?_
      refine s_rows (by omega) dX9_rowsThere_15 (fun p15 ep15 hp15 => ?_)
      subst ep15
      refine s_getI hM fi_X9_107 (hp15.1) rfl dX9_rowsThere_16 (fun g16 => ?_)
      refine r_if_eq 25 dX9_rowsThere_19 (by decide) (by omega) (fun c19 => ?_) (fun c19 => ?_)
      · skip
        refine r_iinc2 dX9_rowsThere_25 rfl ?_
        refine r_goto 4 dX9_rowsThere_28 (by decide) ?_
        exact ih _ _  (by omega) (by exact foldI_go (by omega) hi (by first | exact if_pos (by assumption) | exact if_neg (by assumption))) (by omega) (by omega)
      refine r_iinc1 dX9_rowsThere_22 rfl ?_
      refine r_iinc2 dX9_rowsThere_25 rfl ?_
      refine r_goto 4 dX9_rowsThere_28 (by decide) ?_
      exact ih _ _  (by omega) (by exact foldI_go (by omega) hi (by first | exact if_pos (by assumption) | exact if_neg (by assumption))) (by omega) (by omega)
  refine r_iconst dX9_rowsThere_0 ?_
  refine r_ist1 dX9_rowsThere_1 rfl ?_
  refine r_iconst dX9_rowsThere_2 ?_
  refine r_ist2 dX9_rowsThere_3 rfl ?_
  exact L4 9 _ _  (by omega) (by exact rfl) (by omega) (by omega)
set_option maxHeartbeats 4000000 in
theorem c_X9_count (E : xE) {M : xMem} {w : Int} (hw : -2147483648 ≤ w ∧ w < 2147483648) (hrw : ∀ i : Nat, i < 8 → (M (163 + 2 * i) 1 = 0 ∨ M (163 + 2 * i) 1 = 1) ∧ (0 ≤ M (163 + 2 * i) 2 ∧ M (163 + 2 * i) 2 ≤ 2) ∧ (0 ≤ M (163 + 2 * i) 3 ∧ M (163 + 2 * i) 3 ≤ 40)) : Ct E mX9_count 2 1 [xr E 0, xi w] M (some (xi (xCount M w))) (M) := by
  refine Ct.of 0 2 (by rfl) (by decide +kernel) (fun hM => ?_)
  show VS E mX9_count 1 _ _ 0 [some (xr E 0), some (xi w)] [] M
  refine r_ild1 dX9_count_0 ?_
  by_cases c1 : 0 ≤ w ∧ w ≤ 7
  · skip
    rcases (show w = 0 ∨ w = 1 ∨ w = 2 ∨ w = 3 ∨ w = 4 ∨ w = 5 ∨ w = 6 ∨ w = 7 by omega) with c1v | c1v | c1v | c1v | c1v | c1v | c1v | c1v
    · skip
      refine r_tabIn 48 dX9_count_1 (by omega) (by omega) (by rw [c1v]; rfl) (by decide) ?_
      refine r_ald0 dX9_count_48 ?_
      refine s_callV0r hM (c_X9_rowsThere E (by first | with_reducible assumption | with_reducible exact xSt_9 | with_reducible exact xSt_13 | omega)) cv_X9_rowsThere wM_X9_359 (sh_0) rfl rfl (Nat.le_of_ble_eq_true rfl) (by decide) dX9_count_49 (fun _ => ?_)
      exact s_iret hM rfl dX9_count_52 (by unfold xCount ; (repeat' split) <;> first | rfl | omega | (exfalso; omega)) (by rfl)
    · skip
      refine r_tabIn 53 dX9_count_1 (by omega) (by omega) (by rw [c1v]; rfl) (by decide) ?_
      refine r_ald0 dX9_count_53 ?_
      refine s_getR fi_X9_24 (sh_0) rfl dX9_count_54 ?_
      refine s_getI hM fi_X9_315 (sh_3) rfl dX9_count_57 (fun g57 => ?_)
      exact s_iret hM rfl dX9_count_60 (by unfold xCount ; (repeat' split) <;> first | rfl | omega | (exfalso; omega)) (by rfl)
    · skip
      refine r_tabIn 61 dX9_count_1 (by omega) (by omega) (by rw [c1v]; rfl) (by decide) ?_
      refine r_ald0 dX9_count_61 ?_
      refine s_getR fi_X9_24 (sh_0) rfl dX9_count_62 ?_
      refine s_getI hM fi_X9_158 (sh_3) rfl dX9_count_65 (fun g65 => ?_)
      exact s_iret hM rfl dX9_count_68 (by unfold xCount ; (repeat' split) <;> first | rfl | omega | (exfalso; omega)) (by rfl)
    · skip
      refine r_tabIn 69 dX9_count_1 (by omega) (by omega) (by rw [c1v]; rfl) (by decide) ?_
      refine r_ald0 dX9_count_69 ?_
      refine s_getR fi_X9_33 (sh_0) rfl dX9_count_70 ?_
      refine s_getI hM fi_X9_175 (sh_9) rfl dX9_count_73 (fun g73 => ?_)
      exact s_iret hM rfl dX9_count_76 (by unfold xCount ; (repeat' split) <;> first | rfl | omega | (exfalso; omega)) (by rfl)
    · skip
      refine r_tabIn 77 dX9_count_1 (by omega) (by omega) (by rw [c1v]; rfl) (by decide) ?_
      refine r_ald0 dX9_count_77 ?_
      refine s_getR fi_X9_33 (sh_0) rfl dX9_count_78 ?_
      refine s_getI hM fi_X9_206 (sh_9) rfl dX9_count_81 (fun g81 => ?_)
      exact s_iret hM rfl dX9_count_84 (by unfold xCount ; (repeat' split) <;> first | rfl | omega | (exfalso; omega)) (by rfl)
    · skip
      refine r_tabIn 85 dX9_count_1 (by omega) (by omega) (by rw [c1v]; rfl) (by decide) ?_
      refine r_ald0 dX9_count_85 ?_
      refine s_getR fi_X9_33 (sh_0) rfl dX9_count_86 ?_
      refine s_getI hM fi_X9_185 (sh_9) rfl dX9_count_89 (fun g89 => ?_)
      exact s_iret hM rfl dX9_count_92 (by unfold xCount ; (repeat' split) <;> first | rfl | omega | (exfalso; omega)) (by rfl)
    · skip
      refine r_tabIn 93 dX9_count_1 (by omega) (by omega) (by rw [c1v]; rfl) (by decide) ?_
      refine r_ald0 dX9_count_93 ?_
      refine s_getR fi_X9_43 (sh_0) rfl dX9_count_94 ?_
      refine s_getI hM fi_X9_168 (sh_17) rfl dX9_count_97 (fun g97 => ?_)
      exact s_iret hM rfl dX9_count_100 (by unfold xCount ; (repeat' split) <;> first | rfl | omega | (exfalso; omega)) (by rfl)
    · skip
      refine r_tabIn 101 dX9_count_1 (by omega) (by omega) (by rw [c1v]; rfl) (by decide) ?_
      refine r_ald0 dX9_count_101 ?_
      refine s_getR fi_X9_64 (sh_0) rfl dX9_count_102 ?_
      refine s_getI hM fi_X9_135 (sh_149) rfl dX9_count_105 (fun g105 => ?_)
      exact s_iret hM rfl dX9_count_108 (by unfold xCount ; (repeat' split) <;> first | rfl | omega | (exfalso; omega)) (by rfl)
  refine r_tabOut 109 dX9_count_1 (by omega) (by omega) (by decide) ?_
  refine r_ldc (-1000001) dX9_count_109 wC_X9_87 ?_
  exact s_iret hM rfl dX9_count_111 (by unfold xCount ; (repeat' split) <;> first | rfl | omega | (exfalso; omega)) (by rfl)
set_option maxHeartbeats 4000000 in
theorem c_X9_isKind (E : xE) {M : xMem} {k q : Int} (hk : -1 ≤ k ∧ k ≤ 5) (hq : 0 ≤ q ∧ q ≤ 5) : Ct E mX9_isKind 4 0 [xi k, xi q] M (some (xi (b2i (ikL q 6 k = true)))) (M) := by
  refine Ct.of 2 4 (by rfl) (by decide +kernel) (fun hM => ?_)
  show VS E mX9_isKind 0 _ _ 0 [some (xi k), some (xi q), none, none] [] M
  have L4 : ∀ (fu : Nat) (x i : Int), (0 ≤ i ∧ i ≤ 6) → (-1 ≤ x ∧ x ≤ 5) → (ikL q (6 - i).toNat x = ikL q 6 k) → (6 - i).toNat < fu → VS E mX9_isKind 0 (some (xi (b2i (ikL q 6 k = true)))) (M) 4 [some (xi k), some (xi q), some (xi x), some (xi i)] [] M := by
    intro fu
    induction fu with
    | zero => intro x i  hb hx hi hme; exact absurd hme (Nat.not_lt_zero _)
    | succ fu ih =>
      intro x i  hb hx hi hme
      have key : ∀ k : Nat, k < 6 → -1 ≤ (xtab 0).getD k 0 ∧ (xtab 0).getD k 0 ≤ 5 := by decide +kernel
      refine r_ild3 dX9_isKind_4 ?_
      refine r_gets (j := 0) (by decide) wS_X9_366 dX9_isKind_5 ?_
      refine r_talen (j := 0) (by decide) dX9_isKind_8 ?_
      refine r_icmp_ge 43 dX9_isKind_9 (by decide) (by omega) (by omega) (fun c9 => ?_) (fun c9 => ?_)
      · skip
        refine r_iconst dX9_isKind_43 ?_
        exact s_zret hM rfl (by omega) dX9_isKind_44 (by rw [← hi]; first | (rw [show (6 - i).toNat = 0 by omega]; rfl) | (rw [ikL_out (by omega)]; rfl)) (by rfl)
      refine r_ild2 dX9_isKind_12 ?_
      refine r_if_lt 43 dX9_isKind_13 (by decide) (by omega) (fun c13 => ?_) (fun c13 => ?_)
      · skip
        refine r_iconst dX9_isKind_43 ?_
        exact s_zret hM rfl (by omega) dX9_isKind_44 (by rw [← hi]; first | (rw [show (6 - i).toNat = 0 by omega]; rfl) | (rw [ikL_out (by omega)]; rfl)) (by rfl)
      refine r_ild2 dX9_isKind_16 ?_
      refine r_gets (j := 0) (by decide) wS_X9_366 dX9_isKind_17 ?_
      refine r_talen (j := 0) (by decide) dX9_isKind_20 ?_
      refine r_icmp_ge 43 dX9_isKind_21 (by decide) (by omega) (by omega) (fun c21 => ?_) (fun c21 => ?_)
      · skip
        refine r_iconst dX9_isKind_43 ?_
        exact s_zret hM rfl (by omega) dX9_isKind_44 (by rw [← hi]; first | (rw [show (6 - i).toNat = 0 by omega]; rfl) | (rw [ikL_out (by omega)]; rfl)) (by rfl)
      refine r_ild2 dX9_isKind_24 ?_
      refine r_ild1 dX9_isKind_25 ?_
      refine r_icmp_ne 31 dX9_isKind_26 (by decide) (by omega) (by omega) (fun c26 => ?_) (fun c26 => ?_)
      · skip
        refine r_gets (j := 0) (by decide) wS_X9_366 dX9_isKind_31 ?_
        refine r_ild2 dX9_isKind_34 ?_
        refine r_tald (j := 0) (by decide) (by omega) (by omega) dX9_isKind_35 ?_
        refine r_ist2 dX9_isKind_36 rfl ?_
        refine r_iinc3 dX9_isKind_37 rfl ?_
        refine r_goto 4 dX9_isKind_40 (by decide) ?_
        exact ih _ _  (by omega) (by have := key x.toNat (by omega); omega) (by rw [← hi, show (6 - i).toNat = (6 - (i + 1)).toNat + 1 by omega, ikL, if_pos (by omega), if_neg (by omega)]) (by omega)
      refine r_iconst dX9_isKind_29 ?_
      exact s_zret hM rfl (by omega) dX9_isKind_30 (by rw [← hi, show (6 - i).toNat = (6 - (i + 1)).toNat + 1 by omega, ikL, if_pos (by omega), if_pos (by omega)]; rfl) (by rfl)
  refine r_ild0 dX9_isKind_0 ?_
  refine r_ist2 dX9_isKind_1 rfl ?_
  refine r_iconst dX9_isKind_2 ?_
  refine r_ist3 dX9_isKind_3 rfl ?_
  exact L4 7 _ _  (by omega) (by omega) (by rfl) (by omega)
set_option maxHeartbeats 4000000 in
theorem c_X9_as (E : xE) {M : xMem} {s k : Int} (hs : -2147483648 ≤ s ∧ s < 2147483648) (hk : -2147483648 ≤ k ∧ k < 2147483648) (hD : (M 3 6 = 0 ∧ M 3 7 = 0) ∨ (TI (tw M) ∧ SI (tw M) (sv M 9))) : Ct E mX9_as 3 1 [xr E 0, xi s, xi k] M (some (xi ((xAs M s k).1))) ((xAs M s k).2) := by
  refine Ct.of 0 3 (by rfl) (by decide +kernel) (fun hM => ?_)
  show VS E mX9_as 1 _ _ 0 [some (xr E 0), some (xi s), some (xi k)] [] M
  refine r_ald0 dX9_as_0 ?_
  refine s_getR fi_X9_24 (sh_0) rfl dX9_as_1 ?_
  refine r_ild1 dX9_as_4 ?_
  refine s_callV1r hM (c_X8_hasSpeech E (by first | with_reducible assumption | with_reducible exact xSt_9 | with_reducible exact xSt_13 | omega)) cv_X8_hasSpeech wM_X9_188 (sh_3) rfl rfl (Nat.le_of_ble_eq_true rfl) (by decide) dX9_as_5 (fun _ => ?_)
  refine r_ifb_eq 20 dX9_as_8 (by decide) (fun c8 => ?_) (fun c8 => ?_)
  · skip
    refine r_ldc (-1000001) dX9_as_20 wC_X9_87 ?_
    exact s_iret hM rfl dX9_as_22 (by unfold xAs fndX finX; (repeat' split) <;> first | rfl | omega | (exfalso; omega) | contradiction) (by unfold xAs fndX finX; (repeat' split) <;> first | rfl | omega | (exfalso; omega) | contradiction)
  refine r_ild2 dX9_as_11 ?_
  refine r_iconst dX9_as_12 ?_
  refine r_iconst dX9_as_13 ?_
  refine s_callS3r hM (c_X9_within E (by first | with_reducible assumption | with_reducible exact xSt_9 | with_reducible exact xSt_13 | omega) (by first | with_reducible assumption | with_reducible exact xSt_9 | with_reducible exact xSt_13 | omega) (by first | with_reducible assumption | with_reducible exact xSt_9 | with_reducible exact xSt_13 | omega)) cs_X9_within wM_X9_83 (Nat.le_of_ble_eq_true rfl) (by decide) dX9_as_14 (fun _ => ?_)
  refine r_ifb_ne 23 dX9_as_17 (by decide) (fun c17 => ?_) (fun c17 => ?_)
  · skip
    obtain ⟨hT, hS⟩ := hD.resolve_left (by omega)
    have hn : 1 ≤ M 3 6 ∧ M 3 6 ≤ 5 := hT.1
    have hN : 1 ≤ M 3 7 ∧ M 3 7 ≤ 6 := hT.2.1
    have hr : 1 ≤ M 3 5 ∧ M 3 5 ≤ 60 := hT.2.2.1
    have hl : 0 ≤ M 9 5 ∧ M 9 5 ≤ 99 := hS.2.1
    have hh : 0 ≤ M 9 6 ∧ M 9 6 ≤ 999 := hS.2.2.1
    have hpr : 1 ≤ M 9 7 ∧ M 9 7 ≤ 9 := hS.2.2.2.1
    have hsd : 0 ≤ M 9 8 ∧ M 9 8 ≤ 63 := hS.2.2.2.2.1
    have hwk : 0 ≤ M 9 4 ∧ M 9 4 ≤ 100000 := hS.1
    have hs : 0 ≤ s ∧ s < M 3 7 := by omega
    have hq : (1 ≤ M 5 s.toNat ∧ M 5 s.toNat ≤ 5) ∧ (0 ≤ M 6 s.toNat ∧ M 6 s.toNat < M 3 6) ∧ (1 ≤ M 7 s.toNat ∧ M 7 s.toNat ≤ 30) ∧ (0 ≤ M 8 s.toNat ∧ M 8 s.toNat ≤ s) := hT.2.2.2.2 s hs
    have hkn : 0 ≤ M 12 s.toNat ∧ M 12 s.toNat ≤ 31 := hS.2.2.2.2.2.2 s hs
    refine r_ald0 dX9_as_23 ?_
    refine s_getR fi_X9_24 (sh_0) rfl dX9_as_24 ?_
    refine s_getR fi_X9_344 (sh_3) rfl dX9_as_27 ?_
    refine r_ild1 dX9_as_30 ?_
    refine s_iald hM (sh_5) (by omega) (by decide) dX9_as_31 (fun g31 => ?_)
    refine r_ild2 dX9_as_32 ?_
    refine s_callS2r hM (c_X9_isKind E (by first | with_reducible assumption | with_reducible exact xSt_9 | with_reducible exact xSt_13 | omega) (by first | with_reducible assumption | with_reducible exact xSt_9 | with_reducible exact xSt_13 | omega)) cs_X9_isKind wM_X9_347 (Nat.le_of_ble_eq_true rfl) (by decide) dX9_as_33 (fun _ => ?_)
    refine r_ifb_eq 47 dX9_as_36 (by decide) (fun c36 => ?_) (fun c36 => ?_)
    · skip
      refine r_ald0 dX9_as_47 ?_
      refine r_iconst dX9_as_48 ?_
      refine s_callV1r hM (c_X9_found E (by first | with_reducible assumption | with_reducible exact xSt_9 | with_reducible exact xSt_13 | omega)) cv_X9_found wM_X9_88 (sh_0) rfl rfl (Nat.le_of_ble_eq_true rfl) (by decide) dX9_as_49 (fun hM49 => ?_)
      exact s_iret hM49 rfl dX9_as_52 (by unfold xAs fndX finX; (repeat' split) <;> first | rfl | omega | (exfalso; omega) | contradiction) (by unfold xAs fndX finX; (repeat' split) <;> first | rfl | omega | (exfalso; omega) | contradiction)
    refine r_ald0 dX9_as_39 ?_
    refine r_ild1 dX9_as_40 ?_
    refine s_callV1r hM (c_X9_fine E ) cv_X9_fine wM_X9_96 (sh_0) rfl rfl (Nat.le_of_ble_eq_true rfl) (by decide) dX9_as_41 (fun hM41 => ?_)
    refine r_goto 52 dX9_as_44 (by decide) ?_
    exact s_iret hM41 rfl dX9_as_52 (by unfold xAs fndX finX; (repeat' split) <;> first | rfl | omega | (exfalso; omega) | contradiction) (by unfold xAs fndX finX; (repeat' split) <;> first | rfl | omega | (exfalso; omega) | contradiction)
  refine r_ldc (-1000001) dX9_as_20 wC_X9_87 ?_
  exact s_iret hM rfl dX9_as_22 (by unfold xAs fndX finX; (repeat' split) <;> first | rfl | omega | (exfalso; omega) | contradiction) (by unfold xAs fndX finX; (repeat' split) <;> first | rfl | omega | (exfalso; omega) | contradiction)
