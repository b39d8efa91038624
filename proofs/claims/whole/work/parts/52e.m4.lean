set_option maxHeartbeats 4000000 in
theorem c_X10_clearTo (E : xE) {M : xMem} {k : Nat} {s : Int} (hk : shp k = (1, 21, [])) (hT : TI (tg (M 209))) (hS : SI (tg (M 209)) (sk (M k))) (hs : 0 ≤ s ∧ s < M 209 1) (hNN : NN (M 209)) : Ct E mX10_clearTo 4 0 [xr E 201, xr E k, xi s] M (some (xi (understT (tg (M 209)) (sk (M k)) s))) (M) := by
  refine Ct.of 1 4 (by rfl) (by decide +kernel) (fun hM => ?_)
  have hn : 1 ≤ M 209 0 ∧ M 209 0 ≤ 5 := hT.1
  have hN : 1 ≤ M 209 1 ∧ M 209 1 ≤ 6 := hT.2.1
  have hra : 1 ≤ M 209 2 ∧ M 209 2 ≤ 60 := hT.2.2.1
  have e26 : M 209 (26 + s).toNat = M 209 (26 + s.toNat) := ix26 (by omega)
  have f15 : M k (15 + s).toNat = sk (M k) 3 s.toNat := iy15 (by omega)
  have hnn := hNN s hs
  have hk3 : 0 ≤ sk (M k) 3 s.toNat ∧ sk (M k) 3 s.toNat ≤ 31 := hS.2.2.2.2.2.2 s hs
  have e5 : tg (M 209) 5 s.toNat = if M 209 (26 + s.toNat) = -1000000 then (s.toNat : Int) else M 209 (26 + s.toNat) := rfl
  show VS E mX10_clearTo 0 _ _ 0 [some (xr E 201), some (xr E k), some (xi s), none] [] M
  refine r_ald0 dX10_clearTo_0 ?_
  refine s_getR fi_X10_31 (sh_201) rfl dX10_clearTo_1 ?_
  refine r_bipush dX10_clearTo_4 (by decide +kernel) ?_
  refine r_ild2 dX10_clearTo_6 ?_
  refine r_iadd dX10_clearTo_7 ?_
  refine s_iald hM (sh_209) (by omega) (by decide) dX10_clearTo_8 (fun g8 => ?_)
  try simp (disch := omega) only [e26, f15, Int.reduceToNat]
  refine r_ist3 dX10_clearTo_9 rfl ?_
  refine r_ild3 dX10_clearTo_10 ?_
  refine r_ldc (-1000000) dX10_clearTo_11 wC_X10_133 ?_
  refine r_icmp_ne 25 dX10_clearTo_13 (by decide) (by omega) (by omega) (fun c13 => ?_) (fun c13 => ?_)
  · skip
    have g15 : M k (15 + M 209 (26 + s.toNat)).toNat = sk (M k) 3 (M 209 (26 + s.toNat)).toNat := iy15 (by omega)
    have hk4 : 0 ≤ sk (M k) 3 (M 209 (26 + s.toNat)).toNat ∧ sk (M k) 3 (M 209 (26 + s.toNat)).toNat ≤ 31 := hS.2.2.2.2.2.2 _ (show 0 ≤ M 209 (26 + s.toNat) ∧ M 209 (26 + s.toNat) < M 209 1 by omega)
    refine r_ald1 dX10_clearTo_25 ?_
    refine r_bipush dX10_clearTo_26 (by decide +kernel) ?_
    refine r_ild2 dX10_clearTo_28 ?_
    refine r_iadd dX10_clearTo_29 ?_
    refine s_iald hM (hk) (by omega) (by decide) dX10_clearTo_30 (fun g30 => ?_)
    try simp (disch := omega) only [e26, f15, Int.reduceToNat]
    refine r_ald1 dX10_clearTo_31 ?_
    refine r_bipush dX10_clearTo_32 (by decide +kernel) ?_
    refine r_ild3 dX10_clearTo_34 ?_
    refine r_iadd dX10_clearTo_35 ?_
    refine s_iald hM (hk) (by omega) (by decide) dX10_clearTo_36 (fun g36 => ?_)
    try simp (disch := omega) only [e26, f15, Int.reduceToNat]
    try simp only [g15]
    refine r_iand dX10_clearTo_37 (by omega) (by omega) (fun g37 => ?_)
    exact s_iret hM rfl dX10_clearTo_38 (by unfold understT; rw [e5]; first | (rw [if_neg (show ¬ M 209 (26 + s.toNat) = -1000000 by assumption), if_neg (by omega)]; done) | (rw [if_pos (show M 209 (26 + s.toNat) = -1000000 by omega), if_pos (by omega)]; done)) (by rfl)
  refine r_ald1 dX10_clearTo_16 ?_
  refine r_bipush dX10_clearTo_17 (by decide +kernel) ?_
  refine r_ild2 dX10_clearTo_19 ?_
  refine r_iadd dX10_clearTo_20 ?_
  refine s_iald hM (hk) (by omega) (by decide) dX10_clearTo_21 (fun g21 => ?_)
  try simp (disch := omega) only [e26, f15, Int.reduceToNat]
  refine r_goto 38 dX10_clearTo_22 (by decide) ?_
  exact s_iret hM rfl dX10_clearTo_38 (by unfold understT; rw [e5]; first | (rw [if_neg (show ¬ M 209 (26 + s.toNat) = -1000000 by assumption), if_neg (by omega)]; done) | (rw [if_pos (show M 209 (26 + s.toNat) = -1000000 by omega), if_pos (by omega)]; done)) (by rfl)
set_option maxHeartbeats 4000000 in
theorem c_X10_weeks (E : xE) {M : xMem} {n : Int} (hn : -2147483648 ≤ n ∧ n < 2147483648) (hD : MD M) (hnx : 0 ≤ M 201 21 ∧ M 201 21 < 24) (hkp : 0 ≤ M 201 20 ∧ M 201 20 ≤ 24) : Ct E mX10_weeks 4 4 [xr E 201, xi n] M (some (xi ((yWeeks M n).1))) ((yWeeks M n).2) := by
  refine Ct.of 2 4 (by rfl) (by decide +kernel) (fun hM => ?_)
  show VS E mX10_weeks 4 _ _ 0 [some (xr E 201), some (xi n), none, none] [] M
  have L37 : ∀ (fu : Nat) (k : Int) (Mc : xMem), InR Mc → (0 ≤ k ∧ k ≤ n ∧ n ≤ 24) → (TI (tg (M 209))) → (Mc 209 = M 209) → (GI (tg (M 209)) (sk (Mc 210)) (999 - (n - k))) → ((0 ≤ Mc 201 21 ∧ Mc 201 21 < 24) ∧ (0 ≤ Mc 201 20 ∧ Mc 201 20 ≤ 24)) → (ywk (n - k).toNat Mc = ywk n.toNat M) → (yWeeks M n = (ywk n.toNat M 210 2, ywk n.toNat M)) → (n - k).toNat < fu → VS E mX10_weeks 4 (some (xi ((yWeeks M n).1))) ((yWeeks M n).2) 37 [some (xr E 201), some (xi n), none, some (xi k)] [] Mc := by
    intro fu
    induction fu with
    | zero => intro k Mc hML37 hb hT h9 hg hu hi hy hme; exact absurd hme (Nat.not_lt_zero _)
    | succ fu ih =>
      intro k Mc hML37 hb hT h9 hg hu hi hy hme
      refine r_ild3 dX10_weeks_37 ?_
      refine r_ild1 dX10_weeks_38 ?_
      refine r_icmp_ge 60 dX10_weeks_39 (by decide) (by omega) (by omega) (fun c39 => ?_) (fun c39 => ?_)
      · skip
        refine r_ald0 dX10_weeks_60 ?_
        refine s_getR fi_X10_34 (sh_201) rfl dX10_weeks_61 ?_
        refine r_iconst dX10_weeks_64 ?_
        refine s_iald hML37 (sh_210) (by omega) (by decide) dX10_weeks_65 (fun g65 => ?_)
        try simp (disch := omega) only [Int.reduceToNat]
        exact s_iret hML37 rfl dX10_weeks_66 (by rw [hy, ← hi, show (n - k).toNat = 0 by omega]; rfl) (by first | (rw [hy, ← hi, show (n - k).toNat = 0 by omega]; rfl) | (unfold yWeeks; (repeat' split) <;> first | rfl | omega | (exfalso; omega)))
      refine r_ald0 dX10_weeks_42 ?_
      refine s_callV0v hML37 (c_X10_remember E (by exact hu.1) (by exact hu.2)) cv_X10_remember wM_X10_198 (sh_201) rfl rfl (Nat.le_of_ble_eq_true rfl) (by decide) dX10_weeks_43 (fun hM43 => ?_)
      refine r_ald0 dX10_weeks_46 ?_
      refine r_ald0 dX10_weeks_47 ?_
      refine s_getR fi_X10_34 (sh_201) rfl dX10_weeks_48 ?_
      refine s_callV1v hM43 (c_X10_passes E (by exact sh_210) (by decide) (by rw [re_row (by decide), h9]; exact hT) (by rw [re_row (by decide), re_row (by decide), h9]; exact hg.1) (by rw [re_row (by decide), re_row (by decide), h9]; exact hg.2.1)) cv_X10_passes wM_X10_201 (sh_201) rfl rfl (Nat.le_of_ble_eq_true rfl) (by decide) dX10_weeks_51 (fun hM51 => ?_)
      refine r_iinc3 dX10_weeks_54 rfl ?_
      refine r_goto 37 dX10_weeks_57 (by decide) ?_
      exact ih (k + 1) _  hM51 (by omega) (by exact hT) (by rw [ps_lo (by decide), re_row (by decide)]; exact h9) (by have := ps_GI (M := reM Mc) (k := 210) (w := 999 - (n - k)) (by rw [re_row (by decide), h9]; exact hT) (by omega) (by rw [re_row (by decide), re_row (by decide), h9]; exact hg); rw [re_row (a := 209) (by decide), h9] at this; rw [show (999 - (n - (k + 1)) : Int) = 999 - (n - k) + 1 by omega]; exact this) (by rw [ps_lo (by decide)]; exact re_b hu.1 hu.2) (by rw [← hi, show (n - k).toNat = (n - (k + 1)).toNat + 1 by omega]; rfl) (by exact hy) (by omega)
  refine r_ald0 dX10_weeks_0 ?_
  refine r_ild1 dX10_weeks_1 ?_
  refine r_iconst dX10_weeks_2 ?_
  refine r_bipush dX10_weeks_3 (by decide +kernel) ?_
  refine s_callS3r hM (c_X10_in E (by first | with_reducible assumption | with_reducible exact xSt_9 | with_reducible exact xSt_13 | omega) (by first | with_reducible assumption | with_reducible exact xSt_9 | with_reducible exact xSt_13 | omega) (by first | with_reducible assumption | with_reducible exact xSt_9 | with_reducible exact xSt_13 | omega)) cs_X10_in wM_X10_70 (Nat.le_of_ble_eq_true rfl) (by decide) dX10_weeks_5 (fun _ => ?_)
  refine s_callV1r hM (c_X10_need E (by first | exact b01 | omega)) cv_X10_need wM_X10_194 (sh_201) rfl rfl (Nat.le_of_ble_eq_true rfl) (by decide) dX10_weeks_8 (fun _ => ?_)
  refine r_ist2 dX10_weeks_11 rfl ?_
  have hnd := need_b M (1 ≤ n ∧ n ≤ 24)
  refine r_ild2 dX10_weeks_12 ?_
  refine r_if_ge 18 dX10_weeks_13 (by decide) (by omega) (fun c13 => ?_) (fun c13 => ?_)
  · skip
    obtain ⟨hd1, hT, hG, hNN⟩ := MD_g hD (by omega)
    have hn : 1 ≤ M 209 0 ∧ M 209 0 ≤ 5 := hT.1
    have hN : 1 ≤ M 209 1 ∧ M 209 1 ≤ 6 := hT.2.1
    have hra : 1 ≤ M 209 2 ∧ M 209 2 ≤ 60 := hT.2.2.1
    have hwk : 0 ≤ M 210 0 ∧ M 210 0 ≤ 100000 := hG.1.1
    refine r_ald0 dX10_weeks_18 ?_
    refine s_getR fi_X10_34 (sh_201) rfl dX10_weeks_19 ?_
    refine r_iconst dX10_weeks_22 ?_
    refine s_iald hM (sh_210) (by omega) (by decide) dX10_weeks_23 (fun g23 => ?_)
    try simp (disch := omega) only [Int.reduceToNat]
    refine r_ild1 dX10_weeks_24 ?_
    refine r_iadd dX10_weeks_25 ?_
    refine r_sipush dX10_weeks_26 (by decide +kernel) ?_
    refine r_icmp_le 35 dX10_weeks_29 (by decide) (by omega) (by omega) (fun c29 => ?_) (fun c29 => ?_)
    · skip
      refine r_iconst dX10_weeks_35 ?_
      refine r_ist3 dX10_weeks_36 rfl ?_
      refine r_fgt2 ?_
      exact L37 25 0 _  hM (by omega) (by exact hT) (by rfl) (by exact ⟨hG.1, hG.2.1, by show M 210 0 ≤ _; omega, hG.2.2.2⟩) (by omega) (by rw [Int.sub_zero]) (by unfold yWeeks; rw [if_neg (by omega), if_neg (by omega), if_neg (by omega)]) (by omega)
    refine r_ldc (-1000003) dX10_weeks_32 wC_X10_92 ?_
    exact s_iret hM rfl dX10_weeks_34 (by unfold yWeeks ; (repeat' split) <;> first | rfl | omega | (exfalso; omega)) (by first | (rw [hy, ← hi, show (n - k).toNat = 0 by omega]; rfl) | (unfold yWeeks; (repeat' split) <;> first | rfl | omega | (exfalso; omega)))
  refine r_ild2 dX10_weeks_16 ?_
  exact s_iret hM rfl dX10_weeks_17 (by unfold yWeeks ; (repeat' split) <;> first | rfl | omega | (exfalso; omega)) (by first | (rw [hy, ← hi, show (n - k).toNat = 0 by omega]; rfl) | (unfold yWeeks; (repeat' split) <;> first | rfl | omega | (exfalso; omega)))
set_option maxHeartbeats 4000000 in
theorem c_X10_say (E : xE) {M : xMem} {s : Int} (hs : -2147483648 ≤ s ∧ s < 2147483648) (hD : MD M) (hnx : 0 ≤ M 201 21 ∧ M 201 21 < 24) (hkp : 0 ≤ M 201 20 ∧ M 201 20 ≤ 24) : Ct E mX10_say 2 4 [xr E 201, xi s] M (some (xi ((ySay M s).1))) ((ySay M s).2) := by
  refine Ct.of 0 2 (by rfl) (by decide +kernel) (fun hM => ?_)
  have hmn := MD_n hD
  show VS E mX10_say 4 _ _ 0 [some (xr E 201), some (xi s)] [] M
  refine r_ald0 dX10_say_0 ?_
  refine r_ild1 dX10_say_1 ?_
  refine s_callV1r hM (c_X10_isSpeech E (by first | with_reducible assumption | with_reducible exact xSt_9 | with_reducible exact xSt_13 | omega) (by first | with_reducible assumption | with_reducible exact xSt_9 | with_reducible exact xSt_13 | omega)) cv_X10_isSpeech wM_X10_205 (sh_201) rfl rfl (Nat.le_of_ble_eq_true rfl) (by decide) dX10_say_2 (fun _ => ?_)
  refine r_ifb_ne 11 dX10_say_5 (by decide) (fun c5 => ?_) (fun c5 => ?_)
  · skip
    obtain ⟨hd1, hT, hG, hNN⟩ := MD_g hD (by omega)
    have hn : 1 ≤ M 209 0 ∧ M 209 0 ≤ 5 := hT.1
    have hN : 1 ≤ M 209 1 ∧ M 209 1 ≤ 6 := hT.2.1
    have hra : 1 ≤ M 209 2 ∧ M 209 2 ≤ 60 := hT.2.2.1
    refine r_ald0 dX10_say_11 ?_
    refine r_ald0 dX10_say_12 ?_
    refine s_getR fi_X10_34 (sh_201) rfl dX10_say_13 ?_
    refine r_ild1 dX10_say_16 ?_
    refine s_callV2r hM (c_X10_can E (by exact sh_210) (by exact hT) (by exact hG.1) (by omega)) cv_X10_can wM_X10_208 (sh_201) rfl rfl (Nat.le_of_ble_eq_true rfl) (by decide) dX10_say_17 (fun _ => ?_)
    refine r_ifb_ne 26 dX10_say_20 (by decide) (fun c20 => ?_) (fun c20 => ?_)
    · skip
      refine r_ald0 dX10_say_26 ?_
      refine s_callV0v hM (c_X10_remember E (by first | with_reducible assumption | with_reducible exact xSt_9 | with_reducible exact xSt_13 | omega) (by first | with_reducible assumption | with_reducible exact xSt_9 | with_reducible exact xSt_13 | omega)) cv_X10_remember wM_X10_198 (sh_201) rfl rfl (Nat.le_of_ble_eq_true rfl) (by decide) dX10_say_27 (fun hM27 => ?_)
      refine r_ald0 dX10_say_30 ?_
      refine r_ald0 dX10_say_31 ?_
      refine s_getR fi_X10_34 (sh_201) rfl dX10_say_32 ?_
      refine r_ild1 dX10_say_35 ?_
      refine s_callV2r hM27 (c_X10_says E (by exact sh_210) (by decide) (by rw [re_row (by decide)]; exact hT) (by rw [re_row (by decide), re_row (by decide)]; exact hG.1) (by rw [re_at (by decide)]; omega)) cv_X10_says wM_X10_212 (sh_201) rfl rfl (Nat.le_of_ble_eq_true rfl) (by decide) dX10_say_36 (fun hM36 => ?_)
      rw [re_row (a := 209) (by decide), re_row (a := 210) (by decide)]
      exact s_iret hM36 rfl dX10_say_39 (by unfold ySay; first | (rw [if_pos (by omega)]; done) | (rw [if_neg (by omega), if_pos (by assumption)]; done) | (rw [if_neg (by omega), if_neg (by assumption)]; done) | (rw [if_neg (by omega), if_neg (fun q => q (by assumption))]; done)) (by unfold ySay; first | (rw [if_pos (by omega)]; done) | (rw [if_neg (by omega), if_pos (by assumption)]; done) | (rw [if_neg (by omega), if_neg (by assumption)]; done) | (rw [if_neg (by omega), if_neg (fun q => q (by assumption))]; done))
    refine r_ldc (-1000002) dX10_say_23 wC_X10_193 ?_
    exact s_iret hM rfl dX10_say_25 (by unfold ySay; first | (rw [if_pos (by omega)]; done) | (rw [if_neg (by omega), if_pos (by assumption)]; done) | (rw [if_neg (by omega), if_neg (by assumption)]; done) | (rw [if_neg (by omega), if_neg (fun q => q (by assumption))]; done)) (by unfold ySay; first | (rw [if_pos (by omega)]; done) | (rw [if_neg (by omega), if_pos (by assumption)]; done) | (rw [if_neg (by omega), if_neg (by assumption)]; done) | (rw [if_neg (by omega), if_neg (fun q => q (by assumption))]; done))
  refine r_ldc (-1000001) dX10_say_8 wC_X10_78 ?_
  exact s_iret hM rfl dX10_say_10 (by unfold ySay; first | (rw [if_pos (by omega)]; done) | (rw [if_neg (by omega), if_pos (by assumption)]; done) | (rw [if_neg (by omega), if_neg (by assumption)]; done) | (rw [if_neg (by omega), if_neg (fun q => q (by assumption))]; done)) (by unfold ySay; first | (rw [if_pos (by omega)]; done) | (rw [if_neg (by omega), if_pos (by assumption)]; done) | (rw [if_neg (by omega), if_neg (by assumption)]; done) | (rw [if_neg (by omega), if_neg (fun q => q (by assumption))]; done))
set_option maxHeartbeats 4000000 in
theorem c_X10_buy (E : xE) {M : xMem} {p n : Int} (hp : -2147483648 ≤ p ∧ p < 2147483648) (hn : -2147483648 ≤ n ∧ n < 2147483648) (hD : MD M) (hnx : 0 ≤ M 201 21 ∧ M 201 21 < 24) (hkp : 0 ≤ M 201 20 ∧ M 201 20 ≤ 24) : Ct E mX10_buy 3 2 [xr E 201, xi p, xi n] M (some (xi ((yBuy M p n).1))) ((yBuy M p n).2) := by
  refine Ct.of 0 3 (by rfl) (by decide +kernel) (fun hM => ?_)
  have hmn := MD_n hD
  show VS E mX10_buy 2 _ _ 0 [some (xr E 201), some (xi p), some (xi n)] [] M
  refine r_ald0 dX10_buy_0 ?_
  refine r_ild1 dX10_buy_1 ?_
  refine s_callV1r hM (c_X10_isPerson E (by first | with_reducible assumption | with_reducible exact xSt_9 | with_reducible exact xSt_13 | omega) (by first | with_reducible assumption | with_reducible exact xSt_9 | with_reducible exact xSt_13 | omega)) cv_X10_isPerson wM_X10_215 (sh_201) rfl rfl (Nat.le_of_ble_eq_true rfl) (by decide) dX10_buy_2 (fun _ => ?_)
  refine r_ifb_eq 18 dX10_buy_5 (by decide) (fun c5 => ?_) (fun c5 => ?_)
  · skip
    refine r_ldc (-1000001) dX10_buy_18 wC_X10_78 ?_
    exact s_iret hM rfl dX10_buy_20 (by unfold yBuy; first | (rw [if_pos (by omega)]; done) | (rw [if_neg (by omega), if_pos (by omega)]; done) | (rw [if_neg (by omega), if_neg (by omega)]; done)) (by unfold yBuy byM; first | (rw [if_pos (by omega)]; done) | (rw [if_neg (by omega), if_pos (by omega)]; done) | (rw [if_neg (by omega), if_neg (by omega)]; simp (disch := omega) only [re_at]))
  refine r_ild2 dX10_buy_8 ?_
  refine r_iconst dX10_buy_9 ?_
  refine r_bipush dX10_buy_10 (by decide +kernel) ?_
  refine s_callS3r hM (c_X10_in E (by first | with_reducible assumption | with_reducible exact xSt_9 | with_reducible exact xSt_13 | omega) (by first | with_reducible assumption | with_reducible exact xSt_9 | with_reducible exact xSt_13 | omega) (by first | with_reducible assumption | with_reducible exact xSt_9 | with_reducible exact xSt_13 | omega)) cs_X10_in wM_X10_70 (Nat.le_of_ble_eq_true rfl) (by decide) dX10_buy_12 (fun _ => ?_)
  refine r_ifb_ne 21 dX10_buy_15 (by decide) (fun c15 => ?_) (fun c15 => ?_)
  · skip
    obtain ⟨hd1, hT, hG, hNN⟩ := MD_g hD (by omega)
    have hn : 1 ≤ M 209 0 ∧ M 209 0 ≤ 5 := hT.1
    have hN : 1 ≤ M 209 1 ∧ M 209 1 ≤ 6 := hT.2.1
    have hra : 1 ≤ M 209 2 ∧ M 209 2 ≤ 60 := hT.2.2.1
    have hl : 0 ≤ M 210 1 ∧ M 210 1 ≤ 99 := hG.1.2.1
    have hh : 0 ≤ M 210 2 ∧ M 210 2 ≤ 999 := hG.1.2.2.1
    have hpr : 1 ≤ M 210 3 ∧ M 210 3 ≤ 9 := hG.1.2.2.2.1
    have hsd : 0 ≤ M 210 4 ∧ M 210 4 ≤ 63 := hG.1.2.2.2.2.1
    have hwk : 0 ≤ M 210 0 ∧ M 210 0 ≤ 100000 := hG.1.1
    have f5 : M 210 (5 + p).toNat = sk (M 210) 1 p.toNat := iy5 (by omega)
    have f10 : M 210 (10 + p).toNat = sk (M 210) 2 p.toNat := iy10 (by omega)
    have hpu : (0 ≤ sk (M 210) 1 p.toNat ∧ sk (M 210) 1 p.toNat ≤ 99) ∧ (0 ≤ sk (M 210) 2 p.toNat ∧ sk (M 210) 2 p.toNat ≤ 99) := hG.1.2.2.2.2.2.1 p (show 0 ≤ p ∧ p < M 209 0 by omega)
    have hm := mul_b (a := n) (A := 60) (b := M 210 3) (B := 9) (by omega) (by omega)
    refine r_ild2 dX10_buy_21 ?_
    refine r_ald0 dX10_buy_22 ?_
    refine s_getR fi_X10_34 (sh_201) rfl dX10_buy_23 ?_
    refine r_iconst dX10_buy_26 ?_
    refine s_iald hM (sh_210) (by omega) (by decide) dX10_buy_27 (fun g27 => ?_)
    try simp (disch := omega) only [Int.reduceToNat]
    refine r_icmp_gt 66 dX10_buy_28 (by decide) (by omega) (by omega) (fun c28 => ?_) (fun c28 => ?_)
    · skip
      refine r_ldc (-1000002) dX10_buy_66 wC_X10_193 ?_
      exact s_iret hM rfl dX10_buy_68 (by unfold yBuy; first | (rw [if_pos (by omega)]; done) | (rw [if_neg (by omega), if_pos (by omega)]; done) | (rw [if_neg (by omega), if_neg (by omega)]; done)) (by unfold yBuy byM; first | (rw [if_pos (by omega)]; done) | (rw [if_neg (by omega), if_pos (by omega)]; done) | (rw [if_neg (by omega), if_neg (by omega)]; simp (disch := omega) only [re_at]))
    refine r_ild2 dX10_buy_31 ?_
    refine r_ald0 dX10_buy_32 ?_
    refine s_getR fi_X10_34 (sh_201) rfl dX10_buy_33 ?_
    refine r_iconst dX10_buy_36 ?_
    refine s_iald hM (sh_210) (by omega) (by decide) dX10_buy_37 (fun g37 => ?_)
    try simp (disch := omega) only [Int.reduceToNat]
    refine r_imul dX10_buy_38 ?_
    refine r_ald0 dX10_buy_39 ?_
    refine s_getR fi_X10_34 (sh_201) rfl dX10_buy_40 ?_
    refine r_iconst dX10_buy_43 ?_
    refine r_ild1 dX10_buy_44 ?_
    refine r_iadd dX10_buy_45 ?_
    refine s_iald hM (sh_210) (by omega) (by decide) dX10_buy_46 (fun g46 => ?_)
    try simp (disch := omega) only [Int.reduceToNat]
    refine r_icmp_gt 66 dX10_buy_47 (by decide) (by omega) (by omega) (fun c47 => ?_) (fun c47 => ?_)
    · skip
      refine r_ldc (-1000002) dX10_buy_66 wC_X10_193 ?_
      exact s_iret hM rfl dX10_buy_68 (by unfold yBuy; first | (rw [if_pos (by omega)]; done) | (rw [if_neg (by omega), if_pos (by omega)]; done) | (rw [if_neg (by omega), if_neg (by omega)]; done)) (by unfold yBuy byM; first | (rw [if_pos (by omega)]; done) | (rw [if_neg (by omega), if_pos (by omega)]; done) | (rw [if_neg (by omega), if_neg (by omega)]; simp (disch := omega) only [re_at]))
    refine r_ald0 dX10_buy_50 ?_
    refine s_getR fi_X10_34 (sh_201) rfl dX10_buy_51 ?_
    refine r_bipush dX10_buy_54 (by decide +kernel) ?_
    refine r_ild1 dX10_buy_56 ?_
    refine r_iadd dX10_buy_57 ?_
    refine s_iald hM (sh_210) (by omega) (by decide) dX10_buy_58 (fun g58 => ?_)
    try simp (disch := omega) only [Int.reduceToNat]
    refine r_ild2 dX10_buy_59 ?_
    refine r_iadd dX10_buy_60 ?_
    refine r_bipush dX10_buy_61 (by decide +kernel) ?_
    refine r_icmp_le 69 dX10_buy_63 (by decide) (by omega) (by omega) (fun c63 => ?_) (fun c63 => ?_)
    · skip
      refine r_ald0 dX10_buy_69 ?_
      refine s_callV0v hM (c_X10_remember E (by first | with_reducible assumption | with_reducible exact xSt_9 | with_reducible exact xSt_13 | omega) (by first | with_reducible assumption | with_reducible exact xSt_9 | with_reducible exact xSt_13 | omega)) cv_X10_remember wM_X10_198 (sh_201) rfl rfl (Nat.le_of_ble_eq_true rfl) (by decide) dX10_buy_70 (fun hM70 => ?_)
      refine r_ald0 dX10_buy_73 ?_
      refine s_getR fi_X10_34 (sh_201) rfl dX10_buy_74 ?_
      refine r_iconst dX10_buy_77 ?_
      refine r_dup2 dX10_buy_78 rfl rfl ?_
      refine s_iald hM70 (sh_210) (by omega) (by decide) dX10_buy_79 (fun g79 => ?_)
      try simp (disch := omega) only [mS_ne, mS_eq, re_at, Int.reduceToNat]
      refine r_ild2 dX10_buy_80 ?_
      refine r_isub dX10_buy_81 ?_
      refine s_iast hM70 (sh_210) (by omega) (by decide) (by omega) dX10_buy_82 (fun hM82 => ?_)
      refine r_ald0 dX10_buy_83 ?_
      refine s_getR fi_X10_34 (sh_201) rfl dX10_buy_84 ?_
      refine r_iconst dX10_buy_87 ?_
      refine r_ild1 dX10_buy_88 ?_
      refine r_iadd dX10_buy_89 ?_
      refine r_dup2 dX10_buy_90 rfl rfl ?_
      refine s_iald hM82 (sh_210) (by omega) (by decide) dX10_buy_91 (fun g91 => ?_)
      try simp (disch := omega) only [mS_ne, mS_eq, re_at, Int.reduceToNat]
      refine r_ild2 dX10_buy_92 ?_
      refine r_ald0 dX10_buy_93 ?_
      refine s_getR fi_X10_34 (sh_201) rfl dX10_buy_94 ?_
      refine r_iconst dX10_buy_97 ?_
      refine s_iald hM82 (sh_210) (by omega) (by decide) dX10_buy_98 (fun g98 => ?_)
      try simp (disch := omega) only [mS_ne, mS_eq, re_at, Int.reduceToNat]
      refine r_imul dX10_buy_99 ?_
      refine r_isub dX10_buy_100 ?_
      refine s_iast hM82 (sh_210) (by omega) (by decide) (by omega) dX10_buy_101 (fun hM101 => ?_)
      refine r_ald0 dX10_buy_102 ?_
      refine s_getR fi_X10_34 (sh_201) rfl dX10_buy_103 ?_
      refine r_bipush dX10_buy_106 (by decide +kernel) ?_
      refine r_ild1 dX10_buy_108 ?_
      refine r_iadd dX10_buy_109 ?_
      refine r_dup2 dX10_buy_110 rfl rfl ?_
      refine s_iald hM101 (sh_210) (by omega) (by decide) dX10_buy_111 (fun g111 => ?_)
      try simp (disch := omega) only [mS_ne, mS_eq, re_at, Int.reduceToNat]
      refine r_ild2 dX10_buy_112 ?_
      refine r_iadd dX10_buy_113 ?_
      refine s_iast hM101 (sh_210) (by omega) (by decide) (by omega) dX10_buy_114 (fun hM114 => ?_)
      refine r_ald0 dX10_buy_115 ?_
      refine s_getR fi_X10_34 (sh_201) rfl dX10_buy_116 ?_
      refine r_bipush dX10_buy_119 (by decide +kernel) ?_
      refine r_ild1 dX10_buy_121 ?_
      refine r_iadd dX10_buy_122 ?_
      refine s_iald hM114 (sh_210) (by omega) (by decide) dX10_buy_123 (fun g123 => ?_)
      try simp (disch := omega) only [mS_ne, mS_eq, re_at, Int.reduceToNat]
      exact s_iret hM114 rfl dX10_buy_124 (by unfold yBuy; first | (rw [if_pos (by omega)]; done) | (rw [if_neg (by omega), if_pos (by omega)]; done) | (rw [if_neg (by omega), if_neg (by omega)]; done)) (by unfold yBuy byM; first | (rw [if_pos (by omega)]; done) | (rw [if_neg (by omega), if_pos (by omega)]; done) | (rw [if_neg (by omega), if_neg (by omega)]; simp (disch := omega) only [re_at]))
    refine r_ldc (-1000002) dX10_buy_66 wC_X10_193 ?_
    exact s_iret hM rfl dX10_buy_68 (by unfold yBuy; first | (rw [if_pos (by omega)]; done) | (rw [if_neg (by omega), if_pos (by omega)]; done) | (rw [if_neg (by omega), if_neg (by omega)]; done)) (by unfold yBuy byM; first | (rw [if_pos (by omega)]; done) | (rw [if_neg (by omega), if_pos (by omega)]; done) | (rw [if_neg (by omega), if_neg (by omega)]; simp (disch := omega) only [re_at]))
  refine r_ldc (-1000001) dX10_buy_18 wC_X10_78 ?_
  exact s_iret hM rfl dX10_buy_20 (by unfold yBuy; first | (rw [if_pos (by omega)]; done) | (rw [if_neg (by omega), if_pos (by omega)]; done) | (rw [if_neg (by omega), if_neg (by omega)]; done)) (by unfold yBuy byM; first | (rw [if_pos (by omega)]; done) | (rw [if_neg (by omega), if_pos (by omega)]; done) | (rw [if_neg (by omega), if_neg (by omega)]; simp (disch := omega) only [re_at]))
set_option maxHeartbeats 4000000 in
theorem c_X10_letOut (E : xE) {M : xMem} {n : Int} (hn : -2147483648 ≤ n ∧ n < 2147483648) (hD : MD M) (hnx : 0 ≤ M 201 21 ∧ M 201 21 < 24) (hkp : 0 ≤ M 201 20 ∧ M 201 20 ≤ 24) : Ct E mX10_letOut 3 1 [xr E 201, xi n] M (some (xi ((yLet M n).1))) ((yLet M n).2) := by
  refine Ct.of 1 3 (by rfl) (by decide +kernel) (fun hM => ?_)
  show VS E mX10_letOut 1 _ _ 0 [some (xr E 201), some (xi n), none] [] M
  refine r_ald0 dX10_letOut_0 ?_
  refine r_ild1 dX10_letOut_1 ?_
  refine r_iconst dX10_letOut_2 ?_
  refine r_bipush dX10_letOut_3 (by decide +kernel) ?_
  refine s_callS3r hM (c_X10_in E (by first | with_reducible assumption | with_reducible exact xSt_9 | with_reducible exact xSt_13 | omega) (by first | with_reducible assumption | with_reducible exact xSt_9 | with_reducible exact xSt_13 | omega) (by first | with_reducible assumption | with_reducible exact xSt_9 | with_reducible exact xSt_13 | omega)) cs_X10_in wM_X10_70 (Nat.le_of_ble_eq_true rfl) (by decide) dX10_letOut_5 (fun _ => ?_)
  refine s_callV1r hM (c_X10_need E (by first | exact b01 | omega)) cv_X10_need wM_X10_194 (sh_201) rfl rfl (Nat.le_of_ble_eq_true rfl) (by decide) dX10_letOut_8 (fun _ => ?_)
  refine r_ist2 dX10_letOut_11 rfl ?_
  have hnd := need_b M (1 ≤ n ∧ n ≤ 99)
  refine r_ild2 dX10_letOut_12 ?_
  refine r_if_ge 18 dX10_letOut_13 (by decide) (by omega) (fun c13 => ?_) (fun c13 => ?_)
  · skip
    obtain ⟨hd1, hT, hG, hNN⟩ := MD_g hD (by omega)
    have hn : 1 ≤ M 209 0 ∧ M 209 0 ≤ 5 := hT.1
    have hN : 1 ≤ M 209 1 ∧ M 209 1 ≤ 6 := hT.2.1
    have hra : 1 ≤ M 209 2 ∧ M 209 2 ≤ 60 := hT.2.2.1
    have hl : 0 ≤ M 210 1 ∧ M 210 1 ≤ 99 := hG.1.2.1
    have hh : 0 ≤ M 210 2 ∧ M 210 2 ≤ 999 := hG.1.2.2.1
    have hpr : 1 ≤ M 210 3 ∧ M 210 3 ≤ 9 := hG.1.2.2.2.1
    have hsd : 0 ≤ M 210 4 ∧ M 210 4 ≤ 63 := hG.1.2.2.2.2.1
    have hwk : 0 ≤ M 210 0 ∧ M 210 0 ≤ 100000 := hG.1.1
    refine r_ild1 dX10_letOut_18 ?_
    refine r_ald0 dX10_letOut_19 ?_
    refine s_getR fi_X10_34 (sh_201) rfl dX10_letOut_20 ?_
    refine r_iconst dX10_letOut_23 ?_
    refine s_iald hM (sh_210) (by omega) (by decide) dX10_letOut_24 (fun g24 => ?_)
    try simp (disch := omega) only [Int.reduceToNat]
    refine r_icmp_gt 41 dX10_letOut_25 (by decide) (by omega) (by omega) (fun c25 => ?_) (fun c25 => ?_)
    · skip
      refine r_ldc (-1000002) dX10_letOut_41 wC_X10_193 ?_
      exact s_iret hM rfl dX10_letOut_43 (by unfold yLet ; (repeat' split) <;> first | rfl | omega | (exfalso; omega)) (by unfold yLet ; (repeat' split) <;> first | rfl | omega | (exfalso; omega))
    refine r_ald0 dX10_letOut_28 ?_
    refine s_getR fi_X10_34 (sh_201) rfl dX10_letOut_29 ?_
    refine r_iconst dX10_letOut_32 ?_
    refine s_iald hM (sh_210) (by omega) (by decide) dX10_letOut_33 (fun g33 => ?_)
    try simp (disch := omega) only [Int.reduceToNat]
    refine r_ild1 dX10_letOut_34 ?_
    refine r_iadd dX10_letOut_35 ?_
    refine r_bipush dX10_letOut_36 (by decide +kernel) ?_
    refine r_icmp_le 44 dX10_letOut_38 (by decide) (by omega) (by omega) (fun c38 => ?_) (fun c38 => ?_)
    · skip
      refine r_ald0 dX10_letOut_44 ?_
      refine s_callV0v hM (c_X10_remember E (by first | with_reducible assumption | with_reducible exact xSt_9 | with_reducible exact xSt_13 | omega) (by first | with_reducible assumption | with_reducible exact xSt_9 | with_reducible exact xSt_13 | omega)) cv_X10_remember wM_X10_198 (sh_201) rfl rfl (Nat.le_of_ble_eq_true rfl) (by decide) dX10_letOut_45 (fun hM45 => ?_)
      refine r_ald0 dX10_letOut_48 ?_
      refine s_getR fi_X10_34 (sh_201) rfl dX10_letOut_49 ?_
      refine r_iconst dX10_letOut_52 ?_
      refine r_dup2 dX10_letOut_53 rfl rfl ?_
      refine s_iald hM45 (sh_210) (by omega) (by decide) dX10_letOut_54 (fun g54 => ?_)
      try simp (disch := omega) only [mS_ne, mS_eq, re_at, Int.reduceToNat]
      refine r_ild1 dX10_letOut_55 ?_
      refine r_isub dX10_letOut_56 ?_
      refine s_iast hM45 (sh_210) (by omega) (by decide) (by omega) dX10_letOut_57 (fun hM57 => ?_)
      refine r_ald0 dX10_letOut_58 ?_
      refine s_getR fi_X10_34 (sh_201) rfl dX10_letOut_59 ?_
      refine r_iconst dX10_letOut_62 ?_
      refine r_dup2 dX10_letOut_63 rfl rfl ?_
      refine s_iald hM57 (sh_210) (by omega) (by decide) dX10_letOut_64 (fun g64 => ?_)
      try simp (disch := omega) only [mS_ne, mS_eq, re_at, Int.reduceToNat]
      refine r_ild1 dX10_letOut_65 ?_
      refine r_iadd dX10_letOut_66 ?_
      refine s_iast hM57 (sh_210) (by omega) (by decide) (by omega) dX10_letOut_67 (fun hM67 => ?_)
      refine r_ald0 dX10_letOut_68 ?_
      refine s_getR fi_X10_34 (sh_201) rfl dX10_letOut_69 ?_
      refine r_iconst dX10_letOut_72 ?_
      refine s_iald hM67 (sh_210) (by omega) (by decide) dX10_letOut_73 (fun g73 => ?_)
      try simp (disch := omega) only [mS_ne, mS_eq, re_at, Int.reduceToNat]
      exact s_iret hM67 rfl dX10_letOut_74 (by unfold yLet ; (repeat' split) <;> first | rfl | omega | (exfalso; omega)) (by unfold yLet ; (repeat' split) <;> first | rfl | omega | (exfalso; omega))
    refine r_ldc (-1000002) dX10_letOut_41 wC_X10_193 ?_
    exact s_iret hM rfl dX10_letOut_43 (by unfold yLet ; (repeat' split) <;> first | rfl | omega | (exfalso; omega)) (by unfold yLet ; (repeat' split) <;> first | rfl | omega | (exfalso; omega))
  refine r_ild2 dX10_letOut_16 ?_
  exact s_iret hM rfl dX10_letOut_17 (by unfold yLet ; (repeat' split) <;> first | rfl | omega | (exfalso; omega)) (by unfold yLet ; (repeat' split) <;> first | rfl | omega | (exfalso; omega))
set_option maxHeartbeats 4000000 in
theorem c_X10_price (E : xE) {M : xMem} {v : Int} (hv : -2147483648 ≤ v ∧ v < 2147483648) (hD : MD M) (hnx : 0 ≤ M 201 21 ∧ M 201 21 < 24) (hkp : 0 ≤ M 201 20 ∧ M 201 20 ≤ 24) : Ct E mX10_price 4 1 [xr E 201, xi v] M (some (xi ((yPrice M v).1))) ((yPrice M v).2) := by
  refine Ct.of 2 4 (by rfl) (by decide +kernel) (fun hM => ?_)
  show VS E mX10_price 1 _ _ 0 [some (xr E 201), some (xi v), none, none] [] M
  refine r_ald0 dX10_price_0 ?_
  refine r_ild1 dX10_price_1 ?_
  refine r_iconst dX10_price_2 ?_
  refine r_bipush dX10_price_3 (by decide +kernel) ?_
  refine s_callS3r hM (c_X10_in E (by first | with_reducible assumption | with_reducible exact xSt_9 | with_reducible exact xSt_13 | omega) (by first | with_reducible assumption | with_reducible exact xSt_9 | with_reducible exact xSt_13 | omega) (by first | with_reducible assumption | with_reducible exact xSt_9 | with_reducible exact xSt_13 | omega)) cs_X10_in wM_X10_70 (Nat.le_of_ble_eq_true rfl) (by decide) dX10_price_5 (fun _ => ?_)
  refine s_callV1r hM (c_X10_need E (by first | exact b01 | omega)) cv_X10_need wM_X10_194 (sh_201) rfl rfl (Nat.le_of_ble_eq_true rfl) (by decide) dX10_price_8 (fun _ => ?_)
  refine r_ist2 dX10_price_11 rfl ?_
  have hnd := need_b M (1 ≤ v ∧ v ≤ 9)
  refine r_ild2 dX10_price_12 ?_
  refine r_if_ge 18 dX10_price_13 (by decide) (by omega) (fun c13 => ?_) (fun c13 => ?_)
  · skip
    obtain ⟨hd1, hT, hG, hNN⟩ := MD_g hD (by omega)
    have hn : 1 ≤ M 209 0 ∧ M 209 0 ≤ 5 := hT.1
    have hN : 1 ≤ M 209 1 ∧ M 209 1 ≤ 6 := hT.2.1
    have hra : 1 ≤ M 209 2 ∧ M 209 2 ≤ 60 := hT.2.2.1
    have hl : 0 ≤ M 210 1 ∧ M 210 1 ≤ 99 := hG.1.2.1
    have hh : 0 ≤ M 210 2 ∧ M 210 2 ≤ 999 := hG.1.2.2.1
    have hpr : 1 ≤ M 210 3 ∧ M 210 3 ≤ 9 := hG.1.2.2.2.1
    have hsd : 0 ≤ M 210 4 ∧ M 210 4 ≤ 63 := hG.1.2.2.2.2.1
    have hwk : 0 ≤ M 210 0 ∧ M 210 0 ≤ 100000 := hG.1.1
    refine r_ald0 dX10_price_18 ?_
    refine s_callV0v hM (c_X10_remember E (by first | with_reducible assumption | with_reducible exact xSt_9 | with_reducible exact xSt_13 | omega) (by first | with_reducible assumption | with_reducible exact xSt_9 | with_reducible exact xSt_13 | omega)) cv_X10_remember wM_X10_198 (sh_201) rfl rfl (Nat.le_of_ble_eq_true rfl) (by decide) dX10_price_19 (fun hM19 => ?_)
    refine r_ald0 dX10_price_22 ?_
    refine s_getR fi_X10_34 (sh_201) rfl dX10_price_23 ?_
    refine r_iconst dX10_price_26 ?_
    refine s_iald hM19 (sh_210) (by omega) (by decide) dX10_price_27 (fun g27 => ?_)
    try simp (disch := omega) only [mS_ne, mS_eq, re_at, Int.reduceToNat]
    refine r_ist3 dX10_price_28 rfl ?_
    refine r_ald0 dX10_price_29 ?_
    refine s_getR fi_X10_34 (sh_201) rfl dX10_price_30 ?_
    refine r_iconst dX10_price_33 ?_
    refine r_ild1 dX10_price_34 ?_
    refine s_iast hM19 (sh_210) (by omega) (by decide) (by omega) dX10_price_35 (fun hM35 => ?_)
    refine r_ild3 dX10_price_36 ?_
    exact s_iret hM35 rfl dX10_price_37 (by unfold yPrice ; (repeat' split) <;> first | rfl | omega | (exfalso; omega)) (by unfold yPrice ; (repeat' split) <;> first | rfl | omega | (exfalso; omega))
  refine r_ild2 dX10_price_16 ?_
  exact s_iret hM rfl dX10_price_17 (by unfold yPrice ; (repeat' split) <;> first | rfl | omega | (exfalso; omega)) (by unfold yPrice ; (repeat' split) <;> first | rfl | omega | (exfalso; omega))
set_option maxHeartbeats 4000000 in
theorem c_X10_speech (E : xE) {M : xMem} {s w : Int} (hs : -2147483648 ≤ s ∧ s < 2147483648) (hw : -2147483648 ≤ w ∧ w < 2147483648) (hD : MD M) : Ct E mX10_speech 3 4 [xr E 201, xi s, xi w] M (some (xi (gSpeech (tg (M 209)) (sk (M 210)) s w))) (M) := by
  refine Ct.of 0 3 (by rfl) (by decide +kernel) (fun hM => ?_)
  have hmn := MD_n hD
  have eg : gSpeech (tg (M 209)) (sk (M 210)) s w = if ¬ (0 ≤ s ∧ s < M 209 1) then -1000001 else if w = 0 then tg (M 209) 3 s.toNat else if w = 1 then tg (M 209) 4 s.toNat else if w = 2 then (if tg (M 209) 5 s.toNat = s then -1000000 else tg (M 209) 5 s.toNat) else if w = 3 then wordsT (tg (M 209)) s else if w = 4 then crnT (tg (M 209)) (sk (M 210)) s else if w = 5 then b2i (canT (tg (M 209)) (sk (M 210)) s) else if w = 6 then sk (M 210) 3 s.toNat else if w = 7 then understT (tg (M 209)) (sk (M 210)) s else if w = 8 then b2i (bitI (M 210 4) s = 1) else -1000001 := rfl
  show VS E mX10_speech 4 _ _ 0 [some (xr E 201), some (xi s), some (xi w)] [] M
  refine r_ald0 dX10_speech_0 ?_
  refine r_ild1 dX10_speech_1 ?_
  refine s_callV1r hM (c_X10_isSpeech E (by first | with_reducible assumption | with_reducible exact xSt_9 | with_reducible exact xSt_13 | omega) (by first | with_reducible assumption | with_reducible exact xSt_9 | with_reducible exact xSt_13 | omega)) cv_X10_isSpeech wM_X10_205 (sh_201) rfl rfl (Nat.le_of_ble_eq_true rfl) (by decide) dX10_speech_2 (fun _ => ?_)
  refine r_ifb_ne 11 dX10_speech_5 (by decide) (fun c5 => ?_) (fun c5 => ?_)
  · skip
    obtain ⟨hd1, hT, hG, hNN⟩ := MD_g hD (by omega)
    have hn : 1 ≤ M 209 0 ∧ M 209 0 ≤ 5 := hT.1
    have hN : 1 ≤ M 209 1 ∧ M 209 1 ≤ 6 := hT.2.1
    have hra : 1 ≤ M 209 2 ∧ M 209 2 ≤ 60 := hT.2.2.1
    have hq : (1 ≤ tg (M 209) 2 s.toNat ∧ tg (M 209) 2 s.toNat ≤ 5) ∧ (0 ≤ tg (M 209) 3 s.toNat ∧ tg (M 209) 3 s.toNat < M 209 0) ∧ (1 ≤ tg (M 209) 4 s.toNat ∧ tg (M 209) 4 s.toNat ≤ 30) ∧ (0 ≤ tg (M 209) 5 s.toNat ∧ tg (M 209) 5 s.toNat ≤ s) := hT.2.2.2.2 s (show 0 ≤ s ∧ s < M 209 1 by omega)
    have e8 : M 209 (8 + s).toNat = tg (M 209) 2 s.toNat := ix8 (by omega)
    have e14 : M 209 (14 + s).toNat = tg (M 209) 3 s.toNat := ix14 (by omega)
    have e20 : M 209 (20 + s).toNat = tg (M 209) 4 s.toNat := ix20 (by omega)
    have f15 : M 210 (15 + s).toNat = sk (M 210) 3 s.toNat := iy15 (by omega)
    have e26 : M 209 (26 + s).toNat = M 209 (26 + s.toNat) := ix26 (by omega)
    have hnn := hNN s (by omega)
    have e5 : tg (M 209) 5 s.toNat = if M 209 (26 + s.toNat) = -1000000 then (s.toNat : Int) else M 209 (26 + s.toNat) := rfl
    have hl : 0 ≤ M 210 1 ∧ M 210 1 ≤ 99 := hG.1.2.1
    have hh : 0 ≤ M 210 2 ∧ M 210 2 ≤ 999 := hG.1.2.2.1
    have hpr : 1 ≤ M 210 3 ∧ M 210 3 ≤ 9 := hG.1.2.2.2.1
    have hsd : 0 ≤ M 210 4 ∧ M 210 4 ≤ 63 := hG.1.2.2.2.2.1
    have hwk : 0 ≤ M 210 0 ∧ M 210 0 ≤ 100000 := hG.1.1
    have hp2 := p2_b (n := s) (by omega)
    have hdv := div_b (a := M 210 4) (A := 63) (b := 2 ^ s.toNat) (by omega) hp2.1
    refine r_ild2 dX10_speech_11 ?_
    by_cases c12 : 0 ≤ w ∧ w ≤ 8
    · skip
      rcases (show w = 0 ∨ w = 1 ∨ w = 2 ∨ w = 3 ∨ w = 4 ∨ w = 5 ∨ w = 6 ∨ w = 7 ∨ w = 8 by omega) with c12v | c12v | c12v | c12v | c12v | c12v | c12v | c12v | c12v
      · skip
        refine r_tabIn 64 dX10_speech_12 (by omega) (by omega) (by rw [c12v]; rfl) (by decide) ?_
        refine r_ald0 dX10_speech_64 ?_
        refine s_getR fi_X10_31 (sh_201) rfl dX10_speech_65 ?_
        refine r_bipush dX10_speech_68 (by decide +kernel) ?_
        refine r_ild1 dX10_speech_70 ?_
        refine r_iadd dX10_speech_71 ?_
        refine s_iald hM (sh_209) (by omega) (by decide) dX10_speech_72 (fun g72 => ?_)
        try simp (disch := omega) only [e8, e14, e20, e26, f15, Int.reduceToNat]
        exact s_iret hM rfl dX10_speech_73 (by rw [eg]; first | (rw [if_pos (by omega)]; done) | (rw [if_neg (by omega)]; (repeat' split) <;> first | rfl | omega | (exfalso; omega) | exact (b2i_t (by assumption)).symm | exact (b2i_f (by assumption)).symm | (rename_i hx; rw [e5] at *; split at * <;> omega) | (have hbb := bitI_b (x := M 210 4) (s := s); unfold b2i; show bitI (M 210 4) s = _; split <;> omega))) (by rfl)
      · skip
        refine r_tabIn 74 dX10_speech_12 (by omega) (by omega) (by rw [c12v]; rfl) (by decide) ?_
        refine r_ald0 dX10_speech_74 ?_
        refine s_getR fi_X10_31 (sh_201) rfl dX10_speech_75 ?_
        refine r_bipush dX10_speech_78 (by decide +kernel) ?_
        refine r_ild1 dX10_speech_80 ?_
        refine r_iadd dX10_speech_81 ?_
        refine s_iald hM (sh_209) (by omega) (by decide) dX10_speech_82 (fun g82 => ?_)
        try simp (disch := omega) only [e8, e14, e20, e26, f15, Int.reduceToNat]
        exact s_iret hM rfl dX10_speech_83 (by rw [eg]; first | (rw [if_pos (by omega)]; done) | (rw [if_neg (by omega)]; (repeat' split) <;> first | rfl | omega | (exfalso; omega) | exact (b2i_t (by assumption)).symm | exact (b2i_f (by assumption)).symm | (rename_i hx; rw [e5] at *; split at * <;> omega) | (have hbb := bitI_b (x := M 210 4) (s := s); unfold b2i; show bitI (M 210 4) s = _; split <;> omega))) (by rfl)
      · skip
        refine r_tabIn 84 dX10_speech_12 (by omega) (by omega) (by rw [c12v]; rfl) (by decide) ?_
        refine r_ald0 dX10_speech_84 ?_
        refine s_getR fi_X10_31 (sh_201) rfl dX10_speech_85 ?_
        refine r_bipush dX10_speech_88 (by decide +kernel) ?_
        refine r_ild1 dX10_speech_90 ?_
        refine r_iadd dX10_speech_91 ?_
        refine s_iald hM (sh_209) (by omega) (by decide) dX10_speech_92 (fun g92 => ?_)
        try simp (disch := omega) only [e8, e14, e20, e26, f15, Int.reduceToNat]
        exact s_iret hM rfl dX10_speech_93 (by rw [eg]; first | (rw [if_pos (by omega)]; done) | (rw [if_neg (by omega)]; (repeat' split) <;> first | rfl | omega | (exfalso; omega) | exact (b2i_t (by assumption)).symm | exact (b2i_f (by assumption)).symm | (rename_i hx; rw [e5] at *; split at * <;> omega) | (have hbb := bitI_b (x := M 210 4) (s := s); unfold b2i; show bitI (M 210 4) s = _; split <;> omega))) (by rfl)
      · skip
        refine r_tabIn 94 dX10_speech_12 (by omega) (by omega) (by rw [c12v]; rfl) (by decide) ?_
        refine r_ald0 dX10_speech_94 ?_
        refine r_ild1 dX10_speech_95 ?_
        refine s_callV1r hM (c_X10_words E (by exact hT) (by omega)) cv_X10_words wM_X10_158 (sh_201) rfl rfl (Nat.le_of_ble_eq_true rfl) (by decide) dX10_speech_96 (fun _ => ?_)
        exact s_iret hM rfl dX10_speech_99 (by rw [eg]; first | (rw [if_pos (by omega)]; done) | (rw [if_neg (by omega)]; (repeat' split) <;> first | rfl | omega | (exfalso; omega) | exact (b2i_t (by assumption)).symm | exact (b2i_f (by assumption)).symm | (rename_i hx; rw [e5] at *; split at * <;> omega) | (have hbb := bitI_b (x := M 210 4) (s := s); unfold b2i; show bitI (M 210 4) s = _; split <;> omega))) (by rfl)
      · skip
        refine r_tabIn 100 dX10_speech_12 (by omega) (by omega) (by rw [c12v]; rfl) (by decide) ?_
        refine r_ald0 dX10_speech_100 ?_
        refine r_ald0 dX10_speech_101 ?_
        refine s_getR fi_X10_34 (sh_201) rfl dX10_speech_102 ?_
        refine r_ild1 dX10_speech_105 ?_
        refine s_callV2r hM (c_X10_costs E (by exact sh_210) (by exact hT) (by exact hG.1) (by omega)) cv_X10_costs wM_X10_169 (sh_201) rfl rfl (Nat.le_of_ble_eq_true rfl) (by decide) dX10_speech_106 (fun _ => ?_)
        exact s_iret hM rfl dX10_speech_109 (by rw [eg]; first | (rw [if_pos (by omega)]; done) | (rw [if_neg (by omega)]; (repeat' split) <;> first | rfl | omega | (exfalso; omega) | exact (b2i_t (by assumption)).symm | exact (b2i_f (by assumption)).symm | (rename_i hx; rw [e5] at *; split at * <;> omega) | (have hbb := bitI_b (x := M 210 4) (s := s); unfold b2i; show bitI (M 210 4) s = _; split <;> omega))) (by rfl)
      · skip
        refine r_tabIn 110 dX10_speech_12 (by omega) (by omega) (by rw [c12v]; rfl) (by decide) ?_
        refine r_ald0 dX10_speech_110 ?_
        refine r_ald0 dX10_speech_111 ?_
        refine s_getR fi_X10_34 (sh_201) rfl dX10_speech_112 ?_
        refine r_ild1 dX10_speech_115 ?_
        refine s_callV2r hM (c_X10_can E (by exact sh_210) (by exact hT) (by exact hG.1) (by omega)) cv_X10_can wM_X10_208 (sh_201) rfl rfl (Nat.le_of_ble_eq_true rfl) (by decide) dX10_speech_116 (fun _ => ?_)
        refine r_ifb_eq 126 dX10_speech_119 (by decide) (fun c119 => ?_) (fun c119 => ?_)
        · skip
          refine r_iconst dX10_speech_126 ?_
          exact s_iret hM rfl dX10_speech_127 (by rw [eg]; first | (rw [if_pos (by omega)]; done) | (rw [if_neg (by omega)]; (repeat' split) <;> first | rfl | omega | (exfalso; omega) | exact (b2i_t (by assumption)).symm | exact (b2i_f (by assumption)).symm | (rename_i hx; rw [e5] at *; split at * <;> omega) | (have hbb := bitI_b (x := M 210 4) (s := s); unfold b2i; show bitI (M 210 4) s = _; split <;> omega))) (by rfl)
        refine r_iconst dX10_speech_122 ?_
        refine r_goto 127 dX10_speech_123 (by decide) ?_
        exact s_iret hM rfl dX10_speech_127 (by rw [eg]; first | (rw [if_pos (by omega)]; done) | (rw [if_neg (by omega)]; (repeat' split) <;> first | rfl | omega | (exfalso; omega) | exact (b2i_t (by assumption)).symm | exact (b2i_f (by assumption)).symm | (rename_i hx; rw [e5] at *; split at * <;> omega) | (have hbb := bitI_b (x := M 210 4) (s := s); unfold b2i; show bitI (M 210 4) s = _; split <;> omega))) (by rfl)
      · skip
        refine r_tabIn 128 dX10_speech_12 (by omega) (by omega) (by rw [c12v]; rfl) (by decide) ?_
        refine r_ald0 dX10_speech_128 ?_
        refine s_getR fi_X10_34 (sh_201) rfl dX10_speech_129 ?_
        refine r_bipush dX10_speech_132 (by decide +kernel) ?_
        refine r_ild1 dX10_speech_134 ?_
        refine r_iadd dX10_speech_135 ?_
        refine s_iald hM (sh_210) (by omega) (by decide) dX10_speech_136 (fun g136 => ?_)
        try simp (disch := omega) only [e8, e14, e20, e26, f15, Int.reduceToNat]
        exact s_iret hM rfl dX10_speech_137 (by rw [eg]; first | (rw [if_pos (by omega)]; done) | (rw [if_neg (by omega)]; (repeat' split) <;> first | rfl | omega | (exfalso; omega) | exact (b2i_t (by assumption)).symm | exact (b2i_f (by assumption)).symm | (rename_i hx; rw [e5] at *; split at * <;> omega) | (have hbb := bitI_b (x := M 210 4) (s := s); unfold b2i; show bitI (M 210 4) s = _; split <;> omega))) (by rfl)
      · skip
        refine r_tabIn 138 dX10_speech_12 (by omega) (by omega) (by rw [c12v]; rfl) (by decide) ?_
        refine r_ald0 dX10_speech_138 ?_
        refine r_ald0 dX10_speech_139 ?_
        refine s_getR fi_X10_34 (sh_201) rfl dX10_speech_140 ?_
        refine r_ild1 dX10_speech_143 ?_
        refine s_callV2r hM (c_X10_clearTo E (by exact sh_210) (by exact hT) (by exact hG.1) (by omega) (by exact hNN)) cv_X10_clearTo wM_X10_218 (sh_201) rfl rfl (Nat.le_of_ble_eq_true rfl) (by decide) dX10_speech_144 (fun _ => ?_)
        exact s_iret hM rfl dX10_speech_147 (by rw [eg]; first | (rw [if_pos (by omega)]; done) | (rw [if_neg (by omega)]; (repeat' split) <;> first | rfl | omega | (exfalso; omega) | exact (b2i_t (by assumption)).symm | exact (b2i_f (by assumption)).symm | (rename_i hx; rw [e5] at *; split at * <;> omega) | (have hbb := bitI_b (x := M 210 4) (s := s); unfold b2i; show bitI (M 210 4) s = _; split <;> omega))) (by rfl)
      · skip
        refine r_tabIn 148 dX10_speech_12 (by omega) (by omega) (by rw [c12v]; rfl) (by decide) ?_
        refine r_ald0 dX10_speech_148 ?_
        refine s_getR fi_X10_34 (sh_201) rfl dX10_speech_149 ?_
        refine r_iconst dX10_speech_152 ?_
        refine s_iald hM (sh_210) (by omega) (by decide) dX10_speech_153 (fun g153 => ?_)
        try simp (disch := omega) only [e8, e14, e20, e26, f15, Int.reduceToNat]
        refine r_ild1 dX10_speech_154 ?_
        refine r_ishr dX10_speech_155 (by omega) (by omega) ?_
        refine r_iconst dX10_speech_156 ?_
        refine r_iand dX10_speech_157 (by omega) (by omega) (fun g157 => ?_)
        exact s_iret hM rfl dX10_speech_158 (by rw [eg]; first | (rw [if_pos (by omega)]; done) | (rw [if_neg (by omega)]; (repeat' split) <;> first | rfl | omega | (exfalso; omega) | exact (b2i_t (by assumption)).symm | exact (b2i_f (by assumption)).symm | (rename_i hx; rw [e5] at *; split at * <;> omega) | (have hbb := bitI_b (x := M 210 4) (s := s); unfold b2i; show bitI (M 210 4) s = _; split <;> omega))) (by rfl)
    refine r_tabOut 159 dX10_speech_12 (by omega) (by omega) (by decide) ?_
    refine r_ldc (-1000001) dX10_speech_159 wC_X10_78 ?_
    exact s_iret hM rfl dX10_speech_161 (by rw [eg]; first | (rw [if_pos (by omega)]; done) | (rw [if_neg (by omega)]; (repeat' split) <;> first | rfl | omega | (exfalso; omega) | exact (b2i_t (by assumption)).symm | exact (b2i_f (by assumption)).symm | (rename_i hx; rw [e5] at *; split at * <;> omega) | (have hbb := bitI_b (x := M 210 4) (s := s); unfold b2i; show bitI (M 210 4) s = _; split <;> omega))) (by rfl)
  refine r_ldc (-1000001) dX10_speech_8 wC_X10_78 ?_
  exact s_iret hM rfl dX10_speech_10 (by rw [eg]; first | (rw [if_pos (by omega)]; done) | (rw [if_neg (by omega)]; (repeat' split) <;> first | rfl | omega | (exfalso; omega) | exact (b2i_t (by assumption)).symm | exact (b2i_f (by assumption)).symm | (rename_i hx; rw [e5] at *; split at * <;> omega) | (have hbb := bitI_b (x := M 210 4) (s := s); unfold b2i; show bitI (M 210 4) s = _; split <;> omega))) (by rfl)
set_option maxHeartbeats 4000000 in
theorem c_X10_person (E : xE) {M : xMem} {p w : Int} (hp : -2147483648 ≤ p ∧ p < 2147483648) (hw : -2147483648 ≤ w ∧ w < 2147483648) (hD : MD M) : Ct E mX10_person 6 2 [xr E 201, xi p, xi w] M (some (xi (gPerson (tg (M 209)) (sk (M 210)) p w))) (M) := by
  refine Ct.of 3 6 (by rfl) (by decide +kernel) (fun hM => ?_)
  have hmn := MD_n hD
  have eg : gPerson (tg (M 209)) (sk (M 210)) p w = if ¬ (0 ≤ p ∧ p < M 209 0) then -1000001 else if w = 0 then sk (M 210) 1 p.toNat else if w = 1 then tg (M 209) 1 p.toNat else if w = 2 then sk (M 210) 2 p.toNat else if w = 3 then knownToT (tg (M 209)) (sk (M 210)) p else if w = 4 then undByT (tg (M 209)) (sk (M 210)) (1 * 2 ^ p.toNat) else -1000001 := rfl
  show VS E mX10_person 2 _ _ 0 [some (xr E 201), some (xi p), some (xi w), none, none, none] [] M
  have L28 : ∀ (fu : Nat) (a b s : Int), ((0 ≤ p ∧ p < M 209 0) ∧ (0 ≤ w ∧ w ≤ 4)) → (TI (tg (M 209))) → (GI (tg (M 209)) (sk (M 210)) 999) → (NN (M 209)) → (0 ≤ s ∧ s ≤ M 209 1) → (0 ≤ a ∧ a ≤ 63) → (0 ≤ b ∧ b ≤ 63) → (foldI (fun s a => xor2 a (bitI (sk (M 210) 3 s.toNat) p * 2 ^ s.toNat)) (M 209 1 - s).toNat s a = knownToT (tg (M 209)) (sk (M 210)) p) → (foldI (fun s a => if xand (understT (tg (M 209)) (sk (M 210)) s) (1 * 2 ^ p.toNat) = 1 * 2 ^ p.toNat then xor2 a (1 * 2 ^ s.toNat) else a) (M 209 1 - s).toNat s b = undByT (tg (M 209)) (sk (M 210)) (1 * 2 ^ p.toNat)) → (M 209 1 - s).toNat < fu → VS E mX10_person 2 (some (xi (gPerson (tg (M 209)) (sk (M 210)) p w))) (M) 28 [some (xr E 201), some (xi p), some (xi w), some (xi a), some (xi b), some (xi s)] [] M := by
    intro fu
    induction fu with
    | zero => intro a b s  hpw hT hG hNN hb ha hbb hi hj hme; exact absurd hme (Nat.not_lt_zero _)
    | succ fu ih =>
      intro a b s  hpw hT hG hNN hb ha hbb hi hj hme
      have hn : 1 ≤ M 209 0 ∧ M 209 0 ≤ 5 := hT.1
      have hN : 1 ≤ M 209 1 ∧ M 209 1 ≤ 6 := hT.2.1
      have hra : 1 ≤ M 209 2 ∧ M 209 2 ≤ 60 := hT.2.2.1
      have f5 : M 210 (5 + p).toNat = sk (M 210) 1 p.toNat := iy5 (by omega)
      have f10 : M 210 (10 + p).toNat = sk (M 210) 2 p.toNat := iy10 (by omega)
      have hpu : (0 ≤ sk (M 210) 1 p.toNat ∧ sk (M 210) 1 p.toNat ≤ 99) ∧ (0 ≤ sk (M 210) 2 p.toNat ∧ sk (M 210) 2 p.toNat ≤ 99) := hG.1.2.2.2.2.2.1 p (show 0 ≤ p ∧ p < M 209 0 by omega)
      have e3 : M 209 (3 + p).toNat = tg (M 209) 1 p.toNat := ix3 (by omega)
      refine r_ild5 dX10_person_28 ?_
      refine r_ald0 dX10_person_30 ?_
      refine s_getR fi_X10_31 (sh_201) rfl dX10_person_31 ?_
      refine r_iconst dX10_person_34 ?_
      refine s_iald hM (sh_209) (by omega) (by decide) dX10_person_35 (fun g35 => ?_)
      try simp (disch := omega) only [Int.reduceToNat]
      refine r_icmp_ge 103 dX10_person_36 (by decide) (by omega) (by omega) (fun c36 => ?_) (fun c36 => ?_)
      · skip
        refine r_ild2 dX10_person_103 ?_
        refine r_if_ne 118 dX10_person_104 (by decide) (by omega) (fun c104 => ?_) (fun c104 => ?_)
        · skip
          refine r_ild2 dX10_person_118 ?_
          refine r_iconst dX10_person_119 ?_
          refine r_icmp_ne 134 dX10_person_120 (by decide) (by omega) (by omega) (fun c120 => ?_) (fun c120 => ?_)
          · skip
            refine r_ild2 dX10_person_134 ?_
            refine r_iconst dX10_person_135 ?_
            refine r_icmp_ne 151 dX10_person_136 (by decide) (by omega) (by omega) (fun c136 => ?_) (fun c136 => ?_)
            · skip
              refine r_ild2 dX10_person_151 ?_
              refine r_iconst dX10_person_152 ?_
              refine r_icmp_ne 160 dX10_person_153 (by decide) (by omega) (by omega) (fun c153 => ?_) (fun c153 => ?_)
              · skip
                refine r_ild4 dX10_person_160 ?_
                exact s_iret hM rfl dX10_person_162 (by rw [eg]; first | (rw [if_pos (by omega)]; done) | (rw [if_neg (by omega)]; (repeat' split) <;> first | rfl | omega | exact (foldI_end (by omega)).symm.trans hi | exact (foldI_end (by omega)).symm.trans hj | (exfalso; omega)) | (unfold gPerson; (repeat' split) <;> first | rfl | (exfalso; omega))) (by rfl)
              refine r_ild3 dX10_person_156 ?_
              refine r_goto 162 dX10_person_157 (by decide) ?_
              exact s_iret hM rfl dX10_person_162 (by rw [eg]; first | (rw [if_pos (by omega)]; done) | (rw [if_neg (by omega)]; (repeat' split) <;> first | rfl | omega | exact (foldI_end (by omega)).symm.trans hi | exact (foldI_end (by omega)).symm.trans hj | (exfalso; omega)) | (unfold gPerson; (repeat' split) <;> first | rfl | (exfalso; omega))) (by rfl)
            refine r_ald0 dX10_person_139 ?_
            refine s_getR fi_X10_34 (sh_201) rfl dX10_person_140 ?_
            refine r_bipush dX10_person_143 (by decide +kernel) ?_
            refine r_ild1 dX10_person_145 ?_
            refine r_iadd dX10_person_146 ?_
            refine s_iald hM (sh_210) (by omega) (by decide) dX10_person_147 (fun g147 => ?_)
            try simp (disch := omega) only [Int.reduceToNat]
            try simp only [f10]
            refine r_goto 162 dX10_person_148 (by decide) ?_
            exact s_iret hM rfl dX10_person_162 (by rw [eg]; first | (rw [if_pos (by omega)]; done) | (rw [if_neg (by omega)]; (repeat' split) <;> first | rfl | omega | exact (foldI_end (by omega)).symm.trans hi | exact (foldI_end (by omega)).symm.trans hj | (exfalso; omega)) | (unfold gPerson; (repeat' split) <;> first | rfl | (exfalso; omega))) (by rfl)
          refine r_ald0 dX10_person_123 ?_
          refine s_getR fi_X10_31 (sh_201) rfl dX10_person_124 ?_
          refine r_iconst dX10_person_127 ?_
          refine r_ild1 dX10_person_128 ?_
          refine r_iadd dX10_person_129 ?_
          refine s_iald hM (sh_209) (by omega) (by decide) dX10_person_130 (fun g130 => ?_)
          try simp (disch := omega) only [Int.reduceToNat]
          try simp only [e3]
          refine r_goto 162 dX10_person_131 (by decide) ?_
          exact s_iret hM rfl dX10_person_162 (by rw [eg]; first | (rw [if_pos (by omega)]; done) | (rw [if_neg (by omega)]; (repeat' split) <;> first | rfl | omega | exact (foldI_end (by omega)).symm.trans hi | exact (foldI_end (by omega)).symm.trans hj | (exfalso; omega)) | (unfold gPerson; (repeat' split) <;> first | rfl | (exfalso; omega))) (by rfl)
        refine r_ald0 dX10_person_107 ?_
        refine s_getR fi_X10_34 (sh_201) rfl dX10_person_108 ?_
        refine r_iconst dX10_person_111 ?_
        refine r_ild1 dX10_person_112 ?_
        refine r_iadd dX10_person_113 ?_
        refine s_iald hM (sh_210) (by omega) (by decide) dX10_person_114 (fun g114 => ?_)
        try simp (disch := omega) only [Int.reduceToNat]
        try simp only [f5]
        refine r_goto 162 dX10_person_115 (by decide) ?_
        exact s_iret hM rfl dX10_person_162 (by rw [eg]; first | (rw [if_pos (by omega)]; done) | (rw [if_neg (by omega)]; (repeat' split) <;> first | rfl | omega | exact (foldI_end (by omega)).symm.trans hi | exact (foldI_end (by omega)).symm.trans hj | (exfalso; omega)) | (unfold gPerson; (repeat' split) <;> first | rfl | (exfalso; omega))) (by rfl)
      have hs : 0 ≤ s ∧ s < M 209 1 := by omega
      have f15 : M 210 (15 + s).toNat = sk (M 210) 3 s.toNat := iy15 (by omega)
      have hk3 : 0 ≤ sk (M 210) 3 s.toNat ∧ sk (M 210) 3 s.toNat ≤ 31 := hG.1.2.2.2.2.2.2 s hs
      have hud := underst_b hT hG.1 (s := s) hs
      have hp25 := p2_5 (n := s) (by omega)
      have hbi := bitI_b (x := sk (M 210) 3 s.toNat) (s := p)
      have hx1 := xor2_63 (a := a) (b := 1 * 2 ^ s.toNat) ha (by omega)
      have hx2 := xor2_63 (a := b) (b := 1 * 2 ^ s.toNat) hbb (by omega)
      have hx3 := xor2_63 (a := a) (b := 0) ha (by omega)
      have hx4 := xor2_63 (a := b) (b := 0) hbb (by omega)
      refine r_ild3 dX10_person_39 ?_
      refine r_ald0 dX10_person_40 ?_
      refine s_getR fi_X10_34 (sh_201) rfl dX10_person_41 ?_
      refine r_bipush dX10_person_44 (by decide +kernel) ?_
      refine r_ild5 dX10_person_46 ?_
      refine r_iadd dX10_person_48 ?_
      refine s_iald hM (sh_210) (by omega) (by decide) dX10_person_49 (fun g49 => ?_)
      try simp (disch := omega) only [Int.reduceToNat]
      try simp only [f15]
      refine r_ild1 dX10_person_50 ?_
      refine s_callS2r hM (c_X10_has E (by omega) (by omega)) cs_X10_has wM_X10_165 (Nat.le_of_ble_eq_true rfl) (by decide) dX10_person_51 (fun _ => ?_)
      refine r_ifb_eq 64 dX10_person_54 (by decide) (fun c54 => ?_) (fun c54 => ?_)
      · skip
        refine r_iconst dX10_person_64 ?_
        refine r_ior dX10_person_65 (by omega) (by omega) (fun g65 => ?_)
        refine r_ist3 dX10_person_66 rfl ?_
        refine r_ild4 dX10_person_67 ?_
        refine r_ald0 dX10_person_69 ?_
        refine r_ald0 dX10_person_70 ?_
        refine s_getR fi_X10_34 (sh_201) rfl dX10_person_71 ?_
        refine r_ild5 dX10_person_74 ?_
        refine s_callV2r hM (c_X10_clearTo E (by exact sh_210) (by exact hT) (by exact hG.1) (by omega) (by exact hNN)) cv_X10_clearTo wM_X10_218 (sh_201) rfl rfl (Nat.le_of_ble_eq_true rfl) (by decide) dX10_person_76 (fun _ => ?_)
        refine r_ild1 dX10_person_79 ?_
        refine s_callS2r hM (c_X10_has E (by omega) (by omega)) cs_X10_has wM_X10_165 (Nat.le_of_ble_eq_true rfl) (by decide) dX10_person_80 (fun _ => ?_)
        refine r_ifb_eq 93 dX10_person_83 (by decide) (fun c83 => ?_) (fun c83 => ?_)
        · skip
          refine r_iconst dX10_person_93 ?_
          refine r_ior dX10_person_94 (by omega) (by omega) (fun g94 => ?_)
          refine r_ist4 dX10_person_95 rfl ?_
          refine r_iinc5 dX10_person_97 rfl ?_
          refine r_goto 28 dX10_person_100 (by decide) ?_
          exact ih _ _ _  (by assumption) (by exact hT) (by exact hG) (by exact hNN) (by omega) (by omega) (by omega) (by refine foldI_go (by omega) hi ?_; first | (rw [c54]; done) | (rw [show bitI (sk (M 210) 3 s.toNat) p = 0 by omega, Int.zero_mul]; done)) (by refine foldI_go (by omega) hj ?_; first | (rw [if_pos ((and_one hud (by omega)).mpr (by assumption))]; done) | (rw [if_neg (fun q => absurd ((and_one hud (by omega)).mp q) (by assumption)), xor2_0 (by omega)]; done)) (by omega)
        refine r_iconst dX10_person_86 ?_
        refine r_ild5 dX10_person_87 ?_
        refine r_ishl dX10_person_89 (by omega) ?_
        refine r_goto 94 dX10_person_90 (by decide) ?_
        refine r_ior dX10_person_94 (by omega) (by omega) (fun g94 => ?_)
        refine r_ist4 dX10_person_95 rfl ?_
        refine r_iinc5 dX10_person_97 rfl ?_
        refine r_goto 28 dX10_person_100 (by decide) ?_
        exact ih _ _ _  (by assumption) (by exact hT) (by exact hG) (by exact hNN) (by omega) (by omega) (by omega) (by refine foldI_go (by omega) hi ?_; first | (rw [c54]; done) | (rw [show bitI (sk (M 210) 3 s.toNat) p = 0 by omega, Int.zero_mul]; done)) (by refine foldI_go (by omega) hj ?_; first | (rw [if_pos ((and_one hud (by omega)).mpr (by assumption))]; done) | (rw [if_neg (fun q => absurd ((and_one hud (by omega)).mp q) (by assumption)), xor2_0 (by omega)]; done)) (by omega)
      refine r_iconst dX10_person_57 ?_
      refine r_ild5 dX10_person_58 ?_
      refine r_ishl dX10_person_60 (by omega) ?_
      refine r_goto 65 dX10_person_61 (by decide) ?_
      refine r_ior dX10_person_65 (by omega) (by omega) (fun g65 => ?_)
      refine r_ist3 dX10_person_66 rfl ?_
      refine r_ild4 dX10_person_67 ?_
      refine r_ald0 dX10_person_69 ?_
      refine r_ald0 dX10_person_70 ?_
      refine s_getR fi_X10_34 (sh_201) rfl dX10_person_71 ?_
      refine r_ild5 dX10_person_74 ?_
      refine s_callV2r hM (c_X10_clearTo E (by exact sh_210) (by exact hT) (by exact hG.1) (by omega) (by exact hNN)) cv_X10_clearTo wM_X10_218 (sh_201) rfl rfl (Nat.le_of_ble_eq_true rfl) (by decide) dX10_person_76 (fun _ => ?_)
      refine r_ild1 dX10_person_79 ?_
      refine s_callS2r hM (c_X10_has E (by omega) (by omega)) cs_X10_has wM_X10_165 (Nat.le_of_ble_eq_true rfl) (by decide) dX10_person_80 (fun _ => ?_)
      refine r_ifb_eq 93 dX10_person_83 (by decide) (fun c83 => ?_) (fun c83 => ?_)
      · skip
        refine r_iconst dX10_person_93 ?_
        refine r_ior dX10_person_94 (by omega) (by omega) (fun g94 => ?_)
        refine r_ist4 dX10_person_95 rfl ?_
        refine r_iinc5 dX10_person_97 rfl ?_
        refine r_goto 28 dX10_person_100 (by decide) ?_
        exact ih _ _ _  (by assumption) (by exact hT) (by exact hG) (by exact hNN) (by omega) (by omega) (by omega) (by refine foldI_go (by omega) hi ?_; first | (rw [c54]; done) | (rw [show bitI (sk (M 210) 3 s.toNat) p = 0 by omega, Int.zero_mul]; done)) (by refine foldI_go (by omega) hj ?_; first | (rw [if_pos ((and_one hud (by omega)).mpr (by assumption))]; done) | (rw [if_neg (fun q => absurd ((and_one hud (by omega)).mp q) (by assumption)), xor2_0 (by omega)]; done)) (by omega)
      refine r_iconst dX10_person_86 ?_
      refine r_ild5 dX10_person_87 ?_
      refine r_ishl dX10_person_89 (by omega) ?_
      refine r_goto 94 dX10_person_90 (by decide) ?_
      refine r_ior dX10_person_94 (by omega) (by omega) (fun g94 => ?_)
      refine r_ist4 dX10_person_95 rfl ?_
      refine r_iinc5 dX10_person_97 rfl ?_
      refine r_goto 28 dX10_person_100 (by decide) ?_
      exact ih _ _ _  (by assumption) (by exact hT) (by exact hG) (by exact hNN) (by omega) (by omega) (by omega) (by refine foldI_go (by omega) hi ?_; first | (rw [c54]; done) | (rw [show bitI (sk (M 210) 3 s.toNat) p = 0 by omega, Int.zero_mul]; done)) (by refine foldI_go (by omega) hj ?_; first | (rw [if_pos ((and_one hud (by omega)).mpr (by assumption))]; done) | (rw [if_neg (fun q => absurd ((and_one hud (by omega)).mp q) (by assumption)), xor2_0 (by omega)]; done)) (by omega)
  refine r_ald0 dX10_person_0 ?_
  refine r_ild1 dX10_person_1 ?_
  refine s_callV1r hM (c_X10_isPerson E (by first | with_reducible assumption | with_reducible exact xSt_9 | with_reducible exact xSt_13 | omega) (by first | with_reducible assumption | with_reducible exact xSt_9 | with_reducible exact xSt_13 | omega)) cv_X10_isPerson wM_X10_215 (sh_201) rfl rfl (Nat.le_of_ble_eq_true rfl) (by decide) dX10_person_2 (fun _ => ?_)
  refine r_ifb_eq 17 dX10_person_5 (by decide) (fun c5 => ?_) (fun c5 => ?_)
  · skip
    refine r_ldc (-1000001) dX10_person_17 wC_X10_78 ?_
    exact s_iret hM rfl dX10_person_19 (by rw [eg]; first | (rw [if_pos (by omega)]; done) | (rw [if_neg (by omega)]; (repeat' split) <;> first | rfl | omega | exact (foldI_end (by omega)).symm.trans hi | exact (foldI_end (by omega)).symm.trans hj | (exfalso; omega)) | (unfold gPerson; (repeat' split) <;> first | rfl | (exfalso; omega))) (by rfl)
  refine r_ild2 dX10_person_8 ?_
  refine r_iconst dX10_person_9 ?_
  refine r_iconst dX10_person_10 ?_
  refine s_callS3r hM (c_X10_in E (by first | with_reducible assumption | with_reducible exact xSt_9 | with_reducible exact xSt_13 | omega) (by first | with_reducible assumption | with_reducible exact xSt_9 | with_reducible exact xSt_13 | omega) (by first | with_reducible assumption | with_reducible exact xSt_9 | with_reducible exact xSt_13 | omega)) cs_X10_in wM_X10_70 (Nat.le_of_ble_eq_true rfl) (by decide) dX10_person_11 (fun _ => ?_)
  refine r_ifb_ne 20 dX10_person_14 (by decide) (fun c14 => ?_) (fun c14 => ?_)
  · skip
    obtain ⟨hd1, hT, hG, hNN⟩ := MD_g hD (by omega)
    have hn : 1 ≤ M 209 0 ∧ M 209 0 ≤ 5 := hT.1
    have hN : 1 ≤ M 209 1 ∧ M 209 1 ≤ 6 := hT.2.1
    have hra : 1 ≤ M 209 2 ∧ M 209 2 ≤ 60 := hT.2.2.1
    refine r_iconst dX10_person_20 ?_
    refine r_ist3 dX10_person_21 rfl ?_
    refine r_iconst dX10_person_22 ?_
    refine r_ist4 dX10_person_23 rfl ?_
    refine r_iconst dX10_person_25 ?_
    refine r_ist5 dX10_person_26 rfl ?_
    exact L28 7 _ _ _  (by omega) (by exact hT) (by exact hG) (by exact hNN) (by omega) (by omega) (by omega) (by rw [Int.sub_zero]; rfl) (by rw [Int.sub_zero]; rfl) (by omega)
  refine r_ldc (-1000001) dX10_person_17 wC_X10_78 ?_
  exact s_iret hM rfl dX10_person_19 (by rw [eg]; first | (rw [if_pos (by omega)]; done) | (rw [if_neg (by omega)]; (repeat' split) <;> first | rfl | omega | exact (foldI_end (by omega)).symm.trans hi | exact (foldI_end (by omega)).symm.trans hj | (exfalso; omega)) | (unfold gPerson; (repeat' split) <;> first | rfl | (exfalso; omega))) (by rfl)
set_option maxHeartbeats 4000000 in
theorem c_X10_stand (E : xE) {M : xMem} {w : Int} (hw : -2147483648 ≤ w ∧ w < 2147483648) (hD : MD M) : Ct E mX10_stand 3 1 [xr E 201, xi w] M (some (xi (gStand M w))) (M) := by
  refine Ct.of 1 3 (by rfl) (by decide +kernel) (fun hM => ?_)
  show VS E mX10_stand 1 _ _ 0 [some (xr E 201), some (xi w), none] [] M
  refine r_ald0 dX10_stand_0 ?_
  refine r_ild1 dX10_stand_1 ?_
  refine r_iconst dX10_stand_2 ?_
  refine r_iconst dX10_stand_3 ?_
  refine s_callS3r hM (c_X10_in E (by first | with_reducible assumption | with_reducible exact xSt_9 | with_reducible exact xSt_13 | omega) (by first | with_reducible assumption | with_reducible exact xSt_9 | with_reducible exact xSt_13 | omega) (by first | with_reducible assumption | with_reducible exact xSt_9 | with_reducible exact xSt_13 | omega)) cs_X10_in wM_X10_70 (Nat.le_of_ble_eq_true rfl) (by decide) dX10_stand_4 (fun _ => ?_)
  refine s_callV1r hM (c_X10_need E (by first | exact b01 | omega)) cv_X10_need wM_X10_194 (sh_201) rfl rfl (Nat.le_of_ble_eq_true rfl) (by decide) dX10_stand_7 (fun _ => ?_)
  refine r_ist2 dX10_stand_10 rfl ?_
  have hnd := need_b M (0 ≤ w ∧ w ≤ 4)
  refine r_ild2 dX10_stand_11 ?_
  refine r_if_ge 17 dX10_stand_12 (by decide) (by omega) (fun c12 => ?_) (fun c12 => ?_)
  · skip
    refine r_ild1 dX10_stand_17 ?_
    refine r_if_ne 30 dX10_stand_18 (by decide) (by omega) (fun c18 => ?_) (fun c18 => ?_)
    · skip
      refine r_ild1 dX10_stand_30 ?_
      refine r_iconst dX10_stand_31 ?_
      refine r_icmp_ne 44 dX10_stand_32 (by decide) (by omega) (by omega) (fun c32 => ?_) (fun c32 => ?_)
      · skip
        refine r_ild1 dX10_stand_44 ?_
        refine r_iconst dX10_stand_45 ?_
        refine r_icmp_ne 58 dX10_stand_46 (by decide) (by omega) (by omega) (fun c46 => ?_) (fun c46 => ?_)
        · skip
          refine r_ild1 dX10_stand_58 ?_
          refine r_iconst dX10_stand_59 ?_
          refine r_icmp_ne 72 dX10_stand_60 (by decide) (by omega) (by omega) (fun c60 => ?_) (fun c60 => ?_)
          · skip
            refine r_ald0 dX10_stand_72 ?_
            refine s_getR fi_X10_34 (sh_201) rfl dX10_stand_73 ?_
            refine r_iconst dX10_stand_76 ?_
            refine s_iald hM (sh_210) (by omega) (by decide) dX10_stand_77 (fun g77 => ?_)
            try simp (disch := omega) only [Int.reduceToNat]
            exact s_iret hM rfl dX10_stand_78 (by unfold gStand ; (repeat' split) <;> first | rfl | omega | (exfalso; omega)) (by rfl)
          refine r_ald0 dX10_stand_63 ?_
          refine s_getR fi_X10_31 (sh_201) rfl dX10_stand_64 ?_
          refine r_iconst dX10_stand_67 ?_
          refine s_iald hM (sh_209) (by omega) (by decide) dX10_stand_68 (fun g68 => ?_)
          try simp (disch := omega) only [Int.reduceToNat]
          refine r_goto 78 dX10_stand_69 (by decide) ?_
          exact s_iret hM rfl dX10_stand_78 (by unfold gStand ; (repeat' split) <;> first | rfl | omega | (exfalso; omega)) (by rfl)
        refine r_ald0 dX10_stand_49 ?_
        refine s_getR fi_X10_34 (sh_201) rfl dX10_stand_50 ?_
        refine r_iconst dX10_stand_53 ?_
        refine s_iald hM (sh_210) (by omega) (by decide) dX10_stand_54 (fun g54 => ?_)
        try simp (disch := omega) only [Int.reduceToNat]
        refine r_goto 78 dX10_stand_55 (by decide) ?_
        exact s_iret hM rfl dX10_stand_78 (by unfold gStand ; (repeat' split) <;> first | rfl | omega | (exfalso; omega)) (by rfl)
      refine r_ald0 dX10_stand_35 ?_
      refine s_getR fi_X10_34 (sh_201) rfl dX10_stand_36 ?_
      refine r_iconst dX10_stand_39 ?_
      refine s_iald hM (sh_210) (by omega) (by decide) dX10_stand_40 (fun g40 => ?_)
      try simp (disch := omega) only [Int.reduceToNat]
      refine r_goto 78 dX10_stand_41 (by decide) ?_
      exact s_iret hM rfl dX10_stand_78 (by unfold gStand ; (repeat' split) <;> first | rfl | omega | (exfalso; omega)) (by rfl)
    refine r_ald0 dX10_stand_21 ?_
    refine s_getR fi_X10_34 (sh_201) rfl dX10_stand_22 ?_
    refine r_iconst dX10_stand_25 ?_
    refine s_iald hM (sh_210) (by omega) (by decide) dX10_stand_26 (fun g26 => ?_)
    try simp (disch := omega) only [Int.reduceToNat]
    refine r_goto 78 dX10_stand_27 (by decide) ?_
    exact s_iret hM rfl dX10_stand_78 (by unfold gStand ; (repeat' split) <;> first | rfl | omega | (exfalso; omega)) (by rfl)
  refine r_ild2 dX10_stand_15 ?_
  exact s_iret hM rfl dX10_stand_16 (by unfold gStand ; (repeat' split) <;> first | rfl | omega | (exfalso; omega)) (by rfl)
