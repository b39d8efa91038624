set_option maxHeartbeats 4000000 in
theorem c_X10_has (E : xE) {M : xMem} {a s : Int} (ha : 0 ≤ a ∧ a < 2147483648) (hs : 0 ≤ s ∧ s < 31) : Ct E mX10_has 2 0 [xi a, xi s] M (some (xi (b2i (bitI a s = 1)))) (M) := by
  refine Ct.of 0 2 (by rfl) (by decide +kernel) (fun hM => ?_)
  have hp : (1 : Int) ≤ 2 ^ s.toNat := by rw [← p2n]; have := Nat.two_pow_pos s.toNat; omega
  have hdv := div_b (a := a) (A := 2147483647) (b := 2 ^ s.toNat) (by omega) hp
  show VS E mX10_has 0 _ _ 0 [some (xi a), some (xi s)] [] M
  refine r_ild0 dX10_has_0 ?_
  refine r_ild1 dX10_has_1 ?_
  refine r_ishr dX10_has_2 (by omega) (by omega) ?_
  refine r_iconst dX10_has_3 ?_
  refine r_iand dX10_has_4 (by omega) (by omega) (fun g4 => ?_)
  refine r_iconst dX10_has_5 ?_
  refine r_icmp_ne 13 dX10_has_6 (by decide) (by omega) (by omega) (fun c6 => ?_) (fun c6 => ?_)
  · skip
    refine r_iconst dX10_has_13 ?_
    exact s_zret hM rfl (by omega) dX10_has_14 (by unfold b2i bitI; split <;> omega) (by rfl)
  refine r_iconst dX10_has_9 ?_
  refine r_goto 14 dX10_has_10 (by decide) ?_
  exact s_zret hM rfl (by omega) dX10_has_14 (by unfold b2i bitI; split <;> omega) (by rfl)
set_option maxHeartbeats 4000000 in
theorem c_X10_bits (E : xE) {M : xMem} {a : Int} (ha : 0 ≤ a ∧ a ≤ 63) : Ct E mX10_bits 3 0 [xi a] M (some (xi (pcT a))) (M) := by
  refine Ct.of 2 3 (by rfl) (by decide +kernel) (fun hM => ?_)
  show VS E mX10_bits 0 _ _ 0 [some (xi a), none, none] [] M
  have L4 : ∀ (fu : Nat) (m s : Int), (0 ≤ s ∧ s ≤ 63) → (0 ≤ m ∧ m ≤ 6) → (m + pcT s = pcT a) → s.toNat < fu → VS E mX10_bits 0 (some (xi (pcT a))) (M) 4 [some (xi a), some (xi m), some (xi s)] [] M := by
    intro fu
    induction fu with
    | zero => intro m s  hs hm hi hme; exact absurd hme (Nat.not_lt_zero _)
    | succ fu ih =>
      intro m s  hs hm hi hme
      have hpc := pcT_b s
      have hpa := pcT_b a
      refine r_ild2 dX10_bits_4 ?_
      refine r_if_eq 20 dX10_bits_5 (by decide) (by omega) (fun c5 => ?_) (fun c5 => ?_)
      · skip
        refine r_ild1 dX10_bits_20 ?_
        exact s_iret hM rfl dX10_bits_21 (by rw [← hi, show s = 0 by omega, pc_0]; omega) (by rfl)
      refine r_iinc1 dX10_bits_8 rfl ?_
      refine r_ild2 dX10_bits_11 ?_
      refine r_ild2 dX10_bits_12 ?_
      refine r_iconst dX10_bits_13 ?_
      refine r_isub dX10_bits_14 ?_
      refine r_iand dX10_bits_15 (by omega) (by omega) (fun g15 => ?_)
      refine r_ist2 dX10_bits_16 rfl ?_
      refine r_goto 4 dX10_bits_17 (by decide) ?_
      exact ih _ _  (by have := pc_step (s := s) (by omega); omega) (by have := pc_step (s := s) (by omega); have := pcT_b (xand s (s - 1)); omega) (by have := pc_step (s := s) (by omega); omega) (by have := pc_step (s := s) (by omega); omega)
  refine r_iconst dX10_bits_0 ?_
  refine r_ist1 dX10_bits_1 rfl ?_
  refine r_ild0 dX10_bits_2 ?_
  refine r_ist2 dX10_bits_3 rfl ?_
  exact L4 64 _ _  (by omega) (by omega) (by omega) (by omega)
set_option maxHeartbeats 4000000 in
theorem c_X10_isPart (E : xE) {M : xMem} {r i n : Int} (hr : 0 ≤ r ∧ r ≤ 7) (hi : -2147483648 ≤ i ∧ i < 2147483648) (hn : -2147483648 ≤ n ∧ n < 2147483648) (hrw : ∀ i : Nat, i < 8 → (-1 ≤ M 202 i ∧ M 202 i ≤ 40) ∧ (0 ≤ M 203 i ∧ M 203 i ≤ 2)) : Ct E mX10_isPart 4 0 [xr E 201, xi r, xi i, xi n] M (some (xi (b2i (prt M r i n)))) (M) := by
  refine Ct.of 0 4 (by rfl) (by decide +kernel) (fun hM => ?_)
  have hr1 := hrw r.toNat (by omega)
  show VS E mX10_isPart 0 _ _ 0 [some (xr E 201), some (xi r), some (xi i), some (xi n)] [] M
  refine r_ild3 dX10_isPart_0 ?_
  refine r_if_lt 34 dX10_isPart_1 (by decide) (by omega) (fun c1 => ?_) (fun c1 => ?_)
  · skip
    refine r_iconst dX10_isPart_34 ?_
    exact s_zret hM rfl (by omega) dX10_isPart_35 (by unfold prt; unfold b2i; split <;> omega) (by rfl)
  refine r_ild2 dX10_isPart_4 ?_
  refine r_if_lt 34 dX10_isPart_5 (by decide) (by omega) (fun c5 => ?_) (fun c5 => ?_)
  · skip
    refine r_iconst dX10_isPart_34 ?_
    exact s_zret hM rfl (by omega) dX10_isPart_35 (by unfold prt; unfold b2i; split <;> omega) (by rfl)
  refine r_ild2 dX10_isPart_8 ?_
  refine r_ald0 dX10_isPart_9 ?_
  refine s_getR fi_X10_7 (sh_201) rfl dX10_isPart_10 ?_
  refine r_ild1 dX10_isPart_13 ?_
  refine s_iald hM (sh_202) (by omega) (by decide) dX10_isPart_14 (fun g14 => ?_)
  refine r_icmp_gt 34 dX10_isPart_15 (by decide) (by omega) (by omega) (fun c15 => ?_) (fun c15 => ?_)
  · skip
    refine r_iconst dX10_isPart_34 ?_
    exact s_zret hM rfl (by omega) dX10_isPart_35 (by unfold prt; unfold b2i; split <;> omega) (by rfl)
  refine r_ild3 dX10_isPart_18 ?_
  refine r_ald0 dX10_isPart_19 ?_
  refine s_getR fi_X10_7 (sh_201) rfl dX10_isPart_20 ?_
  refine r_ild1 dX10_isPart_23 ?_
  refine s_iald hM (sh_202) (by omega) (by decide) dX10_isPart_24 (fun g24 => ?_)
  refine r_ild2 dX10_isPart_25 ?_
  refine r_isub dX10_isPart_26 ?_
  refine r_icmp_gt 34 dX10_isPart_27 (by decide) (by omega) (by omega) (fun c27 => ?_) (fun c27 => ?_)
  · skip
    refine r_iconst dX10_isPart_34 ?_
    exact s_zret hM rfl (by omega) dX10_isPart_35 (by unfold prt; unfold b2i; split <;> omega) (by rfl)
  refine r_iconst dX10_isPart_30 ?_
  refine r_goto 35 dX10_isPart_31 (by decide) ?_
  exact s_zret hM rfl (by omega) dX10_isPart_35 (by unfold prt; unfold b2i; split <;> omega) (by rfl)
set_option maxHeartbeats 4000000 in
theorem c_X10_item (E : xE) {M : xMem} {r i : Int} (hr : 0 ≤ r ∧ r ≤ 7) (hi : 0 ≤ i ∧ i < 40) : Ct E mX10_item 3 0 [xr E 201, xi r, xi i] M (some (xi (M 204 (40 * r + i).toNat))) (M) := by
  refine Ct.of 0 3 (by rfl) (by decide +kernel) (fun hM => ?_)
  show VS E mX10_item 0 _ _ 0 [some (xr E 201), some (xi r), some (xi i)] [] M
  refine r_ald0 dX10_item_0 ?_
  refine s_getR fi_X10_16 (sh_201) rfl dX10_item_1 ?_
  refine r_bipush dX10_item_4 (by decide +kernel) ?_
  refine r_ild1 dX10_item_6 ?_
  refine r_imul dX10_item_7 ?_
  refine r_ild2 dX10_item_8 ?_
  refine r_iadd dX10_item_9 ?_
  refine s_iald hM (sh_204) (by omega) (by decide) dX10_item_10 (fun g10 => ?_)
  exact s_iret hM rfl dX10_item_11 (by rfl) (by rfl)
set_option maxHeartbeats 4000000 in
theorem c_X10_isPerson (E : xE) {M : xMem} {i : Int} (hi : -2147483648 ≤ i ∧ i < 2147483648) (hn : 0 ≤ M 209 0 ∧ M 209 0 ≤ 5) : Ct E mX10_isPerson 2 1 [xr E 201, xi i] M (some (xi (b2i (0 ≤ i ∧ i < M 209 0)))) (M) := by
  refine Ct.of 0 2 (by rfl) (by decide +kernel) (fun hM => ?_)
  show VS E mX10_isPerson 1 _ _ 0 [some (xr E 201), some (xi i)] [] M
  refine r_ild1 dX10_isPerson_0 ?_
  refine r_iconst dX10_isPerson_1 ?_
  refine r_ald0 dX10_isPerson_2 ?_
  refine s_getR fi_X10_31 (sh_201) rfl dX10_isPerson_3 ?_
  refine r_iconst dX10_isPerson_6 ?_
  refine s_iald hM (sh_209) (by omega) (by decide) dX10_isPerson_7 (fun g7 => ?_)
  try simp (disch := omega) only [Int.reduceToNat]
  refine r_iconst dX10_isPerson_8 ?_
  refine r_isub dX10_isPerson_9 ?_
  refine s_callS3r hM (c_X10_in E (by first | with_reducible assumption | with_reducible exact xSt_9 | with_reducible exact xSt_13 | omega) (by first | with_reducible assumption | with_reducible exact xSt_9 | with_reducible exact xSt_13 | omega) (by first | with_reducible assumption | with_reducible exact xSt_9 | with_reducible exact xSt_13 | omega)) cs_X10_in wM_X10_70 (Nat.le_of_ble_eq_true rfl) (by decide) dX10_isPerson_10 (fun _ => ?_)
  exact s_zret hM rfl (by have := @b2i_rg; unfold b2i; split <;> simp) dX10_isPerson_13 (by exact b2i_cg (by omega)) (by rfl)
set_option maxHeartbeats 4000000 in
theorem c_X10_isSpeech (E : xE) {M : xMem} {s : Int} (hs : -2147483648 ≤ s ∧ s < 2147483648) (hn : 0 ≤ M 209 1 ∧ M 209 1 ≤ 6) : Ct E mX10_isSpeech 2 1 [xr E 201, xi s] M (some (xi (b2i (0 ≤ s ∧ s < M 209 1)))) (M) := by
  refine Ct.of 0 2 (by rfl) (by decide +kernel) (fun hM => ?_)
  show VS E mX10_isSpeech 1 _ _ 0 [some (xr E 201), some (xi s)] [] M
  refine r_ild1 dX10_isSpeech_0 ?_
  refine r_iconst dX10_isSpeech_1 ?_
  refine r_ald0 dX10_isSpeech_2 ?_
  refine s_getR fi_X10_31 (sh_201) rfl dX10_isSpeech_3 ?_
  refine r_iconst dX10_isSpeech_6 ?_
  refine s_iald hM (sh_209) (by omega) (by decide) dX10_isSpeech_7 (fun g7 => ?_)
  try simp (disch := omega) only [Int.reduceToNat]
  refine r_iconst dX10_isSpeech_8 ?_
  refine r_isub dX10_isSpeech_9 ?_
  refine s_callS3r hM (c_X10_in E (by first | with_reducible assumption | with_reducible exact xSt_9 | with_reducible exact xSt_13 | omega) (by first | with_reducible assumption | with_reducible exact xSt_9 | with_reducible exact xSt_13 | omega) (by first | with_reducible assumption | with_reducible exact xSt_9 | with_reducible exact xSt_13 | omega)) cs_X10_in wM_X10_70 (Nat.le_of_ble_eq_true rfl) (by decide) dX10_isSpeech_10 (fun _ => ?_)
  exact s_zret hM rfl (by have := @b2i_rg; unfold b2i; split <;> simp) dX10_isSpeech_13 (by exact b2i_cg (by omega)) (by rfl)
set_option maxHeartbeats 4000000 in
theorem c_X10_all (E : xE) {M : xMem}  (hn : 0 ≤ M 209 0 ∧ M 209 0 ≤ 5) : Ct E mX10_all 1 0 [xr E 201] M (some (xi (2 ^ (M 209 0).toNat - 1))) (M) := by
  refine Ct.of 0 1 (by rfl) (by decide +kernel) (fun hM => ?_)
  show VS E mX10_all 0 _ _ 0 [some (xr E 201)] [] M
  refine r_iconst dX10_all_0 ?_
  refine r_ald0 dX10_all_1 ?_
  refine s_getR fi_X10_31 (sh_201) rfl dX10_all_2 ?_
  refine r_iconst dX10_all_5 ?_
  refine s_iald hM (sh_209) (by omega) (by decide) dX10_all_6 (fun g6 => ?_)
  try simp (disch := omega) only [Int.reduceToNat]
  refine r_ishl dX10_all_7 (by omega) ?_
  refine r_iconst dX10_all_8 ?_
  refine r_isub dX10_all_9 ?_
  exact s_iret hM rfl dX10_all_10 (by rw [Int.one_mul]) (by rfl)
set_option maxHeartbeats 4000000 in
theorem c_X10_words (E : xE) {M : xMem} {s : Int} (hT : TI (tg (M 209))) (hs : 0 ≤ s ∧ s < M 209 1) : Ct E mX10_words 3 0 [xr E 201, xi s] M (some (xi (wordsT (tg (M 209)) s))) (M) := by
  refine Ct.of 1 3 (by rfl) (by decide +kernel) (fun hM => ?_)
  have hn : 1 ≤ M 209 0 ∧ M 209 0 ≤ 5 := hT.1
  have hN : 1 ≤ M 209 1 ∧ M 209 1 ≤ 6 := hT.2.1
  have hra : 1 ≤ M 209 2 ∧ M 209 2 ≤ 60 := hT.2.2.1
  have hq : (1 ≤ tg (M 209) 2 s.toNat ∧ tg (M 209) 2 s.toNat ≤ 5) ∧ (0 ≤ tg (M 209) 3 s.toNat ∧ tg (M 209) 3 s.toNat < M 209 0) ∧ (1 ≤ tg (M 209) 4 s.toNat ∧ tg (M 209) 4 s.toNat ≤ 30) ∧ (0 ≤ tg (M 209) 5 s.toNat ∧ tg (M 209) 5 s.toNat ≤ s) := hT.2.2.2.2 s hs
  have e8 : M 209 (8 + s).toNat = tg (M 209) 2 s.toNat := ix8 (by omega)
  have e14 : M 209 (14 + s).toNat = tg (M 209) 3 s.toNat := ix14 (by omega)
  have e20 : M 209 (20 + s).toNat = tg (M 209) 4 s.toNat := ix20 (by omega)
  show VS E mX10_words 0 _ _ 0 [some (xr E 201), some (xi s), none] [] M
  refine r_ald0 dX10_words_0 ?_
  refine s_getR fi_X10_31 (sh_201) rfl dX10_words_1 ?_
  refine r_bipush dX10_words_4 (by decide +kernel) ?_
  refine r_ild1 dX10_words_6 ?_
  refine r_iadd dX10_words_7 ?_
  refine s_iald hM (sh_209) (by omega) (by decide) dX10_words_8 (fun g8 => ?_)
  try simp (disch := omega) only [e8, e14, e20, Int.reduceToNat]
  refine r_ist2 dX10_words_9 rfl ?_
  refine r_ald0 dX10_words_10 ?_
  refine s_getR fi_X10_31 (sh_201) rfl dX10_words_11 ?_
  refine r_bipush dX10_words_14 (by decide +kernel) ?_
  refine r_ild1 dX10_words_16 ?_
  refine r_iadd dX10_words_17 ?_
  refine s_iald hM (sh_209) (by omega) (by decide) dX10_words_18 (fun g18 => ?_)
  try simp (disch := omega) only [e8, e14, e20, Int.reduceToNat]
  by_cases c19 : 1 ≤ tg (M 209) 2 s.toNat ∧ tg (M 209) 2 s.toNat ≤ 3
  · skip
    rcases (show tg (M 209) 2 s.toNat = 1 ∨ tg (M 209) 2 s.toNat = 2 ∨ tg (M 209) 2 s.toNat = 3 by omega) with c19v | c19v | c19v
    · skip
      refine r_tabIn 44 dX10_words_19 (by omega) (by omega) (by rw [c19v]; rfl) (by decide) ?_
      refine r_ild2 dX10_words_44 ?_
      exact s_iret hM rfl dX10_words_45 (by unfold wordsT; split <;> (try split) <;> (try split) <;> omega) (by rfl)
    · skip
      refine r_tabIn 46 dX10_words_19 (by omega) (by omega) (by rw [c19v]; rfl) (by decide) ?_
      refine r_ild2 dX10_words_46 ?_
      refine r_iconst dX10_words_47 ?_
      refine r_iadd dX10_words_48 ?_
      refine r_iconst dX10_words_49 ?_
      refine r_idiv dX10_words_50 (by omega) (by omega) ?_
      exact s_iret hM rfl dX10_words_51 (by unfold wordsT; split <;> (try split) <;> (try split) <;> omega) (by rfl)
    · skip
      refine r_tabIn 52 dX10_words_19 (by omega) (by omega) (by rw [c19v]; rfl) (by decide) ?_
      refine r_iconst dX10_words_52 ?_
      refine r_ild2 dX10_words_53 ?_
      refine r_imul dX10_words_54 ?_
      exact s_iret hM rfl dX10_words_55 (by unfold wordsT; split <;> (try split) <;> (try split) <;> omega) (by rfl)
  refine r_tabOut 56 dX10_words_19 (by omega) (by omega) (by decide) ?_
  refine r_iconst dX10_words_56 ?_
  exact s_iret hM rfl dX10_words_57 (by unfold wordsT; split <;> (try split) <;> (try split) <;> omega) (by rfl)
set_option maxHeartbeats 4000000 in
theorem c_X10_rest (E : xE) {M : xMem} {k : Nat} {s : Int} (hk : shp k = (1, 21, [])) (hT : TI (tg (M 209))) (hS : SI (tg (M 209)) (sk (M k))) (hs : 0 ≤ s ∧ s < M 209 1) : Ct E mX10_rest 4 1 [xr E 201, xr E k, xi s] M (some (xi (wolT (tg (M 209)) (sk (M k)) s))) (M) := by
  refine Ct.of 1 4 (by rfl) (by decide +kernel) (fun hM => ?_)
  have hn : 1 ≤ M 209 0 ∧ M 209 0 ≤ 5 := hT.1
  have hN : 1 ≤ M 209 1 ∧ M 209 1 ≤ 6 := hT.2.1
  have hra : 1 ≤ M 209 2 ∧ M 209 2 ≤ 60 := hT.2.2.1
  have hq : (1 ≤ tg (M 209) 2 s.toNat ∧ tg (M 209) 2 s.toNat ≤ 5) ∧ (0 ≤ tg (M 209) 3 s.toNat ∧ tg (M 209) 3 s.toNat < M 209 0) ∧ (1 ≤ tg (M 209) 4 s.toNat ∧ tg (M 209) 4 s.toNat ≤ 30) ∧ (0 ≤ tg (M 209) 5 s.toNat ∧ tg (M 209) 5 s.toNat ≤ s) := hT.2.2.2.2 s hs
  have e8 : M 209 (8 + s).toNat = tg (M 209) 2 s.toNat := ix8 (by omega)
  have e14 : M 209 (14 + s).toNat = tg (M 209) 3 s.toNat := ix14 (by omega)
  have e20 : M 209 (20 + s).toNat = tg (M 209) 4 s.toNat := ix20 (by omega)
  have hpu : (0 ≤ sk (M k) 1 (tg (M 209) 3 s.toNat).toNat ∧ sk (M k) 1 (tg (M 209) 3 s.toNat).toNat ≤ 99) ∧ (0 ≤ sk (M k) 2 (tg (M 209) 3 s.toNat).toNat ∧ sk (M k) 2 (tg (M 209) 3 s.toNat).toNat ≤ 99) := hS.2.2.2.2.2.1 _ hq.2.1
  have f5 : M k (5 + tg (M 209) 3 s.toNat).toNat = sk (M k) 1 (tg (M 209) 3 s.toNat).toNat := iy5 (by omega)
  have f10 : M k (10 + tg (M 209) 3 s.toNat).toNat = sk (M k) 2 (tg (M 209) 3 s.toNat).toNat := iy10 (by omega)
  have hwd := words_b hT (s := s) hs
  show VS E mX10_rest 1 _ _ 0 [some (xr E 201), some (xr E k), some (xi s), none] [] M
  refine r_ald0 dX10_rest_0 ?_
  refine r_ild2 dX10_rest_1 ?_
  refine s_callV1r hM (c_X10_words E (by first | with_reducible assumption | with_reducible exact xSt_9 | with_reducible exact xSt_13 | omega) (by first | with_reducible assumption | with_reducible exact xSt_9 | with_reducible exact xSt_13 | omega)) cv_X10_words wM_X10_158 (sh_201) rfl rfl (Nat.le_of_ble_eq_true rfl) (by decide) dX10_rest_2 (fun _ => ?_)
  refine r_ald1 dX10_rest_5 ?_
  refine r_bipush dX10_rest_6 (by decide +kernel) ?_
  refine r_ald0 dX10_rest_8 ?_
  refine s_getR fi_X10_31 (sh_201) rfl dX10_rest_9 ?_
  refine r_bipush dX10_rest_12 (by decide +kernel) ?_
  refine r_ild2 dX10_rest_14 ?_
  refine r_iadd dX10_rest_15 ?_
  refine s_iald hM (sh_209) (by omega) (by decide) dX10_rest_16 (fun g16 => ?_)
  try simp (disch := omega) only [e8, e14, e20, Int.reduceToNat, f5, f10]
  refine r_iadd dX10_rest_17 ?_
  refine s_iald hM (hk) (by omega) (by decide) dX10_rest_18 (fun g18 => ?_)
  try simp (disch := omega) only [e8, e14, e20, Int.reduceToNat, f5, f10]
  refine r_isub dX10_rest_19 ?_
  refine r_ist3 dX10_rest_20 rfl ?_
  refine r_ild3 dX10_rest_21 ?_
  refine r_if_ge 29 dX10_rest_22 (by decide) (by omega) (fun c22 => ?_) (fun c22 => ?_)
  · skip
    refine r_ild3 dX10_rest_29 ?_
    exact s_iret hM rfl dX10_rest_30 (by unfold wolT; omega) (by rfl)
  refine r_iconst dX10_rest_25 ?_
  refine r_goto 30 dX10_rest_26 (by decide) ?_
  exact s_iret hM rfl dX10_rest_30 (by unfold wolT; omega) (by rfl)
set_option maxHeartbeats 4000000 in
theorem c_X10_costs (E : xE) {M : xMem} {k : Nat} {s : Int} (hk : shp k = (1, 21, [])) (hT : TI (tg (M 209))) (hS : SI (tg (M 209)) (sk (M k))) (hs : 0 ≤ s ∧ s < M 209 1) : Ct E mX10_costs 4 2 [xr E 201, xr E k, xi s] M (some (xi (crnT (tg (M 209)) (sk (M k)) s))) (M) := by
  refine Ct.of 1 4 (by rfl) (by decide +kernel) (fun hM => ?_)
  have hn : 1 ≤ M 209 0 ∧ M 209 0 ≤ 5 := hT.1
  have hN : 1 ≤ M 209 1 ∧ M 209 1 ≤ 6 := hT.2.1
  have hra : 1 ≤ M 209 2 ∧ M 209 2 ≤ 60 := hT.2.2.1
  have hq : (1 ≤ tg (M 209) 2 s.toNat ∧ tg (M 209) 2 s.toNat ≤ 5) ∧ (0 ≤ tg (M 209) 3 s.toNat ∧ tg (M 209) 3 s.toNat < M 209 0) ∧ (1 ≤ tg (M 209) 4 s.toNat ∧ tg (M 209) 4 s.toNat ≤ 30) ∧ (0 ≤ tg (M 209) 5 s.toNat ∧ tg (M 209) 5 s.toNat ≤ s) := hT.2.2.2.2 s hs
  have e8 : M 209 (8 + s).toNat = tg (M 209) 2 s.toNat := ix8 (by omega)
  have e14 : M 209 (14 + s).toNat = tg (M 209) 3 s.toNat := ix14 (by omega)
  have e20 : M 209 (20 + s).toNat = tg (M 209) 4 s.toNat := ix20 (by omega)
  have hpu : (0 ≤ sk (M k) 1 (tg (M 209) 3 s.toNat).toNat ∧ sk (M k) 1 (tg (M 209) 3 s.toNat).toNat ≤ 99) ∧ (0 ≤ sk (M k) 2 (tg (M 209) 3 s.toNat).toNat ∧ sk (M k) 2 (tg (M 209) 3 s.toNat).toNat ≤ 99) := hS.2.2.2.2.2.1 _ hq.2.1
  have f5 : M k (5 + tg (M 209) 3 s.toNat).toNat = sk (M k) 1 (tg (M 209) 3 s.toNat).toNat := iy5 (by omega)
  have f10 : M k (10 + tg (M 209) 3 s.toNat).toNat = sk (M k) 2 (tg (M 209) 3 s.toNat).toNat := iy10 (by omega)
  have hl : 0 ≤ M k 1 ∧ M k 1 ≤ 99 := hS.2.1
  have hh : 0 ≤ M k 2 ∧ M k 2 ≤ 999 := hS.2.2.1
  have hpr : 1 ≤ M k 3 ∧ M k 3 ≤ 9 := hS.2.2.2.1
  have hsd : 0 ≤ M k 4 ∧ M k 4 ≤ 63 := hS.2.2.2.2.1
  have hwk : 0 ≤ M k 0 ∧ M k 0 ≤ 100000 := hS.1
  have hwd := words_b hT (s := s) hs
  have hwo := wol_b hT hS (s := s) hs
  have hcr := crn_b hT hS (s := s) hs
  have hz : (tg (M 209) 2 s.toNat = 4 ∨ tg (M 209) 2 s.toNat = 5) → wolT (tg (M 209)) (sk (M k)) s = 0 := fun q => by have : wordsT (tg (M 209)) s = 0 := (by unfold wordsT; split <;> (try split) <;> (try split) <;> omega); omega
  have e : crnT (tg (M 209)) (sk (M k)) s = if tg (M 209) 2 s.toNat = 4 then 1 else if tg (M 209) 2 s.toNat = 5 then 1 + tg (M 209) 4 s.toNat else wolT (tg (M 209)) (sk (M k)) s * M k 3 := rfl
  show VS E mX10_costs 2 _ _ 0 [some (xr E 201), some (xr E k), some (xi s), none] [] M
  refine r_ald0 dX10_costs_0 ?_
  refine s_getR fi_X10_31 (sh_201) rfl dX10_costs_1 ?_
  refine r_bipush dX10_costs_4 (by decide +kernel) ?_
  refine r_ild2 dX10_costs_6 ?_
  refine r_iadd dX10_costs_7 ?_
  refine s_iald hM (sh_209) (by omega) (by decide) dX10_costs_8 (fun g8 => ?_)
  try simp (disch := omega) only [e8, e14, e20, Int.reduceToNat, f5, f10]
  refine r_iconst dX10_costs_9 ?_
  refine r_icmp_ne 17 dX10_costs_10 (by decide) (by omega) (by omega) (fun c10 => ?_) (fun c10 => ?_)
  · skip
    refine r_ald0 dX10_costs_17 ?_
    refine s_getR fi_X10_31 (sh_201) rfl dX10_costs_18 ?_
    refine r_bipush dX10_costs_21 (by decide +kernel) ?_
    refine r_ild2 dX10_costs_23 ?_
    refine r_iadd dX10_costs_24 ?_
    refine s_iald hM (sh_209) (by omega) (by decide) dX10_costs_25 (fun g25 => ?_)
    try simp (disch := omega) only [e8, e14, e20, Int.reduceToNat, f5, f10]
    refine r_iconst dX10_costs_26 ?_
    refine r_icmp_ne 44 dX10_costs_27 (by decide) (by omega) (by omega) (fun c27 => ?_) (fun c27 => ?_)
    · skip
      refine r_iconst dX10_costs_44 ?_
      refine r_ist3 dX10_costs_45 rfl ?_
      refine r_ald0 dX10_costs_46 ?_
      refine r_ald1 dX10_costs_47 ?_
      refine r_ild2 dX10_costs_48 ?_
      refine s_callV2r hM (c_X10_rest E (by first | with_reducible assumption | with_reducible exact xSt_9 | with_reducible exact xSt_13 | omega) (by first | with_reducible assumption | with_reducible exact xSt_9 | with_reducible exact xSt_13 | omega) (by first | with_reducible assumption | with_reducible exact xSt_9 | with_reducible exact xSt_13 | omega) (by first | with_reducible assumption | with_reducible exact xSt_9 | with_reducible exact xSt_13 | omega)) cv_X10_rest wM_X10_161 (sh_201) rfl rfl (Nat.le_of_ble_eq_true rfl) (by decide) dX10_costs_49 (fun _ => ?_)
      refine r_ald1 dX10_costs_52 ?_
      refine r_iconst dX10_costs_53 ?_
      refine s_iald hM (hk) (by omega) (by decide) dX10_costs_54 (fun g54 => ?_)
      try simp (disch := omega) only [e8, e14, e20, Int.reduceToNat, f5, f10]
      refine r_imul dX10_costs_55 ?_
      refine r_ild3 dX10_costs_56 ?_
      refine r_iadd dX10_costs_57 ?_
      exact s_iret hM rfl dX10_costs_58 (by rw [e]; first | (rw [if_pos (by assumption), hz (by omega)]; omega) | (rw [if_neg (by assumption), if_pos (by assumption), hz (by omega)]; omega) | (rw [if_neg (by assumption), if_neg (by assumption)]; omega)) (by rfl)
    refine r_iconst dX10_costs_30 ?_
    refine r_ald0 dX10_costs_31 ?_
    refine s_getR fi_X10_31 (sh_201) rfl dX10_costs_32 ?_
    refine r_bipush dX10_costs_35 (by decide +kernel) ?_
    refine r_ild2 dX10_costs_37 ?_
    refine r_iadd dX10_costs_38 ?_
    refine s_iald hM (sh_209) (by omega) (by decide) dX10_costs_39 (fun g39 => ?_)
    try simp (disch := omega) only [e8, e14, e20, Int.reduceToNat, f5, f10]
    refine r_iadd dX10_costs_40 ?_
    refine r_goto 45 dX10_costs_41 (by decide) ?_
    refine r_ist3 dX10_costs_45 rfl ?_
    refine r_ald0 dX10_costs_46 ?_
    refine r_ald1 dX10_costs_47 ?_
    refine r_ild2 dX10_costs_48 ?_
    refine s_callV2r hM (c_X10_rest E (by first | with_reducible assumption | with_reducible exact xSt_9 | with_reducible exact xSt_13 | omega) (by first | with_reducible assumption | with_reducible exact xSt_9 | with_reducible exact xSt_13 | omega) (by first | with_reducible assumption | with_reducible exact xSt_9 | with_reducible exact xSt_13 | omega) (by first | with_reducible assumption | with_reducible exact xSt_9 | with_reducible exact xSt_13 | omega)) cv_X10_rest wM_X10_161 (sh_201) rfl rfl (Nat.le_of_ble_eq_true rfl) (by decide) dX10_costs_49 (fun _ => ?_)
    refine r_ald1 dX10_costs_52 ?_
    refine r_iconst dX10_costs_53 ?_
    refine s_iald hM (hk) (by omega) (by decide) dX10_costs_54 (fun g54 => ?_)
    try simp (disch := omega) only [e8, e14, e20, Int.reduceToNat, f5, f10]
    refine r_imul dX10_costs_55 ?_
    refine r_ild3 dX10_costs_56 ?_
    refine r_iadd dX10_costs_57 ?_
    exact s_iret hM rfl dX10_costs_58 (by rw [e]; first | (rw [if_pos (by assumption), hz (by omega)]; omega) | (rw [if_neg (by assumption), if_pos (by assumption), hz (by omega)]; omega) | (rw [if_neg (by assumption), if_neg (by assumption)]; omega)) (by rfl)
  refine r_iconst dX10_costs_13 ?_
  refine r_goto 45 dX10_costs_14 (by decide) ?_
  refine r_ist3 dX10_costs_45 rfl ?_
  refine r_ald0 dX10_costs_46 ?_
  refine r_ald1 dX10_costs_47 ?_
  refine r_ild2 dX10_costs_48 ?_
  refine s_callV2r hM (c_X10_rest E (by first | with_reducible assumption | with_reducible exact xSt_9 | with_reducible exact xSt_13 | omega) (by first | with_reducible assumption | with_reducible exact xSt_9 | with_reducible exact xSt_13 | omega) (by first | with_reducible assumption | with_reducible exact xSt_9 | with_reducible exact xSt_13 | omega) (by first | with_reducible assumption | with_reducible exact xSt_9 | with_reducible exact xSt_13 | omega)) cv_X10_rest wM_X10_161 (sh_201) rfl rfl (Nat.le_of_ble_eq_true rfl) (by decide) dX10_costs_49 (fun _ => ?_)
  refine r_ald1 dX10_costs_52 ?_
  refine r_iconst dX10_costs_53 ?_
  refine s_iald hM (hk) (by omega) (by decide) dX10_costs_54 (fun g54 => ?_)
  try simp (disch := omega) only [e8, e14, e20, Int.reduceToNat, f5, f10]
  refine r_imul dX10_costs_55 ?_
  refine r_ild3 dX10_costs_56 ?_
  refine r_iadd dX10_costs_57 ?_
  exact s_iret hM rfl dX10_costs_58 (by rw [e]; first | (rw [if_pos (by assumption), hz (by omega)]; omega) | (rw [if_neg (by assumption), if_pos (by assumption), hz (by omega)]; omega) | (rw [if_neg (by assumption), if_neg (by assumption)]; omega)) (by rfl)
set_option maxHeartbeats 4000000 in
theorem c_X10_can (E : xE) {M : xMem} {k : Nat} {s : Int} (hk : shp k = (1, 21, [])) (hT : TI (tg (M 209))) (hS : SI (tg (M 209)) (sk (M k))) (hs : 0 ≤ s ∧ s < M 209 1) : Ct E mX10_can 3 3 [xr E 201, xr E k, xi s] M (some (xi (b2i (canT (tg (M 209)) (sk (M k)) s)))) (M) := by
  refine Ct.of 0 3 (by rfl) (by decide +kernel) (fun hM => ?_)
  have hn : 1 ≤ M 209 0 ∧ M 209 0 ≤ 5 := hT.1
  have hN : 1 ≤ M 209 1 ∧ M 209 1 ≤ 6 := hT.2.1
  have hra : 1 ≤ M 209 2 ∧ M 209 2 ≤ 60 := hT.2.2.1
  have hq : (1 ≤ tg (M 209) 2 s.toNat ∧ tg (M 209) 2 s.toNat ≤ 5) ∧ (0 ≤ tg (M 209) 3 s.toNat ∧ tg (M 209) 3 s.toNat < M 209 0) ∧ (1 ≤ tg (M 209) 4 s.toNat ∧ tg (M 209) 4 s.toNat ≤ 30) ∧ (0 ≤ tg (M 209) 5 s.toNat ∧ tg (M 209) 5 s.toNat ≤ s) := hT.2.2.2.2 s hs
  have e8 : M 209 (8 + s).toNat = tg (M 209) 2 s.toNat := ix8 (by omega)
  have e14 : M 209 (14 + s).toNat = tg (M 209) 3 s.toNat := ix14 (by omega)
  have e20 : M 209 (20 + s).toNat = tg (M 209) 4 s.toNat := ix20 (by omega)
  have hpu : (0 ≤ sk (M k) 1 (tg (M 209) 3 s.toNat).toNat ∧ sk (M k) 1 (tg (M 209) 3 s.toNat).toNat ≤ 99) ∧ (0 ≤ sk (M k) 2 (tg (M 209) 3 s.toNat).toNat ∧ sk (M k) 2 (tg (M 209) 3 s.toNat).toNat ≤ 99) := hS.2.2.2.2.2.1 _ hq.2.1
  have f5 : M k (5 + tg (M 209) 3 s.toNat).toNat = sk (M k) 1 (tg (M 209) 3 s.toNat).toNat := iy5 (by omega)
  have f10 : M k (10 + tg (M 209) 3 s.toNat).toNat = sk (M k) 2 (tg (M 209) 3 s.toNat).toNat := iy10 (by omega)
  have hl : 0 ≤ M k 1 ∧ M k 1 ≤ 99 := hS.2.1
  have hh : 0 ≤ M k 2 ∧ M k 2 ≤ 999 := hS.2.2.1
  have hpr : 1 ≤ M k 3 ∧ M k 3 ≤ 9 := hS.2.2.2.1
  have hsd : 0 ≤ M k 4 ∧ M k 4 ≤ 63 := hS.2.2.2.2.1
  have hwk : 0 ≤ M k 0 ∧ M k 0 ≤ 100000 := hS.1
  have hwd := words_b hT (s := s) hs
  have hwo := wol_b hT hS (s := s) hs
  have hcr := crn_b hT hS (s := s) hs
  have e : canT (tg (M 209)) (sk (M k)) s ↔ ¬ bitI (M k 4) s = 1 ∧ wolT (tg (M 209)) (sk (M k)) s ≤ M k 1 ∧ crnT (tg (M 209)) (sk (M k)) s ≤ sk (M k) 1 (tg (M 209) 3 s.toNat).toNat := Iff.rfl
  show VS E mX10_can 3 _ _ 0 [some (xr E 201), some (xr E k), some (xi s)] [] M
  refine r_ald1 dX10_can_0 ?_
  refine r_iconst dX10_can_1 ?_
  refine s_iald hM (hk) (by omega) (by decide) dX10_can_2 (fun g2 => ?_)
  try simp (disch := omega) only [e8, e14, e20, Int.reduceToNat, f5, f10]
  refine r_ild2 dX10_can_3 ?_
  refine s_callS2r hM (c_X10_has E (by first | with_reducible assumption | with_reducible exact xSt_9 | with_reducible exact xSt_13 | omega) (by first | with_reducible assumption | with_reducible exact xSt_9 | with_reducible exact xSt_13 | omega)) cs_X10_has wM_X10_165 (Nat.le_of_ble_eq_true rfl) (by decide) dX10_can_4 (fun _ => ?_)
  refine r_ifb_ne 48 dX10_can_7 (by decide) (fun c7 => ?_) (fun c7 => ?_)
  · skip
    refine r_iconst dX10_can_48 ?_
    exact s_zret hM rfl (by omega) dX10_can_49 (by rw [b2i_cg e]; unfold b2i; split <;> omega) (by rfl)
  refine r_ald0 dX10_can_10 ?_
  refine r_ald1 dX10_can_11 ?_
  refine r_ild2 dX10_can_12 ?_
  refine s_callV2r hM (c_X10_rest E (by first | with_reducible assumption | with_reducible exact xSt_9 | with_reducible exact xSt_13 | omega) (by first | with_reducible assumption | with_reducible exact xSt_9 | with_reducible exact xSt_13 | omega) (by first | with_reducible assumption | with_reducible exact xSt_9 | with_reducible exact xSt_13 | omega) (by first | with_reducible assumption | with_reducible exact xSt_9 | with_reducible exact xSt_13 | omega)) cv_X10_rest wM_X10_161 (sh_201) rfl rfl (Nat.le_of_ble_eq_true rfl) (by decide) dX10_can_13 (fun _ => ?_)
  refine r_ald1 dX10_can_16 ?_
  refine r_iconst dX10_can_17 ?_
  refine s_iald hM (hk) (by omega) (by decide) dX10_can_18 (fun g18 => ?_)
  try simp (disch := omega) only [e8, e14, e20, Int.reduceToNat, f5, f10]
  refine r_icmp_gt 48 dX10_can_19 (by decide) (by omega) (by omega) (fun c19 => ?_) (fun c19 => ?_)
  · skip
    refine r_iconst dX10_can_48 ?_
    exact s_zret hM rfl (by omega) dX10_can_49 (by rw [b2i_cg e]; unfold b2i; split <;> omega) (by rfl)
  refine r_ald0 dX10_can_22 ?_
  refine r_ald1 dX10_can_23 ?_
  refine r_ild2 dX10_can_24 ?_
  refine s_callV2r hM (c_X10_costs E (by first | with_reducible assumption | with_reducible exact xSt_9 | with_reducible exact xSt_13 | omega) (by first | with_reducible assumption | with_reducible exact xSt_9 | with_reducible exact xSt_13 | omega) (by first | with_reducible assumption | with_reducible exact xSt_9 | with_reducible exact xSt_13 | omega) (by first | with_reducible assumption | with_reducible exact xSt_9 | with_reducible exact xSt_13 | omega)) cv_X10_costs wM_X10_169 (sh_201) rfl rfl (Nat.le_of_ble_eq_true rfl) (by decide) dX10_can_25 (fun _ => ?_)
  refine r_ald1 dX10_can_28 ?_
  refine r_iconst dX10_can_29 ?_
  refine r_ald0 dX10_can_30 ?_
  refine s_getR fi_X10_31 (sh_201) rfl dX10_can_31 ?_
  refine r_bipush dX10_can_34 (by decide +kernel) ?_
  refine r_ild2 dX10_can_36 ?_
  refine r_iadd dX10_can_37 ?_
  refine s_iald hM (sh_209) (by omega) (by decide) dX10_can_38 (fun g38 => ?_)
  try simp (disch := omega) only [e8, e14, e20, Int.reduceToNat, f5, f10]
  refine r_iadd dX10_can_39 ?_
  refine s_iald hM (hk) (by omega) (by decide) dX10_can_40 (fun g40 => ?_)
  try simp (disch := omega) only [e8, e14, e20, Int.reduceToNat, f5, f10]
  refine r_icmp_gt 48 dX10_can_41 (by decide) (by omega) (by omega) (fun c41 => ?_) (fun c41 => ?_)
  · skip
    refine r_iconst dX10_can_48 ?_
    exact s_zret hM rfl (by omega) dX10_can_49 (by rw [b2i_cg e]; unfold b2i; split <;> omega) (by rfl)
  refine r_iconst dX10_can_44 ?_
  refine r_goto 49 dX10_can_45 (by decide) ?_
  exact s_zret hM rfl (by omega) dX10_can_49 (by rw [b2i_cg e]; unfold b2i; split <;> omega) (by rfl)
set_option maxHeartbeats 4000000 in
theorem c_X10_beside (E : xE) {M : xMem} {a df : Int} (hn : 1 ≤ M 209 0 ∧ M 209 0 ≤ 5) (hset : 0 ≤ a ∧ a < 2 ^ (M 209 0).toNat) (hdf : 0 ≤ df ∧ df ≤ 31) : Ct E mX10_beside 6 1 [xr E 201, xi a, xi df] M (some (xi (hopT (M 209 0) a df))) (M) := by
  refine Ct.of 3 6 (by rfl) (by decide +kernel) (fun hM => ?_)
  have h5 := p2_5 (n := M 209 0) (by omega)
  have hwb := wbT_b (n := M 209 0) (s := a) (by omega)
  show VS E mX10_beside 1 _ _ 0 [some (xr E 201), some (xi a), some (xi df), none, none, none] [] M
  have L13 : ∀ (fu : Nat) (on i : Int), (0 ≤ i ∧ i ≤ M 209 0) → (0 ≤ on ∧ on ≤ 31) → (foldI (besF (M 209 0) a) (M 209 0 - i).toNat i on = wbT (M 209 0) a) → (M 209 0 - i).toNat < fu → VS E mX10_beside 1 (some (xi (hopT (M 209 0) a df))) (M) 13 [some (xr E 201), some (xi a), some (xi df), some (xi (M 209 0)), some (xi on), some (xi i)] [] M := by
    intro fu
    induction fu with
    | zero => intro on i  hb ho hi hme; exact absurd hme (Nat.not_lt_zero _)
    | succ fu ih =>
      intro on i  hb ho hi hme
      have hm1 := Int.emod_nonneg (i + 1) (show M 209 0 ≠ 0 by omega)
      have hm2 := Int.emod_lt_of_pos (i + 1) (show 0 < M 209 0 by omega)
      have hm3 := Int.emod_nonneg (i + M 209 0 - 1) (show M 209 0 ≠ 0 by omega)
      have hm4 := Int.emod_lt_of_pos (i + M 209 0 - 1) (show 0 < M 209 0 by omega)
      have q1 := p2_4 (n := (i + 1) % M 209 0) (by omega)
      have q2 := p2_4 (n := (i + M 209 0 - 1) % M 209 0) (by omega)
      have q3 := xor2_31 (a := 1 * 2 ^ ((i + 1) % M 209 0).toNat) (b := 1 * 2 ^ ((i + M 209 0 - 1) % M 209 0).toNat) (by omega) (by omega)
      refine r_ild5 dX10_beside_13 ?_
      refine r_ild3 dX10_beside_15 ?_
      refine r_icmp_ge 62 dX10_beside_16 (by decide) (by omega) (by omega) (fun c16 => ?_) (fun c16 => ?_)
      · skip
        have ho2 : on = wbT (M 209 0) a := by rw [← hi, show (M 209 0 - i).toNat = 0 by omega]; rfl
        subst ho2
        refine r_ild1 dX10_beside_62 ?_
        refine r_ild4 dX10_beside_63 ?_
        refine r_ild2 dX10_beside_65 ?_
        refine r_iconst dX10_beside_66 ?_
        refine r_inot dX10_beside_67 ?_
        refine r_iandn dX10_beside_68 (by omega) (by omega) (fun g68 => ?_)
        refine r_ior dX10_beside_69 (by omega) (by omega) (fun g69 => ?_)
        exact s_iret hM rfl dX10_beside_70 (by rfl) (by rfl)
      refine r_ild4 dX10_beside_19 ?_
      refine r_ild1 dX10_beside_21 ?_
      refine r_ild5 dX10_beside_22 ?_
      refine s_callS2r hM (c_X10_has E (by first | with_reducible assumption | with_reducible exact xSt_9 | with_reducible exact xSt_13 | omega) (by first | with_reducible assumption | with_reducible exact xSt_9 | with_reducible exact xSt_13 | omega)) cs_X10_has wM_X10_165 (Nat.le_of_ble_eq_true rfl) (by decide) dX10_beside_24 (fun _ => ?_)
      refine r_ifb_eq 52 dX10_beside_27 (by decide) (fun c27 => ?_) (fun c27 => ?_)
      · skip
        refine r_iconst dX10_beside_52 ?_
        refine r_ior dX10_beside_53 (by omega) (by omega) (fun g53 => ?_)
        refine r_ist4 dX10_beside_54 rfl ?_
        refine r_iinc5 dX10_beside_56 rfl ?_
        refine r_goto 13 dX10_beside_59 (by decide) ?_
        exact ih _ _  (by omega) (by exact xor2_31 ho (by omega)) (by exact foldI_go (by omega) hi (by unfold besF; first | rw [if_pos (by assumption)] | rw [if_neg (by assumption)])) (by omega)
      refine r_iconst dX10_beside_30 ?_
      refine r_ild5 dX10_beside_31 ?_
      refine r_iconst dX10_beside_33 ?_
      refine r_iadd dX10_beside_34 ?_
      refine r_ild3 dX10_beside_35 ?_
      refine r_irem dX10_beside_36 (by omega) (by omega) ?_
      refine r_ishl dX10_beside_37 (by omega) ?_
      refine r_iconst dX10_beside_38 ?_
      refine r_ild5 dX10_beside_39 ?_
      refine r_ild3 dX10_beside_41 ?_
      refine r_iadd dX10_beside_42 ?_
      refine r_iconst dX10_beside_43 ?_
      refine r_isub dX10_beside_44 ?_
      refine r_ild3 dX10_beside_45 ?_
      refine r_irem dX10_beside_46 (by omega) (by omega) ?_
      refine r_ishl dX10_beside_47 (by omega) ?_
      refine r_ior dX10_beside_48 (by omega) (by omega) (fun g48 => ?_)
      refine r_goto 53 dX10_beside_49 (by decide) ?_
      refine r_ior dX10_beside_53 (by omega) (by omega) (fun g53 => ?_)
      refine r_ist4 dX10_beside_54 rfl ?_
      refine r_iinc5 dX10_beside_56 rfl ?_
      refine r_goto 13 dX10_beside_59 (by decide) ?_
      exact ih _ _  (by omega) (by exact xor2_31 ho (by omega)) (by exact foldI_go (by omega) hi (by unfold besF; first | rw [if_pos (by assumption)] | rw [if_neg (by assumption)])) (by omega)
  refine r_ald0 dX10_beside_0 ?_
  refine s_getR fi_X10_31 (sh_201) rfl dX10_beside_1 ?_
  refine r_iconst dX10_beside_4 ?_
  refine s_iald hM (sh_209) (by omega) (by decide) dX10_beside_5 (fun g5 => ?_)
  try simp (disch := omega) only [Int.reduceToNat]
  refine r_ist3 dX10_beside_6 rfl ?_
  refine r_ild1 dX10_beside_7 ?_
  refine r_ist4 dX10_beside_8 rfl ?_
  refine r_iconst dX10_beside_10 ?_
  refine r_ist5 dX10_beside_11 rfl ?_
  exact L13 6 _ _  (by omega) (by omega) (by rw [Int.sub_zero]; exact bes_wb hn hset) (by omega)
set_option maxHeartbeats 4000000 in
theorem c_X10_firstTo (E : xE) {M : xMem} {kd w df : Int} (hn : 1 ≤ M 209 0 ∧ M 209 0 ≤ 5) (hkd : -2147483648 ≤ kd ∧ kd < 2147483648) (hw : 0 ≤ w ∧ w < M 209 0) (hdf : 0 ≤ df ∧ df ≤ 31) : Ct E mX10_firstTo 4 2 [xr E 201, xi kd, xi w, xi df] M (some (xi (reachT (M 209 0) kd w df))) (M) := by
  refine Ct.of 0 4 (by rfl) (by decide +kernel) (fun hM => ?_)
  have h4 := p2_4 (n := w) (by omega)
  have hmm : (2 : Int) ^ (w + 1).toNat ≤ 2 ^ (M 209 0).toNat := p2_mono (by omega)
  rw [show (w + 1).toNat = w.toNat + 1 by omega, Int.pow_succ] at hmm
  show VS E mX10_firstTo 2 _ _ 0 [some (xr E 201), some (xi kd), some (xi w), some (xi df)] [] M
  refine r_ild1 dX10_firstTo_0 ?_
  refine r_iconst dX10_firstTo_1 ?_
  refine r_icmp_eq 10 dX10_firstTo_2 (by decide) (by omega) (by omega) (fun c2 => ?_) (fun c2 => ?_)
  · skip
    refine r_ald0 dX10_firstTo_10 ?_
    refine r_iconst dX10_firstTo_11 ?_
    refine r_ild2 dX10_firstTo_12 ?_
    refine r_ishl dX10_firstTo_13 (by omega) ?_
    refine r_ild3 dX10_firstTo_14 ?_
    refine s_callV2r hM (c_X10_beside E (by first | with_reducible assumption | with_reducible exact xSt_9 | with_reducible exact xSt_13 | omega) (by first | with_reducible assumption | with_reducible exact xSt_9 | with_reducible exact xSt_13 | omega) (by first | with_reducible assumption | with_reducible exact xSt_9 | with_reducible exact xSt_13 | omega)) cv_X10_beside wM_X10_172 (sh_201) rfl rfl (Nat.le_of_ble_eq_true rfl) (by decide) dX10_firstTo_15 (fun _ => ?_)
    refine r_goto 25 dX10_firstTo_18 (by decide) ?_
    exact s_iret hM rfl dX10_firstTo_25 (by unfold reachT; split <;> first | rfl | omega) (by rfl)
  refine r_ild1 dX10_firstTo_5 ?_
  refine r_iconst dX10_firstTo_6 ?_
  refine r_icmp_ne 21 dX10_firstTo_7 (by decide) (by omega) (by omega) (fun c7 => ?_) (fun c7 => ?_)
  · skip
    refine r_ald0 dX10_firstTo_21 ?_
    refine s_callV0r hM (c_X10_all E (by first | with_reducible assumption | with_reducible exact xSt_9 | with_reducible exact xSt_13 | omega)) cv_X10_all wM_X10_176 (sh_201) rfl rfl (Nat.le_of_ble_eq_true rfl) (by decide) dX10_firstTo_22 (fun _ => ?_)
    exact s_iret hM rfl dX10_firstTo_25 (by unfold reachT; split <;> first | rfl | omega) (by rfl)
  refine r_ald0 dX10_firstTo_10 ?_
  refine r_iconst dX10_firstTo_11 ?_
  refine r_ild2 dX10_firstTo_12 ?_
  refine r_ishl dX10_firstTo_13 (by omega) ?_
  refine r_ild3 dX10_firstTo_14 ?_
  refine s_callV2r hM (c_X10_beside E (by first | with_reducible assumption | with_reducible exact xSt_9 | with_reducible exact xSt_13 | omega) (by first | with_reducible assumption | with_reducible exact xSt_9 | with_reducible exact xSt_13 | omega) (by first | with_reducible assumption | with_reducible exact xSt_9 | with_reducible exact xSt_13 | omega)) cv_X10_beside wM_X10_172 (sh_201) rfl rfl (Nat.le_of_ble_eq_true rfl) (by decide) dX10_firstTo_15 (fun _ => ?_)
  refine r_goto 25 dX10_firstTo_18 (by decide) ?_
  exact s_iret hM rfl dX10_firstTo_25 (by unfold reachT; split <;> first | rfl | omega) (by rfl)
set_option maxHeartbeats 4000000 in
theorem c_X10_onward (E : xE) {M : xMem} {kd a df : Int} (hn : 1 ≤ M 209 0 ∧ M 209 0 ≤ 5) (hkd : -2147483648 ≤ kd ∧ kd < 2147483648) (hset : 0 ≤ a ∧ a < 2 ^ (M 209 0).toNat) (hdf : 0 ≤ df ∧ df ≤ 31) : Ct E mX10_onward 5 2 [xr E 201, xi kd, xi a, xi df] M (some (xi (onwT (M 209 0) kd a df 1))) (M) := by
  refine Ct.of 1 5 (by rfl) (by decide +kernel) (fun hM => ?_)
  have hop := hop_n (n := M 209 0) (a := a) (d := df) (by omega) hset
  have h5 := p2_5 (n := M 209 0) (by omega)
  show VS E mX10_onward 2 _ _ 0 [some (xr E 201), some (xi kd), some (xi a), some (xi df), none] [] M
  refine r_ild1 dX10_onward_0 ?_
  refine r_iconst dX10_onward_1 ?_
  refine r_icmp_eq 10 dX10_onward_2 (by decide) (by omega) (by omega) (fun c2 => ?_) (fun c2 => ?_)
  · skip
    refine r_ald0 dX10_onward_10 ?_
    refine r_ild2 dX10_onward_11 ?_
    refine r_ild3 dX10_onward_12 ?_
    refine s_callV2r hM (c_X10_beside E (by first | with_reducible assumption | with_reducible exact xSt_9 | with_reducible exact xSt_13 | omega) (by first | with_reducible assumption | with_reducible exact xSt_9 | with_reducible exact xSt_13 | omega) (by first | with_reducible assumption | with_reducible exact xSt_9 | with_reducible exact xSt_13 | omega)) cv_X10_beside wM_X10_172 (sh_201) rfl rfl (Nat.le_of_ble_eq_true rfl) (by decide) dX10_onward_13 (fun _ => ?_)
    refine r_goto 20 dX10_onward_16 (by decide) ?_
    refine r_ist4 dX10_onward_20 rfl ?_
    refine r_ild1 dX10_onward_22 ?_
    refine r_iconst dX10_onward_23 ?_
    refine r_icmp_ne 37 dX10_onward_24 (by decide) (by omega) (by omega) (fun c24 => ?_) (fun c24 => ?_)
    · skip
      refine r_ild4 dX10_onward_37 ?_
      exact s_iret hM rfl dX10_onward_39 (by rw [onw_1]; first | (rw [if_pos (by omega)]; done) | (rw [if_neg (by omega), if_pos (by omega)]; done) | (rw [if_neg (by omega), if_neg (by omega)]; done)) (by rfl)
    refine r_ald0 dX10_onward_27 ?_
    refine r_ild4 dX10_onward_28 ?_
    refine r_ild3 dX10_onward_30 ?_
    refine s_callV2r hM (c_X10_beside E (by first | with_reducible assumption | with_reducible exact xSt_9 | with_reducible exact xSt_13 | omega) (by first | with_reducible assumption | with_reducible exact xSt_9 | with_reducible exact xSt_13 | omega) (by first | with_reducible assumption | with_reducible exact xSt_9 | with_reducible exact xSt_13 | omega)) cv_X10_beside wM_X10_172 (sh_201) rfl rfl (Nat.le_of_ble_eq_true rfl) (by decide) dX10_onward_31 (fun _ => ?_)
    refine r_goto 39 dX10_onward_34 (by decide) ?_
    exact s_iret hM rfl dX10_onward_39 (by rw [onw_1]; first | (rw [if_pos (by omega)]; done) | (rw [if_neg (by omega), if_pos (by omega)]; done) | (rw [if_neg (by omega), if_neg (by omega)]; done)) (by rfl)
  refine r_ild1 dX10_onward_5 ?_
  refine r_iconst dX10_onward_6 ?_
  refine r_icmp_ne 19 dX10_onward_7 (by decide) (by omega) (by omega) (fun c7 => ?_) (fun c7 => ?_)
  · skip
    refine r_ild2 dX10_onward_19 ?_
    refine r_ist4 dX10_onward_20 rfl ?_
    refine r_ild1 dX10_onward_22 ?_
    refine r_iconst dX10_onward_23 ?_
    refine r_icmp_ne 37 dX10_onward_24 (by decide) (by omega) (by omega) (fun c24 => ?_) (fun c24 => ?_)
    · skip
      refine r_ild4 dX10_onward_37 ?_
      exact s_iret hM rfl dX10_onward_39 (by rw [onw_1]; first | (rw [if_pos (by omega)]; done) | (rw [if_neg (by omega), if_pos (by omega)]; done) | (rw [if_neg (by omega), if_neg (by omega)]; done)) (by rfl)
    refine r_ald0 dX10_onward_27 ?_
    refine r_ild4 dX10_onward_28 ?_
    refine r_ild3 dX10_onward_30 ?_
    refine s_callV2r hM (c_X10_beside E (by first | with_reducible assumption | with_reducible exact xSt_9 | with_reducible exact xSt_13 | omega) (by first | with_reducible assumption | with_reducible exact xSt_9 | with_reducible exact xSt_13 | omega) (by first | with_reducible assumption | with_reducible exact xSt_9 | with_reducible exact xSt_13 | omega)) cv_X10_beside wM_X10_172 (sh_201) rfl rfl (Nat.le_of_ble_eq_true rfl) (by decide) dX10_onward_31 (fun _ => ?_)
    refine r_goto 39 dX10_onward_34 (by decide) ?_
    exact s_iret hM rfl dX10_onward_39 (by rw [onw_1]; first | (rw [if_pos (by omega)]; done) | (rw [if_neg (by omega), if_pos (by omega)]; done) | (rw [if_neg (by omega), if_neg (by omega)]; done)) (by rfl)
  refine r_ald0 dX10_onward_10 ?_
  refine r_ild2 dX10_onward_11 ?_
  refine r_ild3 dX10_onward_12 ?_
  refine s_callV2r hM (c_X10_beside E (by first | with_reducible assumption | with_reducible exact xSt_9 | with_reducible exact xSt_13 | omega) (by first | with_reducible assumption | with_reducible exact xSt_9 | with_reducible exact xSt_13 | omega) (by first | with_reducible assumption | with_reducible exact xSt_9 | with_reducible exact xSt_13 | omega)) cv_X10_beside wM_X10_172 (sh_201) rfl rfl (Nat.le_of_ble_eq_true rfl) (by decide) dX10_onward_13 (fun _ => ?_)
  refine r_goto 20 dX10_onward_16 (by decide) ?_
  refine r_ist4 dX10_onward_20 rfl ?_
  refine r_ild1 dX10_onward_22 ?_
  refine r_iconst dX10_onward_23 ?_
  refine r_icmp_ne 37 dX10_onward_24 (by decide) (by omega) (by omega) (fun c24 => ?_) (fun c24 => ?_)
  · skip
    refine r_ild4 dX10_onward_37 ?_
    exact s_iret hM rfl dX10_onward_39 (by rw [onw_1]; first | (rw [if_pos (by omega)]; done) | (rw [if_neg (by omega), if_pos (by omega)]; done) | (rw [if_neg (by omega), if_neg (by omega)]; done)) (by rfl)
  refine r_ald0 dX10_onward_27 ?_
  refine r_ild4 dX10_onward_28 ?_
  refine r_ild3 dX10_onward_30 ?_
  refine s_callV2r hM (c_X10_beside E (by first | with_reducible assumption | with_reducible exact xSt_9 | with_reducible exact xSt_13 | omega) (by first | with_reducible assumption | with_reducible exact xSt_9 | with_reducible exact xSt_13 | omega) (by first | with_reducible assumption | with_reducible exact xSt_9 | with_reducible exact xSt_13 | omega)) cv_X10_beside wM_X10_172 (sh_201) rfl rfl (Nat.le_of_ble_eq_true rfl) (by decide) dX10_onward_31 (fun _ => ?_)
  refine r_goto 39 dX10_onward_34 (by decide) ?_
  exact s_iret hM rfl dX10_onward_39 (by rw [onw_1]; first | (rw [if_pos (by omega)]; done) | (rw [if_neg (by omega), if_pos (by omega)]; done) | (rw [if_neg (by omega), if_neg (by omega)]; done)) (by rfl)
set_option maxHeartbeats 4000000 in
theorem c_X10_capped (E : xE) {M : xMem} {v h : Int} (hv : -2147483648 ≤ v ∧ v < 2147483648) (hh : -2147483648 ≤ h ∧ h < 2147483648) : Ct E mX10_capped 2 0 [xi v, xi h] M (some (xi (min h v))) (M) := by
  refine Ct.of 0 2 (by rfl) (by decide +kernel) (fun hM => ?_)
  show VS E mX10_capped 0 _ _ 0 [some (xi v), some (xi h)] [] M
  refine r_ild0 dX10_capped_0 ?_
  refine r_ild1 dX10_capped_1 ?_
  refine r_icmp_le 9 dX10_capped_2 (by decide) (by omega) (by omega) (fun c2 => ?_) (fun c2 => ?_)
  · skip
    refine r_ild0 dX10_capped_9 ?_
    exact s_iret hM rfl dX10_capped_10 (by omega) (by rfl)
  refine r_ild1 dX10_capped_5 ?_
  refine r_goto 10 dX10_capped_6 (by decide) ?_
  exact s_iret hM rfl dX10_capped_10 (by omega) (by rfl)
set_option maxHeartbeats 4000000 in
theorem c_X10_need (E : xE) {M : xMem} {v : Int} (hv : v = 0 ∨ v = 1) : Ct E mX10_need 2 0 [xr E 201, xi v] M (some (xi (needV M v))) (M) := by
  refine Ct.of 0 2 (by rfl) (by decide +kernel) (fun hM => ?_)
  show VS E mX10_need 0 _ _ 0 [some (xr E 201), some (xi v)] [] M
  refine r_ald0 dX10_need_0 ?_
  refine s_getI hM fi_X10_151 (sh_201) rfl dX10_need_1 (fun g1 => ?_)
  refine r_if_ne 12 dX10_need_4 (by decide) (by omega) (fun c4 => ?_) (fun c4 => ?_)
  · skip
    refine r_ild1 dX10_need_12 ?_
    refine r_if_eq 20 dX10_need_13 (by decide) (by omega) (fun c13 => ?_) (fun c13 => ?_)
    · skip
      refine r_ldc (-1000001) dX10_need_20 wC_X10_78 ?_
      exact s_iret hM rfl dX10_need_22 (by unfold needV; split <;> (try split) <;> omega) (by rfl)
    refine r_iconst dX10_need_16 ?_
    refine r_goto 22 dX10_need_17 (by decide) ?_
    exact s_iret hM rfl dX10_need_22 (by unfold needV; split <;> (try split) <;> omega) (by rfl)
  refine r_ldc (-1000002) dX10_need_7 wC_X10_193 ?_
  refine r_goto 22 dX10_need_9 (by decide) ?_
  exact s_iret hM rfl dX10_need_22 (by unfold needV; split <;> (try split) <;> omega) (by rfl)
set_option maxHeartbeats 4000000 in
theorem c_X10_isAhead (E : xE) {M : xMem} {n : Int} (hn : -2147483648 ≤ n ∧ n < 2147483648) : Ct E mX10_isAhead 1 1 [xi n] M (some (xi (b2i (0 ≤ n ∧ n ≤ 60)))) (M) := by
  refine Ct.of 0 1 (by rfl) (by decide +kernel) (fun hM => ?_)
  show VS E mX10_isAhead 1 _ _ 0 [some (xi n)] [] M
  refine r_ild0 dX10_isAhead_0 ?_
  refine r_iconst dX10_isAhead_1 ?_
  refine r_bipush dX10_isAhead_2 (by decide +kernel) ?_
  refine s_callS3r hM (c_X10_in E (by first | with_reducible assumption | with_reducible exact xSt_9 | with_reducible exact xSt_13 | omega) (by first | with_reducible assumption | with_reducible exact xSt_9 | with_reducible exact xSt_13 | omega) (by first | with_reducible assumption | with_reducible exact xSt_9 | with_reducible exact xSt_13 | omega)) cs_X10_in wM_X10_70 (Nat.le_of_ble_eq_true rfl) (by decide) dX10_isAhead_4 (fun _ => ?_)
  exact s_zret hM rfl (by have := @b2i_rg; unfold b2i; split <;> simp) dX10_isAhead_7 (by rfl) (by rfl)
