set_option maxHeartbeats 4000000 in
theorem c_X9_heardCases (E : xE) {M : xMem} {s p n pr : Int} (hT : TI (tw M)) (hS : SI (tw M) (sv M 9)) (hs : 0 ≤ s ∧ s < M 3 7) (hp : 0 ≤ p ∧ p < M 3 6) (hn30 : 0 ≤ n ∧ n ≤ 30) (hpr : 0 ≤ pr ∧ pr ≤ 10) : Ct E mX9_heardCases 10 4 [xr E 0, xi s, xi p, xi n, xi pr] M (some (xl (hcT (tw M) (sv M 9) s p n pr))) (M) := by
  refine Ct.of 5 10 (by rfl) (by decide +kernel) (fun hM => ?_)
  have hn : 1 ≤ M 3 6 ∧ M 3 6 ≤ 5 := hT.1
  have hN : 1 ≤ M 3 7 ∧ M 3 7 ≤ 6 := hT.2.1
  have hr : 1 ≤ M 3 5 ∧ M 3 5 ≤ 60 := hT.2.2.1
  have hq : (1 ≤ M 5 s.toNat ∧ M 5 s.toNat ≤ 5) ∧ (0 ≤ M 6 s.toNat ∧ M 6 s.toNat < M 3 6) ∧ (1 ≤ M 7 s.toNat ∧ M 7 s.toNat ≤ 30) ∧ (0 ≤ M 8 s.toNat ∧ M 8 s.toNat ≤ s) := hT.2.2.2.2 s hs
  have hp5 := p2_5 (n := M 3 6) (by omega)
  have hpp := p2_4 (n := p) (by omega)
  have hps := p2_4 (n := M 6 s.toNat) (by omega)
  show VS E mX9_heardCases 4 _ _ 0 [some (xr E 0), some (xi s), some (xi p), some (xi n), some (xi pr), none, none, none, none, none] [] M
  have L19 : ∀ (fu : Nat) (a set : Int), (0 ≤ set ∧ set ≤ 2 ^ (M 3 6).toNat) → (foldI (hcF (tw M) (sv M 9) s p n pr) (2 ^ (M 3 6).toNat - set).toNat set a = hcT (tw M) (sv M 9) s p n pr) → (2 ^ (M 3 6).toNat - set).toNat < fu → VS E mX9_heardCases 4 (some (xl (hcT (tw M) (sv M 9) s p n pr))) (M) 19 [some (xr E 0), some (xi s), some (xi p), some (xi n), some (xi pr), some (xi (1 * 2 ^ (M 6 s.toNat).toNat)), some (xl a), none, some (xi set), none] [] M := by
    intro fu
    induction fu with
    | zero => intro a set  hb hi hme; exact absurd hme (Nat.not_lt_zero _)
    | succ fu ih =>
      intro a set  hb hi hme
      refine r_ild8 dX9_heardCases_19 ?_
      refine r_ald0 dX9_heardCases_21 ?_
      refine s_getR fi_X9_24 (sh_0) rfl dX9_heardCases_22 ?_
      refine s_callV0r hM (c_X8_everyone E (by first | with_reducible assumption | with_reducible exact xSt_9 | with_reducible exact xSt_13 | omega)) cv_X8_everyone wM_X9_267 (sh_3) rfl rfl (Nat.le_of_ble_eq_true rfl) (by decide) dX9_heardCases_25 (fun _ => ?_)
      refine r_icmp_gt 104 dX9_heardCases_28 (by decide) (by omega) (by omega) (fun c28 => ?_) (fun c28 => ?_)
      · skip
        refine r_lld6 dX9_heardCases_104 ?_
        exact s_lret hM rfl dX9_heardCases_106 (by rw [← hi, show (2 ^ (M 3 6).toNat - set).toNat = 0 by omega]; rfl) (by rfl)
      have hpa := pass_b hT hS (s := s) (d := set) (w := n) hs
      have hdv := div_b (a := passT (tw M) (sv M 9) s set n) (A := 31) (b := 2 ^ p.toNat) hpa hpp.1
      have hpc := pcT_b set
      have hxa := xand_b (a := set) (b := 1 * 2 ^ (M 6 s.toNat).toNat) (B := 16) (by omega)
      refine r_ild8 dX9_heardCases_31 ?_
      refine r_ild5 dX9_heardCases_33 ?_
      refine r_iand dX9_heardCases_35 (by omega) (by omega) (fun g35 => ?_)
      refine r_if_ne 98 dX9_heardCases_36 (by decide) (by omega) (fun c36 => ?_) (fun c36 => ?_)
      · skip
        refine r_iinc8 dX9_heardCases_98 rfl ?_
        refine r_goto 19 dX9_heardCases_101 (by decide) ?_
        exact ih _ _  (by omega) (by exact foldI_go (by omega) hi (show (if xand set (1 * 2 ^ (M 6 s.toNat).toNat) = 0 ∧ xand (passT (tw M) (sv M 9) s set n / 2 ^ p.toNat) 1 = 1 then a + pr ^ (pcT set).toNat * (10 - pr) ^ (M 3 6 - 1 - pcT set).toNat else a) = _ by split <;> first | rfl | (exfalso; omega))) (by omega)
      refine r_ald0 dX9_heardCases_39 ?_
      refine s_getR fi_X9_33 (sh_0) rfl dX9_heardCases_40 ?_
      refine r_ild1 dX9_heardCases_43 ?_
      refine r_ild8 dX9_heardCases_44 ?_
      refine r_ild3 dX9_heardCases_46 ?_
      refine s_callV3r hM (c_X6_passedOn E (by exact xSt_9) (by exact hT) (by exact hS) (by exact hs) (by omega) (by omega)) cv_X6_passedOn wM_X9_369 (sh_9) rfl rfl (Nat.le_of_ble_eq_true rfl) (by decide) dX9_heardCases_47 (fun _ => ?_)
      refine r_ild2 dX9_heardCases_50 ?_
      refine r_ishr dX9_heardCases_51 (by omega) (by omega) ?_
      refine r_iconst dX9_heardCases_52 ?_
      refine r_iand dX9_heardCases_53 (by omega) (by omega) (fun g53 => ?_)
      refine r_iconst dX9_heardCases_54 ?_
      refine r_icmp_ne 98 dX9_heardCases_55 (by decide) (by omega) (by omega) (fun c55 => ?_) (fun c55 => ?_)
      · skip
        refine r_iinc8 dX9_heardCases_98 rfl ?_
        refine r_goto 19 dX9_heardCases_101 (by decide) ?_
        exact ih _ _  (by omega) (by exact foldI_go (by omega) hi (show (if xand set (1 * 2 ^ (M 6 s.toNat).toNat) = 0 ∧ xand (passT (tw M) (sv M 9) s set n / 2 ^ p.toNat) 1 = 1 then a + pr ^ (pcT set).toNat * (10 - pr) ^ (M 3 6 - 1 - pcT set).toNat else a) = _ by split <;> first | rfl | (exfalso; omega))) (by omega)
      have hpn : pcT set ≤ M 3 6 - 1 := pc_who (w := M 6 s.toNat) (by omega) (by omega) (by omega) (by assumption)
      refine r_ild8 dX9_heardCases_58 ?_
      refine s_callS1r hM (c_J6_bitCount_0f7a4 E (by omega)) cs_J6_bitCount_0f7a4 wM_X9_283 (Nat.le_of_ble_eq_true rfl) (by decide) dX9_heardCases_60 (fun _ => ?_)
      refine r_ist9 dX9_heardCases_63 rfl ?_
      refine r_lld6 dX9_heardCases_65 ?_
      refine r_ild4 dX9_heardCases_67 ?_
      refine r_ild9 dX9_heardCases_69 ?_
      refine s_callS2r hM (c_X9_power E (by first | with_reducible assumption | with_reducible exact xSt_9 | with_reducible exact xSt_13 | omega) (by first | with_reducible assumption | with_reducible exact xSt_9 | with_reducible exact xSt_13 | omega)) cs_X9_power wM_X9_324 (Nat.le_of_ble_eq_true rfl) (by decide) dX9_heardCases_71 (fun _ => ?_)
      refine r_bipush dX9_heardCases_74 (by decide +kernel) ?_
      refine r_ild4 dX9_heardCases_76 ?_
      refine r_isub dX9_heardCases_78 ?_
      refine r_ald0 dX9_heardCases_79 ?_
      refine s_getR fi_X9_24 (sh_0) rfl dX9_heardCases_80 ?_
      refine s_getI hM fi_X9_315 (sh_3) rfl dX9_heardCases_83 (fun g83 => ?_)
      refine r_iconst dX9_heardCases_86 ?_
      refine r_isub dX9_heardCases_87 ?_
      refine r_ild9 dX9_heardCases_88 ?_
      refine r_isub dX9_heardCases_90 ?_
      refine s_callS2r hM (c_X9_power E (by first | with_reducible assumption | with_reducible exact xSt_9 | with_reducible exact xSt_13 | omega) (by first | with_reducible assumption | with_reducible exact xSt_9 | with_reducible exact xSt_13 | omega)) cs_X9_power wM_X9_324 (Nat.le_of_ble_eq_true rfl) (by decide) dX9_heardCases_91 (fun _ => ?_)
      refine r_lmul dX9_heardCases_94 ?_
      refine r_ladd dX9_heardCases_95 ?_
      refine r_lst6 dX9_heardCases_96 rfl ?_
      refine r_iinc8 dX9_heardCases_98 rfl ?_
      refine r_goto 19 dX9_heardCases_101 (by decide) ?_
      refine r_fgt9 ?_
      exact ih _ _  (by omega) (by exact foldI_go (by omega) hi (show (if xand set (1 * 2 ^ (M 6 s.toNat).toNat) = 0 ∧ xand (passT (tw M) (sv M 9) s set n / 2 ^ p.toNat) 1 = 1 then a + pr ^ (pcT set).toNat * (10 - pr) ^ (M 3 6 - 1 - pcT set).toNat else a) = _ by split <;> first | rfl | (exfalso; omega))) (by omega)
  refine r_iconst dX9_heardCases_0 ?_
  refine r_ald0 dX9_heardCases_1 ?_
  refine s_getR fi_X9_24 (sh_0) rfl dX9_heardCases_2 ?_
  refine s_getR fi_X9_212 (sh_3) rfl dX9_heardCases_5 ?_
  refine r_ild1 dX9_heardCases_8 ?_
  refine s_iald hM (sh_6) (by omega) (by decide) dX9_heardCases_9 (fun g9 => ?_)
  refine r_ishl dX9_heardCases_10 (by omega) ?_
  refine r_ist5 dX9_heardCases_11 rfl ?_
  refine r_lconst0 dX9_heardCases_13 ?_
  refine r_lst6 dX9_heardCases_14 rfl ?_
  refine r_iconst dX9_heardCases_16 ?_
  refine r_ist8 dX9_heardCases_17 rfl ?_
  exact L19 33 _ _  (by omega) (by rw [Int.sub_zero]; rfl) (by omega)
set_option maxHeartbeats 4000000 in
theorem c_X9_heard (E : xE) {M : xMem} {s p n pr w : Int} (hs : -2147483648 ≤ s ∧ s < 2147483648) (hp : -2147483648 ≤ p ∧ p < 2147483648) (hn : -2147483648 ≤ n ∧ n < 2147483648) (hpr : -2147483648 ≤ pr ∧ pr < 2147483648) (hw : -2147483648 ≤ w ∧ w < 2147483648) (hD : (M 3 6 = 0 ∧ M 3 7 = 0) ∨ (TI (tw M) ∧ SI (tw M) (sv M 9))) : Ct E mX9_heard 12 5 [xr E 0, xi s, xi p, xi n, xi pr, xi w] M (some (xl (xHeard M s p n pr w))) (M) := by
  refine Ct.of 6 12 (by rfl) (by decide +kernel) (fun hM => ?_)
  show VS E mX9_heard 5 _ _ 0 [some (xr E 0), some (xi s), some (xi p), some (xi n), some (xi pr), some (xi w), none, none, none, none, none, none] [] M
  refine r_ald0 dX9_heard_0 ?_
  refine s_getR fi_X9_24 (sh_0) rfl dX9_heard_1 ?_
  refine r_ild1 dX9_heard_4 ?_
  refine s_callV1r hM (c_X8_hasSpeech E (by first | with_reducible assumption | with_reducible exact xSt_9 | with_reducible exact xSt_13 | omega)) cv_X8_hasSpeech wM_X9_188 (sh_3) rfl rfl (Nat.le_of_ble_eq_true rfl) (by decide) dX9_heard_5 (fun _ => ?_)
  refine r_ifb_eq 53 dX9_heard_8 (by decide) (fun c8 => ?_) (fun c8 => ?_)
  · skip
    refine r_ldc2 (-1000001) dX9_heard_53 wJ_X9_322 ?_
    exact s_lret hM rfl dX9_heard_56 (by unfold xHeard ; (repeat' split) <;> first | rfl | omega | (exfalso; omega)) (by rfl)
  refine r_ald0 dX9_heard_11 ?_
  refine s_getR fi_X9_24 (sh_0) rfl dX9_heard_12 ?_
  refine r_ild2 dX9_heard_15 ?_
  refine s_callV1r hM (c_X8_hasPerson E (by first | with_reducible assumption | with_reducible exact xSt_9 | with_reducible exact xSt_13 | omega)) cv_X8_hasPerson wM_X9_197 (sh_3) rfl rfl (Nat.le_of_ble_eq_true rfl) (by decide) dX9_heard_16 (fun _ => ?_)
  refine r_ifb_eq 53 dX9_heard_19 (by decide) (fun c19 => ?_) (fun c19 => ?_)
  · skip
    refine r_ldc2 (-1000001) dX9_heard_53 wJ_X9_322 ?_
    exact s_lret hM rfl dX9_heard_56 (by unfold xHeard ; (repeat' split) <;> first | rfl | omega | (exfalso; omega)) (by rfl)
  refine r_ild3 dX9_heard_22 ?_
  refine r_iconst dX9_heard_23 ?_
  refine r_bipush dX9_heard_24 (by decide +kernel) ?_
  refine s_callS3r hM (c_X9_within E (by first | with_reducible assumption | with_reducible exact xSt_9 | with_reducible exact xSt_13 | omega) (by first | with_reducible assumption | with_reducible exact xSt_9 | with_reducible exact xSt_13 | omega) (by first | with_reducible assumption | with_reducible exact xSt_9 | with_reducible exact xSt_13 | omega)) cs_X9_within wM_X9_83 (Nat.le_of_ble_eq_true rfl) (by decide) dX9_heard_26 (fun _ => ?_)
  refine r_ifb_eq 53 dX9_heard_29 (by decide) (fun c29 => ?_) (fun c29 => ?_)
  · skip
    refine r_ldc2 (-1000001) dX9_heard_53 wJ_X9_322 ?_
    exact s_lret hM rfl dX9_heard_56 (by unfold xHeard ; (repeat' split) <;> first | rfl | omega | (exfalso; omega)) (by rfl)
  refine r_ild4 dX9_heard_32 ?_
  refine r_iconst dX9_heard_34 ?_
  refine r_bipush dX9_heard_35 (by decide +kernel) ?_
  refine s_callS3r hM (c_X9_within E (by first | with_reducible assumption | with_reducible exact xSt_9 | with_reducible exact xSt_13 | omega) (by first | with_reducible assumption | with_reducible exact xSt_9 | with_reducible exact xSt_13 | omega) (by first | with_reducible assumption | with_reducible exact xSt_9 | with_reducible exact xSt_13 | omega)) cs_X9_within wM_X9_83 (Nat.le_of_ble_eq_true rfl) (by decide) dX9_heard_37 (fun _ => ?_)
  refine r_ifb_eq 53 dX9_heard_40 (by decide) (fun c40 => ?_) (fun c40 => ?_)
  · skip
    refine r_ldc2 (-1000001) dX9_heard_53 wJ_X9_322 ?_
    exact s_lret hM rfl dX9_heard_56 (by unfold xHeard ; (repeat' split) <;> first | rfl | omega | (exfalso; omega)) (by rfl)
  refine r_ild5 dX9_heard_43 ?_
  refine r_iconst dX9_heard_45 ?_
  refine r_iconst dX9_heard_46 ?_
  refine s_callS3r hM (c_X9_within E (by first | with_reducible assumption | with_reducible exact xSt_9 | with_reducible exact xSt_13 | omega) (by first | with_reducible assumption | with_reducible exact xSt_9 | with_reducible exact xSt_13 | omega) (by first | with_reducible assumption | with_reducible exact xSt_9 | with_reducible exact xSt_13 | omega)) cs_X9_within wM_X9_83 (Nat.le_of_ble_eq_true rfl) (by decide) dX9_heard_47 (fun _ => ?_)
  refine r_ifb_ne 57 dX9_heard_50 (by decide) (fun c50 => ?_) (fun c50 => ?_)
  · skip
    obtain ⟨hT, hS⟩ := hD.resolve_left (by omega)
    have hn : 1 ≤ M 3 6 ∧ M 3 6 ≤ 5 := hT.1
    have hN : 1 ≤ M 3 7 ∧ M 3 7 ≤ 6 := hT.2.1
    have hr : 1 ≤ M 3 5 ∧ M 3 5 ≤ 60 := hT.2.2.1
    have hl : 0 ≤ M 9 5 ∧ M 9 5 ≤ 99 := hS.2.1
    have hh : 0 ≤ M 9 6 ∧ M 9 6 ≤ 999 := hS.2.2.1
    have hpr : 1 ≤ M 9 7 ∧ M 9 7 ≤ 9 := hS.2.2.2.1
    have hsd : 0 ≤ M 9 8 ∧ M 9 8 ≤ 63 := hS.2.2.2.2.1
    have hwk : 0 ≤ M 9 4 ∧ M 9 4 ≤ 100000 := hS.1
    have hcb : 0 ≤ hcT (tw M) (sv M 9) s p n pr ∧ hcT (tw M) (sv M 9) s p n pr ≤ 32000000000000 := hc_b hT (by omega) _ 0 0 (by decide) (by have := p2_5 (n := M 3 6) (by omega); show (0 : Int) + ((2 ^ (M 3 6).toNat : Int).toNat : Int) ≤ 32; omega) (by omega)
    have htn := ten_b (k := (M 3 6 - 1).toNat) (by omega)
    have htp : (0 : Int) < 10 ^ (M 3 6 - 1).toNat := Int.pow_pos (by decide)
    have hcd := cdL_b (A := 100000000000000) 100 (hcT (tw M) (sv M 9) s p n pr) (10 ^ (M 3 6 - 1).toNat) (by omega) (by omega)
    refine r_bipush dX9_heard_57 (by decide +kernel) ?_
    refine r_ald0 dX9_heard_59 ?_
    refine s_getR fi_X9_24 (sh_0) rfl dX9_heard_60 ?_
    refine s_getI hM fi_X9_315 (sh_3) rfl dX9_heard_63 (fun g63 => ?_)
    refine r_iconst dX9_heard_66 ?_
    refine r_isub dX9_heard_67 ?_
    refine s_callS2r hM (c_X9_power E (by omega) (by omega)) cs_X9_power wM_X9_324 (Nat.le_of_ble_eq_true rfl) (by decide) dX9_heard_68 (fun _ => ?_)
    refine r_lst6 dX9_heard_71 rfl ?_
    refine r_ald0 dX9_heard_73 ?_
    refine r_ild1 dX9_heard_74 ?_
    refine r_ild2 dX9_heard_75 ?_
    refine r_ild3 dX9_heard_76 ?_
    refine r_ild4 dX9_heard_77 ?_
    refine s_callV4r hM (c_X9_heardCases E (by exact hT) (by exact hS) (by omega) (by omega) (by omega) (by omega)) cv_X9_heardCases wM_X9_328 (sh_0) rfl rfl (Nat.le_of_ble_eq_true rfl) (by decide) dX9_heard_79 (fun _ => ?_)
    refine r_lst8 dX9_heard_82 rfl ?_
    refine r_lld8 dX9_heard_84 ?_
    refine r_lld6 dX9_heard_86 ?_
    refine s_callS2r hM (c_X9_commonDivisor E (by omega) (by omega)) cs_X9_commonDivisor wM_X9_332 (Nat.le_of_ble_eq_true rfl) (by decide) dX9_heard_88 (fun _ => ?_)
    refine r_lst10 dX9_heard_91 rfl ?_
    refine r_lld10 dX9_heard_93 ?_
    refine r_lconst0 dX9_heard_95 ?_
    refine r_lcmp dX9_heard_96 (by omega) (by omega) ?_
    refine r_if_gt 104 dX9_heard_97 (by decide) (by split <;> (try split) <;> omega) (fun c97 => ?_) (fun c97 => ?_)
    · skip
      have hz : 0 < cdL 100 (hcT (tw M) (sv M 9) s p n pr) (10 ^ (M 3 6 - 1).toNat) := by split at c97 <;> (try split at c97) <;> omega
      refine r_ild5 dX9_heard_104 ?_
      refine r_if_ne 117 dX9_heard_106 (by decide) (by omega) (fun c106 => ?_) (fun c106 => ?_)
      · skip
        refine r_lld6 dX9_heard_117 ?_
        refine r_lld10 dX9_heard_119 ?_
        refine r_ldiv dX9_heard_121 (by omega) (by omega) ?_
        exact s_lret hM rfl dX9_heard_122 (by unfold xHeard ; (repeat' split) <;> first | rfl | omega | (exfalso; omega)) (by rfl)
      refine r_lld8 dX9_heard_109 ?_
      refine r_lld10 dX9_heard_111 ?_
      refine r_ldiv dX9_heard_113 (by omega) (by omega) ?_
      refine r_goto 122 dX9_heard_114 (by decide) ?_
      exact s_lret hM rfl dX9_heard_122 (by unfold xHeard ; (repeat' split) <;> first | rfl | omega | (exfalso; omega)) (by rfl)
    have hz : ¬ 0 < cdL 100 (hcT (tw M) (sv M 9) s p n pr) (10 ^ (M 3 6 - 1).toNat) := by split at c97 <;> (try split at c97) <;> omega
    refine r_ldc2 (-1000001) dX9_heard_100 wJ_X9_322 ?_
    exact s_lret hM rfl dX9_heard_103 (by unfold xHeard ; (repeat' split) <;> first | rfl | omega | (exfalso; omega)) (by rfl)
  refine r_ldc2 (-1000001) dX9_heard_53 wJ_X9_322 ?_
  exact s_lret hM rfl dX9_heard_56 (by unfold xHeard ; (repeat' split) <;> first | rfl | omega | (exfalso; omega)) (by rfl)
set_option maxHeartbeats 4000000 in
theorem c_X9_drawTerms (E : xE) {M : xMem} {n x : Int} (hT : TI (tw M)) (hS : SI (tw M) (sv M 9)) (hw9 : M 9 4 ≤ 999) (hn60 : 0 ≤ n ∧ n ≤ 60) (hx : 1 ≤ x ∧ x ≤ 999999) : Ct E mX9_drawTerms 7 4 [xr E 0, xi n, xi x] M (none) (dtL n.toNat x (stCp M 13 9)) := by
  refine Ct.of 4 7 (by rfl) (by decide +kernel) (fun hM => ?_)
  have hn : 1 ≤ M 3 6 ∧ M 3 6 ≤ 5 := hT.1
  have hN : 1 ≤ M 3 7 ∧ M 3 7 ≤ 6 := hT.2.1
  have hr : 1 ≤ M 3 5 ∧ M 3 5 ≤ 60 := hT.2.2.1
  show VS E mX9_drawTerms 4 _ _ 0 [some (xr E 0), some (xi n), some (xi x), none, none, none, none] [] M
  have L17 : ∀ (fu : Nat) (y i : Int) (Mc : xMem), InR Mc → (tw Mc = tw M) → (SI (tw M) (sv Mc 13)) → (0 ≤ i ∧ i ≤ n) → (0 ≤ y ∧ y < 2147483647) → (Mc 13 4 = M 9 4 + i) → (dtL (n - i).toNat y Mc = dtL n.toNat x (stCp M 13 9)) → (n - i).toNat < fu → VS E mX9_drawTerms 4 (none) (dtL n.toNat x (stCp M 13 9)) 17 [some (xr E 0), some (xi n), some (xi x), some (xl y), none, some (xi i), none] [] Mc := by
    intro fu
    induction fu with
    | zero => intro y i Mc hML17 htw hSc hb hy hwk hi hme; exact absurd hme (Nat.not_lt_zero _)
    | succ fu ih =>
      intro y i Mc hML17 htw hSc hb hy hwk hi hme
      have e37 : Mc 3 7 = M 3 7 := congrFun (congrFun htw 0) 7
      have e36 : Mc 3 6 = M 3 6 := congrFun (congrFun htw 0) 6
      have hwr : 0 ≤ Mc 13 4 ∧ Mc 13 4 ≤ 100000 := hSc.1
      have hs1 := Int.emod_nonneg (y * 16807 % 2147483647) (show Mc 3 7 ≠ 0 by omega)
      have hs2 := Int.emod_lt_of_pos (y * 16807 % 2147483647) (show 0 < Mc 3 7 by omega)
      refine r_ild5 dX9_drawTerms_17 ?_
      refine r_ild1 dX9_drawTerms_19 ?_
      refine r_icmp_ge 92 dX9_drawTerms_20 (by decide) (by omega) (by omega) (fun c20 => ?_) (fun c20 => ?_)
      · skip
        exact s_vret hML17 rfl dX9_drawTerms_92 (by rw [← hi, show (n - i).toNat = 0 by omega]; rfl)
      refine r_ald0 dX9_drawTerms_23 ?_
      refine s_getR fi_X9_24 (sh_0) rfl dX9_drawTerms_24 ?_
      refine s_getI hML17 fi_X9_158 (sh_3) rfl dX9_drawTerms_27 (fun g27 => ?_)
      refine r_if_le 92 dX9_drawTerms_30 (by decide) (by omega) (fun c30 => by exfalso; omega) (fun c30 => ?_)
      refine r_lld3 dX9_drawTerms_33 ?_
      refine r_ldc2 (16807) dX9_drawTerms_34 wJ_X9_379 ?_
      refine r_lmul dX9_drawTerms_37 ?_
      refine r_ldc2 (2147483647) dX9_drawTerms_38 wJ_X9_381 ?_
      refine r_lrem dX9_drawTerms_41 (by omega) (by omega) ?_
      refine r_lst3 dX9_drawTerms_42 rfl ?_
      refine r_lld3 dX9_drawTerms_43 ?_
      refine r_ald0 dX9_drawTerms_44 ?_
      refine s_getR fi_X9_24 (sh_0) rfl dX9_drawTerms_45 ?_
      refine s_getI hML17 fi_X9_158 (sh_3) rfl dX9_drawTerms_48 (fun g48 => ?_)
      refine r_i2l dX9_drawTerms_51 (by omega) ?_
      refine r_lrem dX9_drawTerms_52 (by omega) (by omega) ?_
      refine r_l2i dX9_drawTerms_53 ?_
      refine r_ist6 dX9_drawTerms_54 rfl ?_
      refine r_ald0 dX9_drawTerms_56 ?_
      refine s_getR fi_X9_37 (sh_0) rfl dX9_drawTerms_57 ?_
      refine r_ild6 dX9_drawTerms_60 ?_
      refine s_callV1r hML17 (c_X6_canSay E (by exact xSt_13) (by rw [htw]; exact hT) (by rw [htw]; exact hSc) (by omega)) cv_X6_canSay wM_X9_191 (sh_13) rfl rfl (Nat.le_of_ble_eq_true rfl) (by decide) dX9_drawTerms_62 (fun _ => ?_)
      refine r_ifb_eq 78 dX9_drawTerms_65 (by decide) (fun c65 => ?_) (fun c65 => ?_)
      · skip
        have htwp : tw (pasM Mc 13 1) = tw M := (tw_pas (by decide)).trans htw
        have hSp : SI (tw M) (sv (pasM Mc 13 1) 13) := by rw [sv_pas (by decide), htw]; exact SI_pas hT hSc (by decide) (by show Mc 13 4 + 1 ≤ 100000; omega)
        have hwp : pasM Mc 13 1 13 4 = M 9 4 + (i + 1) := by rw [show pasM Mc 13 1 13 4 = Mc 13 4 + 1 from mS_eq]; omega
        refine r_ald0 dX9_drawTerms_78 ?_
        refine s_getR fi_X9_37 (sh_0) rfl dX9_drawTerms_79 ?_
        refine r_iconst dX9_drawTerms_82 ?_
        refine s_callV1v hML17 (c_X6_passWeeks E (by exact xSt_13) (by first | (rw [htw]; exact hT) | (rw [tw_spk (by decide), htw]; exact hT)) (by first | (rw [htw]; exact hSc) | (rw [tw_spk (by decide), htw]; exact hSk)) (by decide)) cv_X6_passWeeks wM_X9_181 (sh_13) rfl rfl (Nat.le_of_ble_eq_true rfl) (by decide) dX9_drawTerms_83 (fun hM83 => ?_)
        refine r_iinc5 dX9_drawTerms_86 rfl ?_
        refine r_goto 17 dX9_drawTerms_89 (by decide) ?_
        refine r_fgt6 ?_
        exact ih _ _ _  hM83 (by exact htwp) (by exact hSp) (by omega) (by omega) (by exact hwp) (by rw [← hi, show (n - i).toNat = (n - (i + 1)).toNat + 1 by omega, dtL]; first | rw [if_pos (by assumption)] | rw [if_neg (by assumption)]) (by omega)
      have hSk : SI (tw M) (sv (spkM Mc 13 ((y * 16807 % 2147483647) % Mc 3 7)) 13) := by rw [sv_spk (by decide), htw]; exact SI_spk hT hSc (by rw [← htw]; exact ⟨hs1, hs2⟩) (by rw [← htw]; assumption)
      have htwp : tw (pasM (spkM Mc 13 ((y * 16807 % 2147483647) % Mc 3 7)) 13 1) = tw M := (tw_pas (by decide)).trans ((tw_spk (by decide)).trans htw)
      have ek4 : spkM Mc 13 ((y * 16807 % 2147483647) % Mc 3 7) 13 4 = Mc 13 4 := congrFun (congrFun (sv_spk (M := Mc) (k := 13) (s := (y * 16807 % 2147483647) % Mc 3 7) (by decide)) 0) 4
      have hSp : SI (tw M) (sv (pasM (spkM Mc 13 ((y * 16807 % 2147483647) % Mc 3 7)) 13 1) 13) := by rw [sv_pas (by decide), tw_spk (by decide), htw]; exact SI_pas hT hSk (by decide) (by show spkM Mc 13 ((y * 16807 % 2147483647) % Mc 3 7) 13 4 + 1 ≤ 100000; omega)
      have hwp : pasM (spkM Mc 13 ((y * 16807 % 2147483647) % Mc 3 7)) 13 1 13 4 = M 9 4 + (i + 1) := by rw [show pasM (spkM Mc 13 ((y * 16807 % 2147483647) % Mc 3 7)) 13 1 13 4 = spkM Mc 13 ((y * 16807 % 2147483647) % Mc 3 7) 13 4 + 1 from mS_eq]; omega
      refine r_ald0 dX9_drawTerms_68 ?_
      refine s_getR fi_X9_37 (sh_0) rfl dX9_drawTerms_69 ?_
      refine r_ild6 dX9_drawTerms_72 ?_
      refine s_callV1r hML17 (c_X6_speak E (by exact xSt_13) (by rw [htw]; exact hT) (by rw [htw]; exact hSc) (by omega)) cv_X6_speak wM_X9_194 (sh_13) rfl rfl (Nat.le_of_ble_eq_true rfl) (by decide) dX9_drawTerms_74 (fun hM74 => ?_)
      refine r_pop dX9_drawTerms_77 rfl ?_
      refine r_ald0 dX9_drawTerms_78 ?_
      refine s_getR fi_X9_37 (sh_0) rfl dX9_drawTerms_79 ?_
      refine r_iconst dX9_drawTerms_82 ?_
      refine s_callV1v hM74 (c_X6_passWeeks E (by exact xSt_13) (by first | (rw [htw]; exact hT) | (rw [tw_spk (by decide), htw]; exact hT)) (by first | (rw [htw]; exact hSc) | (rw [tw_spk (by decide), htw]; exact hSk)) (by decide)) cv_X6_passWeeks wM_X9_181 (sh_13) rfl rfl (Nat.le_of_ble_eq_true rfl) (by decide) dX9_drawTerms_83 (fun hM83 => ?_)
      refine r_iinc5 dX9_drawTerms_86 rfl ?_
      refine r_goto 17 dX9_drawTerms_89 (by decide) ?_
      refine r_fgt6 ?_
      exact ih _ _ _  hM83 (by exact htwp) (by exact hSp) (by omega) (by omega) (by exact hwp) (by rw [← hi, show (n - i).toNat = (n - (i + 1)).toNat + 1 by omega, dtL]; first | rw [if_pos (by assumption)] | rw [if_neg (by assumption)]) (by omega)
  refine r_ald0 dX9_drawTerms_0 ?_
  refine s_getR fi_X9_37 (sh_0) rfl dX9_drawTerms_1 ?_
  refine r_ald0 dX9_drawTerms_4 ?_
  refine s_getR fi_X9_33 (sh_0) rfl dX9_drawTerms_5 ?_
  refine s_callV1v hM (c_X6_takeFrom E (by exact xSt_13.g) (by exact xSt_9.g)) cv_X6_takeFrom wM_X9_152 (sh_13) rfl rfl (Nat.le_of_ble_eq_true rfl) (by decide) dX9_drawTerms_8 (fun hM8 => ?_)
  refine r_ild2 dX9_drawTerms_11 ?_
  refine r_i2l dX9_drawTerms_12 (by omega) ?_
  refine r_lst3 dX9_drawTerms_13 rfl ?_
  refine r_iconst dX9_drawTerms_14 ?_
  refine r_ist5 dX9_drawTerms_15 rfl ?_
  exact L17 61 _ _ _  hM8 (by exact tw_cp (by decide)) (by exact SI_cp hT hS (by decide)) (by omega) (by omega) (by rw [stCp_0 (by decide) (by decide)]; omega) (by rw [Int.sub_zero]) (by omega)
set_option maxHeartbeats 4000000 in
theorem c_X9_drawn (E : xE) {M : xMem} {n x w : Int} (hn : -2147483648 ≤ n ∧ n < 2147483648) (hx : -2147483648 ≤ x ∧ x < 2147483648) (hw : -2147483648 ≤ w ∧ w < 2147483648) (hD : (M 3 6 = 0 ∧ M 3 7 = 0) ∨ (TI (tw M) ∧ SI (tw M) (sv M 9))) (hw9 : M 9 4 ≤ 999) : Ct E mX9_drawn 4 5 [xr E 0, xi n, xi x, xi w] M (some (xi ((xDrawn M n x w).1))) ((xDrawn M n x w).2) := by
  refine Ct.of 0 4 (by rfl) (by decide +kernel) (fun hM => ?_)
  show VS E mX9_drawn 5 _ _ 0 [some (xr E 0), some (xi n), some (xi x), some (xi w)] [] M
  refine r_ald0 dX9_drawn_0 ?_
  refine s_callV0r hM (c_X9_noDuchy E ) cv_X9_noDuchy wM_X9_172 (sh_0) rfl rfl (Nat.le_of_ble_eq_true rfl) (by decide) dX9_drawn_1 (fun _ => ?_)
  refine r_ifb_eq 10 dX9_drawn_4 (by decide) (fun c4 => ?_) (fun c4 => ?_)
  · skip
    refine r_ild1 dX9_drawn_10 ?_
    refine r_iconst dX9_drawn_11 ?_
    refine r_bipush dX9_drawn_12 (by decide +kernel) ?_
    refine s_callS3r hM (c_X9_within E (by first | with_reducible assumption | with_reducible exact xSt_9 | with_reducible exact xSt_13 | omega) (by first | with_reducible assumption | with_reducible exact xSt_9 | with_reducible exact xSt_13 | omega) (by first | with_reducible assumption | with_reducible exact xSt_9 | with_reducible exact xSt_13 | omega)) cs_X9_within wM_X9_83 (Nat.le_of_ble_eq_true rfl) (by decide) dX9_drawn_14 (fun _ => ?_)
    refine r_ifb_eq 40 dX9_drawn_17 (by decide) (fun c17 => ?_) (fun c17 => ?_)
    · skip
      refine r_ldc (-1000001) dX9_drawn_40 wC_X9_87 ?_
      exact s_iret hM rfl dX9_drawn_42 (by unfold xDrawn ; (repeat' split) <;> first | rfl | omega | (exfalso; omega)) (by unfold xDrawn ; (repeat' split) <;> first | rfl | omega | (exfalso; omega))
    refine r_ild2 dX9_drawn_20 ?_
    refine r_iconst dX9_drawn_21 ?_
    refine r_ldcw (999999) dX9_drawn_22 wC_X9_336 ?_
    refine s_callS3r hM (c_X9_within E (by first | with_reducible assumption | with_reducible exact xSt_9 | with_reducible exact xSt_13 | omega) (by first | with_reducible assumption | with_reducible exact xSt_9 | with_reducible exact xSt_13 | omega) (by first | with_reducible assumption | with_reducible exact xSt_9 | with_reducible exact xSt_13 | omega)) cs_X9_within wM_X9_83 (Nat.le_of_ble_eq_true rfl) (by decide) dX9_drawn_25 (fun _ => ?_)
    refine r_ifb_eq 40 dX9_drawn_28 (by decide) (fun c28 => ?_) (fun c28 => ?_)
    · skip
      refine r_ldc (-1000001) dX9_drawn_40 wC_X9_87 ?_
      exact s_iret hM rfl dX9_drawn_42 (by unfold xDrawn ; (repeat' split) <;> first | rfl | omega | (exfalso; omega)) (by unfold xDrawn ; (repeat' split) <;> first | rfl | omega | (exfalso; omega))
    refine r_ild3 dX9_drawn_31 ?_
    refine r_iconst dX9_drawn_32 ?_
    refine r_iconst dX9_drawn_33 ?_
    refine s_callS3r hM (c_X9_within E (by first | with_reducible assumption | with_reducible exact xSt_9 | with_reducible exact xSt_13 | omega) (by first | with_reducible assumption | with_reducible exact xSt_9 | with_reducible exact xSt_13 | omega) (by first | with_reducible assumption | with_reducible exact xSt_9 | with_reducible exact xSt_13 | omega)) cs_X9_within wM_X9_83 (Nat.le_of_ble_eq_true rfl) (by decide) dX9_drawn_34 (fun _ => ?_)
    refine r_ifb_ne 43 dX9_drawn_37 (by decide) (fun c37 => ?_) (fun c37 => ?_)
    · skip
      obtain ⟨hT, hS⟩ := hD.resolve_left (by omega)
      have hn : 1 ≤ M 3 6 ∧ M 3 6 ≤ 5 := hT.1
      have hN : 1 ≤ M 3 7 ∧ M 3 7 ≤ 6 := hT.2.1
      have hr : 1 ≤ M 3 5 ∧ M 3 5 ≤ 60 := hT.2.2.1
      have hl : 0 ≤ M 9 5 ∧ M 9 5 ≤ 99 := hS.2.1
      have hh : 0 ≤ M 9 6 ∧ M 9 6 ≤ 999 := hS.2.2.1
      have hpr : 1 ≤ M 9 7 ∧ M 9 7 ≤ 9 := hS.2.2.2.1
      have hsd : 0 ≤ M 9 8 ∧ M 9 8 ≤ 63 := hS.2.2.2.2.1
      have hwk : 0 ≤ M 9 4 ∧ M 9 4 ≤ 100000 := hS.1
      refine r_ald0 dX9_drawn_43 ?_
      refine r_ild1 dX9_drawn_44 ?_
      refine r_ild2 dX9_drawn_45 ?_
      refine s_callV2v hM (c_X9_drawTerms E (by exact hT) (by exact hS) (by exact hw9) (by omega) (by omega)) cv_X9_drawTerms wM_X9_337 (sh_0) rfl rfl (Nat.le_of_ble_eq_true rfl) (by decide) dX9_drawn_46 (fun hM46 => ?_)
      refine r_ild3 dX9_drawn_49 ?_
      refine r_if_ne 63 dX9_drawn_50 (by decide) (by omega) (fun c50 => ?_) (fun c50 => ?_)
      · skip
        refine r_ald0 dX9_drawn_63 ?_
        refine s_getR fi_X9_37 (sh_0) rfl dX9_drawn_64 ?_
        refine s_getI hM46 fi_X9_185 (sh_13) rfl dX9_drawn_67 (fun g67 => ?_)
        exact s_iret hM46 rfl dX9_drawn_70 (by unfold xDrawn ; (repeat' split) <;> first | rfl | omega | (exfalso; omega)) (by unfold xDrawn ; (repeat' split) <;> first | rfl | omega | (exfalso; omega))
      refine r_ald0 dX9_drawn_53 ?_
      refine s_getR fi_X9_37 (sh_0) rfl dX9_drawn_54 ?_
      refine s_getI hM46 fi_X9_255 (sh_13) rfl dX9_drawn_57 (fun g57 => ?_)
      refine r_goto 70 dX9_drawn_60 (by decide) ?_
      exact s_iret hM46 rfl dX9_drawn_70 (by unfold xDrawn ; (repeat' split) <;> first | rfl | omega | (exfalso; omega)) (by unfold xDrawn ; (repeat' split) <;> first | rfl | omega | (exfalso; omega))
    refine r_ldc (-1000001) dX9_drawn_40 wC_X9_87 ?_
    exact s_iret hM rfl dX9_drawn_42 (by unfold xDrawn ; (repeat' split) <;> first | rfl | omega | (exfalso; omega)) (by unfold xDrawn ; (repeat' split) <;> first | rfl | omega | (exfalso; omega))
  refine r_ldc (-1000002) dX9_drawn_7 wC_X9_171 ?_
  exact s_iret hM rfl dX9_drawn_9 (by unfold xDrawn ; (repeat' split) <;> first | rfl | omega | (exfalso; omega)) (by unfold xDrawn ; (repeat' split) <;> first | rfl | omega | (exfalso; omega))
set_option maxHeartbeats 4000000 in
theorem c_X9_thrift (E : xE) {M : xMem} {p w r i n : Int} (hp : -2147483648 ≤ p ∧ p < 2147483648) (hw : -2147483648 ≤ w ∧ w < 2147483648) (hr : -2147483648 ≤ r ∧ r < 2147483648) (hi : -2147483648 ≤ i ∧ i < 2147483648) (hn : -2147483648 ≤ n ∧ n < 2147483648) (hD : (M 3 6 = 0 ∧ M 3 7 = 0) ∨ (TI (tw M) ∧ SI (tw M) (sv M 9))) (hrw : ∀ i : Nat, i < 8 → (M (163 + 2 * i) 1 = 0 ∨ M (163 + 2 * i) 1 = 1) ∧ (0 ≤ M (163 + 2 * i) 2 ∧ M (163 + 2 * i) 2 ≤ 2) ∧ (0 ≤ M (163 + 2 * i) 3 ∧ M (163 + 2 * i) 3 ≤ 40)) : Ct E mX9_thrift 8 3 [xr E 0, xi p, xi w, xi r, xi i, xi n] M (some (xi ((xThrift M p w r i n).1))) ((xThrift M p w r i n).2) := by
  refine Ct.of 2 8 (by rfl) (by decide +kernel) (fun hM => ?_)
  show VS E mX9_thrift 3 _ _ 0 [some (xr E 0), some (xi p), some (xi w), some (xi r), some (xi i), some (xi n), none, none] [] M
  have L112 : ∀ (fu : Nat) (j : Int) (Mc : xMem), InR Mc → ((0 ≤ i ∧ 1 ≤ n ∧ n ≤ 12 ∧ i + n ≤ 40 ∧ 0 ≤ r ∧ r ≤ 7 ∧ 0 ≤ w ∧ w ≤ 60 ∧ 0 ≤ p ∧ p ≤ 4) ∧ (1 ≤ M 3 5 ∧ M 3 5 ≤ 60) ∧ (0 ≤ M 4 p.toNat ∧ M 4 p.toNat ≤ 20)) → (allW (M (163 + 2 * r.toNat + 1)) 1 9 n.toNat i = true) → (0 ≤ j ∧ j ≤ n) → (∀ a b, a ≠ 148 → a ≠ 147 → Mc a b = M a b) → (Mc 147 1 = w) → (FI (Mc 148)) → (thL (M (163 + 2 * r.toNat + 1)) (M 3 5) (M 4 p.toNat) (n - j).toNat (i + j) Mc = thL (M (163 + 2 * r.toNat + 1)) (M 3 5) (M 4 p.toNat) n.toNat i (thB M (M 10 p.toNat) w)) → (xThrift M p w r i n = finX (thL (M (163 + 2 * r.toNat + 1)) (M 3 5) (M 4 p.toNat) n.toNat i (thB M (M 10 p.toNat) w)) (thL (M (163 + 2 * r.toNat + 1)) (M 3 5) (M 4 p.toNat) n.toNat i (thB M (M 10 p.toNat) w) 148 w.toNat)) → (n - j).toNat < fu → VS E mX9_thrift 3 (some (xi ((xThrift M p w r i n).1))) ((xThrift M p w r i n).2) 112 [some (xr E 0), some (xi p), some (xi w), some (xi r), some (xi i), some (xi n), none, some (xi j)] [] Mc := by
    intro fu
    induction fu with
    | zero => intro j Mc hML112 hG hal hb hlo hwt hFI hi hX hme; exact absurd hme (Nat.not_lt_zero _)
    | succ fu ih =>
      intro j Mc hML112 hG hal hb hlo hwt hFI hi hX hme
      have e35 : Mc 3 5 = M 3 5 := hlo 3 5 (by decide) (by decide)
      have e4 : Mc 4 p.toNat = M 4 p.toNat := hlo 4 _ (by decide) (by decide)
      refine r_ild7 dX9_thrift_112 ?_
      refine r_ild5 dX9_thrift_114 ?_
      refine r_icmp_ge 163 dX9_thrift_116 (by decide) (by omega) (by omega) (fun c116 => ?_) (fun c116 => ?_)
      · skip
        refine r_ald0 dX9_thrift_163 ?_
        refine r_ald0 dX9_thrift_164 ?_
        refine s_getR fi_X9_57 (sh_0) rfl dX9_thrift_165 ?_
        refine s_callV0r hML112 (c_X7_mostLeft E (by omega)) cv_X7_mostLeft wM_X9_312 (sh_147) rfl rfl (Nat.le_of_ble_eq_true rfl) (by decide) dX9_thrift_168 (fun _ => ?_)
        rw [hwt]
        refine s_callV1r hML112 (c_X9_fine E ) cv_X9_fine wM_X9_96 (sh_0) rfl rfl (Nat.le_of_ble_eq_true rfl) (by decide) dX9_thrift_171 (fun hM171 => ?_)
        exact s_iret hM171 rfl dX9_thrift_174 (by rw [hX, ← hi, show (n - j).toNat = 0 by omega]; rfl) (by first | (rw [hX, ← hi, show (n - j).toNat = 0 by omega]; rfl) | (rw [hfx]; rfl) | (unfold xThrift; (repeat' split) <;> first | rfl | omega | (exfalso; omega)))
      have hit := allW_at n.toNat i hal (i + j) (by omega) (by omega)
      have ei : Mc (163 + 2 * r.toNat + 1) (i + j).toNat = M (163 + 2 * r.toNat + 1) (i + j).toNat := hlo _ _ (by omega) (by omega)
      refine r_ald0 dX9_thrift_119 ?_
      refine s_getR fi_X9_57 (sh_0) rfl dX9_thrift_120 ?_
      refine r_ald0 dX9_thrift_123 ?_
      refine s_getR fi_X9_11 (sh_0) rfl dX9_thrift_124 ?_
      refine r_ild3 dX9_thrift_127 ?_
      refine s_rows (by omega) dX9_thrift_128 (fun p128 ep128 hp128 => ?_)
      subst ep128
      refine s_getR fi_X9_119 (hp128.1) rfl dX9_thrift_129 ?_
      refine r_ild4 dX9_thrift_132 ?_
      refine r_ild7 dX9_thrift_134 ?_
      refine r_iadd dX9_thrift_136 ?_
      refine s_iald hML112 (hp128.2.1) (by omega) (by decide) dX9_thrift_137 (fun g137 => ?_)
      refine r_ald0 dX9_thrift_138 ?_
      refine s_getR fi_X9_24 (sh_0) rfl dX9_thrift_139 ?_
      refine s_getI hML112 fi_X9_252 (sh_3) rfl dX9_thrift_142 (fun g142 => ?_)
      refine r_ald0 dX9_thrift_145 ?_
      refine s_getR fi_X9_24 (sh_0) rfl dX9_thrift_146 ?_
      refine s_getR fi_X9_240 (sh_3) rfl dX9_thrift_149 ?_
      refine r_ild1 dX9_thrift_152 ?_
      refine s_iald hML112 (sh_4) (by omega) (by decide) dX9_thrift_153 (fun g153 => ?_)
      refine s_callV3v hML112 (c_X7_passWeek E (by omega) (by omega) (by omega) (by omega) (by exact hFI)) cv_X7_passWeek wM_X9_308 (sh_147) rfl rfl (Nat.le_of_ble_eq_true rfl) (by decide) dX9_thrift_154 (fun hM154 => ?_)
      rw [ei, e35, e4] at hM154 ⊢
      refine r_iinc7 dX9_thrift_157 rfl ?_
      refine r_goto 112 dX9_thrift_160 (by decide) ?_
      exact ih _ _  hM154 (by assumption) (by assumption) (by omega) (fun a b h1 h2 => (if_neg (fun q => h1 q.1)).trans (hlo a b h1 h2)) (by exact (if_neg (fun q => absurd q.1 (by decide))).trans hwt) (thW_FI hFI (by omega) (by omega) (by omega) (by omega)) (by rw [← hi, show (n - j).toNat = (n - (j + 1)).toNat + 1 by omega, thL, show i + (j + 1) = i + j + 1 by omega]) (by assumption) (by omega)
  have L80 : ∀ (f : Int), ((0 ≤ p ∧ p < M 3 6) ∧ (0 ≤ w ∧ w ≤ 60) ∧ (0 ≤ r ∧ r ≤ 7) ∧ (1 ≤ n ∧ n ≤ 12)) → (f = (if ¬ sfT M r i n = 0 then sfT M r i n else if ¬ allW (M (163 + 2 * r.toNat + 1)) 1 9 n.toNat i = true then 3 else 0)) → (0 ≤ f ∧ f ≤ 3) → VS E mX9_thrift 3 (some (xi ((xThrift M p w r i n).1))) ((xThrift M p w r i n).2) 80 [some (xr E 0), some (xi p), some (xi w), some (xi r), some (xi i), some (xi n), some (xi f), none] [] M := by
    intro f  hG hf hfb
    have hr1 := hrw r.toNat (by omega)
    refine r_ild6 dX9_thrift_80 ?_
    refine r_if_eq 92 dX9_thrift_82 (by decide) (by omega) (fun c82 => ?_) (fun c82 => ?_)
    · skip
      have hsf : sfT M r i n = 0 := by rw [hf] at c82; split at c82 <;> (try split at c82) <;> first | omega | (rename_i h1 h2; exact Decidable.byContradiction h1)
      have hal : allW (M (163 + 2 * r.toNat + 1)) 1 9 n.toNat i = true := by rw [hf, if_neg (fun q => q hsf)] at c82; split at c82 <;> first | omega | (rename_i h1; exact Decidable.byContradiction h1)
      have hsi := sf_in hsf
      obtain ⟨hT, hS⟩ := hD.resolve_left (by omega)
      have hn : 1 ≤ M 3 6 ∧ M 3 6 ≤ 5 := hT.1
      have hN : 1 ≤ M 3 7 ∧ M 3 7 ≤ 6 := hT.2.1
      have hr : 1 ≤ M 3 5 ∧ M 3 5 ≤ 60 := hT.2.2.1
      have hl : 0 ≤ M 9 5 ∧ M 9 5 ≤ 99 := hS.2.1
      have hh : 0 ≤ M 9 6 ∧ M 9 6 ≤ 999 := hS.2.2.1
      have hpr : 1 ≤ M 9 7 ∧ M 9 7 ≤ 9 := hS.2.2.2.1
      have hsd : 0 ≤ M 9 8 ∧ M 9 8 ≤ 63 := hS.2.2.2.2.1
      have hwk : 0 ≤ M 9 4 ∧ M 9 4 ≤ 100000 := hS.1
      have hp : 0 ≤ p ∧ p < M 3 6 := by omega
      have hpu : (0 ≤ M 10 p.toNat ∧ M 10 p.toNat ≤ 99) ∧ (0 ≤ M 11 p.toNat ∧ M 11 p.toNat ≤ 99) := hS.2.2.2.2.2.1 p hp
      have hin : 0 ≤ M 4 p.toNat ∧ M 4 p.toNat ≤ 20 := hT.2.2.2.1 p hp
      have hp2 := p2_4 (n := p) (by omega)
      have hX0 : xThrift M p w r i n = finX (thL (M (163 + 2 * r.toNat + 1)) (M 3 5) (M 4 p.toNat) n.toNat i (thB M (M 10 p.toNat) w)) (thL (M (163 + 2 * r.toNat + 1)) (M 3 5) (M 4 p.toNat) n.toNat i (thB M (M 10 p.toNat) w) 148 w.toNat) := by unfold xThrift; rw [if_neg (by omega), if_neg (fun q => q hsf), if_neg (fun q => q hal)]
      refine r_ald0 dX9_thrift_92 ?_
      refine s_getR fi_X9_57 (sh_0) rfl dX9_thrift_93 ?_
      refine r_ald0 dX9_thrift_96 ?_
      refine s_getR fi_X9_33 (sh_0) rfl dX9_thrift_97 ?_
      refine s_getR fi_X9_237 (sh_9) rfl dX9_thrift_100 ?_
      refine r_ild1 dX9_thrift_103 ?_
      refine s_iald hM (sh_10) (by omega) (by decide) dX9_thrift_104 (fun g104 => ?_)
      refine r_ild2 dX9_thrift_105 ?_
      refine s_callV2v hM (c_X7_begin E (by omega) (by omega)) cv_X7_begin wM_X9_307 (sh_147) rfl rfl (Nat.le_of_ble_eq_true rfl) (by decide) dX9_thrift_106 (fun hM106 => ?_)
      refine r_iconst dX9_thrift_109 ?_
      refine r_ist7 dX9_thrift_110 rfl ?_
      refine r_fgt6 ?_
      exact L112 13 _ _  hM106 (by omega) (by assumption) (by omega) (fun a b h1 h2 => thB_lo h1 h2) thB_w (thB_FI (by omega)) (by rw [Int.sub_zero, Int.add_zero]) hX0 (by omega)
    have hfx : xThrift M p w r i n = fndX M f := by
      by_cases h1 : sfT M r i n = 0
      · by_cases h2 : allW (M (163 + 2 * r.toNat + 1)) 1 9 n.toNat i = true
        · exfalso
          rw [hf, if_neg (fun q => q h1), if_neg (fun q => q h2)] at c82
          exact c82 rfl
        · rw [hf, if_neg (fun q => q h1), if_pos h2]
          unfold xThrift
          rw [if_neg (by omega), if_neg (fun q => q h1), if_pos h2]
      · rw [hf, if_pos h1]
        unfold xThrift
        rw [if_neg (by omega), if_pos h1]
    refine r_ald0 dX9_thrift_85 ?_
    refine r_ild6 dX9_thrift_86 ?_
    refine s_callV1r hM (c_X9_found E (by first | with_reducible assumption | with_reducible exact xSt_9 | with_reducible exact xSt_13 | omega)) cv_X9_found wM_X9_88 (sh_0) rfl rfl (Nat.le_of_ble_eq_true rfl) (by decide) dX9_thrift_88 (fun hM88 => ?_)
    exact s_iret hM88 rfl dX9_thrift_91 (by rw [hfx]; rfl) (by first | (rw [hX, ← hi, show (n - j).toNat = 0 by omega]; rfl) | (rw [hfx]; rfl) | (unfold xThrift; (repeat' split) <;> first | rfl | omega | (exfalso; omega)))
  refine r_ald0 dX9_thrift_0 ?_
  refine s_getR fi_X9_24 (sh_0) rfl dX9_thrift_1 ?_
  refine r_ild1 dX9_thrift_4 ?_
  refine s_callV1r hM (c_X8_hasPerson E (by first | with_reducible assumption | with_reducible exact xSt_9 | with_reducible exact xSt_13 | omega)) cv_X8_hasPerson wM_X9_197 (sh_3) rfl rfl (Nat.le_of_ble_eq_true rfl) (by decide) dX9_thrift_5 (fun _ => ?_)
  refine r_ifb_eq 39 dX9_thrift_8 (by decide) (fun c8 => ?_) (fun c8 => ?_)
  · skip
    refine r_ldc (-1000001) dX9_thrift_39 wC_X9_87 ?_
    exact s_iret hM rfl dX9_thrift_41 (by unfold xThrift fndX finX; (repeat' split) <;> first | rfl | omega | (exfalso; omega)) (by first | (rw [hX, ← hi, show (n - j).toNat = 0 by omega]; rfl) | (rw [hfx]; rfl) | (unfold xThrift; (repeat' split) <;> first | rfl | omega | (exfalso; omega)))
  refine r_ild2 dX9_thrift_11 ?_
  refine r_iconst dX9_thrift_12 ?_
  refine r_bipush dX9_thrift_13 (by decide +kernel) ?_
  refine s_callS3r hM (c_X9_within E (by first | with_reducible assumption | with_reducible exact xSt_9 | with_reducible exact xSt_13 | omega) (by first | with_reducible assumption | with_reducible exact xSt_9 | with_reducible exact xSt_13 | omega) (by first | with_reducible assumption | with_reducible exact xSt_9 | with_reducible exact xSt_13 | omega)) cs_X9_within wM_X9_83 (Nat.le_of_ble_eq_true rfl) (by decide) dX9_thrift_15 (fun _ => ?_)
  refine r_ifb_eq 39 dX9_thrift_18 (by decide) (fun c18 => ?_) (fun c18 => ?_)
  · skip
    refine r_ldc (-1000001) dX9_thrift_39 wC_X9_87 ?_
    exact s_iret hM rfl dX9_thrift_41 (by unfold xThrift fndX finX; (repeat' split) <;> first | rfl | omega | (exfalso; omega)) (by first | (rw [hX, ← hi, show (n - j).toNat = 0 by omega]; rfl) | (rw [hfx]; rfl) | (unfold xThrift; (repeat' split) <;> first | rfl | omega | (exfalso; omega)))
  refine r_ild3 dX9_thrift_21 ?_
  refine s_callS1r hM (c_X9_isRow E (by first | with_reducible assumption | with_reducible exact xSt_9 | with_reducible exact xSt_13 | omega)) cs_X9_isRow wM_X9_79 (Nat.le_of_ble_eq_true rfl) (by decide) dX9_thrift_22 (fun _ => ?_)
  refine r_ifb_eq 39 dX9_thrift_25 (by decide) (fun c25 => ?_) (fun c25 => ?_)
  · skip
    refine r_ldc (-1000001) dX9_thrift_39 wC_X9_87 ?_
    exact s_iret hM rfl dX9_thrift_41 (by unfold xThrift fndX finX; (repeat' split) <;> first | rfl | omega | (exfalso; omega)) (by first | (rw [hX, ← hi, show (n - j).toNat = 0 by omega]; rfl) | (rw [hfx]; rfl) | (unfold xThrift; (repeat' split) <;> first | rfl | omega | (exfalso; omega)))
  refine r_ild5 dX9_thrift_28 ?_
  refine r_iconst dX9_thrift_30 ?_
  refine r_bipush dX9_thrift_31 (by decide +kernel) ?_
  refine s_callS3r hM (c_X9_within E (by first | with_reducible assumption | with_reducible exact xSt_9 | with_reducible exact xSt_13 | omega) (by first | with_reducible assumption | with_reducible exact xSt_9 | with_reducible exact xSt_13 | omega) (by first | with_reducible assumption | with_reducible exact xSt_9 | with_reducible exact xSt_13 | omega)) cs_X9_within wM_X9_83 (Nat.le_of_ble_eq_true rfl) (by decide) dX9_thrift_33 (fun _ => ?_)
  refine r_ifb_ne 42 dX9_thrift_36 (by decide) (fun c36 => ?_) (fun c36 => ?_)
  · skip
    have hr1 := hrw r.toNat (by omega)
    have hsf : 0 ≤ sfT M r i n ∧ sfT M r i n ≤ 2 := by unfold sfT; split <;> (try split) <;> omega
    refine r_ald0 dX9_thrift_42 ?_
    refine r_ild3 dX9_thrift_43 ?_
    refine r_ild4 dX9_thrift_44 ?_
    refine r_ild5 dX9_thrift_46 ?_
    refine s_callV3r hM (c_X9_stretchFinding E (by first | with_reducible assumption | with_reducible exact xSt_9 | with_reducible exact xSt_13 | omega) (by first | with_reducible assumption | with_reducible exact xSt_9 | with_reducible exact xSt_13 | omega) (by first | with_reducible assumption | with_reducible exact xSt_9 | with_reducible exact xSt_13 | omega) (by first | with_reducible assumption | with_reducible exact xSt_9 | with_reducible exact xSt_13 | omega)) cv_X9_stretchFinding wM_X9_99 (sh_0) rfl rfl (Nat.le_of_ble_eq_true rfl) (by decide) dX9_thrift_48 (fun _ => ?_)
    refine r_ist6 dX9_thrift_51 rfl ?_
    refine r_ild6 dX9_thrift_53 ?_
    refine r_if_ne 80 dX9_thrift_55 (by decide) (by omega) (fun c55 => ?_) (fun c55 => ?_)
    · skip
      exact L80 _  (by omega) (by split <;> (try split) <;> first | rfl | omega | contradiction) (by omega)
    have hsi := sf_in c55
    refine r_ald0 dX9_thrift_58 ?_
    refine s_getR fi_X9_11 (sh_0) rfl dX9_thrift_59 ?_
    refine r_ild3 dX9_thrift_62 ?_
    refine s_rows (by omega) dX9_thrift_63 (fun p63 ep63 hp63 => ?_)
    subst ep63
    refine r_ild4 dX9_thrift_64 ?_
    refine r_ild5 dX9_thrift_66 ?_
    refine r_iconst dX9_thrift_68 ?_
    refine r_bipush dX9_thrift_69 (by decide +kernel) ?_
    refine s_callV4r hM (c_X5_allWithin E (by first | with_reducible assumption | with_reducible exact xSt_9 | with_reducible exact xSt_13 | omega) (by omega) (by omega) (by omega)) cv_X5_allWithin wM_X9_303 (hp63.1) rfl rfl (Nat.le_of_ble_eq_true rfl) (by decide) dX9_thrift_71 (fun _ => ?_)
    refine r_ifb_ne 80 dX9_thrift_74 (by decide) (fun c74 => ?_) (fun c74 => ?_)
    · skip
      exact L80 _  (by omega) (by split <;> (try split) <;> first | rfl | omega | contradiction) (by omega)
    refine r_iconst dX9_thrift_77 ?_
    refine r_ist6 dX9_thrift_78 rfl ?_
    exact L80 _  (by omega) (by split <;> (try split) <;> first | rfl | omega | contradiction) (by omega)
  refine r_ldc (-1000001) dX9_thrift_39 wC_X9_87 ?_
  exact s_iret hM rfl dX9_thrift_41 (by unfold xThrift fndX finX; (repeat' split) <;> first | rfl | omega | (exfalso; omega)) (by first | (rw [hX, ← hi, show (n - j).toNat = 0 by omega]; rfl) | (rw [hfx]; rfl) | (unfold xThrift; (repeat' split) <;> first | rfl | omega | (exfalso; omega)))
