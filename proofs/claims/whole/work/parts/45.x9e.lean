set_option maxHeartbeats 4000000 in
theorem c_X9_tryAllOf (E : xE) {M : xMem} {set : Int} (hT : TI (tw M)) (hS : SI (tw M) (sv M 9)) (hset : 0 ≤ set ∧ set ≤ 63) : Ct E mX9_tryAllOf 4 4 [xr E 0, xi set] M (some (xi (tryT M set).1)) ((tryT M set).2) := by
  refine Ct.of 2 4 (by rfl) (by decide +kernel) (fun hM => ?_)
  have hn : 1 ≤ M 3 6 ∧ M 3 6 ≤ 5 := hT.1
  have hN : 1 ≤ M 3 7 ∧ M 3 7 ≤ 6 := hT.2.1
  have hr : 1 ≤ M 3 5 ∧ M 3 5 ≤ 60 := hT.2.2.1
  show VS E mX9_tryAllOf 4 _ _ 0 [some (xr E 0), some (xi set), none, none] [] M
  have L15 : ∀ (fu : Nat) (a s : Int) (Mc : xMem), InR Mc → (tw Mc = tw M) → (SI (tw M) (sv Mc 13)) → (0 ≤ s ∧ s ≤ M 3 7) → (0 ≤ a ∧ a ≤ 100 * s) → (tryL set (M 3 7 - s).toNat s a Mc = tryT M set) → (M 3 7 - s).toNat < fu → VS E mX9_tryAllOf 4 (some (xi (tryT M set).1)) ((tryT M set).2) 15 [some (xr E 0), some (xi set), some (xi a), some (xi s)] [] Mc := by
    intro fu
    induction fu with
    | zero => intro a s Mc hML15 htw hSc hb ha hi hme; exact absurd hme (Nat.not_lt_zero _)
    | succ fu ih =>
      intro a s Mc hML15 htw hSc hb ha hi hme
      have e37 : Mc 3 7 = M 3 7 := congrFun (congrFun htw 0) 7
      have e36 : Mc 3 6 = M 3 6 := congrFun (congrFun htw 0) 6
      refine r_ild3 dX9_tryAllOf_15 ?_
      refine r_ald0 dX9_tryAllOf_16 ?_
      refine s_getR fi_X9_24 (sh_0) rfl dX9_tryAllOf_17 ?_
      refine s_getI hML15 fi_X9_158 (sh_3) rfl dX9_tryAllOf_20 (fun g20 => ?_)
      refine r_icmp_ge 68 dX9_tryAllOf_23 (by decide) (by omega) (by omega) (fun c23 => ?_) (fun c23 => ?_)
      · skip
        refine r_ild2 dX9_tryAllOf_68 ?_
        exact s_iret hML15 rfl dX9_tryAllOf_69 (by rw [← hi, show (M 3 7 - s).toNat = 0 by omega]; rfl) (by first | (rw [← hi, show (M 3 7 - s).toNat = 0 by omega]; rfl) | (rw [← hi, show (M 3 7 - s).toNat = (M 3 7 - (s + 1)).toNat + 1 by omega, tryL, if_neg (by assumption), if_neg (by assumption)]))
      have hs : 0 ≤ s ∧ s < M 3 7 := by omega
      have hp2 := p2_5 (n := s) (by omega)
      have hdv := div_b (a := set) (A := 63) (b := 2 ^ s.toNat) hset hp2.1
      have hwo := wol_b hT hSc hs
      have hwd := words_b hT hs
      refine r_ild1 dX9_tryAllOf_26 ?_
      refine r_ild3 dX9_tryAllOf_27 ?_
      refine r_ishr dX9_tryAllOf_28 (by omega) (by omega) ?_
      refine r_iconst dX9_tryAllOf_29 ?_
      refine r_iand dX9_tryAllOf_30 (by omega) (by omega) (fun g30 => ?_)
      refine r_if_ne 37 dX9_tryAllOf_31 (by decide) (by omega) (fun c31 => ?_) (fun c31 => ?_)
      · skip
        refine r_ald0 dX9_tryAllOf_37 ?_
        refine s_getR fi_X9_37 (sh_0) rfl dX9_tryAllOf_38 ?_
        refine r_ild3 dX9_tryAllOf_41 ?_
        refine s_callV1r hML15 (c_X6_canSay E (by exact xSt_13) (by rw [htw]; exact hT) (by rw [htw]; exact hSc) (by omega)) cv_X6_canSay wM_X9_191 (sh_13) rfl rfl (Nat.le_of_ble_eq_true rfl) (by decide) dX9_tryAllOf_42 (fun _ => ?_)
        refine r_ifb_ne 51 dX9_tryAllOf_45 (by decide) (fun c45 => ?_) (fun c45 => ?_)
        · skip
          refine r_ild2 dX9_tryAllOf_51 ?_
          refine r_ald0 dX9_tryAllOf_52 ?_
          refine s_getR fi_X9_37 (sh_0) rfl dX9_tryAllOf_53 ?_
          refine r_ild3 dX9_tryAllOf_56 ?_
          refine s_callV1r hML15 (c_X6_speak E (by exact xSt_13) (by rw [htw]; exact hT) (by rw [htw]; exact hSc) (by omega)) cv_X6_speak wM_X9_194 (sh_13) rfl rfl (Nat.le_of_ble_eq_true rfl) (by decide) dX9_tryAllOf_57 (fun hM57 => ?_)
          refine r_iadd dX9_tryAllOf_60 ?_
          refine r_ist2 dX9_tryAllOf_61 rfl ?_
          refine r_iinc3 dX9_tryAllOf_62 rfl ?_
          refine r_goto 15 dX9_tryAllOf_65 (by decide) ?_
          exact ih _ _ _  hM57 (by first | exact htw | exact (tw_spk (by decide)).trans htw) (by first | exact hSc | (rw [sv_spk (by decide), htw]; exact SI_spk hT hSc hs (by rw [← htw]; assumption))) (by omega) (by first | omega | (rw [htw]; omega)) (by rw [← hi, show (M 3 7 - s).toNat = (M 3 7 - (s + 1)).toNat + 1 by omega, tryL]; first | rw [if_pos (by assumption)] | rw [if_neg (by assumption), if_pos (by assumption)]) (by omega)
        refine r_ldc (-1000000) dX9_tryAllOf_48 wC_X9_221 ?_
        exact s_iret hML15 rfl dX9_tryAllOf_50 (by rw [← hi, show (M 3 7 - s).toNat = (M 3 7 - (s + 1)).toNat + 1 by omega, tryL, if_neg (by assumption), if_neg (by assumption)]) (by first | (rw [← hi, show (M 3 7 - s).toNat = 0 by omega]; rfl) | (rw [← hi, show (M 3 7 - s).toNat = (M 3 7 - (s + 1)).toNat + 1 by omega, tryL, if_neg (by assumption), if_neg (by assumption)]))
      refine r_goto 62 dX9_tryAllOf_34 (by decide) ?_
      refine r_iinc3 dX9_tryAllOf_62 rfl ?_
      refine r_goto 15 dX9_tryAllOf_65 (by decide) ?_
      exact ih _ _ _  hML15 (by first | exact htw | exact (tw_spk (by decide)).trans htw) (by first | exact hSc | (rw [sv_spk (by decide), htw]; exact SI_spk hT hSc hs (by rw [← htw]; assumption))) (by omega) (by first | omega | (rw [htw]; omega)) (by rw [← hi, show (M 3 7 - s).toNat = (M 3 7 - (s + 1)).toNat + 1 by omega, tryL]; first | rw [if_pos (by assumption)] | rw [if_neg (by assumption), if_pos (by assumption)]) (by omega)
  refine r_ald0 dX9_tryAllOf_0 ?_
  refine s_getR fi_X9_37 (sh_0) rfl dX9_tryAllOf_1 ?_
  refine r_ald0 dX9_tryAllOf_4 ?_
  refine s_getR fi_X9_33 (sh_0) rfl dX9_tryAllOf_5 ?_
  refine s_callV1v hM (c_X6_takeFrom E (by exact xSt_13.g) (by exact xSt_9.g)) cv_X6_takeFrom wM_X9_152 (sh_13) rfl rfl (Nat.le_of_ble_eq_true rfl) (by decide) dX9_tryAllOf_8 (fun hM8 => ?_)
  refine r_iconst dX9_tryAllOf_11 ?_
  refine r_ist2 dX9_tryAllOf_12 rfl ?_
  refine r_iconst dX9_tryAllOf_13 ?_
  refine r_ist3 dX9_tryAllOf_14 rfl ?_
  exact L15 7 _ _ _  hM8 (by exact tw_cp (by decide)) (by exact SI_cp hT hS (by decide)) (by omega) (by omega) (by rw [Int.sub_zero]; rfl) (by omega)
set_option maxHeartbeats 4000000 in
theorem c_X9_largestSet (E : xE) {M : xMem}  (hT : TI (tw M)) (hS : SI (tw M) (sv M 9)) : Ct E mX9_largestSet 5 5 [xr E 0] M (some (xi (lgT M).1)) ((lgT M).2.2) := by
  refine Ct.of 4 5 (by rfl) (by decide +kernel) (fun hM => ?_)
  have hn : 1 ≤ M 3 6 ∧ M 3 6 ≤ 5 := hT.1
  have hN : 1 ≤ M 3 7 ∧ M 3 7 ≤ 6 := hT.2.1
  have hr : 1 ≤ M 3 5 ∧ M 3 5 ≤ 60 := hT.2.2.1
  have hp6 := p2_b (n := M 3 7) (by omega)
  show VS E mX9_largestSet 5 _ _ 0 [some (xr E 0), none, none, none, none] [] M
  have L6 : ∀ (fu : Nat) (b w set : Int) (Mc : xMem), InR Mc → (∀ b j, b < 13 ∨ 17 ≤ b → Mc b j = M b j) → (0 ≤ b ∧ b ≤ 63) → (0 ≤ w ∧ w ≤ 600) → (1 ≤ set ∧ set ≤ 2 ^ (M 3 7).toNat) → (foldI lgF (2 ^ (M 3 7).toNat - set).toNat set (b, w, Mc) = lgT M) → (2 ^ (M 3 7).toNat - set).toNat < fu → VS E mX9_largestSet 5 (some (xi (lgT M).1)) ((lgT M).2.2) 6 [some (xr E 0), some (xi b), some (xi w), some (xi set), none] [] Mc := by
    intro fu
    induction fu with
    | zero => intro b w set Mc hML6 hlo hbb hww hb hi hme; exact absurd hme (Nat.not_lt_zero _)
    | succ fu ih =>
      intro b w set Mc hML6 hlo hbb hww hb hi hme
      have htw := tw_lo hlo
      have hsv := sv_lo hlo
      have e37 : Mc 3 7 = M 3 7 := hlo 3 7 (by decide)
      have htr := try_b (M := Mc) (by rw [htw]; exact hT) (by rw [htw, hsv]; exact hS) set
      have hpc := pcT_b set
      have hpb := pcT_b b
      refine r_ild3 dX9_largestSet_6 ?_
      refine r_iconst dX9_largestSet_7 ?_
      refine r_ald0 dX9_largestSet_8 ?_
      refine s_getR fi_X9_24 (sh_0) rfl dX9_largestSet_9 ?_
      refine s_getI hML6 fi_X9_158 (sh_3) rfl dX9_largestSet_12 (fun g12 => ?_)
      refine r_ishl dX9_largestSet_15 (by omega) ?_
      refine r_icmp_ge 80 dX9_largestSet_16 (by decide) (by first | omega | (rw [e37]; omega)) (by first | omega | (rw [e37]; omega)) (fun c16 => ?_) (fun c16 => ?_)
      · skip
        rw [e37] at c16
        refine r_ild1 dX9_largestSet_80 ?_
        exact s_iret hML6 rfl dX9_largestSet_81 (by rw [← hi, show (2 ^ (M 3 7).toNat - set).toNat = 0 by omega]; rfl) (by rw [← hi, show (2 ^ (M 3 7).toNat - set).toNat = 0 by omega]; rfl)
      rw [e37] at c16
      refine r_ild3 dX9_largestSet_19 ?_
      refine s_callS1r hML6 (c_J6_bitCount_0f7a4 E (by omega)) cs_J6_bitCount_0f7a4 wM_X9_283 (Nat.le_of_ble_eq_true rfl) (by decide) dX9_largestSet_20 (fun _ => ?_)
      refine r_ild1 dX9_largestSet_23 ?_
      refine s_callS1r hML6 (c_J6_bitCount_0f7a4 E (by omega)) cs_J6_bitCount_0f7a4 wM_X9_283 (Nat.le_of_ble_eq_true rfl) (by decide) dX9_largestSet_24 (fun _ => ?_)
      refine r_icmp_ge 35 dX9_largestSet_27 (by decide) (by omega) (by omega) (fun c27 => ?_) (fun c27 => ?_)
      · skip
        refine r_ald0 dX9_largestSet_35 ?_
        refine r_ild3 dX9_largestSet_36 ?_
        refine s_callV1r hML6 (c_X9_tryAllOf E (by rw [htw]; exact hT) (by rw [htw, hsv]; exact hS) (by omega)) cv_X9_tryAllOf wM_X9_277 (sh_0) rfl rfl (Nat.le_of_ble_eq_true rfl) (by decide) dX9_largestSet_37 (fun hM37 => ?_)
        refine r_ist4 dX9_largestSet_40 rfl ?_
        refine r_ild4 dX9_largestSet_42 ?_
        refine r_ldc (-1000000) dX9_largestSet_44 wC_X9_221 ?_
        refine r_icmp_ne 52 dX9_largestSet_46 (by decide) (by omega) (by omega) (fun c46 => ?_) (fun c46 => ?_)
        · skip
          refine r_ild3 dX9_largestSet_52 ?_
          refine s_callS1r hM37 (c_J6_bitCount_0f7a4 E (by omega)) cs_J6_bitCount_0f7a4 wM_X9_283 (Nat.le_of_ble_eq_true rfl) (by decide) dX9_largestSet_53 (fun _ => ?_)
          refine r_ild1 dX9_largestSet_56 ?_
          refine s_callS1r hM37 (c_J6_bitCount_0f7a4 E (by omega)) cs_J6_bitCount_0f7a4 wM_X9_283 (Nat.le_of_ble_eq_true rfl) (by decide) dX9_largestSet_57 (fun _ => ?_)
          refine r_icmp_gt 69 dX9_largestSet_60 (by decide) (by omega) (by omega) (fun c60 => ?_) (fun c60 => ?_)
          · skip
            refine r_ild3 dX9_largestSet_69 ?_
            refine r_ist1 dX9_largestSet_70 rfl ?_
            refine r_ild4 dX9_largestSet_71 ?_
            refine r_ist2 dX9_largestSet_73 rfl ?_
            refine r_iinc3 dX9_largestSet_74 rfl ?_
            refine r_goto 6 dX9_largestSet_77 (by decide) ?_
            refine r_fgt4 ?_
            exact ih _ _ _ _  hM37 (by first | exact hlo | exact (fun b j hb => (htr.2.2.2 b j hb).trans (hlo b j hb))) (by omega) (by omega) (by omega) (by exact foldI_go (by omega) hi (by unfold lgF; dsimp only; first | rw [if_pos (by omega)] | (rw [if_neg (by omega), if_pos (by assumption)]) | (rw [if_neg (by omega), if_neg (by assumption), if_pos (by omega)]) | (rw [if_neg (by omega), if_neg (by assumption), if_neg (by omega)]))) (by omega)
          refine r_ild4 dX9_largestSet_63 ?_
          refine r_ild2 dX9_largestSet_65 ?_
          refine r_icmp_ge 74 dX9_largestSet_66 (by decide) (by omega) (by omega) (fun c66 => ?_) (fun c66 => ?_)
          · skip
            refine r_iinc3 dX9_largestSet_74 rfl ?_
            refine r_goto 6 dX9_largestSet_77 (by decide) ?_
            refine r_fgt4 ?_
            exact ih _ _ _ _  hM37 (by first | exact hlo | exact (fun b j hb => (htr.2.2.2 b j hb).trans (hlo b j hb))) (by omega) (by omega) (by omega) (by exact foldI_go (by omega) hi (by unfold lgF; dsimp only; first | rw [if_pos (by omega)] | (rw [if_neg (by omega), if_pos (by assumption)]) | (rw [if_neg (by omega), if_neg (by assumption), if_pos (by omega)]) | (rw [if_neg (by omega), if_neg (by assumption), if_neg (by omega)]))) (by omega)
          refine r_ild3 dX9_largestSet_69 ?_
          refine r_ist1 dX9_largestSet_70 rfl ?_
          refine r_ild4 dX9_largestSet_71 ?_
          refine r_ist2 dX9_largestSet_73 rfl ?_
          refine r_iinc3 dX9_largestSet_74 rfl ?_
          refine r_goto 6 dX9_largestSet_77 (by decide) ?_
          refine r_fgt4 ?_
          exact ih _ _ _ _  hM37 (by first | exact hlo | exact (fun b j hb => (htr.2.2.2 b j hb).trans (hlo b j hb))) (by omega) (by omega) (by omega) (by exact foldI_go (by omega) hi (by unfold lgF; dsimp only; first | rw [if_pos (by omega)] | (rw [if_neg (by omega), if_pos (by assumption)]) | (rw [if_neg (by omega), if_neg (by assumption), if_pos (by omega)]) | (rw [if_neg (by omega), if_neg (by assumption), if_neg (by omega)]))) (by omega)
        refine r_goto 74 dX9_largestSet_49 (by decide) ?_
        refine r_iinc3 dX9_largestSet_74 rfl ?_
        refine r_goto 6 dX9_largestSet_77 (by decide) ?_
        refine r_fgt4 ?_
        exact ih _ _ _ _  hM37 (by first | exact hlo | exact (fun b j hb => (htr.2.2.2 b j hb).trans (hlo b j hb))) (by omega) (by omega) (by omega) (by exact foldI_go (by omega) hi (by unfold lgF; dsimp only; first | rw [if_pos (by omega)] | (rw [if_neg (by omega), if_pos (by assumption)]) | (rw [if_neg (by omega), if_neg (by assumption), if_pos (by omega)]) | (rw [if_neg (by omega), if_neg (by assumption), if_neg (by omega)]))) (by omega)
      refine r_ldc (-1000000) dX9_largestSet_30 wC_X9_221 ?_
      refine r_goto 40 dX9_largestSet_32 (by decide) ?_
      refine r_ist4 dX9_largestSet_40 rfl ?_
      refine r_ild4 dX9_largestSet_42 ?_
      refine r_ldc (-1000000) dX9_largestSet_44 wC_X9_221 ?_
      refine r_icmp_ne 52 dX9_largestSet_46 (by decide) (by omega) (by omega) (fun c46 => by exfalso; omega) (fun c46 => ?_)
      refine r_goto 74 dX9_largestSet_49 (by decide) ?_
      refine r_iinc3 dX9_largestSet_74 rfl ?_
      refine r_goto 6 dX9_largestSet_77 (by decide) ?_
      refine r_fgt4 ?_
      exact ih _ _ _ _  hML6 (by first | exact hlo | exact (fun b j hb => (htr.2.2.2 b j hb).trans (hlo b j hb))) (by omega) (by omega) (by omega) (by exact foldI_go (by omega) hi (by unfold lgF; dsimp only; first | rw [if_pos (by omega)] | (rw [if_neg (by omega), if_pos (by assumption)]) | (rw [if_neg (by omega), if_neg (by assumption), if_pos (by omega)]) | (rw [if_neg (by omega), if_neg (by assumption), if_neg (by omega)]))) (by omega)
  refine r_iconst dX9_largestSet_0 ?_
  refine r_ist1 dX9_largestSet_1 rfl ?_
  refine r_iconst dX9_largestSet_2 ?_
  refine r_ist2 dX9_largestSet_3 rfl ?_
  refine r_iconst dX9_largestSet_4 ?_
  refine r_ist3 dX9_largestSet_5 rfl ?_
  exact L6 65 _ _ _ _  hM (by exact fun _ _ _ => rfl) (by omega) (by omega) (by omega) (by rfl) (by omega)
