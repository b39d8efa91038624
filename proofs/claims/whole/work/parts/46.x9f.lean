set_option maxHeartbeats 4000000 in
theorem c_X9_most (E : xE) {M : xMem} {w : Int} (hw : -2147483648 ≤ w ∧ w < 2147483648) (hD : (M 3 6 = 0 ∧ M 3 7 = 0) ∨ (TI (tw M) ∧ SI (tw M) (sv M 9))) : Ct E mX9_most 4 6 [xr E 0, xi w] M (some (xi ((xMost M w).1))) ((xMost M w).2) := by
  refine Ct.of 2 4 (by rfl) (by decide +kernel) (fun hM => ?_)
  show VS E mX9_most 6 _ _ 0 [some (xr E 0), some (xi w), none, none] [] M
  refine r_ald0 dX9_most_0 ?_
  refine s_callV0r hM (c_X9_noDuchy E ) cv_X9_noDuchy wM_X9_172 (sh_0) rfl rfl (Nat.le_of_ble_eq_true rfl) (by decide) dX9_most_1 (fun _ => ?_)
  refine r_ifb_eq 10 dX9_most_4 (by decide) (fun c4 => ?_) (fun c4 => ?_)
  · skip
    refine r_ild1 dX9_most_10 ?_
    refine r_iconst dX9_most_11 ?_
    refine r_iconst dX9_most_12 ?_
    refine s_callS3r hM (c_X9_within E (by first | with_reducible assumption | with_reducible exact xSt_9 | with_reducible exact xSt_13 | omega) (by first | with_reducible assumption | with_reducible exact xSt_9 | with_reducible exact xSt_13 | omega) (by first | with_reducible assumption | with_reducible exact xSt_9 | with_reducible exact xSt_13 | omega)) cs_X9_within wM_X9_83 (Nat.le_of_ble_eq_true rfl) (by decide) dX9_most_13 (fun _ => ?_)
    refine r_ifb_ne 22 dX9_most_16 (by decide) (fun c16 => ?_) (fun c16 => ?_)
    · skip
      obtain ⟨hT, hS⟩ := hD.resolve_left (by omega)
      have hn : 1 ≤ M 3 6 ∧ M 3 6 ≤ 5 := hT.1
      have hN : 1 ≤ M 3 7 ∧ M 3 7 ≤ 6 := hT.2.1
      have hr : 1 ≤ M 3 5 ∧ M 3 5 ≤ 60 := hT.2.2.1
      have hl : 0 ≤ M 9 5 ∧ M 9 5 ≤ 99 := hS.2.1
      have hh : 0 ≤ M 9 6 ∧ M 9 6 ≤ 999 := hS.2.2.1
      have hpr : 1 ≤ M 9 7 ∧ M 9 7 ≤ 9 := hS.2.2.2.1
      have hsd : 0 ≤ M 9 8 ∧ M 9 8 ≤ 63 := hS.2.2.2.2.1
      have hwk : 0 ≤ M 9 4 ∧ M 9 4 ≤ 100000 := hS.1
      have hlg := lg_b hT hS
      have htr := try_b (M := (lgT M).2.2) (by rw [tw_lo hlg.1]; exact hT) (by rw [tw_lo hlg.1, sv_lo hlg.1]; exact hS) (lgT M).1
      have hT2 : TI (tw (tryT (lgT M).2.2 (lgT M).1).2) := by rw [htr.2.1, tw_lo hlg.1]; exact hT
      have hS2 : SI (tw (tryT (lgT M).2.2 (lgT M).1).2) (sv (tryT (lgT M).2.2 (lgT M).1).2 13) := by rw [htr.2.1]; exact htr.2.2.1
      have hub := undAll_b hT2 hS2 (set := (lgT M).1)
      refine r_ald0 dX9_most_22 ?_
      refine s_callV0r hM (c_X9_largestSet E (by exact hT) (by exact hS)) cv_X9_largestSet wM_X9_274 (sh_0) rfl rfl (Nat.le_of_ble_eq_true rfl) (by decide) dX9_most_23 (fun hM23 => ?_)
      refine r_ist2 dX9_most_26 rfl ?_
      refine r_ild1 dX9_most_27 ?_
      refine r_if_ne 33 dX9_most_28 (by decide) (by omega) (fun c28 => ?_) (fun c28 => ?_)
      · skip
        refine r_ald0 dX9_most_33 ?_
        refine r_ild2 dX9_most_34 ?_
        refine s_callV1r hM23 (c_X9_tryAllOf E (by rw [tw_lo hlg.1]; exact hT) (by rw [tw_lo hlg.1, sv_lo hlg.1]; exact hS) (by exact hlg.2)) cv_X9_tryAllOf wM_X9_277 (sh_0) rfl rfl (Nat.le_of_ble_eq_true rfl) (by decide) dX9_most_35 (fun hM35 => ?_)
        refine r_ist3 dX9_most_38 rfl ?_
        refine r_ild1 dX9_most_39 ?_
        refine r_iconst dX9_most_40 ?_
        refine r_icmp_ne 48 dX9_most_41 (by decide) (by omega) (by omega) (fun c41 => ?_) (fun c41 => ?_)
        · skip
          refine r_ald0 dX9_most_48 ?_
          refine s_getR fi_X9_37 (sh_0) rfl dX9_most_49 ?_
          refine r_ild2 dX9_most_52 ?_
          refine s_callV1r hM35 (c_X6_understandersOfAll E (by exact xSt_13) (by exact hT2) (by exact hS2) (by exact hlg.2)) cv_X6_understandersOfAll wM_X9_280 (sh_13) rfl rfl (Nat.le_of_ble_eq_true rfl) (by decide) dX9_most_53 (fun _ => ?_)
          refine s_callS1r hM35 (c_J6_bitCount_0f7a4 E (by omega)) cs_J6_bitCount_0f7a4 wM_X9_283 (Nat.le_of_ble_eq_true rfl) (by decide) dX9_most_56 (fun _ => ?_)
          exact s_iret hM35 rfl dX9_most_59 (by unfold xMost ; (repeat' split) <;> first | rfl | omega | (exfalso; omega)) (by unfold xMost ; (repeat' split) <;> first | rfl | omega | (exfalso; omega))
        refine r_ild3 dX9_most_44 ?_
        refine r_goto 59 dX9_most_45 (by decide) ?_
        exact s_iret hM35 rfl dX9_most_59 (by unfold xMost ; (repeat' split) <;> first | rfl | omega | (exfalso; omega)) (by unfold xMost ; (repeat' split) <;> first | rfl | omega | (exfalso; omega))
      refine r_ild2 dX9_most_31 ?_
      exact s_iret hM23 rfl dX9_most_32 (by unfold xMost ; (repeat' split) <;> first | rfl | omega | (exfalso; omega)) (by unfold xMost ; (repeat' split) <;> first | rfl | omega | (exfalso; omega))
    refine r_ldc (-1000001) dX9_most_19 wC_X9_87 ?_
    exact s_iret hM rfl dX9_most_21 (by unfold xMost ; (repeat' split) <;> first | rfl | omega | (exfalso; omega)) (by unfold xMost ; (repeat' split) <;> first | rfl | omega | (exfalso; omega))
  refine r_ldc (-1000002) dX9_most_7 wC_X9_171 ?_
  exact s_iret hM rfl dX9_most_9 (by unfold xMost ; (repeat' split) <;> first | rfl | omega | (exfalso; omega)) (by unfold xMost ; (repeat' split) <;> first | rfl | omega | (exfalso; omega))
set_option maxHeartbeats 4000000 in
theorem c_X9_fewestDeaf (E : xE) {M : xMem} {s p n : Int} (hT : TI (tw M)) (hS : SI (tw M) (sv M 9)) (hs : 0 ≤ s ∧ s < M 3 7) (hp : 0 ≤ p ∧ p < M 3 6) (hn30 : 0 ≤ n ∧ n ≤ 30) : Ct E mX9_fewestDeaf 8 4 [xr E 0, xi s, xi p, xi n] M (some (xi (fdT (tw M) (sv M 9) s p n))) (M) := by
  refine Ct.of 4 8 (by rfl) (by decide +kernel) (fun hM => ?_)
  have hn : 1 ≤ M 3 6 ∧ M 3 6 ≤ 5 := hT.1
  have hN : 1 ≤ M 3 7 ∧ M 3 7 ≤ 6 := hT.2.1
  have hr : 1 ≤ M 3 5 ∧ M 3 5 ≤ 60 := hT.2.2.1
  have hq : (1 ≤ M 5 s.toNat ∧ M 5 s.toNat ≤ 5) ∧ (0 ≤ M 6 s.toNat ∧ M 6 s.toNat < M 3 6) ∧ (1 ≤ M 7 s.toNat ∧ M 7 s.toNat ≤ 30) ∧ (0 ≤ M 8 s.toNat ∧ M 8 s.toNat ≤ s) := hT.2.2.2.2 s hs
  have hp5 := p2_5 (n := M 3 6) (by omega)
  have hpp := p2_4 (n := p) (by omega)
  have hps := p2_4 (n := M 6 s.toNat) (by omega)
  have hap := xor2_31 (a := 1 * 2 ^ p.toNat) (b := 1 * 2 ^ (M 6 s.toNat).toNat) (by omega) (by omega)
  show VS E mX9_fewestDeaf 4 _ _ 0 [some (xr E 0), some (xi s), some (xi p), some (xi n), none, none, none, none] [] M
  have L24 : ∀ (fu : Nat) (b set : Int), (0 ≤ set ∧ set ≤ 2 ^ (M 3 6).toNat) → (b = -1000000 ∨ (0 ≤ b ∧ b ≤ 31)) → (foldI (fdF (tw M) (sv M 9) s p n (xor2 (1 * 2 ^ p.toNat) (1 * 2 ^ (M 6 s.toNat).toNat))) (2 ^ (M 3 6).toNat - set).toNat set b = fdT (tw M) (sv M 9) s p n) → (2 ^ (M 3 6).toNat - set).toNat < fu → VS E mX9_fewestDeaf 4 (some (xi (fdT (tw M) (sv M 9) s p n))) (M) 24 [some (xr E 0), some (xi s), some (xi p), some (xi n), some (xi (xor2 (1 * 2 ^ p.toNat) (1 * 2 ^ (M 6 s.toNat).toNat))), some (xi b), some (xi set), none] [] M := by
    intro fu
    induction fu with
    | zero => intro b set  hb hbb hi hme; exact absurd hme (Nat.not_lt_zero _)
    | succ fu ih =>
      intro b set  hb hbb hi hme
      refine r_ild6 dX9_fewestDeaf_24 ?_
      refine r_ald0 dX9_fewestDeaf_26 ?_
      refine s_getR fi_X9_24 (sh_0) rfl dX9_fewestDeaf_27 ?_
      refine s_callV0r hM (c_X8_everyone E (by first | with_reducible assumption | with_reducible exact xSt_9 | with_reducible exact xSt_13 | omega)) cv_X8_everyone wM_X9_267 (sh_3) rfl rfl (Nat.le_of_ble_eq_true rfl) (by decide) dX9_fewestDeaf_30 (fun _ => ?_)
      refine r_icmp_gt 104 dX9_fewestDeaf_33 (by decide) (by omega) (by omega) (fun c33 => ?_) (fun c33 => ?_)
      · skip
        refine r_ild5 dX9_fewestDeaf_104 ?_
        exact s_iret hM rfl dX9_fewestDeaf_106 (by rw [← hi, show (2 ^ (M 3 6).toNat - set).toNat = 0 by omega]; rfl) (by rfl)
      have hpa := pass_b hT hS (s := s) (d := set) (w := n) hs
      have hdv := div_b (a := passT (tw M) (sv M 9) s set n) (A := 31) (b := 2 ^ p.toNat) hpa hpp.1
      have hpc := pcT_b set
      have hpb := pcT_b b
      have hxa := xand_b (a := set) (b := xor2 (1 * 2 ^ p.toNat) (1 * 2 ^ (M 6 s.toNat).toNat)) (B := 31) hap
      refine r_ild5 dX9_fewestDeaf_36 ?_
      refine r_ldc (-1000000) dX9_fewestDeaf_38 wC_X9_221 ?_
      refine r_icmp_eq 56 dX9_fewestDeaf_40 (by decide) (by omega) (by omega) (fun c40 => ?_) (fun c40 => ?_)
      · skip
        refine r_iconst dX9_fewestDeaf_56 ?_
        refine r_goto 61 dX9_fewestDeaf_57 (by decide) ?_
        refine r_ist7 dX9_fewestDeaf_61 rfl ?_
        refine r_ild6 dX9_fewestDeaf_63 ?_
        refine r_ild4 dX9_fewestDeaf_65 ?_
        refine r_iand dX9_fewestDeaf_67 (by omega) (by omega) (fun g67 => ?_)
        refine r_if_ne 98 dX9_fewestDeaf_68 (by decide) (by omega) (fun c68 => ?_) (fun c68 => ?_)
        · skip
          refine r_iinc6 dX9_fewestDeaf_98 rfl ?_
          refine r_goto 24 dX9_fewestDeaf_101 (by decide) ?_
          refine r_fgt7 ?_
          exact ih _ _  (by omega) (by omega) (by exact foldI_go (by omega) hi (by unfold fdF bitI; split <;> first | rfl | (exfalso; omega))) (by omega)
        refine r_ild7 dX9_fewestDeaf_71 ?_
        refine r_if_eq 98 dX9_fewestDeaf_73 (by decide) (by omega) (fun c73 => by exfalso; omega) (fun c73 => ?_)
        refine r_ald0 dX9_fewestDeaf_76 ?_
        refine s_getR fi_X9_33 (sh_0) rfl dX9_fewestDeaf_77 ?_
        refine r_ild1 dX9_fewestDeaf_80 ?_
        refine r_ild6 dX9_fewestDeaf_81 ?_
        refine r_ild3 dX9_fewestDeaf_83 ?_
        refine s_callV3r hM (c_X6_passedOn E (by exact xSt_9) (by exact hT) (by exact hS) (by exact hs) (by omega) (by omega)) cv_X6_passedOn wM_X9_369 (sh_9) rfl rfl (Nat.le_of_ble_eq_true rfl) (by decide) dX9_fewestDeaf_84 (fun _ => ?_)
        refine r_ild2 dX9_fewestDeaf_87 ?_
        refine r_ishr dX9_fewestDeaf_88 (by omega) (by omega) ?_
        refine r_iconst dX9_fewestDeaf_89 ?_
        refine r_iand dX9_fewestDeaf_90 (by omega) (by omega) (fun g90 => ?_)
        refine r_if_ne 98 dX9_fewestDeaf_91 (by decide) (by omega) (fun c91 => ?_) (fun c91 => ?_)
        · skip
          refine r_iinc6 dX9_fewestDeaf_98 rfl ?_
          refine r_goto 24 dX9_fewestDeaf_101 (by decide) ?_
          refine r_fgt7 ?_
          exact ih _ _  (by omega) (by omega) (by exact foldI_go (by omega) hi (by unfold fdF bitI; split <;> first | rfl | (exfalso; omega))) (by omega)
        refine r_ild6 dX9_fewestDeaf_94 ?_
        refine r_ist5 dX9_fewestDeaf_96 rfl ?_
        refine r_iinc6 dX9_fewestDeaf_98 rfl ?_
        refine r_goto 24 dX9_fewestDeaf_101 (by decide) ?_
        refine r_fgt7 ?_
        exact ih _ _  (by omega) (by omega) (by exact foldI_go (by omega) hi (by unfold fdF bitI; split <;> first | rfl | (exfalso; omega))) (by omega)
      refine r_ild6 dX9_fewestDeaf_43 ?_
      refine s_callS1r hM (c_J6_bitCount_0f7a4 E (by omega)) cs_J6_bitCount_0f7a4 wM_X9_283 (Nat.le_of_ble_eq_true rfl) (by decide) dX9_fewestDeaf_45 (fun _ => ?_)
      refine r_ild5 dX9_fewestDeaf_48 ?_
      refine s_callS1r hM (c_J6_bitCount_0f7a4 E (by omega)) cs_J6_bitCount_0f7a4 wM_X9_283 (Nat.le_of_ble_eq_true rfl) (by decide) dX9_fewestDeaf_50 (fun _ => ?_)
      refine r_icmp_ge 60 dX9_fewestDeaf_53 (by decide) (by omega) (by omega) (fun c53 => ?_) (fun c53 => ?_)
      · skip
        refine r_iconst dX9_fewestDeaf_60 ?_
        refine r_ist7 dX9_fewestDeaf_61 rfl ?_
        refine r_ild6 dX9_fewestDeaf_63 ?_
        refine r_ild4 dX9_fewestDeaf_65 ?_
        refine r_iand dX9_fewestDeaf_67 (by omega) (by omega) (fun g67 => ?_)
        refine r_if_ne 98 dX9_fewestDeaf_68 (by decide) (by omega) (fun c68 => ?_) (fun c68 => ?_)
        · skip
          refine r_iinc6 dX9_fewestDeaf_98 rfl ?_
          refine r_goto 24 dX9_fewestDeaf_101 (by decide) ?_
          refine r_fgt7 ?_
          exact ih _ _  (by omega) (by omega) (by exact foldI_go (by omega) hi (by unfold fdF bitI; split <;> first | rfl | (exfalso; omega))) (by omega)
        refine r_ild7 dX9_fewestDeaf_71 ?_
        refine r_if_eq 98 dX9_fewestDeaf_73 (by decide) (by omega) (fun c73 => ?_) (fun c73 => by exfalso; omega)
        refine r_iinc6 dX9_fewestDeaf_98 rfl ?_
        refine r_goto 24 dX9_fewestDeaf_101 (by decide) ?_
        refine r_fgt7 ?_
        exact ih _ _  (by omega) (by omega) (by exact foldI_go (by omega) hi (by unfold fdF bitI; split <;> first | rfl | (exfalso; omega))) (by omega)
      refine r_iconst dX9_fewestDeaf_56 ?_
      refine r_goto 61 dX9_fewestDeaf_57 (by decide) ?_
      refine r_ist7 dX9_fewestDeaf_61 rfl ?_
      refine r_ild6 dX9_fewestDeaf_63 ?_
      refine r_ild4 dX9_fewestDeaf_65 ?_
      refine r_iand dX9_fewestDeaf_67 (by omega) (by omega) (fun g67 => ?_)
      refine r_if_ne 98 dX9_fewestDeaf_68 (by decide) (by omega) (fun c68 => ?_) (fun c68 => ?_)
      · skip
        refine r_iinc6 dX9_fewestDeaf_98 rfl ?_
        refine r_goto 24 dX9_fewestDeaf_101 (by decide) ?_
        refine r_fgt7 ?_
        exact ih _ _  (by omega) (by omega) (by exact foldI_go (by omega) hi (by unfold fdF bitI; split <;> first | rfl | (exfalso; omega))) (by omega)
      refine r_ild7 dX9_fewestDeaf_71 ?_
      refine r_if_eq 98 dX9_fewestDeaf_73 (by decide) (by omega) (fun c73 => by exfalso; omega) (fun c73 => ?_)
      refine r_ald0 dX9_fewestDeaf_76 ?_
      refine s_getR fi_X9_33 (sh_0) rfl dX9_fewestDeaf_77 ?_
      refine r_ild1 dX9_fewestDeaf_80 ?_
      refine r_ild6 dX9_fewestDeaf_81 ?_
      refine r_ild3 dX9_fewestDeaf_83 ?_
      refine s_callV3r hM (c_X6_passedOn E (by exact xSt_9) (by exact hT) (by exact hS) (by exact hs) (by omega) (by omega)) cv_X6_passedOn wM_X9_369 (sh_9) rfl rfl (Nat.le_of_ble_eq_true rfl) (by decide) dX9_fewestDeaf_84 (fun _ => ?_)
      refine r_ild2 dX9_fewestDeaf_87 ?_
      refine r_ishr dX9_fewestDeaf_88 (by omega) (by omega) ?_
      refine r_iconst dX9_fewestDeaf_89 ?_
      refine r_iand dX9_fewestDeaf_90 (by omega) (by omega) (fun g90 => ?_)
      refine r_if_ne 98 dX9_fewestDeaf_91 (by decide) (by omega) (fun c91 => ?_) (fun c91 => ?_)
      · skip
        refine r_iinc6 dX9_fewestDeaf_98 rfl ?_
        refine r_goto 24 dX9_fewestDeaf_101 (by decide) ?_
        refine r_fgt7 ?_
        exact ih _ _  (by omega) (by omega) (by exact foldI_go (by omega) hi (by unfold fdF bitI; split <;> first | rfl | (exfalso; omega))) (by omega)
      refine r_ild6 dX9_fewestDeaf_94 ?_
      refine r_ist5 dX9_fewestDeaf_96 rfl ?_
      refine r_iinc6 dX9_fewestDeaf_98 rfl ?_
      refine r_goto 24 dX9_fewestDeaf_101 (by decide) ?_
      refine r_fgt7 ?_
      exact ih _ _  (by omega) (by omega) (by exact foldI_go (by omega) hi (by unfold fdF bitI; split <;> first | rfl | (exfalso; omega))) (by omega)
  refine r_iconst dX9_fewestDeaf_0 ?_
  refine r_ild2 dX9_fewestDeaf_1 ?_
  refine r_ishl dX9_fewestDeaf_2 (by omega) ?_
  refine r_iconst dX9_fewestDeaf_3 ?_
  refine r_ald0 dX9_fewestDeaf_4 ?_
  refine s_getR fi_X9_24 (sh_0) rfl dX9_fewestDeaf_5 ?_
  refine s_getR fi_X9_212 (sh_3) rfl dX9_fewestDeaf_8 ?_
  refine r_ild1 dX9_fewestDeaf_11 ?_
  refine s_iald hM (sh_6) (by omega) (by decide) dX9_fewestDeaf_12 (fun g12 => ?_)
  refine r_ishl dX9_fewestDeaf_13 (by omega) ?_
  refine r_ior dX9_fewestDeaf_14 (by omega) (by omega) (fun g14 => ?_)
  refine r_ist4 dX9_fewestDeaf_15 rfl ?_
  refine r_ldc (-1000000) dX9_fewestDeaf_17 wC_X9_221 ?_
  refine r_ist5 dX9_fewestDeaf_19 rfl ?_
  refine r_iconst dX9_fewestDeaf_21 ?_
  refine r_ist6 dX9_fewestDeaf_22 rfl ?_
  exact L24 33 _ _  (by omega) (by omega) (by rw [Int.sub_zero]; rfl) (by omega)
set_option maxHeartbeats 4000000 in
theorem c_X9_deaf (E : xE) {M : xMem} {s p n w : Int} (hs : -2147483648 ≤ s ∧ s < 2147483648) (hp : -2147483648 ≤ p ∧ p < 2147483648) (hn : -2147483648 ≤ n ∧ n < 2147483648) (hw : -2147483648 ≤ w ∧ w < 2147483648) (hD : (M 3 6 = 0 ∧ M 3 7 = 0) ∨ (TI (tw M) ∧ SI (tw M) (sv M 9))) : Ct E mX9_deaf 6 5 [xr E 0, xi s, xi p, xi n, xi w] M (some (xi (xDeaf M s p n w))) (M) := by
  refine Ct.of 1 6 (by rfl) (by decide +kernel) (fun hM => ?_)
  show VS E mX9_deaf 5 _ _ 0 [some (xr E 0), some (xi s), some (xi p), some (xi n), some (xi w), none] [] M
  refine r_ald0 dX9_deaf_0 ?_
  refine s_getR fi_X9_24 (sh_0) rfl dX9_deaf_1 ?_
  refine r_ild1 dX9_deaf_4 ?_
  refine s_callV1r hM (c_X8_hasSpeech E (by first | with_reducible assumption | with_reducible exact xSt_9 | with_reducible exact xSt_13 | omega)) cv_X8_hasSpeech wM_X9_188 (sh_3) rfl rfl (Nat.le_of_ble_eq_true rfl) (by decide) dX9_deaf_5 (fun _ => ?_)
  refine r_ifb_eq 42 dX9_deaf_8 (by decide) (fun c8 => ?_) (fun c8 => ?_)
  · skip
    refine r_ldc (-1000001) dX9_deaf_42 wC_X9_87 ?_
    exact s_iret hM rfl dX9_deaf_44 (by unfold xDeaf ; (repeat' split) <;> first | rfl | omega | (exfalso; omega)) (by rfl)
  refine r_ald0 dX9_deaf_11 ?_
  refine s_getR fi_X9_24 (sh_0) rfl dX9_deaf_12 ?_
  refine r_ild2 dX9_deaf_15 ?_
  refine s_callV1r hM (c_X8_hasPerson E (by first | with_reducible assumption | with_reducible exact xSt_9 | with_reducible exact xSt_13 | omega)) cv_X8_hasPerson wM_X9_197 (sh_3) rfl rfl (Nat.le_of_ble_eq_true rfl) (by decide) dX9_deaf_16 (fun _ => ?_)
  refine r_ifb_eq 42 dX9_deaf_19 (by decide) (fun c19 => ?_) (fun c19 => ?_)
  · skip
    refine r_ldc (-1000001) dX9_deaf_42 wC_X9_87 ?_
    exact s_iret hM rfl dX9_deaf_44 (by unfold xDeaf ; (repeat' split) <;> first | rfl | omega | (exfalso; omega)) (by rfl)
  refine r_ild3 dX9_deaf_22 ?_
  refine r_iconst dX9_deaf_23 ?_
  refine r_bipush dX9_deaf_24 (by decide +kernel) ?_
  refine s_callS3r hM (c_X9_within E (by first | with_reducible assumption | with_reducible exact xSt_9 | with_reducible exact xSt_13 | omega) (by first | with_reducible assumption | with_reducible exact xSt_9 | with_reducible exact xSt_13 | omega) (by first | with_reducible assumption | with_reducible exact xSt_9 | with_reducible exact xSt_13 | omega)) cs_X9_within wM_X9_83 (Nat.le_of_ble_eq_true rfl) (by decide) dX9_deaf_26 (fun _ => ?_)
  refine r_ifb_eq 42 dX9_deaf_29 (by decide) (fun c29 => ?_) (fun c29 => ?_)
  · skip
    refine r_ldc (-1000001) dX9_deaf_42 wC_X9_87 ?_
    exact s_iret hM rfl dX9_deaf_44 (by unfold xDeaf ; (repeat' split) <;> first | rfl | omega | (exfalso; omega)) (by rfl)
  refine r_ild4 dX9_deaf_32 ?_
  refine r_iconst dX9_deaf_34 ?_
  refine r_iconst dX9_deaf_35 ?_
  refine s_callS3r hM (c_X9_within E (by first | with_reducible assumption | with_reducible exact xSt_9 | with_reducible exact xSt_13 | omega) (by first | with_reducible assumption | with_reducible exact xSt_9 | with_reducible exact xSt_13 | omega) (by first | with_reducible assumption | with_reducible exact xSt_9 | with_reducible exact xSt_13 | omega)) cs_X9_within wM_X9_83 (Nat.le_of_ble_eq_true rfl) (by decide) dX9_deaf_36 (fun _ => ?_)
  refine r_ifb_ne 45 dX9_deaf_39 (by decide) (fun c39 => ?_) (fun c39 => ?_)
  · skip
    obtain ⟨hT, hS⟩ := hD.resolve_left (by omega)
    have hn : 1 ≤ M 3 6 ∧ M 3 6 ≤ 5 := hT.1
    have hN : 1 ≤ M 3 7 ∧ M 3 7 ≤ 6 := hT.2.1
    have hr : 1 ≤ M 3 5 ∧ M 3 5 ≤ 60 := hT.2.2.1
    have hl : 0 ≤ M 9 5 ∧ M 9 5 ≤ 99 := hS.2.1
    have hh : 0 ≤ M 9 6 ∧ M 9 6 ≤ 999 := hS.2.2.1
    have hpr : 1 ≤ M 9 7 ∧ M 9 7 ≤ 9 := hS.2.2.2.1
    have hsd : 0 ≤ M 9 8 ∧ M 9 8 ≤ 63 := hS.2.2.2.2.1
    have hwk : 0 ≤ M 9 4 ∧ M 9 4 ≤ 100000 := hS.1
    have hp5 := p2_5 (n := M 3 6) (by omega)
    have hfd : fdT (tw M) (sv M 9) s p n = -1000000 ∨ (0 ≤ fdT (tw M) (sv M 9) s p n ∧ fdT (tw M) (sv M 9) s p n ≤ 31) := fd_b _ 0 (-1000000) (by decide) (by show (0 : Int) + ((2 ^ (M 3 6).toNat : Int).toNat : Int) ≤ 32; omega) (Or.inl rfl)
    refine r_ald0 dX9_deaf_45 ?_
    refine r_ild1 dX9_deaf_46 ?_
    refine r_ild2 dX9_deaf_47 ?_
    refine r_ild3 dX9_deaf_48 ?_
    refine s_callV3r hM (c_X9_fewestDeaf E (by exact hT) (by exact hS) (by omega) (by omega) (by omega)) cv_X9_fewestDeaf wM_X9_297 (sh_0) rfl rfl (Nat.le_of_ble_eq_true rfl) (by decide) dX9_deaf_49 (fun _ => ?_)
    refine r_ist5 dX9_deaf_52 rfl ?_
    refine r_ild5 dX9_deaf_54 ?_
    refine r_ldc (-1000000) dX9_deaf_56 wC_X9_221 ?_
    refine r_icmp_eq 67 dX9_deaf_58 (by decide) (by omega) (by omega) (fun c58 => ?_) (fun c58 => ?_)
    · skip
      refine r_ild5 dX9_deaf_67 ?_
      refine r_goto 77 dX9_deaf_69 (by decide) ?_
      exact s_iret hM rfl dX9_deaf_77 (by unfold xDeaf ; (repeat' split) <;> first | rfl | omega | (exfalso; omega)) (by rfl)
    refine r_ild4 dX9_deaf_61 ?_
    refine r_iconst dX9_deaf_63 ?_
    refine r_icmp_ne 72 dX9_deaf_64 (by decide) (by omega) (by omega) (fun c64 => ?_) (fun c64 => ?_)
    · skip
      refine r_ild5 dX9_deaf_72 ?_
      refine s_callS1r hM (c_J6_bitCount_0f7a4 E (by omega)) cs_J6_bitCount_0f7a4 wM_X9_283 (Nat.le_of_ble_eq_true rfl) (by decide) dX9_deaf_74 (fun _ => ?_)
      exact s_iret hM rfl dX9_deaf_77 (by unfold xDeaf ; (repeat' split) <;> first | rfl | omega | (exfalso; omega)) (by rfl)
    refine r_ild5 dX9_deaf_67 ?_
    refine r_goto 77 dX9_deaf_69 (by decide) ?_
    exact s_iret hM rfl dX9_deaf_77 (by unfold xDeaf ; (repeat' split) <;> first | rfl | omega | (exfalso; omega)) (by rfl)
  refine r_ldc (-1000001) dX9_deaf_42 wC_X9_87 ?_
  exact s_iret hM rfl dX9_deaf_44 (by unfold xDeaf ; (repeat' split) <;> first | rfl | omega | (exfalso; omega)) (by rfl)
set_option maxHeartbeats 4000000 in
theorem c_X9_fitsCounts (E : xE) {M : xMem} {k : Nat} {kd sp i n : Int} (hn5 : 1 ≤ M 3 6 ∧ M 3 6 ≤ 5) (hkd : 1 ≤ kd ∧ kd ≤ 5) (hsp : 0 ≤ sp ∧ sp < M 3 6) (hk : xRw k) (hin : 0 ≤ i ∧ 1 ≤ n ∧ n ≤ 12 ∧ i + n ≤ 40) : Ct E mX9_fitsCounts 8 3 [xr E 0, xi kd, xi sp, xr E k, xi i, xi n] M (some (xi (b2i (fitT M kd sp (M (k + 1)) i n = true)))) (M) := by
  refine Ct.of 2 8 (by rfl) (by decide +kernel) (fun hM => ?_)
  have hrb := reachT_b (n := M 3 6) (k := kd) (sp := sp) (d := 0) (by omega) (by omega)
  show VS E mX9_fitsCounts 3 _ _ 0 [some (xr E 0), some (xi kd), some (xi sp), some (xr E k), some (xi i), some (xi n), none, none] [] M
  have L15 : ∀ (fu : Nat) (a j : Int), (0 ≤ j ∧ j ≤ n) → (0 ≤ a ∧ a ≤ 31) → (fcL (M 3 6) kd (M (k + 1)) (n - j).toNat (i + j) a = fitT M kd sp (M (k + 1)) i n) → (n - j).toNat < fu → VS E mX9_fitsCounts 3 (some (xi (b2i (fitT M kd sp (M (k + 1)) i n = true)))) (M) 15 [some (xr E 0), some (xi kd), some (xi sp), some (xr E k), some (xi i), some (xi n), some (xi a), some (xi j)] [] M := by
    intro fu
    induction fu with
    | zero => intro a j  hb ha hi hme; exact absurd hme (Nat.not_lt_zero _)
    | succ fu ih =>
      intro a j  hb ha hi hme
      have hob := onwT_b (n := M 3 6) (k := kd) (a := a) (d := 0) (w := 1) (by omega) ha
      have hpc := pcT_b (onwT (M 3 6) kd a 0 1)
      refine r_ild7 dX9_fitsCounts_15 ?_
      refine r_ild5 dX9_fitsCounts_17 ?_
      refine r_icmp_ge 62 dX9_fitsCounts_19 (by decide) (by omega) (by omega) (fun c19 => ?_) (fun c19 => ?_)
      · skip
        refine r_iconst dX9_fitsCounts_62 ?_
        exact s_zret hM rfl (by omega) dX9_fitsCounts_63 (by rw [← hi, show (n - j).toNat = 0 by omega]; rfl) (by rfl)
      refine r_ald0 dX9_fitsCounts_22 ?_
      refine s_getR fi_X9_24 (sh_0) rfl dX9_fitsCounts_23 ?_
      refine r_ild1 dX9_fitsCounts_26 ?_
      refine r_ild6 dX9_fitsCounts_27 ?_
      refine r_iconst dX9_fitsCounts_29 ?_
      refine r_iconst dX9_fitsCounts_30 ?_
      refine s_callV4r hM (c_X8_onward E (by first | with_reducible assumption | with_reducible exact xSt_9 | with_reducible exact xSt_13 | omega) (by first | with_reducible assumption | with_reducible exact xSt_9 | with_reducible exact xSt_13 | omega) (by first | with_reducible assumption | with_reducible exact xSt_9 | with_reducible exact xSt_13 | omega) (by first | with_reducible assumption | with_reducible exact xSt_9 | with_reducible exact xSt_13 | omega) (by first | with_reducible assumption | with_reducible exact xSt_9 | with_reducible exact xSt_13 | omega)) cv_X8_onward wM_X9_375 (sh_3) rfl rfl (Nat.le_of_ble_eq_true rfl) (by decide) dX9_fitsCounts_31 (fun _ => ?_)
      refine r_ist6 dX9_fitsCounts_34 rfl ?_
      refine r_ild6 dX9_fitsCounts_36 ?_
      refine s_callS1r hM (c_J6_bitCount_0f7a4 E (by omega)) cs_J6_bitCount_0f7a4 wM_X9_283 (Nat.le_of_ble_eq_true rfl) (by decide) dX9_fitsCounts_38 (fun _ => ?_)
      refine r_ald3 dX9_fitsCounts_41 ?_
      refine s_getR fi_X9_119 (hk.1) rfl dX9_fitsCounts_42 ?_
      refine r_ild4 dX9_fitsCounts_45 ?_
      refine r_ild7 dX9_fitsCounts_47 ?_
      refine r_iadd dX9_fitsCounts_49 ?_
      refine s_iald hM (hk.2.1) (by omega) (by decide) dX9_fitsCounts_50 (fun g50 => ?_)
      refine r_icmp_eq 56 dX9_fitsCounts_51 (by decide) (by omega) (by omega) (fun c51 => ?_) (fun c51 => ?_)
      · skip
        refine r_iinc7 dX9_fitsCounts_56 rfl ?_
        refine r_goto 15 dX9_fitsCounts_59 (by decide) ?_
        exact ih _ _  (by omega) (by omega) (by rw [← hi, show (n - j).toNat = (n - (j + 1)).toNat + 1 by omega, fcL, if_pos (by assumption), show i + (j + 1) = i + j + 1 by omega]) (by omega)
      refine r_iconst dX9_fitsCounts_54 ?_
      exact s_zret hM rfl (by omega) dX9_fitsCounts_55 (by rw [← hi, show (n - j).toNat = (n - (j + 1)).toNat + 1 by omega, fcL, if_neg (by assumption)]; rfl) (by rfl)
  refine r_ald0 dX9_fitsCounts_0 ?_
  refine s_getR fi_X9_24 (sh_0) rfl dX9_fitsCounts_1 ?_
  refine r_ild1 dX9_fitsCounts_4 ?_
  refine r_ild2 dX9_fitsCounts_5 ?_
  refine r_iconst dX9_fitsCounts_6 ?_
  refine s_callV3r hM (c_X8_reachedBySaying E (by first | with_reducible assumption | with_reducible exact xSt_9 | with_reducible exact xSt_13 | omega) (by first | with_reducible assumption | with_reducible exact xSt_9 | with_reducible exact xSt_13 | omega) (by first | with_reducible assumption | with_reducible exact xSt_9 | with_reducible exact xSt_13 | omega) (by first | with_reducible assumption | with_reducible exact xSt_9 | with_reducible exact xSt_13 | omega)) cv_X8_reachedBySaying wM_X9_372 (sh_3) rfl rfl (Nat.le_of_ble_eq_true rfl) (by decide) dX9_fitsCounts_7 (fun _ => ?_)
  refine r_ist6 dX9_fitsCounts_10 rfl ?_
  refine r_iconst dX9_fitsCounts_12 ?_
  refine r_ist7 dX9_fitsCounts_13 rfl ?_
  exact L15 13 _ _  (by omega) (by omega) (by rw [Int.sub_zero, Int.add_zero]; rfl) (by omega)
set_option maxHeartbeats 4000000 in
theorem c_X9_who (E : xE) {M : xMem} {s w r i n : Int} (hs : -2147483648 ≤ s ∧ s < 2147483648) (hw : -2147483648 ≤ w ∧ w < 2147483648) (hr : -2147483648 ≤ r ∧ r < 2147483648) (hi : -2147483648 ≤ i ∧ i < 2147483648) (hn : -2147483648 ≤ n ∧ n < 2147483648) (hD : (M 3 6 = 0 ∧ M 3 7 = 0) ∨ (TI (tw M) ∧ SI (tw M) (sv M 9))) (hrw : ∀ i : Nat, i < 8 → (M (163 + 2 * i) 1 = 0 ∨ M (163 + 2 * i) 1 = 1) ∧ (0 ≤ M (163 + 2 * i) 2 ∧ M (163 + 2 * i) 2 ≤ 2) ∧ (0 ≤ M (163 + 2 * i) 3 ∧ M (163 + 2 * i) 3 ≤ 40)) : Ct E mX9_who 10 4 [xr E 0, xi s, xi w, xi r, xi i, xi n] M (some (xi ((xWho M s w r i n).1))) ((xWho M s w r i n).2) := by
  refine Ct.of 4 10 (by rfl) (by decide +kernel) (fun hM => ?_)
  show VS E mX9_who 4 _ _ 0 [some (xr E 0), some (xi s), some (xi w), some (xi r), some (xi i), some (xi n), none, none, none, none] [] M
  have L79 : ∀ (fu : Nat) (f kd p X : Int), ((1 ≤ M 3 6 ∧ M 3 6 ≤ 5) ∧ (0 ≤ w ∧ w ≤ 1) ∧ (0 ≤ r ∧ r ≤ 7) ∧ (0 ≤ i ∧ 1 ≤ n ∧ n ≤ 12 ∧ i + n ≤ 40)) → (1 ≤ kd ∧ kd ≤ 5) → (0 ≤ p ∧ p ≤ M 3 6) → (0 ≤ f ∧ f ≤ 63) → (foldI (whoP M w r i n kd) (M 3 6 - p).toNat p f = X) → (∀ g : Int, (0 ≤ g ∧ g ≤ 63) → g = X → VS E mX9_who 4 (some (xi (xWho M s w r i n).1)) ((xWho M s w r i n).2) 70 [some (xr E 0), some (xi s), some (xi w), some (xi r), some (xi i), some (xi n), none, some (xi g), some (xi (kd + 1)), none] [] M) → (M 3 6 - p).toNat < fu → VS E mX9_who 4 (some (xi ((xWho M s w r i n).1))) ((xWho M s w r i n).2) 79 [some (xr E 0), some (xi s), some (xi w), some (xi r), some (xi i), some (xi n), none, some (xi f), some (xi kd), some (xi p)] [] M := by
    intro fu
    induction fu with
    | zero => intro f kd p X  hG hkd hp hf hi hgo hme; exact absurd hme (Nat.not_lt_zero _)
    | succ fu ih =>
      intro f kd p X  hG hkd hp hf hi hgo hme
      refine r_ild9 dX9_who_79 ?_
      refine r_ald0 dX9_who_81 ?_
      refine s_getR fi_X9_24 (sh_0) rfl dX9_who_82 ?_
      refine s_getI hM fi_X9_315 (sh_3) rfl dX9_who_85 (fun g85 => ?_)
      refine r_icmp_ge 136 dX9_who_88 (by decide) (by omega) (by omega) (fun c88 => ?_) (fun c88 => ?_)
      · skip
        refine r_iinc8 dX9_who_136 rfl ?_
        refine r_goto 70 dX9_who_139 (by decide) ?_
        refine r_fgt9 ?_
        exact hgo _ hf ((foldI_end (by omega)).symm.trans hi)
      have hp2 := p2_4 (n := p) (by omega)
      have hk2 := p2_5 (n := kd) (by omega)
      have hx1 := xor2_63 (a := f) (b := 1 * 2 ^ kd.toNat) hf (by omega)
      have hx2 := xor2_63 (a := f) (b := 1 * 2 ^ p.toNat) hf (by omega)
      refine r_ald0 dX9_who_91 ?_
      refine r_ild8 dX9_who_92 ?_
      refine r_ild9 dX9_who_94 ?_
      refine r_ald0 dX9_who_96 ?_
      refine s_getR fi_X9_11 (sh_0) rfl dX9_who_97 ?_
      refine r_ild3 dX9_who_100 ?_
      refine s_rows (by omega) dX9_who_101 (fun p101 ep101 hp101 => ?_)
      subst ep101
      refine r_ild4 dX9_who_102 ?_
      refine r_ild5 dX9_who_104 ?_
      refine s_callV5r hM (c_X9_fitsCounts E (by omega) (by omega) (by omega) (by first | with_reducible assumption | with_reducible exact xSt_9 | with_reducible exact xSt_13 | omega) (by omega)) cv_X9_fitsCounts wM_X9_318 (sh_0) rfl rfl (Nat.le_of_ble_eq_true rfl) (by decide) dX9_who_106 (fun _ => ?_)
      refine r_ifb_eq 130 dX9_who_109 (by decide) (fun c109 => ?_) (fun c109 => ?_)
      · skip
        refine r_iinc9 dX9_who_130 rfl ?_
        refine r_goto 79 dX9_who_133 (by decide) ?_
        exact ih _ _ _ _  (by assumption) (by omega) (by omega) (by omega) (by exact foldI_go (by omega) hi (by unfold whoP; first | (rw [if_pos (by assumption)]; first | rfl | (rw [if_pos (by assumption)]) | (rw [if_neg (by assumption)])) | (rw [if_neg (by assumption)]))) hgo (by omega)
      refine r_ild7 dX9_who_112 ?_
      refine r_iconst dX9_who_114 ?_
      refine r_ild2 dX9_who_115 ?_
      refine r_if_ne 124 dX9_who_116 (by decide) (by omega) (fun c116 => ?_) (fun c116 => ?_)
      · skip
        refine r_ild9 dX9_who_124 ?_
        refine r_ishl dX9_who_126 (by omega) ?_
        refine r_ior dX9_who_127 (by omega) (by omega) (fun g127 => ?_)
        refine r_ist7 dX9_who_128 rfl ?_
        refine r_iinc9 dX9_who_130 rfl ?_
        refine r_goto 79 dX9_who_133 (by decide) ?_
        exact ih _ _ _ _  (by assumption) (by omega) (by omega) (by omega) (by exact foldI_go (by omega) hi (by unfold whoP; first | (rw [if_pos (by assumption)]; first | rfl | (rw [if_pos (by assumption)]) | (rw [if_neg (by assumption)])) | (rw [if_neg (by assumption)]))) hgo (by omega)
      refine r_ild8 dX9_who_119 ?_
      refine r_goto 126 dX9_who_121 (by decide) ?_
      refine r_ishl dX9_who_126 (by omega) ?_
      refine r_ior dX9_who_127 (by omega) (by omega) (fun g127 => ?_)
      refine r_ist7 dX9_who_128 rfl ?_
      refine r_iinc9 dX9_who_130 rfl ?_
      refine r_goto 79 dX9_who_133 (by decide) ?_
      exact ih _ _ _ _  (by assumption) (by omega) (by omega) (by omega) (by exact foldI_go (by omega) hi (by unfold whoP; first | (rw [if_pos (by assumption)]; first | rfl | (rw [if_pos (by assumption)]) | (rw [if_neg (by assumption)])) | (rw [if_neg (by assumption)]))) hgo (by omega)
  have L70 : ∀ (fu : Nat) (f kd : Int), ((1 ≤ M 3 6 ∧ M 3 6 ≤ 5) ∧ (0 ≤ w ∧ w ≤ 1) ∧ (0 ≤ r ∧ r ≤ 7) ∧ (0 ≤ i ∧ 1 ≤ n ∧ n ≤ 12 ∧ i + n ≤ 40)) → (1 ≤ kd ∧ kd ≤ 6) → (0 ≤ f ∧ f ≤ 63) → (foldI (fun kd a => foldI (whoP M w r i n kd) (M 3 6).toNat 0 a) (6 - kd).toNat kd f = whoT M w r i n) → (xWho M s w r i n = finX M (whoT M w r i n)) → (6 - kd).toNat < fu → VS E mX9_who 4 (some (xi ((xWho M s w r i n).1))) ((xWho M s w r i n).2) 70 [some (xr E 0), some (xi s), some (xi w), some (xi r), some (xi i), some (xi n), none, some (xi f), some (xi kd), none] [] M := by
    intro fu
    induction fu with
    | zero => intro f kd  hG hkd hf hO hW hme; exact absurd hme (Nat.not_lt_zero _)
    | succ fu ih =>
      intro f kd  hG hkd hf hO hW hme
      refine r_ild8 dX9_who_70 ?_
      refine r_iconst dX9_who_72 ?_
      refine r_icmp_gt 142 dX9_who_73 (by decide) (by omega) (by omega) (fun c73 => ?_) (fun c73 => ?_)
      · skip
        refine r_ald0 dX9_who_142 ?_
        refine r_ild7 dX9_who_143 ?_
        refine s_callV1r hM (c_X9_fine E ) cv_X9_fine wM_X9_96 (sh_0) rfl rfl (Nat.le_of_ble_eq_true rfl) (by decide) dX9_who_145 (fun hM145 => ?_)
        exact s_iret hM145 rfl dX9_who_148 (by rw [hW]; exact (foldI_end (by omega)).symm.trans hO) (by first | (rw [hW]; rfl) | (unfold xWho fndX finX; (repeat' split) <;> first | rfl | omega | (exfalso; omega)))
      refine r_iconst dX9_who_76 ?_
      refine r_ist9 dX9_who_77 rfl ?_
      exact L79 6 _ _ _ _  (by assumption) (by omega) (by omega) (by omega) (by exact foldI_0.symm) (fun g h1 h2 => ih _ _ hG (by omega) h1 (by rw [h2]; exact foldI_go (by omega) hO rfl) hW (by omega)) (by omega)
  refine r_ald0 dX9_who_0 ?_
  refine s_getR fi_X9_24 (sh_0) rfl dX9_who_1 ?_
  refine r_ild1 dX9_who_4 ?_
  refine s_callV1r hM (c_X8_hasSpeech E (by first | with_reducible assumption | with_reducible exact xSt_9 | with_reducible exact xSt_13 | omega)) cv_X8_hasSpeech wM_X9_188 (sh_3) rfl rfl (Nat.le_of_ble_eq_true rfl) (by decide) dX9_who_5 (fun _ => ?_)
  refine r_ifb_eq 38 dX9_who_8 (by decide) (fun c8 => ?_) (fun c8 => ?_)
  · skip
    refine r_ldc (-1000001) dX9_who_38 wC_X9_87 ?_
    exact s_iret hM rfl dX9_who_40 (by unfold xWho fndX finX; (repeat' split) <;> first | rfl | omega | (exfalso; omega)) (by first | (rw [hW]; rfl) | (unfold xWho fndX finX; (repeat' split) <;> first | rfl | omega | (exfalso; omega)))
  refine r_ild2 dX9_who_11 ?_
  refine r_iconst dX9_who_12 ?_
  refine r_iconst dX9_who_13 ?_
  refine s_callS3r hM (c_X9_within E (by first | with_reducible assumption | with_reducible exact xSt_9 | with_reducible exact xSt_13 | omega) (by first | with_reducible assumption | with_reducible exact xSt_9 | with_reducible exact xSt_13 | omega) (by first | with_reducible assumption | with_reducible exact xSt_9 | with_reducible exact xSt_13 | omega)) cs_X9_within wM_X9_83 (Nat.le_of_ble_eq_true rfl) (by decide) dX9_who_14 (fun _ => ?_)
  refine r_ifb_eq 38 dX9_who_17 (by decide) (fun c17 => ?_) (fun c17 => ?_)
  · skip
    refine r_ldc (-1000001) dX9_who_38 wC_X9_87 ?_
    exact s_iret hM rfl dX9_who_40 (by unfold xWho fndX finX; (repeat' split) <;> first | rfl | omega | (exfalso; omega)) (by first | (rw [hW]; rfl) | (unfold xWho fndX finX; (repeat' split) <;> first | rfl | omega | (exfalso; omega)))
  refine r_ild3 dX9_who_20 ?_
  refine s_callS1r hM (c_X9_isRow E (by first | with_reducible assumption | with_reducible exact xSt_9 | with_reducible exact xSt_13 | omega)) cs_X9_isRow wM_X9_79 (Nat.le_of_ble_eq_true rfl) (by decide) dX9_who_21 (fun _ => ?_)
  refine r_ifb_eq 38 dX9_who_24 (by decide) (fun c24 => ?_) (fun c24 => ?_)
  · skip
    refine r_ldc (-1000001) dX9_who_38 wC_X9_87 ?_
    exact s_iret hM rfl dX9_who_40 (by unfold xWho fndX finX; (repeat' split) <;> first | rfl | omega | (exfalso; omega)) (by first | (rw [hW]; rfl) | (unfold xWho fndX finX; (repeat' split) <;> first | rfl | omega | (exfalso; omega)))
  refine r_ild5 dX9_who_27 ?_
  refine r_iconst dX9_who_29 ?_
  refine r_bipush dX9_who_30 (by decide +kernel) ?_
  refine s_callS3r hM (c_X9_within E (by first | with_reducible assumption | with_reducible exact xSt_9 | with_reducible exact xSt_13 | omega) (by first | with_reducible assumption | with_reducible exact xSt_9 | with_reducible exact xSt_13 | omega) (by first | with_reducible assumption | with_reducible exact xSt_9 | with_reducible exact xSt_13 | omega)) cs_X9_within wM_X9_83 (Nat.le_of_ble_eq_true rfl) (by decide) dX9_who_32 (fun _ => ?_)
  refine r_ifb_ne 41 dX9_who_35 (by decide) (fun c35 => ?_) (fun c35 => ?_)
  · skip
    have hr1 := hrw r.toNat (by omega)
    have hsf : 0 ≤ sfT M r i n ∧ sfT M r i n ≤ 2 := by unfold sfT; split <;> (try split) <;> omega
    refine r_ald0 dX9_who_41 ?_
    refine r_ild3 dX9_who_42 ?_
    refine r_ild4 dX9_who_43 ?_
    refine r_ild5 dX9_who_45 ?_
    refine s_callV3r hM (c_X9_stretchFinding E (by first | with_reducible assumption | with_reducible exact xSt_9 | with_reducible exact xSt_13 | omega) (by first | with_reducible assumption | with_reducible exact xSt_9 | with_reducible exact xSt_13 | omega) (by first | with_reducible assumption | with_reducible exact xSt_9 | with_reducible exact xSt_13 | omega) (by first | with_reducible assumption | with_reducible exact xSt_9 | with_reducible exact xSt_13 | omega)) cv_X9_stretchFinding wM_X9_99 (sh_0) rfl rfl (Nat.le_of_ble_eq_true rfl) (by decide) dX9_who_47 (fun _ => ?_)
    refine r_ist6 dX9_who_50 rfl ?_
    refine r_ild6 dX9_who_52 ?_
    refine r_if_eq 64 dX9_who_54 (by decide) (by omega) (fun c54 => ?_) (fun c54 => ?_)
    · skip
      have hsi := sf_in c54
      obtain ⟨hT, hS⟩ := hD.resolve_left (by omega)
      have hn5 : 1 ≤ M 3 6 ∧ M 3 6 ≤ 5 := hT.1
      refine r_iconst dX9_who_64 ?_
      refine r_ist7 dX9_who_65 rfl ?_
      refine r_iconst dX9_who_67 ?_
      refine r_ist8 dX9_who_68 rfl ?_
      refine r_fgt6 ?_
      exact L70 6 _ _  (by omega) (by omega) (by omega) (by rfl) (by unfold xWho; rw [if_neg (by omega), if_neg (by omega)]) (by omega)
    refine r_ald0 dX9_who_57 ?_
    refine r_ild6 dX9_who_58 ?_
    refine s_callV1r hM (c_X9_found E (by first | with_reducible assumption | with_reducible exact xSt_9 | with_reducible exact xSt_13 | omega)) cv_X9_found wM_X9_88 (sh_0) rfl rfl (Nat.le_of_ble_eq_true rfl) (by decide) dX9_who_60 (fun hM60 => ?_)
    exact s_iret hM60 rfl dX9_who_63 (by unfold xWho fndX finX; (repeat' split) <;> first | rfl | omega | (exfalso; omega)) (by first | (rw [hW]; rfl) | (unfold xWho fndX finX; (repeat' split) <;> first | rfl | omega | (exfalso; omega)))
  refine r_ldc (-1000001) dX9_who_38 wC_X9_87 ?_
  exact s_iret hM rfl dX9_who_40 (by unfold xWho fndX finX; (repeat' split) <;> first | rfl | omega | (exfalso; omega)) (by first | (rw [hW]; rfl) | (unfold xWho fndX finX; (repeat' split) <;> first | rfl | omega | (exfalso; omega)))
