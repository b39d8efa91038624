set_option maxHeartbeats 4000000 in
theorem c_X2_mostWeeks (E : xE) {M : xMem}  (hO : OI M) : Ct E mX2_mostWeeks 1 0 [xr E 115] M (some (xi (mwT M))) (M) := by
  refine Ct.of 0 1 (by rfl) (by decide +kernel) (fun hM => ?_)
  have ho := hO.1
  show VS E mX2_mostWeeks 0 _ _ 0 [some (xr E 115)] [] M
  refine r_ald0 dX2_mostWeeks_0 ?_
  refine s_getI hM fi_X2_32 (sh_115) rfl dX2_mostWeeks_1 (fun g1 => ?_)
  refine r_ldc (-1000000) dX2_mostWeeks_4 wC_X2_31 ?_
  refine r_icmp_ne 14 dX2_mostWeeks_6 (by decide) (by omega) (by omega) (fun c6 => ?_) (fun c6 => ?_)
  · skip
    refine r_ald0 dX2_mostWeeks_14 ?_
    refine s_getI hM fi_X2_32 (sh_115) rfl dX2_mostWeeks_15 (fun g15 => ?_)
    refine r_iconst dX2_mostWeeks_18 ?_
    refine r_isub dX2_mostWeeks_19 ?_
    exact s_iret hM rfl dX2_mostWeeks_20 (by unfold mwT; split <;> first | rfl | omega) (by rfl)
  refine r_bipush dX2_mostWeeks_9 (by decide +kernel) ?_
  refine r_goto 20 dX2_mostWeeks_11 (by decide) ?_
  exact s_iret hM rfl dX2_mostWeeks_20 (by unfold mwT; split <;> first | rfl | omega) (by rfl)
set_option maxHeartbeats 4000000 in
theorem c_X2_keepTried (E : xE) {M : xMem} {n w : Int} (hO : OI M) (hn : 0 ≤ n ∧ n ≤ 6) (hw : 0 ≤ w ∧ w ≤ 60) : Ct E mX2_keepTried 3 1 [xr E 115, xi n, xi w] M (none) (kpT M n w) := by
  refine Ct.of 0 3 (by rfl) (by decide +kernel) (fun hM => ?_)
  have hmw := mw_b hO
  show VS E mX2_keepTried 1 _ _ 0 [some (xr E 115), some (xi n), some (xi w)] [] M
  refine r_ild2 dX2_keepTried_0 ?_
  refine r_ald0 dX2_keepTried_1 ?_
  refine s_callV0r hM (c_X2_mostWeeks E (by first | with_reducible assumption | with_reducible exact xSt_9 | with_reducible exact xSt_13 | omega)) cv_X2_mostWeeks wM_X2_66 (sh_115) rfl rfl (Nat.le_of_ble_eq_true rfl) (by decide) dX2_keepTried_2 (fun _ => ?_)
  refine r_icmp_le 9 dX2_keepTried_5 (by decide) (by omega) (by omega) (fun c5 => ?_) (fun c5 => ?_)
  · skip
    refine r_ald0 dX2_keepTried_9 ?_
    refine r_ild2 dX2_keepTried_10 ?_
    refine s_putI hM fp_X2_32 (sh_115) rfl (by omega) dX2_keepTried_11 (fun hM11 => ?_)
    refine r_ald0 dX2_keepTried_14 ?_
    refine r_ild1 dX2_keepTried_15 ?_
    refine s_putI hM11 fp_X2_36 (sh_115) rfl (by omega) dX2_keepTried_16 (fun hM16 => ?_)
    refine r_ald0 dX2_keepTried_19 ?_
    refine s_getR fi_X2_17 (sh_115) rfl dX2_keepTried_20 ?_
    refine r_iconst dX2_keepTried_23 ?_
    refine r_ald0 dX2_keepTried_24 ?_
    refine s_getR fi_X2_21 (sh_115) rfl dX2_keepTried_25 ?_
    refine r_iconst dX2_keepTried_28 ?_
    refine r_ild1 dX2_keepTried_29 ?_
    refine s_acopy hM16 wM_X2_82 (sh_117) (sh_118) (by omega) (Nat.le_of_ble_eq_true rfl) (by decide) dX2_keepTried_30 (fun hM30 => ?_)
    exact s_vret hM30 rfl dX2_keepTried_33 (by unfold kpT; first | rw [if_pos (by omega)] | (rw [if_neg (by omega)]; rfl))
  exact s_vret hM rfl dX2_keepTried_8 (by unfold kpT; first | rw [if_pos (by omega)] | (rw [if_neg (by omega)]; rfl))
set_option maxHeartbeats 4000000 in
theorem c_X2_bestAt (E : xE) {M : xMem} {k : Int} (hO : OI M) (hk : -2147483648 ≤ k ∧ k < 2147483648) : Ct E mX2_bestAt 2 0 [xr E 115, xi k] M (some (xi (baT M k))) (M) := by
  refine Ct.of 0 2 (by rfl) (by decide +kernel) (fun hM => ?_)
  have ho := hO.2
  show VS E mX2_bestAt 0 _ _ 0 [some (xr E 115), some (xi k)] [] M
  refine r_ild1 dX2_bestAt_0 ?_
  refine r_if_lt 21 dX2_bestAt_1 (by decide) (by omega) (fun c1 => ?_) (fun c1 => ?_)
  · skip
    refine r_ldc (-1000000) dX2_bestAt_21 wC_X2_31 ?_
    exact s_iret hM rfl dX2_bestAt_23 (by unfold baT; (repeat' split) <;> first | rfl | omega | (exfalso; omega)) (by rfl)
  refine r_ild1 dX2_bestAt_4 ?_
  refine r_ald0 dX2_bestAt_5 ?_
  refine s_getI hM fi_X2_36 (sh_115) rfl dX2_bestAt_6 (fun g6 => ?_)
  refine r_icmp_ge 21 dX2_bestAt_9 (by decide) (by omega) (by omega) (fun c9 => ?_) (fun c9 => ?_)
  · skip
    refine r_ldc (-1000000) dX2_bestAt_21 wC_X2_31 ?_
    exact s_iret hM rfl dX2_bestAt_23 (by unfold baT; (repeat' split) <;> first | rfl | omega | (exfalso; omega)) (by rfl)
  refine r_ald0 dX2_bestAt_12 ?_
  refine s_getR fi_X2_21 (sh_115) rfl dX2_bestAt_13 ?_
  refine r_ild1 dX2_bestAt_16 ?_
  refine s_iald hM (sh_118) (by omega) (by decide) dX2_bestAt_17 (fun g17 => ?_)
  refine r_goto 23 dX2_bestAt_18 (by decide) ?_
  exact s_iret hM rfl dX2_bestAt_23 (by unfold baT; (repeat' split) <;> first | rfl | omega | (exfalso; omega)) (by rfl)
set_option maxHeartbeats 4000000 in
theorem c_go6 (E : xE) {M : xMem}  (hT : TI (tw M)) (hL : LI M (119 + 4 * (6 : Int).toNat)) (hO : OI M) : Ct E mX2_goOn 6 4 [xr E 115, xi 6] M (none) (goM 0 6 M) := by
  refine Ct.of 4 6 (by rfl) (by decide +kernel) (fun hM => ?_)
  have hn : 1 ≤ M 3 6 ∧ M 3 6 ≤ 5 := hT.1
  have hN : 1 ≤ M 3 7 ∧ M 3 7 ≤ 6 := hT.2.1
  have hr : 1 ≤ M 3 5 ∧ M 3 5 ≤ 60 := hT.2.2.1
  have hS := hL.1
  have hk4 : 0 ≤ M (119 + 4 * (6 : Int).toNat) 4 ∧ M (119 + 4 * (6 : Int).toNat) 4 ≤ 100000 := hS.1
  have hk6 := hL.2
  have hsd : 0 ≤ M (119 + 4 * (6 : Int).toNat) 8 ∧ M (119 + 4 * (6 : Int).toNat) 8 ≤ 63 := hS.2.2.2.2.1
  have hp6 := p2_b (n := M 3 7) (by omega)
  show VS E mX2_goOn 4 _ _ 0 [some (xr E 115), some (xi 6), none, none, none, none] [] M
  refine r_ild1 dX2_goOn_0 ?_
  refine r_if_lt 10 dX2_goOn_1 (by decide) (by omega) (fun c1 => by exfalso; omega) (fun c1 => ?_)
  refine r_ild1 dX2_goOn_4 ?_
  refine r_bipush dX2_goOn_5 (by decide +kernel) ?_
  refine r_icmp_le 11 dX2_goOn_7 (by decide) (by omega) (by omega) (fun c7 => ?_) (fun c7 => by exfalso; omega)
  refine r_ald0 dX2_goOn_11 ?_
  refine s_getR fi_X2_11 (sh_115) rfl dX2_goOn_12 ?_
  refine r_ild1 dX2_goOn_15 ?_
  refine s_levs (by omega) dX2_goOn_16 (fun p16 ep16 hp16 => ?_)
  subst ep16
  refine r_ast2 dX2_goOn_17 rfl ?_
  refine r_ald2 dX2_goOn_18 ?_
  refine s_getI hM fi_X2_50 (hp16.1) rfl dX2_goOn_19 (fun g19 => ?_)
  refine r_iconst dX2_goOn_22 ?_
  refine r_ald0 dX2_goOn_23 ?_
  refine s_getR fi_X2_24 (sh_115) rfl dX2_goOn_24 ?_
  refine s_getI hM fi_X2_53 (sh_3) rfl dX2_goOn_27 (fun g27 => ?_)
  refine r_ishl dX2_goOn_30 (by omega) ?_
  refine r_iconst dX2_goOn_31 ?_
  refine r_isub dX2_goOn_32 ?_
  refine r_icmp_ne 46 dX2_goOn_33 (by decide) (by omega) (by omega) (fun c33 => ?_) (fun c33 => ?_)
  · skip
    refine r_ild1 dX2_goOn_46 ?_
    refine r_bipush dX2_goOn_47 (by decide +kernel) ?_
    refine r_icmp_ne 53 dX2_goOn_49 (by decide) (by omega) (by omega) (fun c49 => by exfalso; omega) (fun c49 => ?_)
    exact s_vret hM rfl dX2_goOn_52 (by first | rw [show goM 0 6 M = kpT M 6 (M (119 + 4 * (6 : Int).toNat) 4) from if_pos (by assumption)] | rw [show goM 0 6 M = M from if_neg (by assumption)])
  refine r_ald0 dX2_goOn_36 ?_
  refine r_ild1 dX2_goOn_37 ?_
  refine r_ald2 dX2_goOn_38 ?_
  refine s_getI hM fi_X2_43 (hp16.1) rfl dX2_goOn_39 (fun g39 => ?_)
  refine s_callV2v hM (c_X2_keepTried E (by first | with_reducible assumption | with_reducible exact xSt_9 | with_reducible exact xSt_13 | omega) (by first | with_reducible assumption | with_reducible exact xSt_9 | with_reducible exact xSt_13 | omega) (by first | with_reducible assumption | with_reducible exact xSt_9 | with_reducible exact xSt_13 | omega)) cv_X2_keepTried wM_X2_58 (sh_115) rfl rfl (Nat.le_of_ble_eq_true rfl) (by decide) dX2_goOn_42 (fun hM42 => ?_)
  exact s_vret hM42 rfl dX2_goOn_45 (by first | rw [show goM 0 6 M = kpT M 6 (M (119 + 4 * (6 : Int).toNat) 4) from if_pos (by assumption)] | rw [show goM 0 6 M = M from if_neg (by assumption)])
set_option maxHeartbeats 4000000 in
theorem c_goS (E : xE) {M : xMem} {f : Nat} {dep : Int} (hdf : 0 ≤ dep ∧ dep + (f + 1) ≤ 6) (hT : TI (tw M)) (hL : LI M (119 + 4 * dep.toNat)) (hO : OI M) (IH : ∀ {M : xMem}, TI (tw M) → LI M (119 + 4 * (dep + 1).toNat) → OI M → Ct E mX2_goOn 6 (4 + f) [xr E 115, xi (dep + 1)] M none (goM f (dep + 1) M)) : Ct E mX2_goOn 6 (4 + (f + 1)) [xr E 115, xi dep] M (none) (goM (f + 1) dep M) := by
  refine Ct.of 4 6 (by rfl) (by decide +kernel) (fun hM => ?_)
  have hn : 1 ≤ M 3 6 ∧ M 3 6 ≤ 5 := hT.1
  have hN : 1 ≤ M 3 7 ∧ M 3 7 ≤ 6 := hT.2.1
  have hr : 1 ≤ M 3 5 ∧ M 3 5 ≤ 60 := hT.2.2.1
  have hS := hL.1
  have hk4 : 0 ≤ M (119 + 4 * dep.toNat) 4 ∧ M (119 + 4 * dep.toNat) 4 ≤ 100000 := hS.1
  have hk6 := hL.2
  have hsd : 0 ≤ M (119 + 4 * dep.toNat) 8 ∧ M (119 + 4 * dep.toNat) 8 ≤ 63 := hS.2.2.2.2.1
  have hp6 := p2_b (n := M 3 7) (by omega)
  show VS E mX2_goOn (4 + (f + 1)) _ _ 0 [some (xr E 115), some (xi dep), none, none, none, none] [] M
  have L55 : ∀ (fu : Nat) (s : Int) (Mc : xMem), InR Mc → (∀ b j, gK dep b → Mc b j = M b j) → (OI Mc) → (0 ≤ s ∧ s ≤ M 3 7) → (¬ M (119 + 4 * dep.toNat) 8 = 1 * 2 ^ (M 3 7).toNat - 1) → (foldI (goF (goM f) dep) (M 3 7 - s).toNat s Mc = foldI (goF (goM f) dep) (M 3 7).toNat 0 M) → (M 3 7 - s).toNat < fu → VS E mX2_goOn (4 + (f + 1)) (none) (goM (f + 1) dep M) 55 [some (xr E 115), some (xi dep), some (xr E (119 + 4 * dep.toNat)), some (xi s), none, none] [] Mc := by
    intro fu
    induction fu with
    | zero => intro s Mc hML55 hlo hOc hb hna hi hme; exact absurd hme (Nat.not_lt_zero _)
    | succ fu ih =>
      intro s Mc hML55 hlo hOc hb hna hi hme
      have hlv : xSt (119 + 4 * dep.toNat) := (lv_all dep.toNat (by omega)).1
      have htw : tw Mc = tw M := tw_st fun b j hb => hlo b j (by unfold gK; omega)
      have esv : sv Mc (119 + 4 * dep.toNat) = sv M (119 + 4 * dep.toNat) := by funext o j; unfold sv; split <;> first | rfl | exact hlo _ _ (by unfold gK; omega)
      have e37 : Mc 3 7 = M 3 7 := hlo 3 7 (by unfold gK; omega)
      have e4 : Mc (119 + 4 * dep.toNat) 4 = M (119 + 4 * dep.toNat) 4 := hlo _ _ (by unfold gK; omega)
      have e8 : Mc (119 + 4 * dep.toNat) 8 = M (119 + 4 * dep.toNat) 8 := hlo _ _ (by unfold gK; omega)
      have hTc : TI (tw Mc) := by rw [htw]; exact hT
      have hLc : LI Mc (119 + 4 * dep.toNat) := ⟨by rw [htw, esv]; exact hL.1, by rw [e4]; exact hk6⟩
      have hmw := mw_b hOc
      refine r_ild3 dX2_goOn_55 ?_
      refine r_ald0 dX2_goOn_56 ?_
      refine s_getR fi_X2_24 (sh_115) rfl dX2_goOn_57 ?_
      refine s_getI hML55 fi_X2_53 (sh_3) rfl dX2_goOn_60 (fun g60 => ?_)
      refine r_icmp_ge 152 dX2_goOn_63 (by decide) (by omega) (by omega) (fun c63 => ?_) (fun c63 => ?_)
      · skip
        exact s_vret hML55 rfl dX2_goOn_152 (by first | (rw [show goM (f + 1) dep M = kpT M dep (M (119 + 4 * dep.toNat) 4) from if_pos (by assumption)]) | (rw [show goM (f + 1) dep M = foldI (goF (goM f) dep) (M 3 7).toNat 0 M from if_neg hna, ← hi, show (M 3 7 - s).toNat = 0 by omega]; rfl))
      have hs : 0 ≤ s ∧ s < M 3 7 := by omega
      have htb := till_b (mo := mwT Mc - Mc (119 + 4 * dep.toNat) 4) hTc hLc.1 (s := s) (by show 0 ≤ s ∧ s < Mc 3 7; omega)
      refine r_ald2 dX2_goOn_66 ?_
      refine r_ild3 dX2_goOn_67 ?_
      refine s_callV1r hML55 (c_X6_isSaid E (by exact hlv) (by omega) (by omega)) cv_X6_isSaid wM_X2_62 (hlv.1) rfl rfl (Nat.le_of_ble_eq_true rfl) (by omega) dX2_goOn_68 (fun _ => ?_)
      refine r_ifb_eq 79 dX2_goOn_71 (by decide) (fun c71 => ?_) (fun c71 => ?_)
      · skip
        have hw1 : wtT Mc (119 + 4 * dep.toNat) s = tillT (tw Mc) (sv Mc (119 + 4 * dep.toNat)) s (mwT Mc - Mc (119 + 4 * dep.toNat) 4) := if_neg c71
        refine r_ald2 dX2_goOn_79 ?_
        refine r_ild3 dX2_goOn_80 ?_
        refine r_ald0 dX2_goOn_81 ?_
        refine s_callV0r hML55 (c_X2_mostWeeks E (by exact hOc)) cv_X2_mostWeeks wM_X2_66 (sh_115) rfl rfl (Nat.le_of_ble_eq_true rfl) (by omega) dX2_goOn_82 (fun _ => ?_)
        refine r_ald2 dX2_goOn_85 ?_
        refine s_getI hML55 fi_X2_43 (hlv.1) rfl dX2_goOn_86 (fun g86 => ?_)
        refine r_isub dX2_goOn_89 ?_
        refine s_callV2r hML55 (c_X6_weeksTill E (by exact hlv) (by exact hTc) (by exact hLc.1) (by omega) (by omega)) cv_X6_weeksTill wM_X2_70 (hlv.1) rfl rfl (Nat.le_of_ble_eq_true rfl) (by omega) dX2_goOn_90 (fun _ => ?_)
        refine r_ist4 dX2_goOn_93 rfl ?_
        refine r_ild4 dX2_goOn_95 ?_
        refine r_ldc (-1000000) dX2_goOn_97 wC_X2_31 ?_
        refine r_icmp_eq 146 dX2_goOn_99 (by decide) (by omega) (by omega) (fun c99 => ?_) (fun c99 => ?_)
        · skip
          have hw0 : wtT Mc (119 + 4 * dep.toNat) s = -1000000 := hw1.trans c99
          refine r_iinc3 dX2_goOn_146 rfl ?_
          refine r_goto 55 dX2_goOn_149 (by decide) ?_
          refine r_fgt4 ?_
          exact ih _ _  hML55 (by first | exact hlo | exact hlo2) (by first | exact hOc | exact hOn) (by omega) (by assumption) (by exact foldI_go (by omega) hi (by first | exact if_pos (by assumption) | exact e2)) (by omega)
        have hw0 : ¬ wtT Mc (119 + 4 * dep.toNat) s = -1000000 := by rw [hw1]; exact c99
        rw [← hw1] at htb ⊢
        have el : (119 + 4 * (dep + 1).toNat) = (119 + 4 * dep.toNat) + 4 := by omega
        have htc : tw (stCp Mc (119 + 4 * (dep + 1).toNat) (119 + 4 * dep.toNat)) = tw Mc := tw_cp (by omega)
        have hSc : SI (tw Mc) (sv (stCp Mc (119 + 4 * (dep + 1).toNat) (119 + 4 * dep.toNat)) (119 + 4 * (dep + 1).toNat)) := SI_cp hTc hLc.1 (by omega)
        have e4c : stCp Mc (119 + 4 * (dep + 1).toNat) (119 + 4 * dep.toNat) (119 + 4 * (dep + 1).toNat) 4 = Mc (119 + 4 * dep.toNat) 4 := stCp_0 (by omega) (by decide)
        have htp : tw (pasM (stCp Mc (119 + 4 * (dep + 1).toNat) (119 + 4 * dep.toNat)) (119 + 4 * (dep + 1).toNat) (wtT Mc (119 + 4 * dep.toNat) s)) = tw Mc := (tw_pas (by omega)).trans htc
        have hSp : SI (tw Mc) (sv (pasM (stCp Mc (119 + 4 * (dep + 1).toNat) (119 + 4 * dep.toNat)) (119 + 4 * (dep + 1).toNat) (wtT Mc (119 + 4 * dep.toNat) s)) (119 + 4 * (dep + 1).toNat)) := by rw [sv_pas (by omega), htc]; exact SI_pas hTc hSc (by omega) (by show stCp Mc (119 + 4 * (dep + 1).toNat) (119 + 4 * dep.toNat) (119 + 4 * (dep + 1).toNat) 4 + _ ≤ 100000; omega)
        have e3p : pasM (stCp Mc (119 + 4 * (dep + 1).toNat) (119 + 4 * dep.toNat)) (119 + 4 * (dep + 1).toNat) (wtT Mc (119 + 4 * dep.toNat) s) 3 7 = Mc 3 7 := congrFun (congrFun htp 0) 7
        refine r_ald0 dX2_goOn_102 ?_
        refine s_getR fi_X2_11 (sh_115) rfl dX2_goOn_103 ?_
        refine r_ild1 dX2_goOn_106 ?_
        refine r_iconst dX2_goOn_107 ?_
        refine r_iadd dX2_goOn_108 ?_
        refine s_levs (by omega) dX2_goOn_109 (fun p109 ep109 hp109 => ?_)
        subst ep109
        refine r_ast5 dX2_goOn_110 rfl ?_
        refine r_ald5 dX2_goOn_112 ?_
        refine r_ald2 dX2_goOn_114 ?_
        refine s_callV1v hML55 (c_X6_takeFrom E (by exact hp109.g) (by exact hlv.g)) cv_X6_takeFrom wM_X2_39 (hp109.1) rfl rfl (Nat.le_of_ble_eq_true rfl) (by omega) dX2_goOn_115 (fun hM115 => ?_)
        refine r_ald5 dX2_goOn_118 ?_
        refine r_ild4 dX2_goOn_120 ?_
        refine s_callV1v hM115 (c_X6_passWeeks E (by exact hp109) (by rw [htc]; exact hTc) (by rw [htc]; exact hSc) (by omega)) cv_X6_passWeeks wM_X2_74 (hp109.1) rfl rfl (Nat.le_of_ble_eq_true rfl) (by omega) dX2_goOn_122 (fun hM122 => ?_)
        refine r_ald5 dX2_goOn_125 ?_
        refine r_ild3 dX2_goOn_127 ?_
        refine s_callV1r hM122 (c_X6_speak E (by exact hp109) (by rw [htp]; exact hTc) (by rw [htp]; exact hSp) (by rw [e3p]; omega)) cv_X6_speak wM_X2_78 (hp109.1) rfl rfl (Nat.le_of_ble_eq_true rfl) (by omega) dX2_goOn_128 (fun hM128 => ?_)
        refine r_pop dX2_goOn_131 rfl ?_
        refine r_ald0 dX2_goOn_132 ?_
        refine s_getR fi_X2_17 (sh_115) rfl dX2_goOn_133 ?_
        refine r_ild1 dX2_goOn_136 ?_
        refine r_ild3 dX2_goOn_137 ?_
        refine s_iast hM128 (sh_117) (by omega) (by decide) (by omega) dX2_goOn_138 (fun hM138 => ?_)
        have hA : TI (tw (nxT Mc (119 + 4 * dep.toNat) (119 + 4 * (dep + 1).toNat) dep s)) := by rw [tw_nx (by omega)]; exact hTc
        have hB : LI (nxT Mc (119 + 4 * dep.toNat) (119 + 4 * (dep + 1).toNat) dep s) (119 + 4 * (dep + 1).toNat) := by rw [el]; exact nx_LI hTc hLc hOc (by omega) (by omega) hw0
        have hC : OI (nxT Mc (119 + 4 * dep.toNat) (119 + 4 * (dep + 1).toNat) dep s) := ⟨by rw [nxT_lo (by omega) (by decide) (by omega)]; exact hOc.1, by rw [nxT_lo (by omega) (by decide) (by omega)]; exact hOc.2⟩
        refine r_ald0 dX2_goOn_139 ?_
        refine r_ild1 dX2_goOn_140 ?_
        refine r_iconst dX2_goOn_141 ?_
        refine r_iadd dX2_goOn_142 ?_
        refine s_callS2v hM138 (IH (M := nxT Mc (119 + 4 * dep.toNat) (119 + 4 * (dep + 1).toNat) dep s) hA hB hC) cs_X2_goOn wM_X2_46 (Nat.le_of_ble_eq_true rfl) (by omega) dX2_goOn_143 (fun hM143 => ?_)
        have e2 : goF (goM f) dep s Mc = goM f (dep + 1) (nxT Mc (119 + 4 * dep.toNat) (119 + 4 * (dep + 1).toNat) dep s) := if_neg hw0
        have hlo2 : ∀ b j, gK dep b → goM f (dep + 1) (nxT Mc (119 + 4 * dep.toNat) (119 + 4 * (dep + 1).toNat) dep s) b j = M b j := fun b j hb => by rw [goM_lo f (dep + 1) _ (by omega) (by unfold gK at hb ⊢; omega), nxT_lo (by omega) (by unfold gK at hb; omega) (by unfold gK at hb; omega)]; exact hlo b j hb
        have hOn : OI (goM f (dep + 1) (nxT Mc (119 + 4 * dep.toNat) (119 + 4 * (dep + 1).toNat) dep s)) := goM_OI f (dep + 1) _ (by omega) hA hB hC
        refine r_iinc3 dX2_goOn_146 rfl ?_
        refine r_goto 55 dX2_goOn_149 (by decide) ?_
        refine r_fgt4 ?_
        refine r_fgt5 ?_
        exact ih _ _  hM143 (by first | exact hlo | exact hlo2) (by first | exact hOc | exact hOn) (by omega) (by assumption) (by exact foldI_go (by omega) hi (by first | exact if_pos (by assumption) | exact e2)) (by omega)
      have hw0 : wtT Mc (119 + 4 * dep.toNat) s = -1000000 := if_pos c71
      refine r_ldc (-1000000) dX2_goOn_74 wC_X2_31 ?_
      refine r_goto 93 dX2_goOn_76 (by decide) ?_
      refine r_ist4 dX2_goOn_93 rfl ?_
      refine r_ild4 dX2_goOn_95 ?_
      refine r_ldc (-1000000) dX2_goOn_97 wC_X2_31 ?_
      refine r_icmp_eq 146 dX2_goOn_99 (by decide) (by omega) (by omega) (fun c99 => ?_) (fun c99 => by exfalso; omega)
      refine r_iinc3 dX2_goOn_146 rfl ?_
      refine r_goto 55 dX2_goOn_149 (by decide) ?_
      refine r_fgt4 ?_
      exact ih _ _  hML55 (by first | exact hlo | exact hlo2) (by first | exact hOc | exact hOn) (by omega) (by assumption) (by exact foldI_go (by omega) hi (by first | exact if_pos (by assumption) | exact e2)) (by omega)
  refine r_ild1 dX2_goOn_0 ?_
  refine r_if_lt 10 dX2_goOn_1 (by decide) (by omega) (fun c1 => by exfalso; omega) (fun c1 => ?_)
  refine r_ild1 dX2_goOn_4 ?_
  refine r_bipush dX2_goOn_5 (by decide +kernel) ?_
  refine r_icmp_le 11 dX2_goOn_7 (by decide) (by omega) (by omega) (fun c7 => ?_) (fun c7 => by exfalso; omega)
  refine r_ald0 dX2_goOn_11 ?_
  refine s_getR fi_X2_11 (sh_115) rfl dX2_goOn_12 ?_
  refine r_ild1 dX2_goOn_15 ?_
  refine s_levs (by omega) dX2_goOn_16 (fun p16 ep16 hp16 => ?_)
  subst ep16
  refine r_ast2 dX2_goOn_17 rfl ?_
  refine r_ald2 dX2_goOn_18 ?_
  refine s_getI hM fi_X2_50 (hp16.1) rfl dX2_goOn_19 (fun g19 => ?_)
  refine r_iconst dX2_goOn_22 ?_
  refine r_ald0 dX2_goOn_23 ?_
  refine s_getR fi_X2_24 (sh_115) rfl dX2_goOn_24 ?_
  refine s_getI hM fi_X2_53 (sh_3) rfl dX2_goOn_27 (fun g27 => ?_)
  refine r_ishl dX2_goOn_30 (by omega) ?_
  refine r_iconst dX2_goOn_31 ?_
  refine r_isub dX2_goOn_32 ?_
  refine r_icmp_ne 46 dX2_goOn_33 (by decide) (by omega) (by omega) (fun c33 => ?_) (fun c33 => ?_)
  · skip
    refine r_ild1 dX2_goOn_46 ?_
    refine r_bipush dX2_goOn_47 (by decide +kernel) ?_
    refine r_icmp_ne 53 dX2_goOn_49 (by decide) (by omega) (by omega) (fun c49 => ?_) (fun c49 => by exfalso; omega)
    refine r_iconst dX2_goOn_53 ?_
    refine r_ist3 dX2_goOn_54 rfl ?_
    exact L55 7 _ _  hM (by exact fun _ _ _ => rfl) (by exact hO) (by omega) (by assumption) (by rw [Int.sub_zero]) (by omega)
  refine r_ald0 dX2_goOn_36 ?_
  refine r_ild1 dX2_goOn_37 ?_
  refine r_ald2 dX2_goOn_38 ?_
  refine s_getI hM fi_X2_43 (hp16.1) rfl dX2_goOn_39 (fun g39 => ?_)
  refine s_callV2v hM (c_X2_keepTried E (by exact hO) (by omega) (by omega)) cv_X2_keepTried wM_X2_58 (sh_115) rfl rfl (Nat.le_of_ble_eq_true rfl) (by omega) dX2_goOn_42 (fun hM42 => ?_)
  exact s_vret hM42 rfl dX2_goOn_45 (by first | (rw [show goM (f + 1) dep M = kpT M dep (M (119 + 4 * dep.toNat) 4) from if_pos (by assumption)]) | (rw [show goM (f + 1) dep M = foldI (goF (goM f) dep) (M 3 7).toNat 0 M from if_neg hna, ← hi, show (M 3 7 - s).toNat = 0 by omega]; rfl))
theorem c_X2_goOn (E : xE) : ∀ (f : Nat) (dep : Int) {M : xMem}, (0 ≤ dep ∧ dep + f = 6) → TI (tw M) → LI M (119 + 4 * dep.toNat) → OI M → Ct E mX2_goOn 6 (4 + f) [xr E 115, xi dep] M none (goM f dep M)
  | 0, dep, M, hd, hT, hL, hO => by
    have : dep = 6 := by omega
    subst this
    exact c_go6 E hT hL hO
  | f + 1, dep, M, hd, hT, hL, hO => c_goS E (by omega) hT hL hO (fun {M} h1 h2 h3 => c_X2_goOn E f (dep + 1) (by omega) h1 h2 h3)
set_option maxHeartbeats 4000000 in
theorem c_X2_findFirst (E : xE) {M : xMem}  (hT : TI (tw M)) (hS : SI (tw M) (sv M 9)) : Ct E mX2_findFirst 2 11 [xr E 115, xr E 9] M (none) (ffM M) := by
  refine Ct.of 0 2 (by rfl) (by decide +kernel) (fun hM => ?_)
  have hk9 : 0 ≤ M 9 4 ∧ M 9 4 ≤ 100000 := hS.1
  have htA : tw (mS (stCp (mS (mS M 115 5 (-1000000)) 115 4 0) 119 9) 119 4 0) = tw M := by rw [tw_mS (Or.inl (by decide)), tw_cp (by decide), tw_mS (Or.inl (by decide)), tw_mS (Or.inl (by decide))]
  have hsA : SI (tw M) (sv (stCp (mS (mS M 115 5 (-1000000)) 115 4 0) 119 9) 119) := SI_cp hT (by rw [sv_mS (Or.inl (by decide)), sv_mS (Or.inl (by decide))]; exact hS) (by decide)
  have hA : TI (tw (mS (stCp (mS (mS M 115 5 (-1000000)) 115 4 0) 119 9) 119 4 0)) := by rw [htA]; exact hT
  have hB : LI (mS (stCp (mS (mS M 115 5 (-1000000)) 115 4 0) 119 9) 119 4 0) 119 := ff_LI htA hsA
  have hC : OI (mS (stCp (mS (mS M 115 5 (-1000000)) 115 4 0) 119 9) 119 4 0) := ff_OI
  show VS E mX2_findFirst 11 _ _ 0 [some (xr E 115), some (xr E 9)] [] M
  refine r_ald0 dX2_findFirst_0 ?_
  refine r_ldc (-1000000) dX2_findFirst_1 wC_X2_31 ?_
  refine s_putI hM fp_X2_32 (sh_115) rfl (by omega) dX2_findFirst_3 (fun hM3 => ?_)
  refine r_ald0 dX2_findFirst_6 ?_
  refine r_iconst dX2_findFirst_7 ?_
  refine s_putI hM3 fp_X2_36 (sh_115) rfl (by omega) dX2_findFirst_8 (fun hM8 => ?_)
  refine r_ald0 dX2_findFirst_11 ?_
  refine s_getR fi_X2_11 (sh_115) rfl dX2_findFirst_12 ?_
  refine r_iconst dX2_findFirst_15 ?_
  refine s_levs (by omega) dX2_findFirst_16 (fun p16 ep16 hp16 => ?_)
  subst ep16
  refine r_ald1 dX2_findFirst_17 ?_
  refine s_callV1v hM8 (c_X6_takeFrom E (by exact hp16.g) (by exact xSt_9.g)) cv_X6_takeFrom wM_X2_39 (hp16.1) rfl rfl (Nat.le_of_ble_eq_true rfl) (by decide) dX2_findFirst_18 (fun hM18 => ?_)
  refine r_ald0 dX2_findFirst_21 ?_
  refine s_getR fi_X2_11 (sh_115) rfl dX2_findFirst_22 ?_
  refine r_iconst dX2_findFirst_25 ?_
  refine s_levs (by omega) dX2_findFirst_26 (fun p26 ep26 hp26 => ?_)
  subst ep26
  refine r_iconst dX2_findFirst_27 ?_
  refine s_putI hM18 fp_X2_43 (hp26.1) rfl (by omega) dX2_findFirst_28 (fun hM28 => ?_)
  refine r_ald0 dX2_findFirst_31 ?_
  refine r_iconst dX2_findFirst_32 ?_
  refine s_callS2v hM28 (c_X2_goOn E 6 0 (M := (mS (stCp (mS (mS M 115 5 (-1000000)) 115 4 0) 119 9) 119 4 0)) (by decide) hA hB hC) cs_X2_goOn wM_X2_46 (Nat.le_of_ble_eq_true rfl) (by decide) dX2_findFirst_33 (fun hM33 => ?_)
  exact s_vret hM33 rfl dX2_findFirst_36 (by rfl)
set_option maxHeartbeats 4000000 in
theorem c_X9_order (E : xE) {M : xMem} {k : Int} (hk : -2147483648 ≤ k ∧ k < 2147483648) (hD : (M 3 6 = 0 ∧ M 3 7 = 0) ∨ (TI (tw M) ∧ SI (tw M) (sv M 9))) : Ct E mX9_order 2 12 [xr E 0, xi k] M (some (xi ((xOrder M k).1))) ((xOrder M k).2) := by
  refine Ct.of 0 2 (by rfl) (by decide +kernel) (fun hM => ?_)
  show VS E mX9_order 12 _ _ 0 [some (xr E 0), some (xi k)] [] M
  refine r_ald0 dX9_order_0 ?_
  refine s_callV0r hM (c_X9_noDuchy E ) cv_X9_noDuchy wM_X9_172 (sh_0) rfl rfl (Nat.le_of_ble_eq_true rfl) (by decide) dX9_order_1 (fun _ => ?_)
  refine r_ifb_eq 10 dX9_order_4 (by decide) (fun c4 => ?_) (fun c4 => ?_)
  · skip
    refine r_ild1 dX9_order_10 ?_
    refine r_iconst dX9_order_11 ?_
    refine r_icmp_ge 18 dX9_order_12 (by decide) (by omega) (by omega) (fun c12 => ?_) (fun c12 => ?_)
    · skip
      obtain ⟨hT, hS⟩ := hD.resolve_left (by omega)
      have hn : 1 ≤ M 3 6 ∧ M 3 6 ≤ 5 := hT.1
      have hN : 1 ≤ M 3 7 ∧ M 3 7 ≤ 6 := hT.2.1
      have hr : 1 ≤ M 3 5 ∧ M 3 5 ≤ 60 := hT.2.2.1
      have hl : 0 ≤ M 9 5 ∧ M 9 5 ≤ 99 := hS.2.1
      have hh : 0 ≤ M 9 6 ∧ M 9 6 ≤ 999 := hS.2.2.1
      have hpr : 1 ≤ M 9 7 ∧ M 9 7 ≤ 9 := hS.2.2.2.1
      have hsd : 0 ≤ M 9 8 ∧ M 9 8 ≤ 63 := hS.2.2.2.2.1
      have hwk : 0 ≤ M 9 4 ∧ M 9 4 ≤ 100000 := hS.1
      have hOf := ff_b hT hS
      refine r_ald0 dX9_order_18 ?_
      refine s_getR fi_X9_50 (sh_0) rfl dX9_order_19 ?_
      refine r_ald0 dX9_order_22 ?_
      refine s_getR fi_X9_33 (sh_0) rfl dX9_order_23 ?_
      refine s_callV1v hM (c_X2_findFirst E (by exact hT) (by exact hS)) cv_X2_findFirst wM_X9_288 (sh_115) rfl rfl (Nat.le_of_ble_eq_true rfl) (by decide) dX9_order_26 (fun hM26 => ?_)
      refine r_ild1 dX9_order_29 ?_
      refine r_iconst dX9_order_30 ?_
      refine r_icmp_ne 44 dX9_order_31 (by decide) (by omega) (by omega) (fun c31 => ?_) (fun c31 => ?_)
      · skip
        refine r_ald0 dX9_order_44 ?_
        refine s_getR fi_X9_50 (sh_0) rfl dX9_order_45 ?_
        refine r_ild1 dX9_order_48 ?_
        refine s_callV1r hM26 (c_X2_bestAt E (by exact hOf) (by exact hk)) cv_X2_bestAt wM_X9_294 (sh_115) rfl rfl (Nat.le_of_ble_eq_true rfl) (by decide) dX9_order_49 (fun _ => ?_)
        exact s_iret hM26 rfl dX9_order_52 (by unfold xOrder ; (repeat' split) <;> first | rfl | omega | (exfalso; omega)) (by unfold xOrder ; (repeat' split) <;> first | rfl | omega | (exfalso; omega))
      refine r_ald0 dX9_order_34 ?_
      refine s_getR fi_X9_50 (sh_0) rfl dX9_order_35 ?_
      refine s_getI hM26 fi_X9_291 (sh_115) rfl dX9_order_38 (fun g38 => ?_)
      refine r_goto 52 dX9_order_41 (by decide) ?_
      exact s_iret hM26 rfl dX9_order_52 (by unfold xOrder ; (repeat' split) <;> first | rfl | omega | (exfalso; omega)) (by unfold xOrder ; (repeat' split) <;> first | rfl | omega | (exfalso; omega))
    refine r_ldc (-1000001) dX9_order_15 wC_X9_87 ?_
    exact s_iret hM rfl dX9_order_17 (by unfold xOrder ; (repeat' split) <;> first | rfl | omega | (exfalso; omega)) (by unfold xOrder ; (repeat' split) <;> first | rfl | omega | (exfalso; omega))
  refine r_ldc (-1000002) dX9_order_7 wC_X9_171 ?_
  exact s_iret hM rfl dX9_order_9 (by unfold xOrder ; (repeat' split) <;> first | rfl | omega | (exfalso; omega)) (by unfold xOrder ; (repeat' split) <;> first | rfl | omega | (exfalso; omega))
