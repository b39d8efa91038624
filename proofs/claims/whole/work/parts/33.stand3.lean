set_option maxHeartbeats 4000000 in
theorem c_X6_passWeeks (E : xE) {M : xMem} {k : Nat} {w : Int} (hk : xSt k) (hT : TI (tw M)) (hS : SI (tw M) (sv M k)) (hw : 0 ≤ w ∧ w ≤ 100) : Ct E mX6_passWeeks 3 3 [xr E k, xi w] M (none) (pasM M k w) := by
  refine Ct.of 1 3 (by rfl) (by decide +kernel) (fun hM => ?_)
  have hn : 1 ≤ M 3 6 ∧ M 3 6 ≤ 5 := hT.1
  have hN : 1 ≤ M 3 7 ∧ M 3 7 ≤ 6 := hT.2.1
  have hr : 1 ≤ M 3 5 ∧ M 3 5 ≤ 60 := hT.2.2.1
  have hl : 0 ≤ M k 5 ∧ M k 5 ≤ 99 := hS.2.1
  have hh : 0 ≤ M k 6 ∧ M k 6 ≤ 999 := hS.2.2.1
  have hpr : 1 ≤ M k 7 ∧ M k 7 ≤ 9 := hS.2.2.2.1
  have hsd : 0 ≤ M k 8 ∧ M k 8 ≤ 63 := hS.2.2.2.2.1
  have hwk : 0 ≤ M k 4 ∧ M k 4 ≤ 100000 := hS.1
  have hk9 := hk.2.2.2.2
  show VS E mX6_passWeeks 3 _ _ 0 [some (xr E k), some (xi w), none] [] M
  have L51 : ∀ (fu : Nat) (p : Int) (Mc : xMem), InR Mc → (0 ≤ p ∧ p ≤ M 3 6) → (Mc = pw2 M k w (M 3 7) p) → (M 3 6 - p).toNat < fu → VS E mX6_passWeeks 3 (none) (pasM M k w) 51 [some (xr E k), some (xi w), some (xi p)] [] Mc := by
    intro fu
    induction fu with
    | zero => intro p Mc hML51 hb hMc hme; exact absurd hme (Nat.not_lt_zero _)
    | succ fu ih =>
      intro p Mc hML51 hb hMc hme
      have e36 : Mc 3 6 = M 3 6 := by rw [hMc]; unfold pw2 pw1; rw [if_neg (by omega), if_neg (by omega)]
      have e35 : Mc 3 5 = M 3 5 := by rw [hMc]; unfold pw2 pw1; rw [if_neg (by omega), if_neg (by omega)]
      have ek5 : Mc k 5 = M k 5 := by rw [hMc]; unfold pw2 pw1; rw [if_neg (by omega), if_neg (by omega)]
      have ek6 : Mc k 6 = M k 6 := by rw [hMc]; unfold pw2 pw1; rw [if_neg (by omega), if_neg (by omega)]
      have ek4 : Mc k 4 = M k 4 := by rw [hMc]; unfold pw2 pw1; rw [if_neg (by omega), if_neg (by omega)]
      refine r_ild2 dX6_passWeeks_51 ?_
      refine r_ald0 dX6_passWeeks_52 ?_
      refine s_getR fi_X6_21 (hk.1) rfl dX6_passWeeks_53 ?_
      refine s_getI hML51 fi_X6_98 (sh_3) rfl dX6_passWeeks_56 (fun g56 => ?_)
      try simp (disch := omega) only [mS_ne, mS_eq]
      refine r_icmp_ge 80 dX6_passWeeks_59 (by decide) (by omega) (by omega) (fun c59 => ?_) (fun c59 => ?_)
      · skip
        have hmm := mul_b (a := w) (A := 100) (b := M 3 5) (B := 60) (by omega) (by omega)
        have hm2 : w = 0 ∨ (0 ≤ (w - 1) * M 3 5) := by rcases (show w = 0 ∨ 0 ≤ w - 1 by omega) with h | h
                                                       · exact Or.inl h
                                                       · exact Or.inr (Int.mul_nonneg h (by omega))
        have hpe : p = M 3 6 := by omega
        have key : ∀ x, x = (if w = 0 then M k 5 else M 3 5) → mS (mS (mS Mc k 6 (if w = 0 then M k 6 else min 999 (M k 6 + M k 5 + (w - 1) * M 3 5))) k 5 x) k 4 (M k 4 + w) = pasM M k w := by
          intro x hx
          rw [hx, hMc, hpe]
          rfl
        refine r_ald0 dX6_passWeeks_80 ?_
        refine r_ald0 dX6_passWeeks_81 ?_
        refine r_ild1 dX6_passWeeks_82 ?_
        refine s_callV1r hML51 (c_X6_hillAhead E (by first | with_reducible assumption | with_reducible exact xSt_9 | with_reducible exact xSt_13 | omega) (by first | with_reducible assumption | with_reducible exact xSt_9 | with_reducible exact xSt_13 | omega) (by first | with_reducible assumption | with_reducible exact xSt_9 | with_reducible exact xSt_13 | omega) (by first | with_reducible assumption | with_reducible exact xSt_9 | with_reducible exact xSt_13 | omega) (by first | with_reducible assumption | with_reducible exact xSt_9 | with_reducible exact xSt_13 | omega)) cv_X6_hillAhead wM_X6_104 (hk.1) rfl rfl (Nat.le_of_ble_eq_true rfl) (by decide) dX6_passWeeks_83 (fun _ => ?_)
        rw [ek6, ek5, e35]
        refine s_putI hML51 fp_X6_32 (hk.1) rfl (by split <;> omega) dX6_passWeeks_86 (fun hM86 => ?_)
        refine r_ald0 dX6_passWeeks_89 ?_
        refine r_ild1 dX6_passWeeks_90 ?_
        refine r_if_ne 101 dX6_passWeeks_91 (by decide) (by omega) (fun c91 => ?_) (fun c91 => ?_)
        · skip
          refine r_ald0 dX6_passWeeks_101 ?_
          refine s_getR fi_X6_21 (hk.1) rfl dX6_passWeeks_102 ?_
          refine s_getI hM86 fi_X6_88 (sh_3) rfl dX6_passWeeks_105 (fun g105 => ?_)
          try simp (disch := omega) only [mS_ne, mS_eq]
          refine s_putI hM86 fp_X6_29 (hk.1) rfl (by omega) dX6_passWeeks_108 (fun hM108 => ?_)
          refine r_ald0 dX6_passWeeks_111 ?_
          refine r_dup dX6_passWeeks_112 rfl ?_
          refine s_getI hM108 fi_X6_25 (hk.1) rfl dX6_passWeeks_113 (fun g113 => ?_)
          try simp (disch := omega) only [mS_ne, mS_eq]
          refine r_ild1 dX6_passWeeks_116 ?_
          refine r_iadd dX6_passWeeks_117 ?_
          refine s_putI hM108 fp_X6_25 (hk.1) rfl (by omega) dX6_passWeeks_118 (fun hM118 => ?_)
          exact s_vret hM118 rfl dX6_passWeeks_121 (by rw [ek4]; exact key _ (by first | (rw [if_pos (by assumption)]; exact ek5) | (rw [if_neg (by assumption)]; exact e35)))
        refine r_ald0 dX6_passWeeks_94 ?_
        refine s_getI hM86 fi_X6_29 (hk.1) rfl dX6_passWeeks_95 (fun g95 => ?_)
        try simp (disch := omega) only [mS_ne, mS_eq]
        refine r_goto 108 dX6_passWeeks_98 (by decide) ?_
        refine s_putI hM86 fp_X6_29 (hk.1) rfl (by omega) dX6_passWeeks_108 (fun hM108 => ?_)
        refine r_ald0 dX6_passWeeks_111 ?_
        refine r_dup dX6_passWeeks_112 rfl ?_
        refine s_getI hM108 fi_X6_25 (hk.1) rfl dX6_passWeeks_113 (fun g113 => ?_)
        try simp (disch := omega) only [mS_ne, mS_eq]
        refine r_ild1 dX6_passWeeks_116 ?_
        refine r_iadd dX6_passWeeks_117 ?_
        refine s_putI hM108 fp_X6_25 (hk.1) rfl (by omega) dX6_passWeeks_118 (fun hM118 => ?_)
        exact s_vret hM118 rfl dX6_passWeeks_121 (by rw [ek4]; exact key _ (by first | (rw [if_pos (by assumption)]; exact ek5) | (rw [if_neg (by assumption)]; exact e35)))
      have hp : 0 ≤ p ∧ p < M 3 6 := by omega
      have hpu : (0 ≤ M (k + 1) p.toNat ∧ M (k + 1) p.toNat ≤ 99) ∧ (0 ≤ M (k + 2) p.toNat ∧ M (k + 2) p.toNat ≤ 99) := hS.2.2.2.2.2.1 p hp
      have hin : 0 ≤ M 4 p.toNat ∧ M 4 p.toNat ≤ 20 := hT.2.2.2.1 p hp
      have e4 : Mc 4 p.toNat = M 4 p.toNat := by rw [hMc]; unfold pw2 pw1; rw [if_neg (by omega), if_neg (by omega)]
      have ek : Mc (k + 1) p.toNat = M (k + 1) p.toNat := by rw [hMc]; unfold pw2 pw1; rw [if_neg (by omega), if_neg (by omega)]
      have hm := mul_b (a := w) (A := 1000) (b := M 4 p.toNat) (B := 20) (by omega) (by omega)
      refine r_ald0 dX6_passWeeks_62 ?_
      refine s_getR fi_X6_9 (hk.1) rfl dX6_passWeeks_63 ?_
      refine r_ild2 dX6_passWeeks_66 ?_
      refine r_ald0 dX6_passWeeks_67 ?_
      refine r_ild2 dX6_passWeeks_68 ?_
      refine r_ild1 dX6_passWeeks_69 ?_
      refine s_callV2r hML51 (c_X6_purseAhead E (by first | with_reducible assumption | with_reducible exact xSt_9 | with_reducible exact xSt_13 | omega) (by first | with_reducible assumption | with_reducible exact xSt_9 | with_reducible exact xSt_13 | omega) (by first | with_reducible assumption | with_reducible exact xSt_9 | with_reducible exact xSt_13 | omega) (by first | with_reducible assumption | with_reducible exact xSt_9 | with_reducible exact xSt_13 | omega) (by first | with_reducible assumption | with_reducible exact xSt_9 | with_reducible exact xSt_13 | omega)) cv_X6_purseAhead wM_X6_101 (hk.1) rfl rfl (Nat.le_of_ble_eq_true rfl) (by decide) dX6_passWeeks_70 (fun _ => ?_)
      rw [ek, e4]
      refine s_iast hML51 (hk.2.1) (by omega) (by decide) (by omega) dX6_passWeeks_73 (fun hM73 => ?_)
      refine r_iinc2 dX6_passWeeks_74 rfl ?_
      refine r_goto 51 dX6_passWeeks_77 (by decide) ?_
      exact ih _ _  hM73 (by omega) (by rw [hMc]; exact pw2_s (by omega)) (by omega)
  have L2 : ∀ (fu : Nat) (s : Int) (Mc : xMem), InR Mc → (0 ≤ s ∧ s ≤ M 3 7) → (Mc = pw1 M k w s) → (M 3 7 - s).toNat < fu → VS E mX6_passWeeks 3 (none) (pasM M k w) 2 [some (xr E k), some (xi w), some (xi s)] [] Mc := by
    intro fu
    induction fu with
    | zero => intro s Mc hML2 hb hMc hme; exact absurd hme (Nat.not_lt_zero _)
    | succ fu ih =>
      intro s Mc hML2 hb hMc hme
      have e37 : Mc 3 7 = M 3 7 := by rw [hMc]; exact if_neg (by omega)
      have e36 : Mc 3 6 = M 3 6 := by rw [hMc]; exact if_neg (by omega)
      refine r_ild2 dX6_passWeeks_2 ?_
      refine r_ald0 dX6_passWeeks_3 ?_
      refine s_getR fi_X6_21 (hk.1) rfl dX6_passWeeks_4 ?_
      refine s_getI hML2 fi_X6_95 (sh_3) rfl dX6_passWeeks_7 (fun g7 => ?_)
      try simp (disch := omega) only [mS_ne, mS_eq]
      refine r_icmp_ge 49 dX6_passWeeks_10 (by decide) (by omega) (by omega) (fun c10 => ?_) (fun c10 => ?_)
      · skip
        refine r_iconst dX6_passWeeks_49 ?_
        refine r_ist2 dX6_passWeeks_50 rfl ?_
        exact L51 ((M 3 6).toNat + 1) _ _  hML2 (by omega) (by rw [hMc, show s = M 3 7 by omega]; exact pw2_0 M k w (M 3 7)) (by omega)
      have hs : 0 ≤ s ∧ s < M 3 7 := by omega
      have hkn : 0 ≤ M (k + 3) s.toNat ∧ M (k + 3) s.toNat ≤ 31 := hS.2.2.2.2.2.2 s hs
      have hq : (1 ≤ M 5 s.toNat ∧ M 5 s.toNat ≤ 5) ∧ (0 ≤ M 6 s.toNat ∧ M 6 s.toNat < M 3 6) ∧ (1 ≤ M 7 s.toNat ∧ M 7 s.toNat ≤ 30) ∧ (0 ≤ M 8 s.toNat ∧ M 8 s.toNat ≤ s) := hT.2.2.2.2 s hs
      have e5 : Mc 5 s.toNat = M 5 s.toNat := by rw [hMc]; exact if_neg (by omega)
      have ek : Mc (k + 3) s.toNat = M (k + 3) s.toNat := by rw [hMc]; exact if_neg (by omega)
      have hob := onwT_b (n := M 3 6) (k := M 5 s.toNat) (a := M (k + 3) s.toNat) (d := 0) (w := w) (by omega) hkn
      refine r_ald0 dX6_passWeeks_13 ?_
      refine s_getR fi_X6_18 (hk.1) rfl dX6_passWeeks_14 ?_
      refine r_ild2 dX6_passWeeks_17 ?_
      refine r_ald0 dX6_passWeeks_18 ?_
      refine s_getR fi_X6_21 (hk.1) rfl dX6_passWeeks_19 ?_
      refine r_ald0 dX6_passWeeks_22 ?_
      refine s_getR fi_X6_21 (hk.1) rfl dX6_passWeeks_23 ?_
      refine s_getR fi_X6_62 (sh_3) rfl dX6_passWeeks_26 ?_
      refine r_ild2 dX6_passWeeks_29 ?_
      refine s_iald hML2 (sh_5) (by omega) (by decide) dX6_passWeeks_30 (fun g30 => ?_)
      try simp (disch := omega) only [mS_ne, mS_eq]
      refine r_ald0 dX6_passWeeks_31 ?_
      refine s_getR fi_X6_18 (hk.1) rfl dX6_passWeeks_32 ?_
      refine r_ild2 dX6_passWeeks_35 ?_
      refine s_iald hML2 (hk.2.2.2.1) (by omega) (by decide) dX6_passWeeks_36 (fun g36 => ?_)
      try simp (disch := omega) only [mS_ne, mS_eq]
      refine r_iconst dX6_passWeeks_37 ?_
      refine r_ild1 dX6_passWeeks_38 ?_
      refine s_callV4r hML2 (c_X8_onward E (by first | with_reducible assumption | with_reducible exact xSt_9 | with_reducible exact xSt_13 | omega) (by first | with_reducible assumption | with_reducible exact xSt_9 | with_reducible exact xSt_13 | omega) (by first | with_reducible assumption | with_reducible exact xSt_9 | with_reducible exact xSt_13 | omega) (by first | with_reducible assumption | with_reducible exact xSt_9 | with_reducible exact xSt_13 | omega) (by first | with_reducible assumption | with_reducible exact xSt_9 | with_reducible exact xSt_13 | omega)) cv_X8_onward wM_X6_91 (sh_3) rfl rfl (Nat.le_of_ble_eq_true rfl) (by decide) dX6_passWeeks_39 (fun _ => ?_)
      rw [e36, e5, ek]
      refine s_iast hML2 (hk.2.2.2.1) (by omega) (by decide) (by omega) dX6_passWeeks_42 (fun hM42 => ?_)
      refine r_iinc2 dX6_passWeeks_43 rfl ?_
      refine r_goto 2 dX6_passWeeks_46 (by decide) ?_
      exact ih _ _  hM42 (by omega) (by rw [hMc]; exact pw1_s (by omega)) (by omega)
  refine r_iconst dX6_passWeeks_0 ?_
  refine r_ist2 dX6_passWeeks_1 rfl ?_
  exact L2 ((M 3 7).toNat + 1) _ _  hM (by omega) (by exact pw1_0 M k w) (by omega)
set_option maxHeartbeats 4000000 in
theorem c_X6_shareOf (E : xE) {M : xMem} {k : Nat} {p w : Int} (hk : xSt k) (hT : TI (tw M)) (hS : SI (tw M) (sv M k)) (hp : 0 ≤ p ∧ p < M 3 6) (hw : 0 ≤ w ∧ w ≤ 99) : Ct E mX6_shareOf 7 2 [xr E k, xi p, xi w] M (some (xi (shareT (tw M) (sv M k) p w))) (M) := by
  refine Ct.of 4 7 (by rfl) (by decide +kernel) (fun hM => ?_)
  have hn : 1 ≤ M 3 6 ∧ M 3 6 ≤ 5 := hT.1
  have hN : 1 ≤ M 3 7 ∧ M 3 7 ≤ 6 := hT.2.1
  have hr : 1 ≤ M 3 5 ∧ M 3 5 ≤ 60 := hT.2.2.1
  have hl : 0 ≤ M k 5 ∧ M k 5 ≤ 99 := hS.2.1
  have hh : 0 ≤ M k 6 ∧ M k 6 ≤ 999 := hS.2.2.1
  have hpr : 1 ≤ M k 7 ∧ M k 7 ≤ 9 := hS.2.2.2.1
  have hsd : 0 ≤ M k 8 ∧ M k 8 ≤ 63 := hS.2.2.2.2.1
  have hwk : 0 ≤ M k 4 ∧ M k 4 ≤ 100000 := hS.1
  have hcl : ∀ q : Int, 0 ≤ q ∧ q < M 3 6 → 0 ≤ claimT (tw M) (sv M k) q ∧ claimT (tw M) (sv M k) q ≤ 360 := fun q hq => claim_b hT hS hq
  have hcp := hcl p hp
  show VS E mX6_shareOf 2 _ _ 0 [some (xr E k), some (xi p), some (xi w), none, none, none, none] [] M
  have L55 : ∀ (fu : Nat) (a b q : Int), (0 < clsT (tw M) (sv M k) ∧ clsT (tw M) (sv M k) ≤ 1800) → (¬ claimT (tw M) (sv M k) p = 0) → (0 ≤ q ∧ q ≤ M 3 6) → (foldI (ovrF (tw M) (sv M k) p w) (M 3 6 - q).toNat q (a, b) = ovrT (tw M) (sv M k) p w) → (w - 40000 * q ≤ a ∧ a ≤ w) → (0 ≤ b ∧ b ≤ q) → (M 3 6 - q).toNat < fu → VS E mX6_shareOf 2 (some (xi (shareT (tw M) (sv M k) p w))) (M) 55 [some (xr E k), some (xi p), some (xi w), some (xi (clsT (tw M) (sv M k))), some (xi a), some (xi b), some (xi q)] [] M := by
    intro fu
    induction fu with
    | zero => intro a b q  hc0 hcn hb hi ha hbb hme; exact absurd hme (Nat.not_lt_zero _)
    | succ fu ih =>
      intro a b q  hc0 hcn hb hi ha hbb hme
      refine r_ild6 dX6_shareOf_55 ?_
      refine r_ald0 dX6_shareOf_57 ?_
      refine s_getR fi_X6_21 (hk.1) rfl dX6_shareOf_58 ?_
      refine s_getI hM fi_X6_98 (sh_3) rfl dX6_shareOf_61 (fun g61 => ?_)
      refine r_icmp_ge 106 dX6_shareOf_64 (by decide) (by omega) (by omega) (fun c64 => ?_) (fun c64 => ?_)
      · skip
        have hee : (a, b) = ovrT (tw M) (sv M k) p w := (foldI_end (by omega)).symm.trans hi
        have hm := mul_b (a := w) (A := 99) (b := claimT (tw M) (sv M k) p) (B := 360) (by omega) (by omega)
        have hdv := div_b (a := w * claimT (tw M) (sv M k) p) (A := 99 * 360) (b := clsT (tw M) (sv M k)) (by omega) (by omega)
        refine r_ild2 dX6_shareOf_106 ?_
        refine r_ald0 dX6_shareOf_107 ?_
        refine r_ild1 dX6_shareOf_108 ?_
        refine s_callV1r hM (c_X6_claim E (by first | with_reducible assumption | with_reducible exact xSt_9 | with_reducible exact xSt_13 | omega) (by first | with_reducible assumption | with_reducible exact xSt_9 | with_reducible exact xSt_13 | omega) (by first | with_reducible assumption | with_reducible exact xSt_9 | with_reducible exact xSt_13 | omega) (by first | with_reducible assumption | with_reducible exact xSt_9 | with_reducible exact xSt_13 | omega)) cv_X6_claim wM_X6_122 (hk.1) rfl rfl (Nat.le_of_ble_eq_true rfl) (by decide) dX6_shareOf_109 (fun _ => ?_)
        refine r_imul dX6_shareOf_112 ?_
        refine r_ild3 dX6_shareOf_113 ?_
        refine r_idiv dX6_shareOf_114 (by omega) (by omega) ?_
        refine r_ild5 dX6_shareOf_115 ?_
        refine r_ild4 dX6_shareOf_117 ?_
        refine r_icmp_ge 126 dX6_shareOf_119 (by decide) (by omega) (by omega) (fun c119 => ?_) (fun c119 => ?_)
        · skip
          refine r_iconst dX6_shareOf_126 ?_
          refine r_iadd dX6_shareOf_127 ?_
          exact s_iret hM rfl dX6_shareOf_128 (by unfold shareT; rw [if_neg (by omega), ← hee]; show _ = _ + (if b < a then 1 else 0); split <;> first | rfl | (exfalso; omega)) (by rfl)
        refine r_iconst dX6_shareOf_122 ?_
        refine r_goto 127 dX6_shareOf_123 (by decide) ?_
        refine r_iadd dX6_shareOf_127 ?_
        exact s_iret hM rfl dX6_shareOf_128 (by unfold shareT; rw [if_neg (by omega), ← hee]; show _ = _ + (if b < a then 1 else 0); split <;> first | rfl | (exfalso; omega)) (by rfl)
      have hcq := hcl q (by omega)
      have hm := mul_b (a := w) (A := 99) (b := claimT (tw M) (sv M k) q) (B := 360) (by omega) (by omega)
      have hdv := div_b (a := w * claimT (tw M) (sv M k) q) (A := 99 * 360) (b := clsT (tw M) (sv M k)) (by omega) (by omega)
      refine r_ild4 dX6_shareOf_67 ?_
      refine r_ild2 dX6_shareOf_69 ?_
      refine r_ald0 dX6_shareOf_70 ?_
      refine r_ild6 dX6_shareOf_71 ?_
      refine s_callV1r hM (c_X6_claim E (by first | with_reducible assumption | with_reducible exact xSt_9 | with_reducible exact xSt_13 | omega) (by first | with_reducible assumption | with_reducible exact xSt_9 | with_reducible exact xSt_13 | omega) (by first | with_reducible assumption | with_reducible exact xSt_9 | with_reducible exact xSt_13 | omega) (by first | with_reducible assumption | with_reducible exact xSt_9 | with_reducible exact xSt_13 | omega)) cv_X6_claim wM_X6_122 (hk.1) rfl rfl (Nat.le_of_ble_eq_true rfl) (by decide) dX6_shareOf_73 (fun _ => ?_)
      refine r_imul dX6_shareOf_76 ?_
      refine r_ild3 dX6_shareOf_77 ?_
      refine r_idiv dX6_shareOf_78 (by omega) (by omega) ?_
      refine r_isub dX6_shareOf_79 ?_
      refine r_ist4 dX6_shareOf_80 rfl ?_
      refine r_ild6 dX6_shareOf_82 ?_
      refine r_ild1 dX6_shareOf_84 ?_
      refine r_icmp_ge 100 dX6_shareOf_85 (by decide) (by omega) (by omega) (fun c85 => ?_) (fun c85 => ?_)
      · skip
        refine r_iinc6 dX6_shareOf_100 rfl ?_
        refine r_goto 55 dX6_shareOf_103 (by decide) ?_
        exact ih _ _ _  (by omega) (by assumption) (by omega) (by exact foldI_go (by omega) hi (by show (_, if q < p ∧ 0 < claimT (tw M) (sv M k) q then b + 1 else b) = _; split <;> first | rfl | (exfalso; omega))) (by omega) (by omega) (by omega)
      refine r_ald0 dX6_shareOf_88 ?_
      refine r_ild6 dX6_shareOf_89 ?_
      refine s_callV1r hM (c_X6_claim E (by first | with_reducible assumption | with_reducible exact xSt_9 | with_reducible exact xSt_13 | omega) (by first | with_reducible assumption | with_reducible exact xSt_9 | with_reducible exact xSt_13 | omega) (by first | with_reducible assumption | with_reducible exact xSt_9 | with_reducible exact xSt_13 | omega) (by first | with_reducible assumption | with_reducible exact xSt_9 | with_reducible exact xSt_13 | omega)) cv_X6_claim wM_X6_122 (hk.1) rfl rfl (Nat.le_of_ble_eq_true rfl) (by decide) dX6_shareOf_91 (fun _ => ?_)
      refine r_if_le 100 dX6_shareOf_94 (by decide) (by omega) (fun c94 => ?_) (fun c94 => ?_)
      · skip
        refine r_iinc6 dX6_shareOf_100 rfl ?_
        refine r_goto 55 dX6_shareOf_103 (by decide) ?_
        exact ih _ _ _  (by omega) (by assumption) (by omega) (by exact foldI_go (by omega) hi (by show (_, if q < p ∧ 0 < claimT (tw M) (sv M k) q then b + 1 else b) = _; split <;> first | rfl | (exfalso; omega))) (by omega) (by omega) (by omega)
      refine r_iinc5 dX6_shareOf_97 rfl ?_
      refine r_iinc6 dX6_shareOf_100 rfl ?_
      refine r_goto 55 dX6_shareOf_103 (by decide) ?_
      exact ih _ _ _  (by omega) (by assumption) (by omega) (by exact foldI_go (by omega) hi (by show (_, if q < p ∧ 0 < claimT (tw M) (sv M k) q then b + 1 else b) = _; split <;> first | rfl | (exfalso; omega))) (by omega) (by omega) (by omega)
  have L5 : ∀ (fu : Nat) (a q : Int), (0 ≤ q ∧ q ≤ M 3 6) → (foldI (fun q a => a + claimT (tw M) (sv M k) q) (M 3 6 - q).toNat q a = clsT (tw M) (sv M k)) → (0 ≤ a ∧ a ≤ 360 * q) → (M 3 6 - q).toNat < fu → VS E mX6_shareOf 2 (some (xi (shareT (tw M) (sv M k) p w))) (M) 5 [some (xr E k), some (xi p), some (xi w), some (xi a), some (xi q), none, none] [] M := by
    intro fu
    induction fu with
    | zero => intro a q  hb hi ha hme; exact absurd hme (Nat.not_lt_zero _)
    | succ fu ih =>
      intro a q  hb hi ha hme
      refine r_ild4 dX6_shareOf_5 ?_
      refine r_ald0 dX6_shareOf_7 ?_
      refine s_getR fi_X6_21 (hk.1) rfl dX6_shareOf_8 ?_
      refine s_getI hM fi_X6_98 (sh_3) rfl dX6_shareOf_11 (fun g11 => ?_)
      refine r_icmp_ge 32 dX6_shareOf_14 (by decide) (by omega) (by omega) (fun c14 => ?_) (fun c14 => ?_)
      · skip
        have hee : a = clsT (tw M) (sv M k) := (foldI_end (by omega)).symm.trans hi
        subst hee
        refine r_ild3 dX6_shareOf_32 ?_
        refine r_if_eq 44 dX6_shareOf_33 (by decide) (by omega) (fun c33 => ?_) (fun c33 => ?_)
        · skip
          refine r_iconst dX6_shareOf_44 ?_
          exact s_iret hM rfl dX6_shareOf_45 (by unfold shareT; rw [if_pos (by omega)]) (by rfl)
        refine r_ald0 dX6_shareOf_36 ?_
        refine r_ild1 dX6_shareOf_37 ?_
        refine s_callV1r hM (c_X6_claim E (by first | with_reducible assumption | with_reducible exact xSt_9 | with_reducible exact xSt_13 | omega) (by first | with_reducible assumption | with_reducible exact xSt_9 | with_reducible exact xSt_13 | omega) (by first | with_reducible assumption | with_reducible exact xSt_9 | with_reducible exact xSt_13 | omega) (by first | with_reducible assumption | with_reducible exact xSt_9 | with_reducible exact xSt_13 | omega)) cv_X6_claim wM_X6_122 (hk.1) rfl rfl (Nat.le_of_ble_eq_true rfl) (by decide) dX6_shareOf_38 (fun _ => ?_)
        refine r_if_ne 46 dX6_shareOf_41 (by decide) (by omega) (fun c41 => ?_) (fun c41 => ?_)
        · skip
          refine r_ild2 dX6_shareOf_46 ?_
          refine r_ist4 dX6_shareOf_47 rfl ?_
          refine r_iconst dX6_shareOf_49 ?_
          refine r_ist5 dX6_shareOf_50 rfl ?_
          refine r_iconst dX6_shareOf_52 ?_
          refine r_ist6 dX6_shareOf_53 rfl ?_
          exact L55 ((M 3 6).toNat + 1) _ _ _  (by omega) (by assumption) (by omega) (by exact foldI_0.symm) (by omega) (by omega) (by omega)
        refine r_iconst dX6_shareOf_44 ?_
        exact s_iret hM rfl dX6_shareOf_45 (by unfold shareT; rw [if_pos (by omega)]) (by rfl)
      have hcq := hcl q (by omega)
      refine r_ild3 dX6_shareOf_17 ?_
      refine r_ald0 dX6_shareOf_18 ?_
      refine r_ild4 dX6_shareOf_19 ?_
      refine s_callV1r hM (c_X6_claim E (by first | with_reducible assumption | with_reducible exact xSt_9 | with_reducible exact xSt_13 | omega) (by first | with_reducible assumption | with_reducible exact xSt_9 | with_reducible exact xSt_13 | omega) (by first | with_reducible assumption | with_reducible exact xSt_9 | with_reducible exact xSt_13 | omega) (by first | with_reducible assumption | with_reducible exact xSt_9 | with_reducible exact xSt_13 | omega)) cv_X6_claim wM_X6_122 (hk.1) rfl rfl (Nat.le_of_ble_eq_true rfl) (by decide) dX6_shareOf_21 (fun _ => ?_)
      refine r_iadd dX6_shareOf_24 ?_
      refine r_ist3 dX6_shareOf_25 rfl ?_
      refine r_iinc4 dX6_shareOf_26 rfl ?_
      refine r_goto 5 dX6_shareOf_29 (by decide) ?_
      exact ih _ _  (by omega) (by exact foldI_go (by omega) hi rfl) (by omega) (by omega)
  refine r_iconst dX6_shareOf_0 ?_
  refine r_ist3 dX6_shareOf_1 rfl ?_
  refine r_iconst dX6_shareOf_2 ?_
  refine r_ist4 dX6_shareOf_3 rfl ?_
  exact L5 ((M 3 6).toNat + 1) _ _  (by omega) (by exact foldI_0.symm) (by omega) (by omega)
