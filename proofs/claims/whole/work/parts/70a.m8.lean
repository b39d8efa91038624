set_option maxHeartbeats 4000000 in
theorem c_X10_deaf (E : xE) {M : xMem} {s p n w : Int} (hs : -2147483648 ≤ s ∧ s < 2147483648) (hp : -2147483648 ≤ p ∧ p < 2147483648) (hn : -2147483648 ≤ n ∧ n < 2147483648) (hw : -2147483648 ≤ w ∧ w < 2147483648) (hD : MD M) : Ct E mX10_deaf 8 4 [xr E 201, xi s, xi p, xi n, xi w] M (some (xi (yDeaf M s p n w))) (M) := by
  refine Ct.of 3 8 (by rfl) (by decide +kernel) (fun hM => ?_)
  have hmn := MD_n hD
  show VS E mX10_deaf 4 _ _ 0 [some (xr E 201), some (xi s), some (xi p), some (xi n), some (xi w), none, none, none] [] M
  have L49 : ∀ (fu : Nat) (b t : Int), ((0 ≤ s ∧ s < M 209 1) ∧ (0 ≤ p ∧ p < M 209 0) ∧ (0 ≤ n ∧ n ≤ 30) ∧ (0 ≤ w ∧ w ≤ 1)) → (TI (tg (M 209))) → (GI (tg (M 209)) (sk (M 210)) 999) → (-1 ≤ t ∧ t ≤ 2 ^ (M 209 0).toNat - 1) → (b = -1000000 ∨ (0 ≤ b ∧ b ≤ 31)) → (foldI (dyF (tg (M 209)) (sk (M 210)) s p n) (t + 1).toNat (2 ^ (M 209 0).toNat - 1 - t) b = dyT (tg (M 209)) (sk (M 210)) s p n) → (t + 1).toNat < fu → VS E mX10_deaf 4 (some (xi (yDeaf M s p n w))) (M) 49 [some (xr E 201), some (xi s), some (xi p), some (xi n), some (xi w), some (xi b), some (xi t), none] [] M := by
    intro fu
    induction fu with
    | zero => intro b t  hg hT hG ht hbb hi hme; exact absurd hme (Nat.not_lt_zero _)
    | succ fu ih =>
      intro b t  hg hT hG ht hbb hi hme
      have hn : 1 ≤ M 209 0 ∧ M 209 0 ≤ 5 := hT.1
      have hN : 1 ≤ M 209 1 ∧ M 209 1 ≤ 6 := hT.2.1
      have hra : 1 ≤ M 209 2 ∧ M 209 2 ≤ 60 := hT.2.2.1
      have hs : 0 ≤ s ∧ s < M 209 1 := hg.1
      have hq : (1 ≤ tg (M 209) 2 s.toNat ∧ tg (M 209) 2 s.toNat ≤ 5) ∧ (0 ≤ tg (M 209) 3 s.toNat ∧ tg (M 209) 3 s.toNat < M 209 0) ∧ (1 ≤ tg (M 209) 4 s.toNat ∧ tg (M 209) 4 s.toNat ≤ 30) ∧ (0 ≤ tg (M 209) 5 s.toNat ∧ tg (M 209) 5 s.toNat ≤ s) := hT.2.2.2.2 s hs
      have e8 : M 209 (8 + s).toNat = tg (M 209) 2 s.toNat := ix8 (by omega)
      have e14 : M 209 (14 + s).toNat = tg (M 209) 3 s.toNat := ix14 (by omega)
      have e20 : M 209 (20 + s).toNat = tg (M 209) 4 s.toNat := ix20 (by omega)
      have h5 := p2_5 (n := M 209 0) (by omega)
      refine r_ild6 dX10_deaf_49 ?_
      refine r_if_lt 142 dX10_deaf_51 (by decide) (by omega) (fun c51 => ?_) (fun c51 => ?_)
      · skip
        refine r_ild5 dX10_deaf_142 ?_
        refine r_ldc (-1000000) dX10_deaf_144 wC_X10_133 ?_
        refine r_icmp_ne 154 dX10_deaf_146 (by decide) (by omega) (by omega) (fun c146 => ?_) (fun c146 => ?_)
        · skip
          refine r_ild4 dX10_deaf_154 ?_
          refine r_if_ne 167 dX10_deaf_156 (by decide) (by omega) (fun c156 => ?_) (fun c156 => ?_)
          · skip
            refine r_ild5 dX10_deaf_167 ?_
            exact s_iret hM rfl dX10_deaf_169 (by unfold yDeaf; first | (rw [if_pos (by omega)]; done) | (rw [if_neg (by omega), ← hi, show (t + 1).toNat = 0 by omega]; show _ = if b = -1000000 then -1000000 else if w = 0 then pcT b else b; (repeat' split) <;> first | rfl | omega | (exfalso; omega))) (by rfl)
          refine r_ild5 dX10_deaf_159 ?_
          refine s_callS1r hM (c_X10_bits E (by omega)) cs_X10_bits wM_X10_234 (Nat.le_of_ble_eq_true rfl) (by decide) dX10_deaf_161 (fun _ => ?_)
          refine r_goto 169 dX10_deaf_164 (by decide) ?_
          exact s_iret hM rfl dX10_deaf_169 (by unfold yDeaf; first | (rw [if_pos (by omega)]; done) | (rw [if_neg (by omega), ← hi, show (t + 1).toNat = 0 by omega]; show _ = if b = -1000000 then -1000000 else if w = 0 then pcT b else b; (repeat' split) <;> first | rfl | omega | (exfalso; omega))) (by rfl)
        refine r_ldc (-1000000) dX10_deaf_149 wC_X10_133 ?_
        refine r_goto 169 dX10_deaf_151 (by decide) ?_
        exact s_iret hM rfl dX10_deaf_169 (by unfold yDeaf; first | (rw [if_pos (by omega)]; done) | (rw [if_neg (by omega), ← hi, show (t + 1).toNat = 0 by omega]; show _ = if b = -1000000 then -1000000 else if w = 0 then pcT b else b; (repeat' split) <;> first | rfl | omega | (exfalso; omega))) (by rfl)
      have hpa := pasY_b hT hG (s := s) (d := t) (w := n) hs
      have hpa2 : pasY (tg (M 209)) (sk (M 210)) s t n < 2 ^ (M 209 0).toNat := hpa.2
      have hpc1 := pcT_b t
      have hpc2 := pcT_b b
      refine r_ild6 dX10_deaf_54 ?_
      refine r_ild2 dX10_deaf_56 ?_
      refine s_callS2r hM (c_X10_has E (by omega) (by omega)) cs_X10_has wM_X10_165 (Nat.le_of_ble_eq_true rfl) (by decide) dX10_deaf_57 (fun _ => ?_)
      refine r_ifb_ne 99 dX10_deaf_60 (by decide) (fun c60 => ?_) (fun c60 => ?_)
      · skip
        refine r_iconst dX10_deaf_99 ?_
        refine r_ist7 dX10_deaf_100 rfl ?_
        refine r_ild7 dX10_deaf_102 ?_
        refine r_if_eq 132 dX10_deaf_104 (by decide) (by omega) (fun c104 => ?_) (fun c104 => by exfalso; omega)
        refine r_ild5 dX10_deaf_132 ?_
        refine r_ist5 dX10_deaf_134 rfl ?_
        refine r_iinc6 dX10_deaf_136 rfl ?_
        refine r_goto 49 dX10_deaf_139 (by decide) ?_
        refine r_fgt7 ?_
        exact ih _ _  (by exact hg) (by exact hT) (by exact hG) (by omega) (by omega) (by rw [← hi, show (t + 1).toNat = (t + -1 + 1).toNat + 1 by omega, show (2 ^ (M 209 0).toNat - 1 - (t + -1) : Int) = 2 ^ (M 209 0).toNat - 1 - t + 1 by omega]; show foldI _ _ _ _ = foldI _ _ _ (dyF (tg (M 209)) (sk (M 210)) s p n (2 ^ (M 209 0).toNat - 1 - t) b); congr 1; show _ = if (¬ bitI (2 ^ (M 209 0).toNat - 1 - (2 ^ (M 209 0).toNat - 1 - t)) p = 1 ∧ ¬ bitI (2 ^ (M 209 0).toNat - 1 - (2 ^ (M 209 0).toNat - 1 - t)) (tg (M 209) 3 s.toNat) = 1 ∧ ¬ bitI (pasY (tg (M 209)) (sk (M 210)) s (2 ^ (M 209 0).toNat - 1 - (2 ^ (M 209 0).toNat - 1 - t)) n) p = 1) ∧ (b = -1000000 ∨ pcT (2 ^ (M 209 0).toNat - 1 - (2 ^ (M 209 0).toNat - 1 - t)) ≤ pcT b) then 2 ^ (M 209 0).toNat - 1 - (2 ^ (M 209 0).toNat - 1 - t) else b; rw [show (2 ^ (M 209 0).toNat - 1 - (2 ^ (M 209 0).toNat - 1 - t) : Int) = t by omega]; first | (rw [if_pos (by omega)]; done) | (rw [if_neg (by omega)]; done)) (by omega)
      refine r_ild6 dX10_deaf_63 ?_
      refine r_ald0 dX10_deaf_65 ?_
      refine s_getR fi_X10_31 (sh_201) rfl dX10_deaf_66 ?_
      refine r_bipush dX10_deaf_69 (by decide +kernel) ?_
      refine r_ild1 dX10_deaf_71 ?_
      refine r_iadd dX10_deaf_72 ?_
      refine s_iald hM (sh_209) (by omega) (by decide) dX10_deaf_73 (fun g73 => ?_)
      try first | simp (disch := omega) only [Int.reduceToNat, e14] | simp (disch := omega) only [Int.reduceToNat]
      refine s_callS2r hM (c_X10_has E (by omega) (by omega)) cs_X10_has wM_X10_165 (Nat.le_of_ble_eq_true rfl) (by decide) dX10_deaf_74 (fun _ => ?_)
      refine r_ifb_ne 99 dX10_deaf_77 (by decide) (fun c77 => ?_) (fun c77 => ?_)
      · skip
        refine r_iconst dX10_deaf_99 ?_
        refine r_ist7 dX10_deaf_100 rfl ?_
        refine r_ild7 dX10_deaf_102 ?_
        refine r_if_eq 132 dX10_deaf_104 (by decide) (by omega) (fun c104 => ?_) (fun c104 => by exfalso; omega)
        refine r_ild5 dX10_deaf_132 ?_
        refine r_ist5 dX10_deaf_134 rfl ?_
        refine r_iinc6 dX10_deaf_136 rfl ?_
        refine r_goto 49 dX10_deaf_139 (by decide) ?_
        refine r_fgt7 ?_
        exact ih _ _  (by exact hg) (by exact hT) (by exact hG) (by omega) (by omega) (by rw [← hi, show (t + 1).toNat = (t + -1 + 1).toNat + 1 by omega, show (2 ^ (M 209 0).toNat - 1 - (t + -1) : Int) = 2 ^ (M 209 0).toNat - 1 - t + 1 by omega]; show foldI _ _ _ _ = foldI _ _ _ (dyF (tg (M 209)) (sk (M 210)) s p n (2 ^ (M 209 0).toNat - 1 - t) b); congr 1; show _ = if (¬ bitI (2 ^ (M 209 0).toNat - 1 - (2 ^ (M 209 0).toNat - 1 - t)) p = 1 ∧ ¬ bitI (2 ^ (M 209 0).toNat - 1 - (2 ^ (M 209 0).toNat - 1 - t)) (tg (M 209) 3 s.toNat) = 1 ∧ ¬ bitI (pasY (tg (M 209)) (sk (M 210)) s (2 ^ (M 209 0).toNat - 1 - (2 ^ (M 209 0).toNat - 1 - t)) n) p = 1) ∧ (b = -1000000 ∨ pcT (2 ^ (M 209 0).toNat - 1 - (2 ^ (M 209 0).toNat - 1 - t)) ≤ pcT b) then 2 ^ (M 209 0).toNat - 1 - (2 ^ (M 209 0).toNat - 1 - t) else b; rw [show (2 ^ (M 209 0).toNat - 1 - (2 ^ (M 209 0).toNat - 1 - t) : Int) = t by omega]; first | (rw [if_pos (by omega)]; done) | (rw [if_neg (by omega)]; done)) (by omega)
      refine r_ald0 dX10_deaf_80 ?_
      refine r_ild1 dX10_deaf_81 ?_
      refine r_ild3 dX10_deaf_82 ?_
      refine r_ild6 dX10_deaf_83 ?_
      refine s_callV3r hM (c_X10_passedOn E (by exact hT) (by exact hG) (by omega) (by omega) (by omega)) cv_X10_passedOn wM_X10_240 (sh_201) rfl rfl (Nat.le_of_ble_eq_true rfl) (by decide) dX10_deaf_85 (fun _ => ?_)
      refine r_ild2 dX10_deaf_88 ?_
      refine s_callS2r hM (c_X10_has E (by omega) (by omega)) cs_X10_has wM_X10_165 (Nat.le_of_ble_eq_true rfl) (by decide) dX10_deaf_89 (fun _ => ?_)
      refine r_ifb_ne 99 dX10_deaf_92 (by decide) (fun c92 => ?_) (fun c92 => ?_)
      · skip
        refine r_iconst dX10_deaf_99 ?_
        refine r_ist7 dX10_deaf_100 rfl ?_
        refine r_ild7 dX10_deaf_102 ?_
        refine r_if_eq 132 dX10_deaf_104 (by decide) (by omega) (fun c104 => ?_) (fun c104 => by exfalso; omega)
        refine r_ild5 dX10_deaf_132 ?_
        refine r_ist5 dX10_deaf_134 rfl ?_
        refine r_iinc6 dX10_deaf_136 rfl ?_
        refine r_goto 49 dX10_deaf_139 (by decide) ?_
        refine r_fgt7 ?_
        exact ih _ _  (by exact hg) (by exact hT) (by exact hG) (by omega) (by omega) (by rw [← hi, show (t + 1).toNat = (t + -1 + 1).toNat + 1 by omega, show (2 ^ (M 209 0).toNat - 1 - (t + -1) : Int) = 2 ^ (M 209 0).toNat - 1 - t + 1 by omega]; show foldI _ _ _ _ = foldI _ _ _ (dyF (tg (M 209)) (sk (M 210)) s p n (2 ^ (M 209 0).toNat - 1 - t) b); congr 1; show _ = if (¬ bitI (2 ^ (M 209 0).toNat - 1 - (2 ^ (M 209 0).toNat - 1 - t)) p = 1 ∧ ¬ bitI (2 ^ (M 209 0).toNat - 1 - (2 ^ (M 209 0).toNat - 1 - t)) (tg (M 209) 3 s.toNat) = 1 ∧ ¬ bitI (pasY (tg (M 209)) (sk (M 210)) s (2 ^ (M 209 0).toNat - 1 - (2 ^ (M 209 0).toNat - 1 - t)) n) p = 1) ∧ (b = -1000000 ∨ pcT (2 ^ (M 209 0).toNat - 1 - (2 ^ (M 209 0).toNat - 1 - t)) ≤ pcT b) then 2 ^ (M 209 0).toNat - 1 - (2 ^ (M 209 0).toNat - 1 - t) else b; rw [show (2 ^ (M 209 0).toNat - 1 - (2 ^ (M 209 0).toNat - 1 - t) : Int) = t by omega]; first | (rw [if_pos (by omega)]; done) | (rw [if_neg (by omega)]; done)) (by omega)
      refine r_iconst dX10_deaf_95 ?_
      refine r_goto 100 dX10_deaf_96 (by decide) ?_
      refine r_ist7 dX10_deaf_100 rfl ?_
      refine r_ild7 dX10_deaf_102 ?_
      refine r_if_eq 132 dX10_deaf_104 (by decide) (by omega) (fun c104 => by exfalso; omega) (fun c104 => ?_)
      refine r_ild5 dX10_deaf_107 ?_
      refine r_ldc (-1000000) dX10_deaf_109 wC_X10_133 ?_
      refine r_icmp_eq 127 dX10_deaf_111 (by decide) (by omega) (by omega) (fun c111 => ?_) (fun c111 => ?_)
      · skip
        refine r_ild6 dX10_deaf_127 ?_
        refine r_goto 134 dX10_deaf_129 (by decide) ?_
        refine r_ist5 dX10_deaf_134 rfl ?_
        refine r_iinc6 dX10_deaf_136 rfl ?_
        refine r_goto 49 dX10_deaf_139 (by decide) ?_
        refine r_fgt7 ?_
        exact ih _ _  (by exact hg) (by exact hT) (by exact hG) (by omega) (by omega) (by rw [← hi, show (t + 1).toNat = (t + -1 + 1).toNat + 1 by omega, show (2 ^ (M 209 0).toNat - 1 - (t + -1) : Int) = 2 ^ (M 209 0).toNat - 1 - t + 1 by omega]; show foldI _ _ _ _ = foldI _ _ _ (dyF (tg (M 209)) (sk (M 210)) s p n (2 ^ (M 209 0).toNat - 1 - t) b); congr 1; show _ = if (¬ bitI (2 ^ (M 209 0).toNat - 1 - (2 ^ (M 209 0).toNat - 1 - t)) p = 1 ∧ ¬ bitI (2 ^ (M 209 0).toNat - 1 - (2 ^ (M 209 0).toNat - 1 - t)) (tg (M 209) 3 s.toNat) = 1 ∧ ¬ bitI (pasY (tg (M 209)) (sk (M 210)) s (2 ^ (M 209 0).toNat - 1 - (2 ^ (M 209 0).toNat - 1 - t)) n) p = 1) ∧ (b = -1000000 ∨ pcT (2 ^ (M 209 0).toNat - 1 - (2 ^ (M 209 0).toNat - 1 - t)) ≤ pcT b) then 2 ^ (M 209 0).toNat - 1 - (2 ^ (M 209 0).toNat - 1 - t) else b; rw [show (2 ^ (M 209 0).toNat - 1 - (2 ^ (M 209 0).toNat - 1 - t) : Int) = t by omega]; first | (rw [if_pos (by omega)]; done) | (rw [if_neg (by omega)]; done)) (by omega)
      refine r_ild6 dX10_deaf_114 ?_
      refine s_callS1r hM (c_X10_bits E (by omega)) cs_X10_bits wM_X10_234 (Nat.le_of_ble_eq_true rfl) (by decide) dX10_deaf_116 (fun _ => ?_)
      refine r_ild5 dX10_deaf_119 ?_
      refine s_callS1r hM (c_X10_bits E (by omega)) cs_X10_bits wM_X10_234 (Nat.le_of_ble_eq_true rfl) (by decide) dX10_deaf_121 (fun _ => ?_)
      refine r_icmp_gt 132 dX10_deaf_124 (by decide) (by omega) (by omega) (fun c124 => ?_) (fun c124 => ?_)
      · skip
        refine r_ild5 dX10_deaf_132 ?_
        refine r_ist5 dX10_deaf_134 rfl ?_
        refine r_iinc6 dX10_deaf_136 rfl ?_
        refine r_goto 49 dX10_deaf_139 (by decide) ?_
        refine r_fgt7 ?_
        exact ih _ _  (by exact hg) (by exact hT) (by exact hG) (by omega) (by omega) (by rw [← hi, show (t + 1).toNat = (t + -1 + 1).toNat + 1 by omega, show (2 ^ (M 209 0).toNat - 1 - (t + -1) : Int) = 2 ^ (M 209 0).toNat - 1 - t + 1 by omega]; show foldI _ _ _ _ = foldI _ _ _ (dyF (tg (M 209)) (sk (M 210)) s p n (2 ^ (M 209 0).toNat - 1 - t) b); congr 1; show _ = if (¬ bitI (2 ^ (M 209 0).toNat - 1 - (2 ^ (M 209 0).toNat - 1 - t)) p = 1 ∧ ¬ bitI (2 ^ (M 209 0).toNat - 1 - (2 ^ (M 209 0).toNat - 1 - t)) (tg (M 209) 3 s.toNat) = 1 ∧ ¬ bitI (pasY (tg (M 209)) (sk (M 210)) s (2 ^ (M 209 0).toNat - 1 - (2 ^ (M 209 0).toNat - 1 - t)) n) p = 1) ∧ (b = -1000000 ∨ pcT (2 ^ (M 209 0).toNat - 1 - (2 ^ (M 209 0).toNat - 1 - t)) ≤ pcT b) then 2 ^ (M 209 0).toNat - 1 - (2 ^ (M 209 0).toNat - 1 - t) else b; rw [show (2 ^ (M 209 0).toNat - 1 - (2 ^ (M 209 0).toNat - 1 - t) : Int) = t by omega]; first | (rw [if_pos (by omega)]; done) | (rw [if_neg (by omega)]; done)) (by omega)
      refine r_ild6 dX10_deaf_127 ?_
      refine r_goto 134 dX10_deaf_129 (by decide) ?_
      refine r_ist5 dX10_deaf_134 rfl ?_
      refine r_iinc6 dX10_deaf_136 rfl ?_
      refine r_goto 49 dX10_deaf_139 (by decide) ?_
      refine r_fgt7 ?_
      exact ih _ _  (by exact hg) (by exact hT) (by exact hG) (by omega) (by omega) (by rw [← hi, show (t + 1).toNat = (t + -1 + 1).toNat + 1 by omega, show (2 ^ (M 209 0).toNat - 1 - (t + -1) : Int) = 2 ^ (M 209 0).toNat - 1 - t + 1 by omega]; show foldI _ _ _ _ = foldI _ _ _ (dyF (tg (M 209)) (sk (M 210)) s p n (2 ^ (M 209 0).toNat - 1 - t) b); congr 1; show _ = if (¬ bitI (2 ^ (M 209 0).toNat - 1 - (2 ^ (M 209 0).toNat - 1 - t)) p = 1 ∧ ¬ bitI (2 ^ (M 209 0).toNat - 1 - (2 ^ (M 209 0).toNat - 1 - t)) (tg (M 209) 3 s.toNat) = 1 ∧ ¬ bitI (pasY (tg (M 209)) (sk (M 210)) s (2 ^ (M 209 0).toNat - 1 - (2 ^ (M 209 0).toNat - 1 - t)) n) p = 1) ∧ (b = -1000000 ∨ pcT (2 ^ (M 209 0).toNat - 1 - (2 ^ (M 209 0).toNat - 1 - t)) ≤ pcT b) then 2 ^ (M 209 0).toNat - 1 - (2 ^ (M 209 0).toNat - 1 - t) else b; rw [show (2 ^ (M 209 0).toNat - 1 - (2 ^ (M 209 0).toNat - 1 - t) : Int) = t by omega]; first | (rw [if_pos (by omega)]; done) | (rw [if_neg (by omega)]; done)) (by omega)
  refine r_ald0 dX10_deaf_0 ?_
  refine r_ild1 dX10_deaf_1 ?_
  refine s_callV1r hM (c_X10_isSpeech E (by first | with_reducible assumption | with_reducible exact xSt_9 | with_reducible exact xSt_13 | omega) (by first | with_reducible assumption | with_reducible exact xSt_9 | with_reducible exact xSt_13 | omega)) cv_X10_isSpeech wM_X10_205 (sh_201) rfl rfl (Nat.le_of_ble_eq_true rfl) (by decide) dX10_deaf_2 (fun _ => ?_)
  refine r_ifb_eq 36 dX10_deaf_5 (by decide) (fun c5 => ?_) (fun c5 => ?_)
  · skip
    refine r_ldc (-1000001) dX10_deaf_36 wC_X10_78 ?_
    exact s_iret hM rfl dX10_deaf_38 (by unfold yDeaf; first | (rw [if_pos (by omega)]; done) | (rw [if_neg (by omega), ← hi, show (t + 1).toNat = 0 by omega]; show _ = if b = -1000000 then -1000000 else if w = 0 then pcT b else b; (repeat' split) <;> first | rfl | omega | (exfalso; omega))) (by rfl)
  refine r_ald0 dX10_deaf_8 ?_
  refine r_ild2 dX10_deaf_9 ?_
  refine s_callV1r hM (c_X10_isPerson E (by first | with_reducible assumption | with_reducible exact xSt_9 | with_reducible exact xSt_13 | omega) (by first | with_reducible assumption | with_reducible exact xSt_9 | with_reducible exact xSt_13 | omega)) cv_X10_isPerson wM_X10_215 (sh_201) rfl rfl (Nat.le_of_ble_eq_true rfl) (by decide) dX10_deaf_10 (fun _ => ?_)
  refine r_ifb_eq 36 dX10_deaf_13 (by decide) (fun c13 => ?_) (fun c13 => ?_)
  · skip
    refine r_ldc (-1000001) dX10_deaf_36 wC_X10_78 ?_
    exact s_iret hM rfl dX10_deaf_38 (by unfold yDeaf; first | (rw [if_pos (by omega)]; done) | (rw [if_neg (by omega), ← hi, show (t + 1).toNat = 0 by omega]; show _ = if b = -1000000 then -1000000 else if w = 0 then pcT b else b; (repeat' split) <;> first | rfl | omega | (exfalso; omega))) (by rfl)
  refine r_ild3 dX10_deaf_16 ?_
  refine r_iconst dX10_deaf_17 ?_
  refine r_bipush dX10_deaf_18 (by decide +kernel) ?_
  refine s_callS3r hM (c_X10_in E (by first | with_reducible assumption | with_reducible exact xSt_9 | with_reducible exact xSt_13 | omega) (by first | with_reducible assumption | with_reducible exact xSt_9 | with_reducible exact xSt_13 | omega) (by first | with_reducible assumption | with_reducible exact xSt_9 | with_reducible exact xSt_13 | omega)) cs_X10_in wM_X10_70 (Nat.le_of_ble_eq_true rfl) (by decide) dX10_deaf_20 (fun _ => ?_)
  refine r_ifb_eq 36 dX10_deaf_23 (by decide) (fun c23 => ?_) (fun c23 => ?_)
  · skip
    refine r_ldc (-1000001) dX10_deaf_36 wC_X10_78 ?_
    exact s_iret hM rfl dX10_deaf_38 (by unfold yDeaf; first | (rw [if_pos (by omega)]; done) | (rw [if_neg (by omega), ← hi, show (t + 1).toNat = 0 by omega]; show _ = if b = -1000000 then -1000000 else if w = 0 then pcT b else b; (repeat' split) <;> first | rfl | omega | (exfalso; omega))) (by rfl)
  refine r_ild4 dX10_deaf_26 ?_
  refine r_iconst dX10_deaf_28 ?_
  refine r_iconst dX10_deaf_29 ?_
  refine s_callS3r hM (c_X10_in E (by first | with_reducible assumption | with_reducible exact xSt_9 | with_reducible exact xSt_13 | omega) (by first | with_reducible assumption | with_reducible exact xSt_9 | with_reducible exact xSt_13 | omega) (by first | with_reducible assumption | with_reducible exact xSt_9 | with_reducible exact xSt_13 | omega)) cs_X10_in wM_X10_70 (Nat.le_of_ble_eq_true rfl) (by decide) dX10_deaf_30 (fun _ => ?_)
  refine r_ifb_ne 39 dX10_deaf_33 (by decide) (fun c33 => ?_) (fun c33 => ?_)
  · skip
    obtain ⟨hd1, hT, hG, hNN⟩ := MD_g hD (by omega)
    refine r_ldc (-1000000) dX10_deaf_39 wC_X10_133 ?_
    refine r_ist5 dX10_deaf_41 rfl ?_
    refine r_ald0 dX10_deaf_43 ?_
    refine s_callV0r hM (c_X10_all E (by omega)) cv_X10_all wM_X10_176 (sh_201) rfl rfl (Nat.le_of_ble_eq_true rfl) (by decide) dX10_deaf_44 (fun _ => ?_)
    refine r_ist6 dX10_deaf_47 rfl ?_
    exact L49 33 _ _  (by omega) (by exact hT) (by exact hG) (by have h5 := p2_5 (n := M 209 0) (by omega); omega) (by omega) (by rw [show (2 ^ (M 209 0).toNat - 1 + 1 : Int) = 2 ^ (M 209 0).toNat by omega, show (2 ^ (M 209 0).toNat - 1 - (2 ^ (M 209 0).toNat - 1) : Int) = 0 by omega]; rfl) (by have h5 := p2_5 (n := M 209 0) (by omega); omega)
  refine r_ldc (-1000001) dX10_deaf_36 wC_X10_78 ?_
  exact s_iret hM rfl dX10_deaf_38 (by unfold yDeaf; first | (rw [if_pos (by omega)]; done) | (rw [if_neg (by omega), ← hi, show (t + 1).toNat = 0 by omega]; show _ = if b = -1000000 then -1000000 else if w = 0 then pcT b else b; (repeat' split) <;> first | rfl | omega | (exfalso; omega))) (by rfl)
set_option maxHeartbeats 4000000 in
theorem c_X10_heard (E : xE) {M : xMem} {s p n pr w : Int} (hs : -2147483648 ≤ s ∧ s < 2147483648) (hp : -2147483648 ≤ p ∧ p < 2147483648) (hn : -2147483648 ≤ n ∧ n < 2147483648) (hpr : -2147483648 ≤ pr ∧ pr < 2147483648) (hw : -2147483648 ≤ w ∧ w < 2147483648) (hD : MD M) : Ct E mX10_heard 15 4 [xr E 201, xi s, xi p, xi n, xi pr, xi w] M (some (xl (yHeard M s p n pr w))) (M) := by
  refine Ct.of 9 15 (by rfl) (by decide +kernel) (fun hM => ?_)
  have hmn := MD_n hD
  show VS E mX10_heard 4 _ _ 0 [some (xr E 201), some (xi s), some (xi p), some (xi n), some (xi pr), some (xi w), none, none, none, none, none, none, none, none, none] [] M
  have L139 : ∀ (fu : Nat) (a t c k : Int), ((0 ≤ s ∧ s < M 209 1) ∧ (0 ≤ p ∧ p < M 209 0) ∧ (0 ≤ n ∧ n ≤ 30) ∧ (0 ≤ pr ∧ pr ≤ 10) ∧ (0 ≤ w ∧ w ≤ 1)) → (TI (tg (M 209))) → (GI (tg (M 209)) (sk (M 210)) 999) → (0 ≤ t ∧ t ≤ 2 ^ (M 209 0).toNat - 1) → (0 ≤ a ∧ a ≤ 1000000 * t) → (0 ≤ k ∧ k ≤ M 209 0) → (0 ≤ c ∧ c ≤ 10 ^ k.toNat) → (foldI (byF (tg (M 209) 3 s.toNat) t pr) (M 209 0 - k).toNat k c = foldI (byF (tg (M 209) 3 s.toNat) t pr) (M 209 0).toNat 0 1) → (∀ a2 : Int, (0 ≤ a2 ∧ a2 ≤ 1000000 * (t + 1)) → a2 = a + foldI (byF (tg (M 209) 3 s.toNat) t pr) (M 209 0).toNat 0 1 → VS E mX10_heard 4 (some (xl (yHeard M s p n pr w))) M 99 [some (xr E 201), some (xi s), some (xi p), some (xi n), some (xi pr), some (xi w), some (xi (tg (M 209) 3 s.toNat)), some (xl a2), none, some (xl (10 ^ (M 209 0 - 1).toNat)), none, some (xi (t + 1)), none, none, none] [] M) → (M 209 0 - k).toNat < fu → VS E mX10_heard 4 (some (xl (yHeard M s p n pr w))) (M) 139 [some (xr E 201), some (xi s), some (xi p), some (xi n), some (xi pr), some (xi w), some (xi (tg (M 209) 3 s.toNat)), some (xl a), none, some (xl (10 ^ (M 209 0 - 1).toNat)), none, some (xi t), some (xl c), none, some (xi k)] [] M := by
    intro fu
    induction fu with
    | zero => intro a t c k  hg hT hG ht ha hk hc hi hgo hme; exact absurd hme (Nat.not_lt_zero _)
    | succ fu ih =>
      intro a t c k  hg hT hG ht ha hk hc hi hgo hme
      have hn : 1 ≤ M 209 0 ∧ M 209 0 ≤ 5 := hT.1
      have hN : 1 ≤ M 209 1 ∧ M 209 1 ≤ 6 := hT.2.1
      have hra : 1 ≤ M 209 2 ∧ M 209 2 ≤ 60 := hT.2.2.1
      have hs : 0 ≤ s ∧ s < M 209 1 := hg.1
      have hq : (1 ≤ tg (M 209) 2 s.toNat ∧ tg (M 209) 2 s.toNat ≤ 5) ∧ (0 ≤ tg (M 209) 3 s.toNat ∧ tg (M 209) 3 s.toNat < M 209 0) ∧ (1 ≤ tg (M 209) 4 s.toNat ∧ tg (M 209) 4 s.toNat ≤ 30) ∧ (0 ≤ tg (M 209) 5 s.toNat ∧ tg (M 209) 5 s.toNat ≤ s) := hT.2.2.2.2 s hs
      have h5 := p2_5 (n := M 209 0) (by omega)
      have hk10 := ten_b (k := k.toNat) (by omega)
      refine r_ild14 dX10_heard_139 ?_
      refine r_ald0 dX10_heard_141 ?_
      refine s_getR fi_X10_31 (sh_201) rfl dX10_heard_142 ?_
      refine r_iconst dX10_heard_145 ?_
      refine s_iald hM (sh_209) (by omega) (by decide) dX10_heard_146 (fun g146 => ?_)
      try first | simp (disch := omega) only [Int.reduceToNat, e14] | simp (disch := omega) only [Int.reduceToNat]
      refine r_icmp_ge 194 dX10_heard_147 (by decide) (by omega) (by omega) (fun c147 => ?_) (fun c147 => ?_)
      · skip
        refine r_lld7 dX10_heard_194 ?_
        refine r_lld12 dX10_heard_196 ?_
        refine r_ladd dX10_heard_198 ?_
        refine r_lst7 dX10_heard_199 rfl ?_
        refine r_iinc11 dX10_heard_201 rfl ?_
        refine r_goto 99 dX10_heard_204 (by decide) ?_
        refine r_fgt12 ?_
        refine r_fgt14 ?_
        have hce := (foldI_end (by omega)).symm.trans hi
        exact hgo _ (by omega) (by rw [hce])
      refine r_lld12 dX10_heard_150 ?_
      refine r_ild14 dX10_heard_152 ?_
      refine r_ild6 dX10_heard_154 ?_
      refine r_icmp_ne 163 dX10_heard_156 (by decide) (by omega) (by omega) (fun c156 => ?_) (fun c156 => ?_)
      · skip
        refine r_ild11 dX10_heard_163 ?_
        refine r_ild14 dX10_heard_165 ?_
        refine s_callS2r hM (c_X10_has E (by omega) (by omega)) cs_X10_has wM_X10_165 (Nat.le_of_ble_eq_true rfl) (by decide) dX10_heard_167 (fun _ => ?_)
        refine r_ifb_eq 179 dX10_heard_170 (by decide) (fun c170 => ?_) (fun c170 => ?_)
        · skip
          refine r_bipush dX10_heard_179 (by decide +kernel) ?_
          refine r_ild4 dX10_heard_181 ?_
          refine r_isub dX10_heard_183 ?_
          refine r_i2l dX10_heard_184 (by omega) ?_
          refine r_lmul dX10_heard_185 ?_
          refine r_lst12 dX10_heard_186 rfl ?_
          refine r_iinc14 dX10_heard_188 rfl ?_
          refine r_goto 139 dX10_heard_191 (by decide) ?_
          exact ih _ _ _ _  (by exact hg) (by exact hT) (by exact hG) (by exact ht) (by exact ha) (by omega) (by rw [show (k + 1).toNat = k.toNat + 1 by omega, Int.pow_succ]; exact mul_b hc (by omega)) (by refine foldI_go (by omega) hi ?_; unfold byF; first | (rw [if_pos (by omega)]; done) | (rw [if_neg (by omega), if_pos (by omega)]; done) | (rw [if_neg (by omega), if_neg (by omega)]; done)) (by exact hgo) (by omega)
        refine r_ild4 dX10_heard_173 ?_
        refine r_i2l dX10_heard_175 (by omega) ?_
        refine r_goto 185 dX10_heard_176 (by decide) ?_
        refine r_lmul dX10_heard_185 ?_
        refine r_lst12 dX10_heard_186 rfl ?_
        refine r_iinc14 dX10_heard_188 rfl ?_
        refine r_goto 139 dX10_heard_191 (by decide) ?_
        exact ih _ _ _ _  (by exact hg) (by exact hT) (by exact hG) (by exact ht) (by exact ha) (by omega) (by rw [show (k + 1).toNat = k.toNat + 1 by omega, Int.pow_succ]; exact mul_b hc (by omega)) (by refine foldI_go (by omega) hi ?_; unfold byF; first | (rw [if_pos (by omega)]; done) | (rw [if_neg (by omega), if_pos (by omega)]; done) | (rw [if_neg (by omega), if_neg (by omega)]; done)) (by exact hgo) (by omega)
      refine r_lconst1 dX10_heard_159 ?_
      refine r_goto 185 dX10_heard_160 (by decide) ?_
      refine r_lmul dX10_heard_185 ?_
      refine r_lst12 dX10_heard_186 rfl ?_
      refine r_iinc14 dX10_heard_188 rfl ?_
      refine r_goto 139 dX10_heard_191 (by decide) ?_
      exact ih _ _ _ _  (by exact hg) (by exact hT) (by exact hG) (by exact ht) (by exact ha) (by omega) (by rw [show (k + 1).toNat = k.toNat + 1 by omega, Int.pow_succ]; exact mul_b hc (by omega)) (by refine foldI_go (by omega) hi ?_; unfold byF; first | (rw [if_pos (by omega)]; done) | (rw [if_neg (by omega), if_pos (by omega)]; done) | (rw [if_neg (by omega), if_neg (by omega)]; done)) (by exact hgo) (by omega)
  have L99 : ∀ (fu : Nat) (a t : Int), ((0 ≤ s ∧ s < M 209 1) ∧ (0 ≤ p ∧ p < M 209 0) ∧ (0 ≤ n ∧ n ≤ 30) ∧ (0 ≤ pr ∧ pr ≤ 10) ∧ (0 ≤ w ∧ w ≤ 1)) → (TI (tg (M 209))) → (GI (tg (M 209)) (sk (M 210)) 999) → (0 ≤ t ∧ t ≤ 2 ^ (M 209 0).toNat) → (0 ≤ a ∧ a ≤ 1000000 * t) → (foldI (hyF (tg (M 209)) (sk (M 210)) s p n pr) (2 ^ (M 209 0).toNat - t).toNat t a = hyT (tg (M 209)) (sk (M 210)) s p n pr) → (2 ^ (M 209 0).toNat - t).toNat < fu → VS E mX10_heard 4 (some (xl (yHeard M s p n pr w))) (M) 99 [some (xr E 201), some (xi s), some (xi p), some (xi n), some (xi pr), some (xi w), some (xi (tg (M 209) 3 s.toNat)), some (xl a), none, some (xl (10 ^ (M 209 0 - 1).toNat)), none, some (xi t), none, none, none] [] M := by
    intro fu
    induction fu with
    | zero => intro a t  hg hT hG ht ha hi hme; exact absurd hme (Nat.not_lt_zero _)
    | succ fu ih =>
      intro a t  hg hT hG ht ha hi hme
      have hn : 1 ≤ M 209 0 ∧ M 209 0 ≤ 5 := hT.1
      have hN : 1 ≤ M 209 1 ∧ M 209 1 ≤ 6 := hT.2.1
      have hra : 1 ≤ M 209 2 ∧ M 209 2 ≤ 60 := hT.2.2.1
      have hs : 0 ≤ s ∧ s < M 209 1 := hg.1
      have hq : (1 ≤ tg (M 209) 2 s.toNat ∧ tg (M 209) 2 s.toNat ≤ 5) ∧ (0 ≤ tg (M 209) 3 s.toNat ∧ tg (M 209) 3 s.toNat < M 209 0) ∧ (1 ≤ tg (M 209) 4 s.toNat ∧ tg (M 209) 4 s.toNat ≤ 30) ∧ (0 ≤ tg (M 209) 5 s.toNat ∧ tg (M 209) 5 s.toNat ≤ s) := hT.2.2.2.2 s hs
      have h5 := p2_5 (n := M 209 0) (by omega)
      have hpa := pasY_b hT hG (s := s) (d := t) (w := n) hs
      have hpa2 : pasY (tg (M 209)) (sk (M 210)) s t n < 2 ^ (M 209 0).toNat := hpa.2
      have t10 := ten_b (k := (M 209 0 - 1).toNat) (by omega)
      have t11 := ten1 (M 209 0 - 1).toNat
      have hcd : 1 ≤ cdL 100 a (10 ^ (M 209 0 - 1).toNat) := cd_one2 (n := 99) (x := a) (y := 10 ^ (M 209 0 - 1).toNat) (by omega) t11
      have hcd2 := cdL_b (A := 100000000000000) 100 a (10 ^ (M 209 0 - 1).toNat) (by omega) (by omega)
      refine r_ild11 dX10_heard_99 ?_
      refine r_ald0 dX10_heard_101 ?_
      refine s_callV0r hM (c_X10_all E (by omega)) cv_X10_all wM_X10_176 (sh_201) rfl rfl (Nat.le_of_ble_eq_true rfl) (by decide) dX10_heard_102 (fun _ => ?_)
      refine r_icmp_gt 207 dX10_heard_105 (by decide) (by omega) (by omega) (fun c105 => ?_) (fun c105 => ?_)
      · skip
        refine r_lld7 dX10_heard_207 ?_
        refine r_lld9 dX10_heard_209 ?_
        refine s_callS2r hM (c_X10_common E (by omega) (by omega)) cs_X10_common wM_X10_261 (Nat.le_of_ble_eq_true rfl) (by decide) dX10_heard_211 (fun _ => ?_)
        refine r_lst11 dX10_heard_214 rfl ?_
        refine r_ild5 dX10_heard_216 ?_
        refine r_if_ne 229 dX10_heard_218 (by decide) (by omega) (fun c218 => ?_) (fun c218 => ?_)
        · skip
          refine r_lld9 dX10_heard_229 ?_
          refine r_lld11 dX10_heard_231 ?_
          refine r_ldiv dX10_heard_233 (by omega) (by omega) ?_
          exact s_lret hM rfl dX10_heard_234 (by unfold yHeard; first | (rw [if_pos (by omega)]; done) | (rw [if_neg (by omega), ← hi, show (2 ^ (M 209 0).toNat - t).toNat = 0 by omega]; show _ = if w = 0 then a / cdL 100 a (10 ^ (M 209 0 - 1).toNat) else 10 ^ (M 209 0 - 1).toNat / cdL 100 a (10 ^ (M 209 0 - 1).toNat); first | (rw [if_pos (by omega)]; done) | (rw [if_neg (by omega)]; done))) (by rfl)
        refine r_lld7 dX10_heard_221 ?_
        refine r_lld11 dX10_heard_223 ?_
        refine r_ldiv dX10_heard_225 (by omega) (by omega) ?_
        refine r_goto 234 dX10_heard_226 (by decide) ?_
        exact s_lret hM rfl dX10_heard_234 (by unfold yHeard; first | (rw [if_pos (by omega)]; done) | (rw [if_neg (by omega), ← hi, show (2 ^ (M 209 0).toNat - t).toNat = 0 by omega]; show _ = if w = 0 then a / cdL 100 a (10 ^ (M 209 0 - 1).toNat) else 10 ^ (M 209 0 - 1).toNat / cdL 100 a (10 ^ (M 209 0 - 1).toNat); first | (rw [if_pos (by omega)]; done) | (rw [if_neg (by omega)]; done))) (by rfl)
      refine r_ild11 dX10_heard_108 ?_
      refine r_ild6 dX10_heard_110 ?_
      refine s_callS2r hM (c_X10_has E (by omega) (by omega)) cs_X10_has wM_X10_165 (Nat.le_of_ble_eq_true rfl) (by decide) dX10_heard_112 (fun _ => ?_)
      refine r_ifb_ne 201 dX10_heard_115 (by decide) (fun c115 => ?_) (fun c115 => ?_)
      · skip
        refine r_iinc11 dX10_heard_201 rfl ?_
        refine r_goto 99 dX10_heard_204 (by decide) ?_
        exact ih _ _  (by exact hg) (by exact hT) (by exact hG) (by omega) (by omega) (by refine foldI_go (by omega) hi ?_; unfold hyF; rw [if_neg (by first | (intro q; exact q.1 c115) | (intro q; exact c130 q.2))]) (by omega)
      refine r_ald0 dX10_heard_118 ?_
      refine r_ild1 dX10_heard_119 ?_
      refine r_ild3 dX10_heard_120 ?_
      refine r_ild11 dX10_heard_121 ?_
      refine s_callV3r hM (c_X10_passedOn E (by exact hT) (by exact hG) (by omega) (by omega) (by omega)) cv_X10_passedOn wM_X10_240 (sh_201) rfl rfl (Nat.le_of_ble_eq_true rfl) (by decide) dX10_heard_123 (fun _ => ?_)
      refine r_ild2 dX10_heard_126 ?_
      refine s_callS2r hM (c_X10_has E (by omega) (by omega)) cs_X10_has wM_X10_165 (Nat.le_of_ble_eq_true rfl) (by decide) dX10_heard_127 (fun _ => ?_)
      refine r_ifb_eq 201 dX10_heard_130 (by decide) (fun c130 => ?_) (fun c130 => ?_)
      · skip
        refine r_iinc11 dX10_heard_201 rfl ?_
        refine r_goto 99 dX10_heard_204 (by decide) ?_
        exact ih _ _  (by exact hg) (by exact hT) (by exact hG) (by omega) (by omega) (by refine foldI_go (by omega) hi ?_; unfold hyF; rw [if_neg (by first | (intro q; exact q.1 c115) | (intro q; exact c130 q.2))]) (by omega)
      refine r_lconst1 dX10_heard_133 ?_
      refine r_lst12 dX10_heard_134 rfl ?_
      refine r_iconst dX10_heard_136 ?_
      refine r_ist14 dX10_heard_137 rfl ?_
      exact L139 6 _ _ _ _  (by exact hg) (by exact hT) (by exact hG) (by omega) (by exact ha) (by omega) (by decide) (by rw [Int.sub_zero]) (fun a2 q1 q2 => ih _ _ hg hT hG (by omega) q1 (by rw [q2]; refine foldI_go (by omega) hi ?_; unfold hyF; rw [if_pos ⟨c115, c130⟩]; rfl) (by omega)) (by omega)
  have L71 : ∀ (fu : Nat) (c k : Int), ((0 ≤ s ∧ s < M 209 1) ∧ (0 ≤ p ∧ p < M 209 0) ∧ (0 ≤ n ∧ n ≤ 30) ∧ (0 ≤ pr ∧ pr ≤ 10) ∧ (0 ≤ w ∧ w ≤ 1)) → (TI (tg (M 209))) → (GI (tg (M 209)) (sk (M 210)) 999) → (1 ≤ k ∧ k ≤ M 209 0) → (c = 10 ^ (k - 1).toNat) → (M 209 0 - k).toNat < fu → VS E mX10_heard 4 (some (xl (yHeard M s p n pr w))) (M) 71 [some (xr E 201), some (xi s), some (xi p), some (xi n), some (xi pr), some (xi w), some (xi (tg (M 209) 3 s.toNat)), some (xl 0), none, some (xl c), none, some (xi k), none, none, none] [] M := by
    intro fu
    induction fu with
    | zero => intro c k  hg hT hG hk hc hme; exact absurd hme (Nat.not_lt_zero _)
    | succ fu ih =>
      intro c k  hg hT hG hk hc hme
      have hn : 1 ≤ M 209 0 ∧ M 209 0 ≤ 5 := hT.1
      have hN : 1 ≤ M 209 1 ∧ M 209 1 ≤ 6 := hT.2.1
      have hra : 1 ≤ M 209 2 ∧ M 209 2 ≤ 60 := hT.2.2.1
      have hs : 0 ≤ s ∧ s < M 209 1 := hg.1
      have hq : (1 ≤ tg (M 209) 2 s.toNat ∧ tg (M 209) 2 s.toNat ≤ 5) ∧ (0 ≤ tg (M 209) 3 s.toNat ∧ tg (M 209) 3 s.toNat < M 209 0) ∧ (1 ≤ tg (M 209) 4 s.toNat ∧ tg (M 209) 4 s.toNat ≤ 30) ∧ (0 ≤ tg (M 209) 5 s.toNat ∧ tg (M 209) 5 s.toNat ≤ s) := hT.2.2.2.2 s hs
      have h5 := p2_5 (n := M 209 0) (by omega)
      have hk10 := ten_b (k := (k - 1).toNat) (by omega)
      have hk11 := ten1 (k - 1).toNat
      refine r_ild11 dX10_heard_71 ?_
      refine r_ald0 dX10_heard_73 ?_
      refine s_getR fi_X10_31 (sh_201) rfl dX10_heard_74 ?_
      refine r_iconst dX10_heard_77 ?_
      refine s_iald hM (sh_209) (by omega) (by decide) dX10_heard_78 (fun g78 => ?_)
      try first | simp (disch := omega) only [Int.reduceToNat, e14] | simp (disch := omega) only [Int.reduceToNat]
      refine r_icmp_ge 96 dX10_heard_79 (by decide) (by omega) (by omega) (fun c79 => ?_) (fun c79 => ?_)
      · skip
        refine r_iconst dX10_heard_96 ?_
        refine r_ist11 dX10_heard_97 rfl ?_
        have hcc : c = 10 ^ (M 209 0 - 1).toNat := by rw [hc, show k = M 209 0 by omega]
        rw [hcc]
        exact L99 33 0 0  (by omega) (by exact hT) (by exact hG) (by have h5 := p2_5 (n := M 209 0) (by omega); omega) (by omega) (by rw [Int.sub_zero]; rfl) (by omega)
      refine r_lld9 dX10_heard_82 ?_
      refine r_ldc2 (10) dX10_heard_84 wJ_X10_259 ?_
      refine r_lmul dX10_heard_87 ?_
      refine r_lst9 dX10_heard_88 rfl ?_
      refine r_iinc11 dX10_heard_90 rfl ?_
      refine r_goto 71 dX10_heard_93 (by decide) ?_
      exact ih _ _  (by exact hg) (by exact hT) (by exact hG) (by omega) (by rw [hc, show (k + 1 - 1).toNat = (k - 1).toNat + 1 by omega, Int.pow_succ]) (by omega)
  refine r_ald0 dX10_heard_0 ?_
  refine r_ild1 dX10_heard_1 ?_
  refine s_callV1r hM (c_X10_isSpeech E (by first | with_reducible assumption | with_reducible exact xSt_9 | with_reducible exact xSt_13 | omega) (by first | with_reducible assumption | with_reducible exact xSt_9 | with_reducible exact xSt_13 | omega)) cv_X10_isSpeech wM_X10_205 (sh_201) rfl rfl (Nat.le_of_ble_eq_true rfl) (by decide) dX10_heard_2 (fun _ => ?_)
  refine r_ifb_eq 47 dX10_heard_5 (by decide) (fun c5 => ?_) (fun c5 => ?_)
  · skip
    refine r_ldc2 (-1000001) dX10_heard_47 wJ_X10_257 ?_
    exact s_lret hM rfl dX10_heard_50 (by unfold yHeard; first | (rw [if_pos (by omega)]; done) | (rw [if_neg (by omega), ← hi, show (2 ^ (M 209 0).toNat - t).toNat = 0 by omega]; show _ = if w = 0 then a / cdL 100 a (10 ^ (M 209 0 - 1).toNat) else 10 ^ (M 209 0 - 1).toNat / cdL 100 a (10 ^ (M 209 0 - 1).toNat); first | (rw [if_pos (by omega)]; done) | (rw [if_neg (by omega)]; done))) (by rfl)
  refine r_ald0 dX10_heard_8 ?_
  refine r_ild2 dX10_heard_9 ?_
  refine s_callV1r hM (c_X10_isPerson E (by first | with_reducible assumption | with_reducible exact xSt_9 | with_reducible exact xSt_13 | omega) (by first | with_reducible assumption | with_reducible exact xSt_9 | with_reducible exact xSt_13 | omega)) cv_X10_isPerson wM_X10_215 (sh_201) rfl rfl (Nat.le_of_ble_eq_true rfl) (by decide) dX10_heard_10 (fun _ => ?_)
  refine r_ifb_eq 47 dX10_heard_13 (by decide) (fun c13 => ?_) (fun c13 => ?_)
  · skip
    refine r_ldc2 (-1000001) dX10_heard_47 wJ_X10_257 ?_
    exact s_lret hM rfl dX10_heard_50 (by unfold yHeard; first | (rw [if_pos (by omega)]; done) | (rw [if_neg (by omega), ← hi, show (2 ^ (M 209 0).toNat - t).toNat = 0 by omega]; show _ = if w = 0 then a / cdL 100 a (10 ^ (M 209 0 - 1).toNat) else 10 ^ (M 209 0 - 1).toNat / cdL 100 a (10 ^ (M 209 0 - 1).toNat); first | (rw [if_pos (by omega)]; done) | (rw [if_neg (by omega)]; done))) (by rfl)
  refine r_ild3 dX10_heard_16 ?_
  refine r_iconst dX10_heard_17 ?_
  refine r_bipush dX10_heard_18 (by decide +kernel) ?_
  refine s_callS3r hM (c_X10_in E (by first | with_reducible assumption | with_reducible exact xSt_9 | with_reducible exact xSt_13 | omega) (by first | with_reducible assumption | with_reducible exact xSt_9 | with_reducible exact xSt_13 | omega) (by first | with_reducible assumption | with_reducible exact xSt_9 | with_reducible exact xSt_13 | omega)) cs_X10_in wM_X10_70 (Nat.le_of_ble_eq_true rfl) (by decide) dX10_heard_20 (fun _ => ?_)
  refine r_ifb_eq 47 dX10_heard_23 (by decide) (fun c23 => ?_) (fun c23 => ?_)
  · skip
    refine r_ldc2 (-1000001) dX10_heard_47 wJ_X10_257 ?_
    exact s_lret hM rfl dX10_heard_50 (by unfold yHeard; first | (rw [if_pos (by omega)]; done) | (rw [if_neg (by omega), ← hi, show (2 ^ (M 209 0).toNat - t).toNat = 0 by omega]; show _ = if w = 0 then a / cdL 100 a (10 ^ (M 209 0 - 1).toNat) else 10 ^ (M 209 0 - 1).toNat / cdL 100 a (10 ^ (M 209 0 - 1).toNat); first | (rw [if_pos (by omega)]; done) | (rw [if_neg (by omega)]; done))) (by rfl)
  refine r_ild4 dX10_heard_26 ?_
  refine r_iconst dX10_heard_28 ?_
  refine r_bipush dX10_heard_29 (by decide +kernel) ?_
  refine s_callS3r hM (c_X10_in E (by first | with_reducible assumption | with_reducible exact xSt_9 | with_reducible exact xSt_13 | omega) (by first | with_reducible assumption | with_reducible exact xSt_9 | with_reducible exact xSt_13 | omega) (by first | with_reducible assumption | with_reducible exact xSt_9 | with_reducible exact xSt_13 | omega)) cs_X10_in wM_X10_70 (Nat.le_of_ble_eq_true rfl) (by decide) dX10_heard_31 (fun _ => ?_)
  refine r_ifb_eq 47 dX10_heard_34 (by decide) (fun c34 => ?_) (fun c34 => ?_)
  · skip
    refine r_ldc2 (-1000001) dX10_heard_47 wJ_X10_257 ?_
    exact s_lret hM rfl dX10_heard_50 (by unfold yHeard; first | (rw [if_pos (by omega)]; done) | (rw [if_neg (by omega), ← hi, show (2 ^ (M 209 0).toNat - t).toNat = 0 by omega]; show _ = if w = 0 then a / cdL 100 a (10 ^ (M 209 0 - 1).toNat) else 10 ^ (M 209 0 - 1).toNat / cdL 100 a (10 ^ (M 209 0 - 1).toNat); first | (rw [if_pos (by omega)]; done) | (rw [if_neg (by omega)]; done))) (by rfl)
  refine r_ild5 dX10_heard_37 ?_
  refine r_iconst dX10_heard_39 ?_
  refine r_iconst dX10_heard_40 ?_
  refine s_callS3r hM (c_X10_in E (by first | with_reducible assumption | with_reducible exact xSt_9 | with_reducible exact xSt_13 | omega) (by first | with_reducible assumption | with_reducible exact xSt_9 | with_reducible exact xSt_13 | omega) (by first | with_reducible assumption | with_reducible exact xSt_9 | with_reducible exact xSt_13 | omega)) cs_X10_in wM_X10_70 (Nat.le_of_ble_eq_true rfl) (by decide) dX10_heard_41 (fun _ => ?_)
  refine r_ifb_ne 51 dX10_heard_44 (by decide) (fun c44 => ?_) (fun c44 => ?_)
  · skip
    obtain ⟨hd1, hT, hG, hNN⟩ := MD_g hD (by omega)
    have hn : 1 ≤ M 209 0 ∧ M 209 0 ≤ 5 := hT.1
    have hN : 1 ≤ M 209 1 ∧ M 209 1 ≤ 6 := hT.2.1
    have hra : 1 ≤ M 209 2 ∧ M 209 2 ≤ 60 := hT.2.2.1
    have hs : 0 ≤ s ∧ s < M 209 1 := by omega
    have hq : (1 ≤ tg (M 209) 2 s.toNat ∧ tg (M 209) 2 s.toNat ≤ 5) ∧ (0 ≤ tg (M 209) 3 s.toNat ∧ tg (M 209) 3 s.toNat < M 209 0) ∧ (1 ≤ tg (M 209) 4 s.toNat ∧ tg (M 209) 4 s.toNat ≤ 30) ∧ (0 ≤ tg (M 209) 5 s.toNat ∧ tg (M 209) 5 s.toNat ≤ s) := hT.2.2.2.2 s hs
    have e8 : M 209 (8 + s).toNat = tg (M 209) 2 s.toNat := ix8 (by omega)
    have e14 : M 209 (14 + s).toNat = tg (M 209) 3 s.toNat := ix14 (by omega)
    have e20 : M 209 (20 + s).toNat = tg (M 209) 4 s.toNat := ix20 (by omega)
    refine r_ald0 dX10_heard_51 ?_
    refine s_getR fi_X10_31 (sh_201) rfl dX10_heard_52 ?_
    refine r_bipush dX10_heard_55 (by decide +kernel) ?_
    refine r_ild1 dX10_heard_57 ?_
    refine r_iadd dX10_heard_58 ?_
    refine s_iald hM (sh_209) (by omega) (by decide) dX10_heard_59 (fun g59 => ?_)
    try first | simp (disch := omega) only [Int.reduceToNat, e14] | simp (disch := omega) only [Int.reduceToNat]
    refine r_ist6 dX10_heard_60 rfl ?_
    refine r_lconst0 dX10_heard_62 ?_
    refine r_lst7 dX10_heard_63 rfl ?_
    refine r_lconst1 dX10_heard_65 ?_
    refine r_lst9 dX10_heard_66 rfl ?_
    refine r_iconst dX10_heard_68 ?_
    refine r_ist11 dX10_heard_69 rfl ?_
    exact L71 6 _ _  (by omega) (by exact hT) (by exact hG) (by omega) (by rfl) (by omega)
  refine r_ldc2 (-1000001) dX10_heard_47 wJ_X10_257 ?_
  exact s_lret hM rfl dX10_heard_50 (by unfold yHeard; first | (rw [if_pos (by omega)]; done) | (rw [if_neg (by omega), ← hi, show (2 ^ (M 209 0).toNat - t).toNat = 0 by omega]; show _ = if w = 0 then a / cdL 100 a (10 ^ (M 209 0 - 1).toNat) else 10 ^ (M 209 0 - 1).toNat / cdL 100 a (10 ^ (M 209 0 - 1).toNat); first | (rw [if_pos (by omega)]; done) | (rw [if_neg (by omega)]; done))) (by rfl)
