set_option maxHeartbeats 4000000 in
theorem c_X10_week (E : xE) {M : xMem} {p price : Int} (hT : TI (tg (M 209))) (hp : 0 ≤ p ∧ p < M 209 0) (hpr : 1 ≤ price ∧ price ≤ 9) (hP : PB (M 214)) : Ct E mX10_week 7 1 [xr E 201, xi p, xi price] M (none) (wkY M p price) := by
  refine Ct.of 4 7 (by rfl) (by decide +kernel) (fun hM => ?_)
  have hn : 1 ≤ M 209 0 ∧ M 209 0 ≤ 5 := hT.1
  have hN : 1 ≤ M 209 1 ∧ M 209 1 ≤ 6 := hT.2.1
  have hra : 1 ≤ M 209 2 ∧ M 209 2 ≤ 60 := hT.2.2.1
  have hinc : 0 ≤ M 209 (3 + p).toNat ∧ M 209 (3 + p).toNat ≤ 20 := by have h := hT.2.2.2.1 p hp; rw [ix3 (g := M 209) (s := p) (by omega)]; exact h
  show VS E mX10_week 1 _ _ 0 [some (xr E 201), some (xi p), some (xi price), none, none, none, none] [] M
  have L152 : ∀ (fu : Nat) (k : Int) (Mc : xMem), InR Mc → (0 ≤ k ∧ k ≤ 61) → (Mc = rngM (foldI (toF (M 214) price (M 209 2) (M 209 (3 + p).toNat)) 61 0 (rngM M 215 0 (fun _ => -1) 61)) 214 0 (foldI (toF (M 214) price (M 209 2) (M 209 (3 + p).toNat)) 61 0 (rngM M 215 0 (fun _ => -1) 61) 215) k) → (61 - k).toNat < fu → VS E mX10_week 1 (none) (wkY M p price) 152 [some (xr E 201), some (xi p), some (xi price), some (xi k), none, none, none] [] Mc := by
    intro fu
    induction fu with
    | zero => intro k Mc hML152 hb hMc hme; exact absurd hme (Nat.not_lt_zero _)
    | succ fu ih =>
      intro k Mc hML152 hb hMc hme
      have w15 : ∀ j, Mc 215 j = foldI (toF (M 214) price (M 209 2) (M 209 (3 + p).toNat)) 61 0 (rngM M 215 0 (fun _ => -1) 61) 215 j := fun j => by rw [hMc, rng_ne (by decide)]
      refine r_ild3 dX10_week_152 ?_
      refine r_bipush dX10_week_153 (by decide +kernel) ?_
      refine r_icmp_gt 176 dX10_week_155 (by decide) (by omega) (by omega) (fun c155 => ?_) (fun c155 => ?_)
      · skip
        exact s_vret hML152 rfl dX10_week_176 (by rw [hMc, show k = 61 by omega]; rfl)
      refine r_ald0 dX10_week_158 ?_
      refine s_getR fi_X10_46 (sh_201) rfl dX10_week_159 ?_
      refine r_ild3 dX10_week_162 ?_
      refine r_ald0 dX10_week_163 ?_
      refine s_getR fi_X10_49 (sh_201) rfl dX10_week_164 ?_
      refine r_ild3 dX10_week_167 ?_
      refine s_iald hML152 (sh_215) (by omega) (by decide) dX10_week_168 (fun g168 => ?_)
      try first | simp (disch := omega) only [Int.reduceToNat, w9, w14] | simp (disch := omega) only [Int.reduceToNat]
      try simp only [w15]
      have hr169 := hML152 215 k.toNat
      try rw [w15] at hr169
      refine s_iast hML152 (sh_214) (by omega) (by decide) (by omega) dX10_week_169 (fun hM169 => ?_)
      refine r_iinc3 dX10_week_170 rfl ?_
      refine r_goto 152 dX10_week_173 (by decide) ?_
      exact ih (k + 1) _  hM169 (by omega) (by rw [hMc]; exact rng_0s (by omega) rfl) (by omega)
  have L32 : ∀ (fu : Nat) (b m : Int) (Mc : xMem), InR Mc → (0 ≤ b ∧ b ≤ 60) → (0 ≤ m ∧ m ≤ min (M 209 2) (60 - b) + 1) → (Mc 209 = M 209) → (Mc 214 = M 214) → (PB (Mc 215)) → (foldI (toF (M 214) price (M 209 2) (M 209 (3 + p).toNat)) (61 - (b + 1)).toNat (b + 1) (foldI (tiF (M 214) price (M 209 (3 + p).toNat) b) (min (M 209 2) (60 - b) + 1 - m).toNat m Mc) = foldI (toF (M 214) price (M 209 2) (M 209 (3 + p).toNat)) 61 0 (rngM M 215 0 (fun _ => -1) 61)) → (∀ (Mc2 : xMem), InR Mc2 → Mc2 209 = M 209 → Mc2 214 = M 214 → PB (Mc2 215) → foldI (toF (M 214) price (M 209 2) (M 209 (3 + p).toNat)) (61 - (b + 1)).toNat (b + 1) Mc2 = foldI (toF (M 214) price (M 209 2) (M 209 (3 + p).toNat)) 61 0 (rngM M 215 0 (fun _ => -1) 61) → VS E mX10_week 1 none (wkY M p price) 23 [some (xr E 201), some (xi p), some (xi price), some (xi (b + 1)), none, none, none] [] Mc2) → (min (M 209 2) (60 - b) + 1 - m).toNat < fu → VS E mX10_week 1 (none) (wkY M p price) 32 [some (xr E 201), some (xi p), some (xi price), some (xi b), some (xi m), none, none] [] Mc := by
    intro fu
    induction fu with
    | zero => intro b m Mc hML32 hb hm h9 h14 hbd hi hgo hme; exact absurd hme (Nat.not_lt_zero _)
    | succ fu ih =>
      intro b m Mc hML32 hb hm h9 h14 hbd hi hgo hme
      have w9 : ∀ j, Mc 209 j = M 209 j := fun j => by rw [h9]
      have w14 : ∀ j, Mc 214 j = M 214 j := fun j => by rw [h14]
      have hmm := mul_b (a := m) (A := 61) (b := price) (B := 9) (by omega) (by omega)
      have hPb := hP b.toNat (by omega)
      refine r_ild4 dX10_week_32 ?_
      refine r_ald0 dX10_week_34 ?_
      refine s_getR fi_X10_31 (sh_201) rfl dX10_week_35 ?_
      refine r_iconst dX10_week_38 ?_
      refine s_iald hML32 (sh_209) (by omega) (by decide) dX10_week_39 (fun g39 => ?_)
      try first | simp (disch := omega) only [Int.reduceToNat, w9, w14] | simp (disch := omega) only [Int.reduceToNat]
      refine r_icmp_gt 144 dX10_week_40 (by decide) (by omega) (by omega) (fun c40 => ?_) (fun c40 => ?_)
      · skip
        refine r_iinc3 dX10_week_144 rfl ?_
        refine r_goto 23 dX10_week_147 (by decide) ?_
        refine r_fgt4 ?_
        exact hgo _ hML32 h9 h14 hbd (by rw [foldI_end (f := tiF (M 214) price (M 209 (3 + p).toNat) b) (n := min (M 209 2) (60 - b) + 1) (i := m) (a := Mc) (by omega)] at hi; exact hi)
      refine r_ild3 dX10_week_43 ?_
      refine r_ild4 dX10_week_44 ?_
      refine r_iadd dX10_week_46 ?_
      refine r_bipush dX10_week_47 (by decide +kernel) ?_
      refine r_icmp_gt 144 dX10_week_49 (by decide) (by omega) (by omega) (fun c49 => ?_) (fun c49 => ?_)
      · skip
        refine r_iinc3 dX10_week_144 rfl ?_
        refine r_goto 23 dX10_week_147 (by decide) ?_
        refine r_fgt4 ?_
        exact hgo _ hML32 h9 h14 hbd (by rw [foldI_end (f := tiF (M 214) price (M 209 (3 + p).toNat) b) (n := min (M 209 2) (60 - b) + 1) (i := m) (a := Mc) (by omega)] at hi; exact hi)
      have hbd1 := hbd (b + m).toNat (by omega)
      refine r_ald0 dX10_week_52 ?_
      refine s_getR fi_X10_46 (sh_201) rfl dX10_week_53 ?_
      refine r_ild3 dX10_week_56 ?_
      refine s_iald hML32 (sh_214) (by omega) (by decide) dX10_week_57 (fun g57 => ?_)
      try first | simp (disch := omega) only [Int.reduceToNat, w9, w14] | simp (disch := omega) only [Int.reduceToNat]
      refine r_ild4 dX10_week_58 ?_
      refine r_ild2 dX10_week_60 ?_
      refine r_imul dX10_week_61 ?_
      refine r_isub dX10_week_62 ?_
      refine r_ist5 dX10_week_63 rfl ?_
      refine r_ald0 dX10_week_65 ?_
      refine s_getR fi_X10_46 (sh_201) rfl dX10_week_66 ?_
      refine r_ild3 dX10_week_69 ?_
      refine s_iald hML32 (sh_214) (by omega) (by decide) dX10_week_70 (fun g70 => ?_)
      try first | simp (disch := omega) only [Int.reduceToNat, w9, w14] | simp (disch := omega) only [Int.reduceToNat]
      refine r_if_lt 79 dX10_week_71 (by decide) (by omega) (fun c71 => ?_) (fun c71 => ?_)
      · skip
        refine r_iconst dX10_week_79 ?_
        refine r_goto 99 dX10_week_80 (by decide) ?_
        refine r_ist6 dX10_week_99 rfl ?_
        refine r_ald0 dX10_week_101 ?_
        refine s_getR fi_X10_49 (sh_201) rfl dX10_week_102 ?_
        refine r_ild3 dX10_week_105 ?_
        refine r_ild4 dX10_week_106 ?_
        refine r_iadd dX10_week_108 ?_
        refine r_ild6 dX10_week_109 ?_
        refine r_ald0 dX10_week_111 ?_
        refine s_getR fi_X10_49 (sh_201) rfl dX10_week_112 ?_
        refine r_ild3 dX10_week_115 ?_
        refine r_ild4 dX10_week_116 ?_
        refine r_iadd dX10_week_118 ?_
        refine s_iald hML32 (sh_215) (by omega) (by decide) dX10_week_119 (fun g119 => ?_)
        try first | simp (disch := omega) only [Int.reduceToNat, w9, w14] | simp (disch := omega) only [Int.reduceToNat]
        refine r_icmp_le 128 dX10_week_120 (by decide) (by omega) (by omega) (fun c120 => ?_) (fun c120 => ?_)
        · skip
          refine r_ald0 dX10_week_128 ?_
          refine s_getR fi_X10_49 (sh_201) rfl dX10_week_129 ?_
          refine r_ild3 dX10_week_132 ?_
          refine r_ild4 dX10_week_133 ?_
          refine r_iadd dX10_week_135 ?_
          refine s_iald hML32 (sh_215) (by omega) (by decide) dX10_week_136 (fun g136 => ?_)
          try first | simp (disch := omega) only [Int.reduceToNat, w9, w14] | simp (disch := omega) only [Int.reduceToNat]
          refine s_iast hML32 (sh_215) (by omega) (by decide) (by omega) dX10_week_137 (fun hM137 => ?_)
          refine r_iinc4 dX10_week_138 rfl ?_
          refine r_goto 32 dX10_week_141 (by decide) ?_
          refine r_fgt5 ?_
          refine r_fgt6 ?_
          exact ih _ (m + 1) _  hM137 (by omega) (by omega) (by exact (mS_row (by decide)).trans h9) (by exact (mS_row (by decide)).trans h14) (by exact PB_mS (by omega) hbd) (by refine foldI_go2 (fun X => foldI (toF (M 214) price (M 209 2) (M 209 (3 + p).toNat)) (61 - (b + 1)).toNat (b + 1) X) (by omega) hi ?_; unfold tiF; first | (rw [show tvT (M 214) price (M 209 (3 + p).toNat) b m = -1 by unfold tvT; rw [if_pos (by omega)]]; first | (rw [if_pos (by omega)]; done) | (rw [if_neg (by omega)]; done)) | (rw [show tvT (M 214) price (M 209 (3 + p).toNat) b m = min 99 (M 214 b.toNat - m * price + M 209 (3 + p).toNat) by unfold tvT; rw [if_neg (by omega)]]; first | (rw [if_pos (by omega)]; done) | (rw [if_neg (by omega)]; done))) (by exact hgo) (by omega)
        refine r_ild6 dX10_week_123 ?_
        refine r_goto 137 dX10_week_125 (by decide) ?_
        refine s_iast hML32 (sh_215) (by omega) (by decide) (by omega) dX10_week_137 (fun hM137 => ?_)
        refine r_iinc4 dX10_week_138 rfl ?_
        refine r_goto 32 dX10_week_141 (by decide) ?_
        refine r_fgt5 ?_
        refine r_fgt6 ?_
        exact ih _ (m + 1) _  hM137 (by omega) (by omega) (by exact (mS_row (by decide)).trans h9) (by exact (mS_row (by decide)).trans h14) (by exact PB_mS (by omega) hbd) (by refine foldI_go2 (fun X => foldI (toF (M 214) price (M 209 2) (M 209 (3 + p).toNat)) (61 - (b + 1)).toNat (b + 1) X) (by omega) hi ?_; unfold tiF; first | (rw [show tvT (M 214) price (M 209 (3 + p).toNat) b m = -1 by unfold tvT; rw [if_pos (by omega)]]; first | (rw [if_pos (by omega)]; done) | (rw [if_neg (by omega)]; done)) | (rw [show tvT (M 214) price (M 209 (3 + p).toNat) b m = min 99 (M 214 b.toNat - m * price + M 209 (3 + p).toNat) by unfold tvT; rw [if_neg (by omega)]]; first | (rw [if_pos (by omega)]; done) | (rw [if_neg (by omega)]; done))) (by exact hgo) (by omega)
      refine r_ild5 dX10_week_74 ?_
      refine r_if_ge 83 dX10_week_76 (by decide) (by omega) (fun c76 => ?_) (fun c76 => ?_)
      · skip
        refine r_ild5 dX10_week_83 ?_
        refine r_ald0 dX10_week_85 ?_
        refine s_getR fi_X10_31 (sh_201) rfl dX10_week_86 ?_
        refine r_iconst dX10_week_89 ?_
        refine r_ild1 dX10_week_90 ?_
        refine r_iadd dX10_week_91 ?_
        refine s_iald hML32 (sh_209) (by omega) (by decide) dX10_week_92 (fun g92 => ?_)
        try first | simp (disch := omega) only [Int.reduceToNat, w9, w14] | simp (disch := omega) only [Int.reduceToNat]
        refine r_iadd dX10_week_93 ?_
        refine r_bipush dX10_week_94 (by decide +kernel) ?_
        refine s_callS2r hML32 (c_X10_capped E (by omega) (by omega)) cs_X10_capped wM_X10_187 (Nat.le_of_ble_eq_true rfl) (by decide) dX10_week_96 (fun _ => ?_)
        refine r_ist6 dX10_week_99 rfl ?_
        refine r_ald0 dX10_week_101 ?_
        refine s_getR fi_X10_49 (sh_201) rfl dX10_week_102 ?_
        refine r_ild3 dX10_week_105 ?_
        refine r_ild4 dX10_week_106 ?_
        refine r_iadd dX10_week_108 ?_
        refine r_ild6 dX10_week_109 ?_
        refine r_ald0 dX10_week_111 ?_
        refine s_getR fi_X10_49 (sh_201) rfl dX10_week_112 ?_
        refine r_ild3 dX10_week_115 ?_
        refine r_ild4 dX10_week_116 ?_
        refine r_iadd dX10_week_118 ?_
        refine s_iald hML32 (sh_215) (by omega) (by decide) dX10_week_119 (fun g119 => ?_)
        try first | simp (disch := omega) only [Int.reduceToNat, w9, w14] | simp (disch := omega) only [Int.reduceToNat]
        refine r_icmp_le 128 dX10_week_120 (by decide) (by omega) (by omega) (fun c120 => ?_) (fun c120 => ?_)
        · skip
          refine r_ald0 dX10_week_128 ?_
          refine s_getR fi_X10_49 (sh_201) rfl dX10_week_129 ?_
          refine r_ild3 dX10_week_132 ?_
          refine r_ild4 dX10_week_133 ?_
          refine r_iadd dX10_week_135 ?_
          refine s_iald hML32 (sh_215) (by omega) (by decide) dX10_week_136 (fun g136 => ?_)
          try first | simp (disch := omega) only [Int.reduceToNat, w9, w14] | simp (disch := omega) only [Int.reduceToNat]
          refine s_iast hML32 (sh_215) (by omega) (by decide) (by omega) dX10_week_137 (fun hM137 => ?_)
          refine r_iinc4 dX10_week_138 rfl ?_
          refine r_goto 32 dX10_week_141 (by decide) ?_
          refine r_fgt5 ?_
          refine r_fgt6 ?_
          exact ih _ (m + 1) _  hM137 (by omega) (by omega) (by exact (mS_row (by decide)).trans h9) (by exact (mS_row (by decide)).trans h14) (by exact PB_mS (by omega) hbd) (by refine foldI_go2 (fun X => foldI (toF (M 214) price (M 209 2) (M 209 (3 + p).toNat)) (61 - (b + 1)).toNat (b + 1) X) (by omega) hi ?_; unfold tiF; first | (rw [show tvT (M 214) price (M 209 (3 + p).toNat) b m = -1 by unfold tvT; rw [if_pos (by omega)]]; first | (rw [if_pos (by omega)]; done) | (rw [if_neg (by omega)]; done)) | (rw [show tvT (M 214) price (M 209 (3 + p).toNat) b m = min 99 (M 214 b.toNat - m * price + M 209 (3 + p).toNat) by unfold tvT; rw [if_neg (by omega)]]; first | (rw [if_pos (by omega)]; done) | (rw [if_neg (by omega)]; done))) (by exact hgo) (by omega)
        refine r_ild6 dX10_week_123 ?_
        refine r_goto 137 dX10_week_125 (by decide) ?_
        refine s_iast hML32 (sh_215) (by omega) (by decide) (by omega) dX10_week_137 (fun hM137 => ?_)
        refine r_iinc4 dX10_week_138 rfl ?_
        refine r_goto 32 dX10_week_141 (by decide) ?_
        refine r_fgt5 ?_
        refine r_fgt6 ?_
        exact ih _ (m + 1) _  hM137 (by omega) (by omega) (by exact (mS_row (by decide)).trans h9) (by exact (mS_row (by decide)).trans h14) (by exact PB_mS (by omega) hbd) (by refine foldI_go2 (fun X => foldI (toF (M 214) price (M 209 2) (M 209 (3 + p).toNat)) (61 - (b + 1)).toNat (b + 1) X) (by omega) hi ?_; unfold tiF; first | (rw [show tvT (M 214) price (M 209 (3 + p).toNat) b m = -1 by unfold tvT; rw [if_pos (by omega)]]; first | (rw [if_pos (by omega)]; done) | (rw [if_neg (by omega)]; done)) | (rw [show tvT (M 214) price (M 209 (3 + p).toNat) b m = min 99 (M 214 b.toNat - m * price + M 209 (3 + p).toNat) by unfold tvT; rw [if_neg (by omega)]]; first | (rw [if_pos (by omega)]; done) | (rw [if_neg (by omega)]; done))) (by exact hgo) (by omega)
      refine r_iconst dX10_week_79 ?_
      refine r_goto 99 dX10_week_80 (by decide) ?_
      refine r_ist6 dX10_week_99 rfl ?_
      refine r_ald0 dX10_week_101 ?_
      refine s_getR fi_X10_49 (sh_201) rfl dX10_week_102 ?_
      refine r_ild3 dX10_week_105 ?_
      refine r_ild4 dX10_week_106 ?_
      refine r_iadd dX10_week_108 ?_
      refine r_ild6 dX10_week_109 ?_
      refine r_ald0 dX10_week_111 ?_
      refine s_getR fi_X10_49 (sh_201) rfl dX10_week_112 ?_
      refine r_ild3 dX10_week_115 ?_
      refine r_ild4 dX10_week_116 ?_
      refine r_iadd dX10_week_118 ?_
      refine s_iald hML32 (sh_215) (by omega) (by decide) dX10_week_119 (fun g119 => ?_)
      try first | simp (disch := omega) only [Int.reduceToNat, w9, w14] | simp (disch := omega) only [Int.reduceToNat]
      refine r_icmp_le 128 dX10_week_120 (by decide) (by omega) (by omega) (fun c120 => ?_) (fun c120 => ?_)
      · skip
        refine r_ald0 dX10_week_128 ?_
        refine s_getR fi_X10_49 (sh_201) rfl dX10_week_129 ?_
        refine r_ild3 dX10_week_132 ?_
        refine r_ild4 dX10_week_133 ?_
        refine r_iadd dX10_week_135 ?_
        refine s_iald hML32 (sh_215) (by omega) (by decide) dX10_week_136 (fun g136 => ?_)
        try first | simp (disch := omega) only [Int.reduceToNat, w9, w14] | simp (disch := omega) only [Int.reduceToNat]
        refine s_iast hML32 (sh_215) (by omega) (by decide) (by omega) dX10_week_137 (fun hM137 => ?_)
        refine r_iinc4 dX10_week_138 rfl ?_
        refine r_goto 32 dX10_week_141 (by decide) ?_
        refine r_fgt5 ?_
        refine r_fgt6 ?_
        exact ih _ (m + 1) _  hM137 (by omega) (by omega) (by exact (mS_row (by decide)).trans h9) (by exact (mS_row (by decide)).trans h14) (by exact PB_mS (by omega) hbd) (by refine foldI_go2 (fun X => foldI (toF (M 214) price (M 209 2) (M 209 (3 + p).toNat)) (61 - (b + 1)).toNat (b + 1) X) (by omega) hi ?_; unfold tiF; first | (rw [show tvT (M 214) price (M 209 (3 + p).toNat) b m = -1 by unfold tvT; rw [if_pos (by omega)]]; first | (rw [if_pos (by omega)]; done) | (rw [if_neg (by omega)]; done)) | (rw [show tvT (M 214) price (M 209 (3 + p).toNat) b m = min 99 (M 214 b.toNat - m * price + M 209 (3 + p).toNat) by unfold tvT; rw [if_neg (by omega)]]; first | (rw [if_pos (by omega)]; done) | (rw [if_neg (by omega)]; done))) (by exact hgo) (by omega)
      refine r_ild6 dX10_week_123 ?_
      refine r_goto 137 dX10_week_125 (by decide) ?_
      refine s_iast hML32 (sh_215) (by omega) (by decide) (by omega) dX10_week_137 (fun hM137 => ?_)
      refine r_iinc4 dX10_week_138 rfl ?_
      refine r_goto 32 dX10_week_141 (by decide) ?_
      refine r_fgt5 ?_
      refine r_fgt6 ?_
      exact ih _ (m + 1) _  hM137 (by omega) (by omega) (by exact (mS_row (by decide)).trans h9) (by exact (mS_row (by decide)).trans h14) (by exact PB_mS (by omega) hbd) (by refine foldI_go2 (fun X => foldI (toF (M 214) price (M 209 2) (M 209 (3 + p).toNat)) (61 - (b + 1)).toNat (b + 1) X) (by omega) hi ?_; unfold tiF; first | (rw [show tvT (M 214) price (M 209 (3 + p).toNat) b m = -1 by unfold tvT; rw [if_pos (by omega)]]; first | (rw [if_pos (by omega)]; done) | (rw [if_neg (by omega)]; done)) | (rw [show tvT (M 214) price (M 209 (3 + p).toNat) b m = min 99 (M 214 b.toNat - m * price + M 209 (3 + p).toNat) by unfold tvT; rw [if_neg (by omega)]]; first | (rw [if_pos (by omega)]; done) | (rw [if_neg (by omega)]; done))) (by exact hgo) (by omega)
  have L23 : ∀ (fu : Nat) (b : Int) (Mc : xMem), InR Mc → (0 ≤ b ∧ b ≤ 61) → (Mc 209 = M 209) → (Mc 214 = M 214) → (PB (Mc 215)) → (foldI (toF (M 214) price (M 209 2) (M 209 (3 + p).toNat)) (61 - b).toNat b Mc = foldI (toF (M 214) price (M 209 2) (M 209 (3 + p).toNat)) 61 0 (rngM M 215 0 (fun _ => -1) 61)) → (61 - b).toNat < fu → VS E mX10_week 1 (none) (wkY M p price) 23 [some (xr E 201), some (xi p), some (xi price), some (xi b), none, none, none] [] Mc := by
    intro fu
    induction fu with
    | zero => intro b Mc hML23 hb h9 h14 hbd hi hme; exact absurd hme (Nat.not_lt_zero _)
    | succ fu ih =>
      intro b Mc hML23 hb h9 h14 hbd hi hme
      have w9 : ∀ j, Mc 209 j = M 209 j := fun j => by rw [h9]
      have w14 : ∀ j, Mc 214 j = M 214 j := fun j => by rw [h14]
      refine r_ild3 dX10_week_23 ?_
      refine r_bipush dX10_week_24 (by decide +kernel) ?_
      refine r_icmp_gt 150 dX10_week_26 (by decide) (by omega) (by omega) (fun c26 => ?_) (fun c26 => ?_)
      · skip
        refine r_iconst dX10_week_150 ?_
        refine r_ist3 dX10_week_151 rfl ?_
        exact L152 62 0 _  hML23 (by omega) (by have he : foldI (toF (M 214) price (M 209 2) (M 209 (3 + p).toNat)) 61 0 (rngM M 215 0 (fun _ => -1) 61) = Mc := (by rw [← hi, show (61 - b).toNat = 0 by omega]; rfl); rw [he]; exact rng_0 _ _ _ _) (by omega)
      refine r_iconst dX10_week_29 ?_
      refine r_ist4 dX10_week_30 rfl ?_
      exact L32 62 _ 0 _  hML23 (by omega) (by omega) (by exact h9) (by exact h14) (by exact hbd) (by have h := hi; rw [foldI_step (by omega)] at h; rw [Int.sub_zero]; exact h) (fun Mc2 q1 q2 q3 q4 q5 => ih _ Mc2 q1 (by omega) q2 q3 q4 q5 (by omega)) (by omega)
  have L2 : ∀ (fu : Nat) (k : Int) (Mc : xMem), InR Mc → (0 ≤ k ∧ k ≤ 61) → (Mc = rngM M 215 0 (fun _ => -1) k) → (61 - k).toNat < fu → VS E mX10_week 1 (none) (wkY M p price) 2 [some (xr E 201), some (xi p), some (xi price), some (xi k), none, none, none] [] Mc := by
    intro fu
    induction fu with
    | zero => intro k Mc hML2 hb hMc hme; exact absurd hme (Nat.not_lt_zero _)
    | succ fu ih =>
      intro k Mc hML2 hb hMc hme
      refine r_ild3 dX10_week_2 ?_
      refine r_bipush dX10_week_3 (by decide +kernel) ?_
      refine r_icmp_gt 21 dX10_week_5 (by decide) (by omega) (by omega) (fun c5 => ?_) (fun c5 => ?_)
      · skip
        refine r_iconst dX10_week_21 ?_
        refine r_ist3 dX10_week_22 rfl ?_
        exact L23 62 0 _  hML2 (by omega) (by rw [hMc]; funext j; exact rng_ne (by decide)) (by rw [hMc]; funext j; exact rng_ne (by decide)) (by rw [hMc, show k = 61 by omega]; intro j hj; rw [rng_in (by omega)]; exact ⟨by decide, by decide⟩) (by rw [hMc, show k = 61 by omega]; rfl) (by omega)
      refine r_ald0 dX10_week_8 ?_
      refine s_getR fi_X10_49 (sh_201) rfl dX10_week_9 ?_
      refine r_ild3 dX10_week_12 ?_
      refine r_iconst dX10_week_13 ?_
      refine s_iast hML2 (sh_215) (by omega) (by decide) (by omega) dX10_week_14 (fun hM14 => ?_)
      refine r_iinc3 dX10_week_15 rfl ?_
      refine r_goto 2 dX10_week_18 (by decide) ?_
      exact ih (k + 1) _  hM14 (by omega) (by rw [hMc]; exact rng_0s (by omega) rfl) (by omega)
  refine r_iconst dX10_week_0 ?_
  refine r_ist3 dX10_week_1 rfl ?_
  exact L2 62 0 _  hM (by omega) (by exact rng_0 _ _ _ _) (by omega)
set_option maxHeartbeats 4000000 in
theorem c_X10_thrift (E : xE) {M : xMem} {p w r i n : Int} (hp : -2147483648 ≤ p ∧ p < 2147483648) (hw : -2147483648 ≤ w ∧ w < 2147483648) (hr : -2147483648 ≤ r ∧ r < 2147483648) (hi : -2147483648 ≤ i ∧ i < 2147483648) (hn : -2147483648 ≤ n ∧ n < 2147483648) (hD : MD M) (hrw : ∀ i : Nat, i < 8 → (-1 ≤ M 202 i ∧ M 202 i ≤ 40) ∧ (0 ≤ M 203 i ∧ M 203 i ≤ 2)) : Ct E mX10_thrift 7 2 [xr E 201, xi p, xi w, xi r, xi i, xi n] M (some (xi ((yThrift M p w r i n).1))) ((yThrift M p w r i n).2) := by
  refine Ct.of 1 7 (by rfl) (by decide +kernel) (fun hM => ?_)
  have hmn := MD_n hD
  show VS E mX10_thrift 2 _ _ 0 [some (xr E 201), some (xi p), some (xi w), some (xi r), some (xi i), some (xi n), none] [] M
  have L153 : ∀ (fu : Nat) (k : Int) (Mc : xMem), InR Mc → ((0 ≤ p ∧ p < M 209 0) ∧ (0 ≤ w ∧ w ≤ 60) ∧ (0 ≤ r ∧ r ≤ 7) ∧ (0 ≤ i ∧ 1 ≤ n ∧ n ≤ 12 ∧ i + n ≤ 40)) → (TI (tg (M 209))) → (allW (itG M r) 1 9 n.toNat i = true) → (0 ≤ k ∧ k ≤ n) → (Mc 209 = M 209) → (Mc 204 = M 204) → (PB (Mc 214)) → (tyL p r i (n - k).toNat k Mc = tyL p r i n.toNat 0 (rngM M 214 0 (fun b => if b = 0 then M 210 (5 + p).toNat else -1) 61)) → (yThrift M p w r i n = mfi (tyL p r i n.toNat 0 (rngM M 214 0 (fun b => if b = 0 then M 210 (5 + p).toNat else -1) 61)) (if tyL p r i n.toNat 0 (rngM M 214 0 (fun b => if b = 0 then M 210 (5 + p).toNat else -1) 61) 214 w.toNat < 0 then -1000000 else tyL p r i n.toNat 0 (rngM M 214 0 (fun b => if b = 0 then M 210 (5 + p).toNat else -1) 61) 214 w.toNat)) → (n - k).toNat < fu → VS E mX10_thrift 2 (some (xi ((yThrift M p w r i n).1))) ((yThrift M p w r i n).2) 153 [some (xr E 201), some (xi p), some (xi w), some (xi r), some (xi i), some (xi n), some (xi k)] [] Mc := by
    intro fu
    induction fu with
    | zero => intro k Mc hML153 hg hT hall hb h9 h4 hbd hi hy2 hme; exact absurd hme (Nat.not_lt_zero _)
    | succ fu ih =>
      intro k Mc hML153 hg hT hall hb h9 h4 hbd hi hy2 hme
      have hn : 1 ≤ M 209 0 ∧ M 209 0 ≤ 5 := hT.1
      have hN : 1 ≤ M 209 1 ∧ M 209 1 ≤ 6 := hT.2.1
      have hra : 1 ≤ M 209 2 ∧ M 209 2 ≤ 60 := hT.2.2.1
      have w9 : ∀ j, Mc 209 j = M 209 j := fun j => by rw [h9]
      refine r_ild6 dX10_thrift_153 ?_
      refine r_ild5 dX10_thrift_155 ?_
      refine r_icmp_ge 181 dX10_thrift_157 (by decide) (by omega) (by omega) (fun c157 => ?_) (fun c157 => ?_)
      · skip
        have hMT : Mc = tyL p r i n.toNat 0 (rngM M 214 0 (fun b => if b = 0 then M 210 (5 + p).toNat else -1) 61) := by rw [← hi, show (n - k).toNat = 0 by omega]; rfl
        subst hMT
        have hbw := hbd w.toNat (by omega)
        refine r_ald0 dX10_thrift_181 ?_
        refine r_ald0 dX10_thrift_182 ?_
        refine s_getR fi_X10_46 (sh_201) rfl dX10_thrift_183 ?_
        refine r_ild2 dX10_thrift_186 ?_
        refine s_iald hML153 (sh_214) (by omega) (by decide) dX10_thrift_187 (fun g187 => ?_)
        try first | simp (disch := omega) only [Int.reduceToNat, w10, f5] | simp (disch := omega) only [Int.reduceToNat]
        refine r_if_ge 196 dX10_thrift_188 (by decide) (by omega) (fun c188 => ?_) (fun c188 => ?_)
        · skip
          refine r_ald0 dX10_thrift_196 ?_
          refine s_getR fi_X10_46 (sh_201) rfl dX10_thrift_197 ?_
          refine r_ild2 dX10_thrift_200 ?_
          refine s_iald hML153 (sh_214) (by omega) (by decide) dX10_thrift_201 (fun g201 => ?_)
          try first | simp (disch := omega) only [Int.reduceToNat, w10, f5] | simp (disch := omega) only [Int.reduceToNat]
          refine s_callV1r hML153 (c_X10_well E ) cv_X10_well wM_X10_83 (sh_201) rfl rfl (Nat.le_of_ble_eq_true rfl) (by decide) dX10_thrift_202 (fun hM202 => ?_)
          exact s_iret hM202 rfl dX10_thrift_205 (by rw [hy2]; show _ = if tyL p r i n.toNat 0 (rngM M 214 0 (fun b => if b = 0 then M 210 (5 + p).toNat else -1) 61) 214 w.toNat < 0 then -1000000 else tyL p r i n.toNat 0 (rngM M 214 0 (fun b => if b = 0 then M 210 (5 + p).toNat else -1) 61) 214 w.toNat; first | (rw [if_pos (by omega)]; done) | (rw [if_neg (by omega)]; done)) (by first | (rw [hy2]; rfl) | (rw [hy, if_pos (fun z => by rw [hw, allW_f (by omega) (by rw [e_ri]; omega)] at z; exact absurd z (by decide))]; rfl) | (unfold yThrift mfn mfi; (repeat' split) <;> first | rfl | omega | (exfalso; omega)))
        refine r_ldc (-1000000) dX10_thrift_191 wC_X10_133 ?_
        refine r_goto 202 dX10_thrift_193 (by decide) ?_
        refine s_callV1r hML153 (c_X10_well E ) cv_X10_well wM_X10_83 (sh_201) rfl rfl (Nat.le_of_ble_eq_true rfl) (by decide) dX10_thrift_202 (fun hM202 => ?_)
        exact s_iret hM202 rfl dX10_thrift_205 (by rw [hy2]; show _ = if tyL p r i n.toNat 0 (rngM M 214 0 (fun b => if b = 0 then M 210 (5 + p).toNat else -1) 61) 214 w.toNat < 0 then -1000000 else tyL p r i n.toNat 0 (rngM M 214 0 (fun b => if b = 0 then M 210 (5 + p).toNat else -1) 61) 214 w.toNat; first | (rw [if_pos (by omega)]; done) | (rw [if_neg (by omega)]; done)) (by first | (rw [hy2]; rfl) | (rw [hy, if_pos (fun z => by rw [hw, allW_f (by omega) (by rw [e_ri]; omega)] at z; exact absurd z (by decide))]; rfl) | (unfold yThrift mfn mfi; (repeat' split) <;> first | rfl | omega | (exfalso; omega)))
      have e204 : ∀ j, Mc 204 j = M 204 j := fun j => by rw [h4]
      have hpk := allW_at _ _ hall (i + k) (by omega) (by omega)
      have e49 : itG M r (i + k).toNat = M 204 (40 * r + (i + k)).toNat := by unfold itG; rw [show (((i + k).toNat : Nat) : Int) = i + k by omega]
      rw [e49] at hpk
      refine r_ald0 dX10_thrift_160 ?_
      refine r_ild1 dX10_thrift_161 ?_
      refine r_ald0 dX10_thrift_162 ?_
      refine r_ild3 dX10_thrift_163 ?_
      refine r_ild4 dX10_thrift_164 ?_
      refine r_ild6 dX10_thrift_166 ?_
      refine r_iadd dX10_thrift_168 ?_
      refine s_callV2r hML153 (c_X10_item E (by omega) (by omega)) cv_X10_item wM_X10_246 (sh_201) rfl rfl (Nat.le_of_ble_eq_true rfl) (by decide) dX10_thrift_169 (fun _ => ?_)
      refine s_callV2v hML153 (c_X10_week E (by rw [h9]; exact hT) (by rw [w9]; omega) (by rw [e204]; exact hpk) hbd) cv_X10_week wM_X10_249 (sh_201) rfl rfl (Nat.le_of_ble_eq_true rfl) (by decide) dX10_thrift_172 (fun hM172 => ?_)
      refine r_iinc6 dX10_thrift_175 rfl ?_
      refine r_goto 153 dX10_thrift_178 (by decide) ?_
      exact ih (k + 1) _  hM172 (by exact hg) (by exact hT) (by exact hall) (by omega) (by exact (wk_row (by decide) (by decide)).trans h9) (by exact (wk_row (by decide) (by decide)).trans h4) (by exact wk_b (by rw [w9, ix3 (g := M 209) (s := p) (by omega)]; exact (hT.2.2.2.1 p (show 0 ≤ p ∧ p < M 209 0 by omega)).1)) (by rw [← hi, show (n - k).toNat = (n - (k + 1)).toNat + 1 by omega]; show _ = tyL p r i (n - (k + 1)).toNat (k + 1) (wkY Mc p (Mc 204 (40 * r + (i + k)).toNat)); rfl) (by exact hy2) (by omega)
  have L113 : ∀ (fu : Nat) (k : Int) (Mc : xMem), InR Mc → ((0 ≤ p ∧ p < M 209 0) ∧ (0 ≤ w ∧ w ≤ 60) ∧ (0 ≤ r ∧ r ≤ 7) ∧ (0 ≤ i ∧ 1 ≤ n ∧ n ≤ 12 ∧ i + n ≤ 40)) → (TI (tg (M 209))) → (allW (itG M r) 1 9 n.toNat i = true) → (0 ≤ k ∧ k ≤ 61) → (Mc = rngM M 214 0 (fun b => if b = 0 then M 210 (5 + p).toNat else -1) k) → (yThrift M p w r i n = mfi (tyL p r i n.toNat 0 (rngM M 214 0 (fun b => if b = 0 then M 210 (5 + p).toNat else -1) 61)) (if tyL p r i n.toNat 0 (rngM M 214 0 (fun b => if b = 0 then M 210 (5 + p).toNat else -1) 61) 214 w.toNat < 0 then -1000000 else tyL p r i n.toNat 0 (rngM M 214 0 (fun b => if b = 0 then M 210 (5 + p).toNat else -1) 61) 214 w.toNat)) → (M 210 (5 + p).toNat = sk (M 210) 1 p.toNat) → (0 ≤ sk (M 210) 1 p.toNat ∧ sk (M 210) 1 p.toNat ≤ 99) → (61 - k).toNat < fu → VS E mX10_thrift 2 (some (xi ((yThrift M p w r i n).1))) ((yThrift M p w r i n).2) 113 [some (xr E 201), some (xi p), some (xi w), some (xi r), some (xi i), some (xi n), some (xi k)] [] Mc := by
    intro fu
    induction fu with
    | zero => intro k Mc hML113 hg hT hall hb hMc hy2 f5 hpu hme; exact absurd hme (Nat.not_lt_zero _)
    | succ fu ih =>
      intro k Mc hML113 hg hT hall hb hMc hy2 f5 hpu hme
      have hn : 1 ≤ M 209 0 ∧ M 209 0 ≤ 5 := hT.1
      have hN : 1 ≤ M 209 1 ∧ M 209 1 ≤ 6 := hT.2.1
      have hra : 1 ≤ M 209 2 ∧ M 209 2 ≤ 60 := hT.2.2.1
      have w10 : ∀ j, Mc 210 j = M 210 j := fun j => by rw [hMc, rng_ne (by decide)]
      refine r_ild6 dX10_thrift_113 ?_
      refine r_bipush dX10_thrift_115 (by decide +kernel) ?_
      refine r_icmp_gt 150 dX10_thrift_117 (by decide) (by omega) (by omega) (fun c117 => ?_) (fun c117 => ?_)
      · skip
        refine r_iconst dX10_thrift_150 ?_
        refine r_ist6 dX10_thrift_151 rfl ?_
        exact L153 13 0 _  hML113 (by omega) (by exact hT) (by exact hall) (by omega) (by rw [hMc]; funext j; exact rng_ne (by decide)) (by rw [hMc]; funext j; exact rng_ne (by decide)) (by rw [hMc, show k = 61 by omega]; exact PB_0 (by rw [f5]; exact hpu)) (by rw [hMc, show k = 61 by omega, Int.sub_zero]) (by exact hy2) (by omega)
      refine r_ald0 dX10_thrift_120 ?_
      refine s_getR fi_X10_46 (sh_201) rfl dX10_thrift_121 ?_
      refine r_ild6 dX10_thrift_124 ?_
      refine r_ild6 dX10_thrift_126 ?_
      refine r_if_ne 142 dX10_thrift_128 (by decide) (by omega) (fun c128 => ?_) (fun c128 => ?_)
      · skip
        refine r_iconst dX10_thrift_142 ?_
        refine s_iast hML113 (sh_214) (by omega) (by decide) (by omega) dX10_thrift_143 (fun hM143 => ?_)
        refine r_iinc6 dX10_thrift_144 rfl ?_
        refine r_goto 113 dX10_thrift_147 (by decide) ?_
        exact ih (k + 1) _  hM143 (by exact hg) (by exact hT) (by exact hall) (by omega) (by rw [hMc]; exact rng_0s (by omega) (by show _ = if k.toNat = 0 then M 210 (5 + p).toNat else -1; first | (rw [if_pos (by omega)]; first | done | exact f5.symm) | (rw [if_neg (by omega)]; done))) (by exact hy2) (by exact f5) (by exact hpu) (by omega)
      refine r_ald0 dX10_thrift_131 ?_
      refine s_getR fi_X10_34 (sh_201) rfl dX10_thrift_132 ?_
      refine r_iconst dX10_thrift_135 ?_
      refine r_ild1 dX10_thrift_136 ?_
      refine r_iadd dX10_thrift_137 ?_
      refine s_iald hML113 (sh_210) (by omega) (by decide) dX10_thrift_138 (fun g138 => ?_)
      try first | simp (disch := omega) only [Int.reduceToNat, w10, f5] | simp (disch := omega) only [Int.reduceToNat]
      refine r_goto 143 dX10_thrift_139 (by decide) ?_
      refine s_iast hML113 (sh_214) (by omega) (by decide) (by omega) dX10_thrift_143 (fun hM143 => ?_)
      refine r_iinc6 dX10_thrift_144 rfl ?_
      refine r_goto 113 dX10_thrift_147 (by decide) ?_
      exact ih (k + 1) _  hM143 (by exact hg) (by exact hT) (by exact hall) (by omega) (by rw [hMc]; exact rng_0s (by omega) (by show _ = if k.toNat = 0 then M 210 (5 + p).toNat else -1; first | (rw [if_pos (by omega)]; first | done | exact f5.symm) | (rw [if_neg (by omega)]; done))) (by exact hy2) (by exact f5) (by exact hpu) (by omega)
  have L72 : ∀ (fu : Nat) (k : Int), ((0 ≤ p ∧ p < M 209 0) ∧ (0 ≤ w ∧ w ≤ 60) ∧ (0 ≤ r ∧ r ≤ 7) ∧ (0 ≤ i ∧ 1 ≤ n ∧ n ≤ 12 ∧ i + n ≤ 40)) → (0 ≤ k ∧ k ≤ n) → (allW (itG M r) 1 9 n.toNat i = allW (itG M r) 1 9 (n - k).toNat (i + k)) → (yThrift M p w r i n = if ¬ allW (itG M r) 1 9 n.toNat i = true then mfn M 3 else mfi (tyL p r i n.toNat 0 (rngM M 214 0 (fun b => if b = 0 then M 210 (5 + p).toNat else -1) 61)) (if tyL p r i n.toNat 0 (rngM M 214 0 (fun b => if b = 0 then M 210 (5 + p).toNat else -1) 61) 214 w.toNat < 0 then -1000000 else tyL p r i n.toNat 0 (rngM M 214 0 (fun b => if b = 0 then M 210 (5 + p).toNat else -1) 61) 214 w.toNat)) → (n - k).toNat < fu → VS E mX10_thrift 2 (some (xi ((yThrift M p w r i n).1))) ((yThrift M p w r i n).2) 72 [some (xr E 201), some (xi p), some (xi w), some (xi r), some (xi i), some (xi n), some (xi k)] [] M := by
    intro fu
    induction fu with
    | zero => intro k  hg hb hw hy hme; exact absurd hme (Nat.not_lt_zero _)
    | succ fu ih =>
      intro k  hg hb hw hy hme
      refine r_ild6 dX10_thrift_72 ?_
      refine r_ild5 dX10_thrift_74 ?_
      refine r_icmp_ge 110 dX10_thrift_76 (by decide) (by omega) (by omega) (fun c76 => ?_) (fun c76 => ?_)
      · skip
        have hall : allW (itG M r) 1 9 n.toNat i = true := hw.trans (allW_0 (by omega))
        have hy2 := hy.trans (if_neg (fun q => q hall))
        obtain ⟨hd1, hT, hG, hNN⟩ := MD_g hD (by omega)
        have f5 : M 210 (5 + p).toNat = sk (M 210) 1 p.toNat := iy5 (by omega)
        have hpu : 0 ≤ sk (M 210) 1 p.toNat ∧ sk (M 210) 1 p.toNat ≤ 99 := (hG.1.2.2.2.2.2.1 p (show 0 ≤ p ∧ p < M 209 0 by omega)).1
        refine r_iconst dX10_thrift_110 ?_
        refine r_ist6 dX10_thrift_111 rfl ?_
        exact L113 62 0 _  hM (by omega) (by exact hT) (by exact hall) (by omega) (by exact rng_0 _ _ _ _) (by exact hy2) (by exact f5) (by exact hpu) (by omega)
      have e_ri : itG M r (i + k).toNat = M 204 (40 * r + (i + k)).toNat := by unfold itG; rw [show (((i + k).toNat : Nat) : Int) = i + k by omega]
      have h_ri := hM 204 (40 * r + (i + k)).toNat
      refine r_ald0 dX10_thrift_79 ?_
      refine r_ild3 dX10_thrift_80 ?_
      refine r_ild4 dX10_thrift_81 ?_
      refine r_ild6 dX10_thrift_83 ?_
      refine r_iadd dX10_thrift_85 ?_
      refine s_callV2r hM (c_X10_item E (by omega) (by omega)) cv_X10_item wM_X10_246 (sh_201) rfl rfl (Nat.le_of_ble_eq_true rfl) (by decide) dX10_thrift_86 (fun _ => ?_)
      refine r_iconst dX10_thrift_89 ?_
      refine r_bipush dX10_thrift_90 (by decide +kernel) ?_
      refine s_callS3r hM (c_X10_in E (by first | with_reducible assumption | with_reducible exact xSt_9 | with_reducible exact xSt_13 | omega) (by first | with_reducible assumption | with_reducible exact xSt_9 | with_reducible exact xSt_13 | omega) (by first | with_reducible assumption | with_reducible exact xSt_9 | with_reducible exact xSt_13 | omega)) cs_X10_in wM_X10_70 (Nat.le_of_ble_eq_true rfl) (by decide) dX10_thrift_92 (fun _ => ?_)
      refine r_ifb_ne 104 dX10_thrift_95 (by decide) (fun c95 => ?_) (fun c95 => ?_)
      · skip
        refine r_iinc6 dX10_thrift_104 rfl ?_
        refine r_goto 72 dX10_thrift_107 (by decide) ?_
        exact ih _  (by exact hg) (by omega) (by exact hw.trans (allW_s (by omega) (by rw [e_ri]; omega))) (by exact hy) (by omega)
      refine r_ald0 dX10_thrift_98 ?_
      refine r_iconst dX10_thrift_99 ?_
      refine s_callV1r hM (c_X10_meets E (by first | with_reducible assumption | with_reducible exact xSt_9 | with_reducible exact xSt_13 | omega)) cv_X10_meets wM_X10_79 (sh_201) rfl rfl (Nat.le_of_ble_eq_true rfl) (by decide) dX10_thrift_100 (fun hM100 => ?_)
      exact s_iret hM100 rfl dX10_thrift_103 (by rw [hy, if_pos (fun z => by rw [hw, allW_f (by omega) (by rw [e_ri]; omega)] at z; exact absurd z (by decide))]; rfl) (by first | (rw [hy2]; rfl) | (rw [hy, if_pos (fun z => by rw [hw, allW_f (by omega) (by rw [e_ri]; omega)] at z; exact absurd z (by decide))]; rfl) | (unfold yThrift mfn mfi; (repeat' split) <;> first | rfl | omega | (exfalso; omega)))
  refine r_ald0 dX10_thrift_0 ?_
  refine r_ild1 dX10_thrift_1 ?_
  refine s_callV1r hM (c_X10_isPerson E (by first | with_reducible assumption | with_reducible exact xSt_9 | with_reducible exact xSt_13 | omega) (by first | with_reducible assumption | with_reducible exact xSt_9 | with_reducible exact xSt_13 | omega)) cv_X10_isPerson wM_X10_215 (sh_201) rfl rfl (Nat.le_of_ble_eq_true rfl) (by decide) dX10_thrift_2 (fun _ => ?_)
  refine r_ifb_eq 33 dX10_thrift_5 (by decide) (fun c5 => ?_) (fun c5 => ?_)
  · skip
    refine r_ldc (-1000001) dX10_thrift_33 wC_X10_78 ?_
    exact s_iret hM rfl dX10_thrift_35 (by unfold yThrift mfn mfi; (repeat' split) <;> first | rfl | omega | (exfalso; omega)) (by first | (rw [hy2]; rfl) | (rw [hy, if_pos (fun z => by rw [hw, allW_f (by omega) (by rw [e_ri]; omega)] at z; exact absurd z (by decide))]; rfl) | (unfold yThrift mfn mfi; (repeat' split) <;> first | rfl | omega | (exfalso; omega)))
  refine r_ild2 dX10_thrift_8 ?_
  refine s_callS1r hM (c_X10_isAhead E (by first | with_reducible assumption | with_reducible exact xSt_9 | with_reducible exact xSt_13 | omega)) cs_X10_isAhead wM_X10_224 (Nat.le_of_ble_eq_true rfl) (by decide) dX10_thrift_9 (fun _ => ?_)
  refine r_ifb_eq 33 dX10_thrift_12 (by decide) (fun c12 => ?_) (fun c12 => ?_)
  · skip
    refine r_ldc (-1000001) dX10_thrift_33 wC_X10_78 ?_
    exact s_iret hM rfl dX10_thrift_35 (by unfold yThrift mfn mfi; (repeat' split) <;> first | rfl | omega | (exfalso; omega)) (by first | (rw [hy2]; rfl) | (rw [hy, if_pos (fun z => by rw [hw, allW_f (by omega) (by rw [e_ri]; omega)] at z; exact absurd z (by decide))]; rfl) | (unfold yThrift mfn mfi; (repeat' split) <;> first | rfl | omega | (exfalso; omega)))
  refine r_ild3 dX10_thrift_15 ?_
  refine s_callS1r hM (c_X10_isRow E (by first | with_reducible assumption | with_reducible exact xSt_9 | with_reducible exact xSt_13 | omega)) cs_X10_isRow wM_X10_74 (Nat.le_of_ble_eq_true rfl) (by decide) dX10_thrift_16 (fun _ => ?_)
  refine r_ifb_eq 33 dX10_thrift_19 (by decide) (fun c19 => ?_) (fun c19 => ?_)
  · skip
    refine r_ldc (-1000001) dX10_thrift_33 wC_X10_78 ?_
    exact s_iret hM rfl dX10_thrift_35 (by unfold yThrift mfn mfi; (repeat' split) <;> first | rfl | omega | (exfalso; omega)) (by first | (rw [hy2]; rfl) | (rw [hy, if_pos (fun z => by rw [hw, allW_f (by omega) (by rw [e_ri]; omega)] at z; exact absurd z (by decide))]; rfl) | (unfold yThrift mfn mfi; (repeat' split) <;> first | rfl | omega | (exfalso; omega)))
  refine r_ild5 dX10_thrift_22 ?_
  refine r_iconst dX10_thrift_24 ?_
  refine r_bipush dX10_thrift_25 (by decide +kernel) ?_
  refine s_callS3r hM (c_X10_in E (by first | with_reducible assumption | with_reducible exact xSt_9 | with_reducible exact xSt_13 | omega) (by first | with_reducible assumption | with_reducible exact xSt_9 | with_reducible exact xSt_13 | omega) (by first | with_reducible assumption | with_reducible exact xSt_9 | with_reducible exact xSt_13 | omega)) cs_X10_in wM_X10_70 (Nat.le_of_ble_eq_true rfl) (by decide) dX10_thrift_27 (fun _ => ?_)
  refine r_ifb_ne 36 dX10_thrift_30 (by decide) (fun c30 => ?_) (fun c30 => ?_)
  · skip
    have hr1 := hrw r.toNat (by omega)
    refine r_ald0 dX10_thrift_36 ?_
    refine s_getR fi_X10_7 (sh_201) rfl dX10_thrift_37 ?_
    refine r_ild3 dX10_thrift_40 ?_
    refine s_iald hM (sh_202) (by omega) (by decide) dX10_thrift_41 (fun g41 => ?_)
    try first | simp (disch := omega) only [Int.reduceToNat, w10, f5] | simp (disch := omega) only [Int.reduceToNat]
    refine r_if_ge 51 dX10_thrift_42 (by decide) (by omega) (fun c42 => ?_) (fun c42 => ?_)
    · skip
      refine r_ald0 dX10_thrift_51 ?_
      refine r_ild3 dX10_thrift_52 ?_
      refine r_ild4 dX10_thrift_53 ?_
      refine r_ild5 dX10_thrift_55 ?_
      refine s_callV3r hM (c_X10_isPart E (by first | with_reducible assumption | with_reducible exact xSt_9 | with_reducible exact xSt_13 | omega) (by first | with_reducible assumption | with_reducible exact xSt_9 | with_reducible exact xSt_13 | omega) (by first | with_reducible assumption | with_reducible exact xSt_9 | with_reducible exact xSt_13 | omega) (by first | with_reducible assumption | with_reducible exact xSt_9 | with_reducible exact xSt_13 | omega)) cv_X10_isPart wM_X10_86 (sh_201) rfl rfl (Nat.le_of_ble_eq_true rfl) (by decide) dX10_thrift_57 (fun _ => ?_)
      refine r_ifb_ne 69 dX10_thrift_60 (by decide) (fun c60 => ?_) (fun c60 => ?_)
      · skip
        refine r_iconst dX10_thrift_69 ?_
        refine r_ist6 dX10_thrift_70 rfl ?_
        exact L72 13 _  (by omega) (by omega) (by rw [Int.sub_zero, Int.add_zero]) (by unfold yThrift; rw [if_neg (by omega), if_neg (by omega), if_neg (by omega)]) (by omega)
      refine r_ald0 dX10_thrift_63 ?_
      refine r_iconst dX10_thrift_64 ?_
      refine s_callV1r hM (c_X10_meets E (by first | with_reducible assumption | with_reducible exact xSt_9 | with_reducible exact xSt_13 | omega)) cv_X10_meets wM_X10_79 (sh_201) rfl rfl (Nat.le_of_ble_eq_true rfl) (by decide) dX10_thrift_65 (fun hM65 => ?_)
      exact s_iret hM65 rfl dX10_thrift_68 (by unfold yThrift mfn mfi; (repeat' split) <;> first | rfl | omega | (exfalso; omega)) (by first | (rw [hy2]; rfl) | (rw [hy, if_pos (fun z => by rw [hw, allW_f (by omega) (by rw [e_ri]; omega)] at z; exact absurd z (by decide))]; rfl) | (unfold yThrift mfn mfi; (repeat' split) <;> first | rfl | omega | (exfalso; omega)))
    refine r_ald0 dX10_thrift_45 ?_
    refine r_iconst dX10_thrift_46 ?_
    refine s_callV1r hM (c_X10_meets E (by first | with_reducible assumption | with_reducible exact xSt_9 | with_reducible exact xSt_13 | omega)) cv_X10_meets wM_X10_79 (sh_201) rfl rfl (Nat.le_of_ble_eq_true rfl) (by decide) dX10_thrift_47 (fun hM47 => ?_)
    exact s_iret hM47 rfl dX10_thrift_50 (by unfold yThrift mfn mfi; (repeat' split) <;> first | rfl | omega | (exfalso; omega)) (by first | (rw [hy2]; rfl) | (rw [hy, if_pos (fun z => by rw [hw, allW_f (by omega) (by rw [e_ri]; omega)] at z; exact absurd z (by decide))]; rfl) | (unfold yThrift mfn mfi; (repeat' split) <;> first | rfl | omega | (exfalso; omega)))
  refine r_ldc (-1000001) dX10_thrift_33 wC_X10_78 ?_
  exact s_iret hM rfl dX10_thrift_35 (by unfold yThrift mfn mfi; (repeat' split) <;> first | rfl | omega | (exfalso; omega)) (by first | (rw [hy2]; rfl) | (rw [hy, if_pos (fun z => by rw [hw, allW_f (by omega) (by rw [e_ri]; omega)] at z; exact absurd z (by decide))]; rfl) | (unfold yThrift mfn mfi; (repeat' split) <;> first | rfl | omega | (exfalso; omega)))
set_option maxHeartbeats 4000000 in
theorem c_X10_weeksOf (E : xE) {M : xMem} {code many : Int} (hT : TI (tg (M 209))) (hG : GI (tg (M 209)) (sk (M 210)) 999) (hc : 0 ≤ code ∧ code < 2147483648) (hm : -6 ≤ many ∧ many ≤ 6) : Ct E mX10_weeksOf 8 4 [xr E 201, xi code, xi many] M (some (xi (woT M code many).1)) ((woT M code many).2) := by
  refine Ct.of 5 8 (by rfl) (by decide +kernel) (fun hM => ?_)
  have w9 : ∀ j : Nat, j + 0 = j := fun j => Nat.add_zero j
  have hsr := w9
  have hn : 1 ≤ M 209 0 ∧ M 209 0 ≤ 5 := hT.1
  have hN : 1 ≤ M 209 1 ∧ M 209 1 ≤ 6 := hT.2.1
  have hra : 1 ≤ M 209 2 ∧ M 209 2 ≤ 60 := hT.2.2.1
  have hl : 0 ≤ M 210 1 ∧ M 210 1 ≤ 99 := hG.1.2.1
  have hh : 0 ≤ M 210 2 ∧ M 210 2 ≤ 999 := hG.1.2.2.1
  have hpr : 1 ≤ M 210 3 ∧ M 210 3 ≤ 9 := hG.1.2.2.2.1
  have hsd : 0 ≤ M 210 4 ∧ M 210 4 ≤ 63 := hG.1.2.2.2.2.1
  have hwk : 0 ≤ M 210 0 ∧ M 210 0 ≤ 100000 := hG.1.1
  show VS E mX10_weeksOf 4 _ _ 0 [some (xr E 201), some (xi code), some (xi many), none, none, none, none, none] [] M
  have L115 : ∀ (fu : Nat) (g s w k : Int) (Mc : xMem), InR Mc → (0 ≤ k ∧ k < many) → (Mc 209 = M 209) → (∀ j : Nat, (j : Int) < many → 0 ≤ Mc 213 j ∧ Mc 213 j < M 209 1) → (GI (tg (M 209)) (sk (Mc 211)) (999 + w)) → (0 ≤ w ∧ w ≤ 61) → (Mc 213 k.toNat = s) → ((if (wwL s (62 - w).toNat w Mc).1 ≤ 60 then woL (many - (k + 1)).toNat (k + 1) (wwL s (62 - w).toNat w Mc).1 (saM (wwL s (62 - w).toNat w Mc).2 211 s) else (-1, (wwL s (62 - w).toNat w Mc).2)) = woT M code many) → (∀ (g2 w2 : Int) (Mc2 : xMem), InR Mc2 → Mc2 209 = M 209 → (∀ j : Nat, (j : Int) < many → 0 ≤ Mc2 213 j ∧ Mc2 213 j < M 209 1) → GI (tg (M 209)) (sk (Mc2 211)) (999 + w2) → ((g2 = 1 ∧ (0 ≤ w2 ∧ w2 ≤ 60) ∧ woL (many - (k + 1)).toNat (k + 1) w2 Mc2 = woT M code many) ∨ (g2 = 0 ∧ (0 ≤ w2 ∧ w2 ≤ 61) ∧ (-1, Mc2) = woT M code many)) → VS E mX10_weeksOf 4 (some (xi (woT M code many).1)) (woT M code many).2 104 [some (xr E 201), some (xi code), some (xi many), none, none, some (xi g2), some (xi w2), some (xi (k + 1))] [] Mc2) → (62 - w).toNat < fu → VS E mX10_weeksOf 4 (some (xi (woT M code many).1)) ((woT M code many).2) 115 [some (xr E 201), some (xi code), some (xi many), none, none, some (xi g), some (xi w), some (xi k)] [] Mc := by
    intro fu
    induction fu with
    | zero => intro g s w k Mc hML115 hk h9 ho hg hw hsr hq hgo hme; exact absurd hme (Nat.not_lt_zero _)
    | succ fu ih =>
      intro g s w k Mc hML115 hk h9 ho hg hw hsr hq hgo hme
      have w9 : ∀ j, Mc 209 j = M 209 j := fun j => by rw [h9]
      have hs : 0 ≤ s ∧ s < M 209 1 := by rw [← hsr]; exact ho k.toNat (by omega)
      refine r_ald0 dX10_weeksOf_115 ?_
      refine r_ald0 dX10_weeksOf_116 ?_
      refine s_getR fi_X10_37 (sh_201) rfl dX10_weeksOf_117 ?_
      refine r_ald0 dX10_weeksOf_120 ?_
      refine s_getR fi_X10_43 (sh_201) rfl dX10_weeksOf_121 ?_
      refine r_ild7 dX10_weeksOf_124 ?_
      refine s_iald hML115 (sh_213) (by omega) (by decide) dX10_weeksOf_126 (fun g126 => ?_)
      try first | simp (disch := omega) only [mS_ne, mS_eq, Int.reduceToNat, w9, hsr] | simp (disch := omega) only [Int.reduceToNat]
      refine s_callV2r hML115 (c_X10_can E (by exact sh_211) (by rw [h9]; exact hT) (by rw [h9]; exact hg.1) (by rw [w9]; exact hs)) cv_X10_can wM_X10_208 (sh_201) rfl rfl (Nat.le_of_ble_eq_true rfl) (by decide) dX10_weeksOf_127 (fun _ => ?_)
      rw [h9]
      refine r_ifb_ne 154 dX10_weeksOf_130 (by decide) (fun c130 => ?_) (fun c130 => ?_)
      · skip
        refine r_ild6 dX10_weeksOf_154 ?_
        refine r_bipush dX10_weeksOf_156 (by decide +kernel) ?_
        refine r_icmp_gt 165 dX10_weeksOf_158 (by decide) (by omega) (by omega) (fun c158 => ?_) (fun c158 => ?_)
        · skip
          refine r_iconst dX10_weeksOf_165 ?_
          refine r_ist5 dX10_weeksOf_166 rfl ?_
          refine r_ild5 dX10_weeksOf_168 ?_
          refine r_if_eq 189 dX10_weeksOf_170 (by decide) (by omega) (fun c170 => ?_) (fun c170 => by exfalso; omega)
          refine r_iinc7 dX10_weeksOf_189 rfl ?_
          refine r_goto 104 dX10_weeksOf_192 (by decide) ?_
          first | (exfalso; omega) | (have hwe : wwL s (62 - w).toNat w Mc = (w, Mc) := (by rw [show (62 - w).toNat = ((62 - w).toNat - 1) + 1 by omega]; exact if_pos (by rw [h9]; first | exact Or.inl c130 | exact Or.inr (by omega))); have hq2 : (if w ≤ 60 then woL (many - (k + 1)).toNat (k + 1) w (saM Mc 211 s) else (-1, Mc)) = woT M code many := (by rw [hwe] at hq; exact hq); rw [if_pos (by omega)] at hq2; exact hgo 1 w _ hML115 ((sa_lo (by decide)).trans h9) (fun j hj => by rw [sa_lo (by decide)]; exact ho j hj) (by have h0 := sa_GI (M := Mc) (k := 211) (w := 999 + w) (s := s) (by rw [h9]; exact hT) (by rw [h9]; exact hg) (by rw [w9]; exact hs) (by rw [h9]; exact c130); rw [h9] at h0; exact h0) (Or.inl ⟨rfl, by omega, hq2⟩)) | (have hwe : wwL s (62 - w).toNat w Mc = (w, Mc) := (by rw [show (62 - w).toNat = ((62 - w).toNat - 1) + 1 by omega]; exact if_pos (by rw [h9]; first | exact Or.inl c130 | exact Or.inr (by omega))); have hq2 : (if w ≤ 60 then woL (many - (k + 1)).toNat (k + 1) w (saM Mc 211 s) else (-1, Mc)) = woT M code many := (by rw [hwe] at hq; exact hq); rw [if_neg (by omega)] at hq2; exact hgo 0 w _ hML115 h9 ho hg (Or.inr ⟨rfl, by omega, hq2⟩))
        refine r_iconst dX10_weeksOf_161 ?_
        refine r_goto 166 dX10_weeksOf_162 (by decide) ?_
        refine r_ist5 dX10_weeksOf_166 rfl ?_
        refine r_ild5 dX10_weeksOf_168 ?_
        refine r_if_eq 189 dX10_weeksOf_170 (by decide) (by omega) (fun c170 => by exfalso; omega) (fun c170 => ?_)
        refine r_ald0 dX10_weeksOf_173 ?_
        refine r_ald0 dX10_weeksOf_174 ?_
        refine s_getR fi_X10_37 (sh_201) rfl dX10_weeksOf_175 ?_
        refine r_ald0 dX10_weeksOf_178 ?_
        refine s_getR fi_X10_43 (sh_201) rfl dX10_weeksOf_179 ?_
        refine r_ild7 dX10_weeksOf_182 ?_
        refine s_iald hML115 (sh_213) (by omega) (by decide) dX10_weeksOf_184 (fun g184 => ?_)
        try first | simp (disch := omega) only [mS_ne, mS_eq, Int.reduceToNat, w9, hsr] | simp (disch := omega) only [Int.reduceToNat]
        refine s_callV2r hML115 (c_X10_says E (by exact sh_211) (by decide) (by rw [h9]; exact hT) (by rw [h9]; exact hg.1) (by rw [w9]; exact hs)) cv_X10_says wM_X10_212 (sh_201) rfl rfl (Nat.le_of_ble_eq_true rfl) (by decide) dX10_weeksOf_185 (fun hM185 => ?_)
        rw [h9]
        refine r_pop dX10_weeksOf_188 rfl ?_
        refine r_iinc7 dX10_weeksOf_189 rfl ?_
        refine r_goto 104 dX10_weeksOf_192 (by decide) ?_
        first | (exfalso; omega) | (have hwe : wwL s (62 - w).toNat w Mc = (w, Mc) := (by rw [show (62 - w).toNat = ((62 - w).toNat - 1) + 1 by omega]; exact if_pos (by rw [h9]; first | exact Or.inl c130 | exact Or.inr (by omega))); have hq2 : (if w ≤ 60 then woL (many - (k + 1)).toNat (k + 1) w (saM Mc 211 s) else (-1, Mc)) = woT M code many := (by rw [hwe] at hq; exact hq); rw [if_pos (by omega)] at hq2; exact hgo 1 w _ hM185 ((sa_lo (by decide)).trans h9) (fun j hj => by rw [sa_lo (by decide)]; exact ho j hj) (by have h0 := sa_GI (M := Mc) (k := 211) (w := 999 + w) (s := s) (by rw [h9]; exact hT) (by rw [h9]; exact hg) (by rw [w9]; exact hs) (by rw [h9]; exact c130); rw [h9] at h0; exact h0) (Or.inl ⟨rfl, by omega, hq2⟩)) | (have hwe : wwL s (62 - w).toNat w Mc = (w, Mc) := (by rw [show (62 - w).toNat = ((62 - w).toNat - 1) + 1 by omega]; exact if_pos (by rw [h9]; first | exact Or.inl c130 | exact Or.inr (by omega))); have hq2 : (if w ≤ 60 then woL (many - (k + 1)).toNat (k + 1) w (saM Mc 211 s) else (-1, Mc)) = woT M code many := (by rw [hwe] at hq; exact hq); rw [if_neg (by omega)] at hq2; exact hgo 0 w _ hM185 h9 ho hg (Or.inr ⟨rfl, by omega, hq2⟩))
      refine r_ild6 dX10_weeksOf_133 ?_
      refine r_bipush dX10_weeksOf_135 (by decide +kernel) ?_
      refine r_icmp_gt 154 dX10_weeksOf_137 (by decide) (by omega) (by omega) (fun c137 => ?_) (fun c137 => ?_)
      · skip
        refine r_ild6 dX10_weeksOf_154 ?_
        refine r_bipush dX10_weeksOf_156 (by decide +kernel) ?_
        refine r_icmp_gt 165 dX10_weeksOf_158 (by decide) (by omega) (by omega) (fun c158 => ?_) (fun c158 => ?_)
        · skip
          refine r_iconst dX10_weeksOf_165 ?_
          refine r_ist5 dX10_weeksOf_166 rfl ?_
          refine r_ild5 dX10_weeksOf_168 ?_
          refine r_if_eq 189 dX10_weeksOf_170 (by decide) (by omega) (fun c170 => ?_) (fun c170 => by exfalso; omega)
          refine r_iinc7 dX10_weeksOf_189 rfl ?_
          refine r_goto 104 dX10_weeksOf_192 (by decide) ?_
          first | (exfalso; omega) | (have hwe : wwL s (62 - w).toNat w Mc = (w, Mc) := (by rw [show (62 - w).toNat = ((62 - w).toNat - 1) + 1 by omega]; exact if_pos (by rw [h9]; first | exact Or.inl c130 | exact Or.inr (by omega))); have hq2 : (if w ≤ 60 then woL (many - (k + 1)).toNat (k + 1) w (saM Mc 211 s) else (-1, Mc)) = woT M code many := (by rw [hwe] at hq; exact hq); rw [if_pos (by omega)] at hq2; exact hgo 1 w _ hML115 ((sa_lo (by decide)).trans h9) (fun j hj => by rw [sa_lo (by decide)]; exact ho j hj) (by have h0 := sa_GI (M := Mc) (k := 211) (w := 999 + w) (s := s) (by rw [h9]; exact hT) (by rw [h9]; exact hg) (by rw [w9]; exact hs) (by rw [h9]; exact c130); rw [h9] at h0; exact h0) (Or.inl ⟨rfl, by omega, hq2⟩)) | (have hwe : wwL s (62 - w).toNat w Mc = (w, Mc) := (by rw [show (62 - w).toNat = ((62 - w).toNat - 1) + 1 by omega]; exact if_pos (by rw [h9]; first | exact Or.inl c130 | exact Or.inr (by omega))); have hq2 : (if w ≤ 60 then woL (many - (k + 1)).toNat (k + 1) w (saM Mc 211 s) else (-1, Mc)) = woT M code many := (by rw [hwe] at hq; exact hq); rw [if_neg (by omega)] at hq2; exact hgo 0 w _ hML115 h9 ho hg (Or.inr ⟨rfl, by omega, hq2⟩))
        refine r_iconst dX10_weeksOf_161 ?_
        refine r_goto 166 dX10_weeksOf_162 (by decide) ?_
        refine r_ist5 dX10_weeksOf_166 rfl ?_
        refine r_ild5 dX10_weeksOf_168 ?_
        refine r_if_eq 189 dX10_weeksOf_170 (by decide) (by omega) (fun c170 => by exfalso; omega) (fun c170 => ?_)
        refine r_ald0 dX10_weeksOf_173 ?_
        refine r_ald0 dX10_weeksOf_174 ?_
        refine s_getR fi_X10_37 (sh_201) rfl dX10_weeksOf_175 ?_
        refine r_ald0 dX10_weeksOf_178 ?_
        refine s_getR fi_X10_43 (sh_201) rfl dX10_weeksOf_179 ?_
        refine r_ild7 dX10_weeksOf_182 ?_
        refine s_iald hML115 (sh_213) (by omega) (by decide) dX10_weeksOf_184 (fun g184 => ?_)
        try first | simp (disch := omega) only [mS_ne, mS_eq, Int.reduceToNat, w9, hsr] | simp (disch := omega) only [Int.reduceToNat]
        refine s_callV2r hML115 (c_X10_says E (by exact sh_211) (by decide) (by rw [h9]; exact hT) (by rw [h9]; exact hg.1) (by rw [w9]; exact hs)) cv_X10_says wM_X10_212 (sh_201) rfl rfl (Nat.le_of_ble_eq_true rfl) (by decide) dX10_weeksOf_185 (fun hM185 => ?_)
        rw [h9]
        refine r_pop dX10_weeksOf_188 rfl ?_
        refine r_iinc7 dX10_weeksOf_189 rfl ?_
        refine r_goto 104 dX10_weeksOf_192 (by decide) ?_
        first | (exfalso; omega) | (have hwe : wwL s (62 - w).toNat w Mc = (w, Mc) := (by rw [show (62 - w).toNat = ((62 - w).toNat - 1) + 1 by omega]; exact if_pos (by rw [h9]; first | exact Or.inl c130 | exact Or.inr (by omega))); have hq2 : (if w ≤ 60 then woL (many - (k + 1)).toNat (k + 1) w (saM Mc 211 s) else (-1, Mc)) = woT M code many := (by rw [hwe] at hq; exact hq); rw [if_pos (by omega)] at hq2; exact hgo 1 w _ hM185 ((sa_lo (by decide)).trans h9) (fun j hj => by rw [sa_lo (by decide)]; exact ho j hj) (by have h0 := sa_GI (M := Mc) (k := 211) (w := 999 + w) (s := s) (by rw [h9]; exact hT) (by rw [h9]; exact hg) (by rw [w9]; exact hs) (by rw [h9]; exact c130); rw [h9] at h0; exact h0) (Or.inl ⟨rfl, by omega, hq2⟩)) | (have hwe : wwL s (62 - w).toNat w Mc = (w, Mc) := (by rw [show (62 - w).toNat = ((62 - w).toNat - 1) + 1 by omega]; exact if_pos (by rw [h9]; first | exact Or.inl c130 | exact Or.inr (by omega))); have hq2 : (if w ≤ 60 then woL (many - (k + 1)).toNat (k + 1) w (saM Mc 211 s) else (-1, Mc)) = woT M code many := (by rw [hwe] at hq; exact hq); rw [if_neg (by omega)] at hq2; exact hgo 0 w _ hM185 h9 ho hg (Or.inr ⟨rfl, by omega, hq2⟩))
      refine r_ald0 dX10_weeksOf_140 ?_
      refine r_ald0 dX10_weeksOf_141 ?_
      refine s_getR fi_X10_37 (sh_201) rfl dX10_weeksOf_142 ?_
      refine s_callV1v hML115 (c_X10_passes E (by exact sh_211) (by decide) (by rw [h9]; exact hT) (by rw [h9]; exact hg.1) (by rw [h9]; exact hg.2.1)) cv_X10_passes wM_X10_201 (sh_201) rfl rfl (Nat.le_of_ble_eq_true rfl) (by decide) dX10_weeksOf_145 (fun hM145 => ?_)
      refine r_iinc6 dX10_weeksOf_148 rfl ?_
      refine r_goto 115 dX10_weeksOf_151 (by decide) ?_
      exact ih _ s (w + 1) _ _  hM145 (by exact hk) (by exact (ps_lo (by decide)).trans h9) (by exact fun j hj => by rw [ps_lo (by decide)]; exact ho j hj) (by have h0 := ps_GI (M := Mc) (k := 211) (w := 999 + w) (by rw [h9]; exact hT) (by omega) (by rw [h9]; exact hg); rw [h9] at h0; rw [show (999 + (w + 1) : Int) = 999 + w + 1 by omega]; exact h0) (by omega) (by rw [ps_lo (by decide)]; exact hsr) (by have hww : wwL s (62 - w).toNat w Mc = wwL s (62 - (w + 1)).toNat (w + 1) (psM Mc 211) := (by rw [show (62 - w).toNat = (62 - (w + 1)).toNat + 1 by omega]; exact if_neg (by rw [h9]; intro q; rcases q with q | q; exact c130 q; omega)); rw [hww] at hq; exact hq) (by exact hgo) (by omega)
  have L104 : ∀ (fu : Nat) (g w k : Int) (Mc : xMem), InR Mc → (0 ≤ k ∧ (k ≤ many ∨ k = 0)) → (Mc 209 = M 209) → (∀ j : Nat, (j : Int) < many → 0 ≤ Mc 213 j ∧ Mc 213 j < M 209 1) → (GI (tg (M 209)) (sk (Mc 211)) (999 + w)) → ((g = 1 ∧ (0 ≤ w ∧ w ≤ 60) ∧ woL (many - k).toNat k w Mc = woT M code many) ∨ (g = 0 ∧ (0 ≤ w ∧ w ≤ 61) ∧ (-1, Mc) = woT M code many)) → (many - k).toNat < fu → VS E mX10_weeksOf 4 (some (xi (woT M code many).1)) ((woT M code many).2) 104 [some (xr E 201), some (xi code), some (xi many), none, none, some (xi g), some (xi w), some (xi k)] [] Mc := by
    intro fu
    induction fu with
    | zero => intro g w k Mc hML104 hb h9 ho hg hi hme; exact absurd hme (Nat.not_lt_zero _)
    | succ fu ih =>
      intro g w k Mc hML104 hb h9 ho hg hi hme
      have w9 : ∀ j, Mc 209 j = M 209 j := fun j => by rw [h9]
      refine r_ild7 dX10_weeksOf_104 ?_
      refine r_ild2 dX10_weeksOf_106 ?_
      refine r_icmp_ge 195 dX10_weeksOf_107 (by decide) (by omega) (by omega) (fun c107 => ?_) (fun c107 => ?_)
      · skip
        refine r_ild5 dX10_weeksOf_195 ?_
        refine r_if_eq 205 dX10_weeksOf_197 (by decide) (by omega) (fun c197 => ?_) (fun c197 => ?_)
        · skip
          refine r_iconst dX10_weeksOf_205 ?_
          exact s_iret hML104 rfl dX10_weeksOf_206 (by first | (exfalso; omega) | (rw [← (hi.resolve_right (by omega)).2.2, show (many - k).toNat = 0 by omega]; rfl) | (rw [← (hi.resolve_left (by omega)).2.2])) (by first | (exfalso; omega) | (rw [← (hi.resolve_right (by omega)).2.2, show (many - k).toNat = 0 by omega]; rfl) | (rw [← (hi.resolve_left (by omega)).2.2]))
        refine r_ild6 dX10_weeksOf_200 ?_
        refine r_goto 206 dX10_weeksOf_202 (by decide) ?_
        exact s_iret hML104 rfl dX10_weeksOf_206 (by first | (exfalso; omega) | (rw [← (hi.resolve_right (by omega)).2.2, show (many - k).toNat = 0 by omega]; rfl) | (rw [← (hi.resolve_left (by omega)).2.2])) (by first | (exfalso; omega) | (rw [← (hi.resolve_right (by omega)).2.2, show (many - k).toNat = 0 by omega]; rfl) | (rw [← (hi.resolve_left (by omega)).2.2]))
      refine r_ild5 dX10_weeksOf_110 ?_
      refine r_if_eq 195 dX10_weeksOf_112 (by decide) (by omega) (fun c112 => ?_) (fun c112 => ?_)
      · skip
        refine r_ild5 dX10_weeksOf_195 ?_
        refine r_if_eq 205 dX10_weeksOf_197 (by decide) (by omega) (fun c197 => ?_) (fun c197 => ?_)
        · skip
          refine r_iconst dX10_weeksOf_205 ?_
          exact s_iret hML104 rfl dX10_weeksOf_206 (by first | (exfalso; omega) | (rw [← (hi.resolve_right (by omega)).2.2, show (many - k).toNat = 0 by omega]; rfl) | (rw [← (hi.resolve_left (by omega)).2.2])) (by first | (exfalso; omega) | (rw [← (hi.resolve_right (by omega)).2.2, show (many - k).toNat = 0 by omega]; rfl) | (rw [← (hi.resolve_left (by omega)).2.2]))
        refine r_ild6 dX10_weeksOf_200 ?_
        refine r_goto 206 dX10_weeksOf_202 (by decide) ?_
        exact s_iret hML104 rfl dX10_weeksOf_206 (by first | (exfalso; omega) | (rw [← (hi.resolve_right (by omega)).2.2, show (many - k).toNat = 0 by omega]; rfl) | (rw [← (hi.resolve_left (by omega)).2.2])) (by first | (exfalso; omega) | (rw [← (hi.resolve_right (by omega)).2.2, show (many - k).toNat = 0 by omega]; rfl) | (rw [← (hi.resolve_left (by omega)).2.2]))
      exact L115 63 _ (Mc 213 k.toNat) _ _ _  hML104 (by omega) (by exact h9) (by exact ho) (by exact hg) (by omega) (by rfl) (by have h1 := (hi.resolve_right (by omega)).2.2; rw [show (many - k).toNat = (many - (k + 1)).toNat + 1 by omega] at h1; exact h1) (fun g2 w2 Mc2 q1 q2 q3 q4 q5 => ih _ _ _ Mc2 q1 (by omega) q2 q3 q4 q5 (by omega)) (by omega)
  have L18 : ∀ (fu : Nat) (l u g k : Int) (Mc : xMem), InR Mc → (-7 ≤ k ∧ k < many) → (0 ≤ l ∧ l < 2147483648) → (0 ≤ u ∧ u ≤ 63) → (g = 0 ∨ g = 1) → (∀ a, a ≠ 213 → Mc a = M a) → (dgL (M 209 1) (k + 1).toNat l u (decide (g = 1)) Mc = dgL (M 209 1) many.toNat code (M 210 4) true M) → (k + 1).toNat < fu → VS E mX10_weeksOf 4 (some (xi (woT M code many).1)) ((woT M code many).2) 18 [some (xr E 201), some (xi code), some (xi many), some (xi l), some (xi u), some (xi g), some (xi k), none] [] Mc := by
    intro fu
    induction fu with
    | zero => intro l u g k Mc hML18 hb hl hu hg01 hF hi hme; exact absurd hme (Nat.not_lt_zero _)
    | succ fu ih =>
      intro l u g k Mc hML18 hb hl hu hg01 hF hi hme
      have w9 : ∀ j, Mc 209 j = M 209 j := fun j => by rw [hF 209 (by decide)]
      have hsr := w9
      have hx1 := Int.emod_nonneg l (show M 209 1 ≠ 0 by omega)
      have hx2 := Int.emod_lt_of_pos l (show 0 < M 209 1 by omega)
      have hdv := div_b (a := l) (A := l) (b := M 209 1) (by omega) (by omega)
      have hp2 := p2_5 (n := l % M 209 1) (by omega)
      have hx3 := xor2_63 (a := u) (b := 1 * 2 ^ (l % M 209 1).toNat) hu (by omega)
      refine r_ild6 dX10_weeksOf_18 ?_
      refine r_if_lt 94 dX10_weeksOf_20 (by decide) (by omega) (fun c20 => ?_) (fun c20 => ?_)
      · skip
        have hdg : (decide (g = 1), Mc) = dgL (M 209 1) many.toNat code (M 210 4) true M := by rw [← hi, show (k + 1).toNat = 0 by omega]; rfl
        refine r_ald0 dX10_weeksOf_94 ?_
        refine s_callV0v hML18 (c_X10_copyNow E ) cv_X10_copyNow wM_X10_221 (sh_201) rfl rfl (Nat.le_of_ble_eq_true rfl) (by decide) dX10_weeksOf_95 (fun hM95 => ?_)
        have hE9 : cnM Mc 209 = M 209 := (cn_row (by decide)).trans (hF 209 (by decide))
        have hEo : ∀ j : Nat, (j : Int) < many → 0 ≤ (cnM Mc) 213 j ∧ (cnM Mc) 213 j < M 209 1 := fun j hj => by
          rw [cn_row (by decide)]
          have h := dg_b (N := M 209 1) (by omega) many.toNat code (M 210 4) true M many.toNat (fun i h1 h2 => absurd h2 (by omega)) j (by omega)
          rw [← hdg] at h
          exact h
        have hEg : GI (tg (M 209)) (sk (cnM Mc 211)) (999 + 0) := by
          rw [Int.add_zero]
          exact GI_SA (cn_SA (M := Mc) hT) (by rw [hF 210 (by decide)]; exact hG)
        have hwt : woT M code many = if decide (g = 1) = true then woL many.toNat 0 0 (cnM Mc) else (-1, cnM Mc) := by unfold woT; rw [← hdg]
        have hE : (g = 1 ∧ (0 ≤ (0 : Int) ∧ (0 : Int) ≤ 60) ∧ woL (many - 0).toNat 0 (0 : Int) (cnM Mc) = woT M code many) ∨ (g = 0 ∧ (0 ≤ (0 : Int) ∧ (0 : Int) ≤ 61) ∧ (-1, (cnM Mc)) = woT M code many) := by
          rcases hg01 with h | h
          · right
            exact ⟨h, by decide, by rw [hwt, if_neg (by simp [h])]⟩
          · left
            exact ⟨h, by decide, by rw [hwt, if_pos (by simp [h]), Int.sub_zero]⟩
        refine r_iconst dX10_weeksOf_98 ?_
        refine r_ist6 dX10_weeksOf_99 rfl ?_
        refine r_iconst dX10_weeksOf_101 ?_
        refine r_ist7 dX10_weeksOf_102 rfl ?_
        refine r_fgt3 ?_
        refine r_fgt4 ?_
        exact L104 7 _ _ _ _  hM95 (by omega) (by exact hE9) (by exact hEo) (by exact hEg) (by exact hE) (by omega)
      refine r_ald0 dX10_weeksOf_23 ?_
      refine s_getR fi_X10_43 (sh_201) rfl dX10_weeksOf_24 ?_
      refine r_ild6 dX10_weeksOf_27 ?_
      refine r_ild3 dX10_weeksOf_29 ?_
      refine r_ald0 dX10_weeksOf_30 ?_
      refine s_getR fi_X10_31 (sh_201) rfl dX10_weeksOf_31 ?_
      refine r_iconst dX10_weeksOf_34 ?_
      refine s_iald hML18 (sh_209) (by omega) (by decide) dX10_weeksOf_35 (fun g35 => ?_)
      try first | simp (disch := omega) only [mS_ne, mS_eq, Int.reduceToNat, w9, hsr] | simp (disch := omega) only [Int.reduceToNat]
      refine r_irem dX10_weeksOf_36 (by omega) (by omega) ?_
      refine s_iast hML18 (sh_213) (by omega) (by decide) (by omega) dX10_weeksOf_37 (fun hM37 => ?_)
      refine r_ild3 dX10_weeksOf_38 ?_
      refine r_ald0 dX10_weeksOf_39 ?_
      refine s_getR fi_X10_31 (sh_201) rfl dX10_weeksOf_40 ?_
      refine r_iconst dX10_weeksOf_43 ?_
      refine s_iald hM37 (sh_209) (by omega) (by decide) dX10_weeksOf_44 (fun g44 => ?_)
      try first | simp (disch := omega) only [mS_ne, mS_eq, Int.reduceToNat, w9, hsr] | simp (disch := omega) only [Int.reduceToNat]
      refine r_idiv dX10_weeksOf_45 (by omega) (by omega) ?_
      refine r_ist3 dX10_weeksOf_46 rfl ?_
      refine r_ild5 dX10_weeksOf_47 ?_
      refine r_if_eq 71 dX10_weeksOf_49 (by decide) (by omega) (fun c49 => ?_) (fun c49 => ?_)
      · skip
        refine r_iconst dX10_weeksOf_71 ?_
        refine r_ist5 dX10_weeksOf_72 rfl ?_
        refine r_ild4 dX10_weeksOf_74 ?_
        refine r_iconst dX10_weeksOf_76 ?_
        refine r_ald0 dX10_weeksOf_77 ?_
        refine s_getR fi_X10_43 (sh_201) rfl dX10_weeksOf_78 ?_
        refine r_ild6 dX10_weeksOf_81 ?_
        refine s_iald hM37 (sh_213) (by omega) (by decide) dX10_weeksOf_83 (fun g83 => ?_)
        try first | simp (disch := omega) only [mS_ne, mS_eq, Int.reduceToNat, w9, hsr] | simp (disch := omega) only [Int.reduceToNat]
        refine r_ishl dX10_weeksOf_84 (by omega) ?_
        refine r_ior dX10_weeksOf_85 (by omega) (by omega) (fun g85 => ?_)
        refine r_ist4 dX10_weeksOf_86 rfl ?_
        refine r_iinc6 dX10_weeksOf_88 rfl ?_
        refine r_goto 18 dX10_weeksOf_91 (by decide) ?_
        exact ih _ _ _ _ _  hM37 (by omega) (by omega) (by omega) (by omega) (by exact fun a ha => (mS_row ha).trans (hF a ha)) (by rw [← hi, show (k + 1).toNat = k.toNat + 1 by omega, show (k + -1 + 1).toNat = k.toNat by omega]; show dgL _ _ _ _ _ _ = dgL (M 209 1) k.toNat (l / M 209 1) (xor2 u (1 * 2 ^ (l % M 209 1).toNat)) (decide (g = 1) && !decide (bitI u (l % M 209 1) = 1)) (mS Mc 213 k.toNat (l % M 209 1)); congr 1; first | (simp [show g = 1 by omega, c64]; done) | (simp [show ¬ g = 1 by omega]; done) | (simp [c64]; done)) (by omega)
      refine r_ild4 dX10_weeksOf_52 ?_
      refine r_ald0 dX10_weeksOf_54 ?_
      refine s_getR fi_X10_43 (sh_201) rfl dX10_weeksOf_55 ?_
      refine r_ild6 dX10_weeksOf_58 ?_
      refine s_iald hM37 (sh_213) (by omega) (by decide) dX10_weeksOf_60 (fun g60 => ?_)
      try first | simp (disch := omega) only [mS_ne, mS_eq, Int.reduceToNat, w9, hsr] | simp (disch := omega) only [Int.reduceToNat]
      refine s_callS2r hM37 (c_X10_has E (by omega) (by omega)) cs_X10_has wM_X10_165 (Nat.le_of_ble_eq_true rfl) (by decide) dX10_weeksOf_61 (fun _ => ?_)
      refine r_ifb_ne 71 dX10_weeksOf_64 (by decide) (fun c64 => ?_) (fun c64 => ?_)
      · skip
        refine r_iconst dX10_weeksOf_71 ?_
        refine r_ist5 dX10_weeksOf_72 rfl ?_
        refine r_ild4 dX10_weeksOf_74 ?_
        refine r_iconst dX10_weeksOf_76 ?_
        refine r_ald0 dX10_weeksOf_77 ?_
        refine s_getR fi_X10_43 (sh_201) rfl dX10_weeksOf_78 ?_
        refine r_ild6 dX10_weeksOf_81 ?_
        refine s_iald hM37 (sh_213) (by omega) (by decide) dX10_weeksOf_83 (fun g83 => ?_)
        try first | simp (disch := omega) only [mS_ne, mS_eq, Int.reduceToNat, w9, hsr] | simp (disch := omega) only [Int.reduceToNat]
        refine r_ishl dX10_weeksOf_84 (by omega) ?_
        refine r_ior dX10_weeksOf_85 (by omega) (by omega) (fun g85 => ?_)
        refine r_ist4 dX10_weeksOf_86 rfl ?_
        refine r_iinc6 dX10_weeksOf_88 rfl ?_
        refine r_goto 18 dX10_weeksOf_91 (by decide) ?_
        exact ih _ _ _ _ _  hM37 (by omega) (by omega) (by omega) (by omega) (by exact fun a ha => (mS_row ha).trans (hF a ha)) (by rw [← hi, show (k + 1).toNat = k.toNat + 1 by omega, show (k + -1 + 1).toNat = k.toNat by omega]; show dgL _ _ _ _ _ _ = dgL (M 209 1) k.toNat (l / M 209 1) (xor2 u (1 * 2 ^ (l % M 209 1).toNat)) (decide (g = 1) && !decide (bitI u (l % M 209 1) = 1)) (mS Mc 213 k.toNat (l % M 209 1)); congr 1; first | (simp [show g = 1 by omega, c64]; done) | (simp [show ¬ g = 1 by omega]; done) | (simp [c64]; done)) (by omega)
      refine r_iconst dX10_weeksOf_67 ?_
      refine r_goto 72 dX10_weeksOf_68 (by decide) ?_
      refine r_ist5 dX10_weeksOf_72 rfl ?_
      refine r_ild4 dX10_weeksOf_74 ?_
      refine r_iconst dX10_weeksOf_76 ?_
      refine r_ald0 dX10_weeksOf_77 ?_
      refine s_getR fi_X10_43 (sh_201) rfl dX10_weeksOf_78 ?_
      refine r_ild6 dX10_weeksOf_81 ?_
      refine s_iald hM37 (sh_213) (by omega) (by decide) dX10_weeksOf_83 (fun g83 => ?_)
      try first | simp (disch := omega) only [mS_ne, mS_eq, Int.reduceToNat, w9, hsr] | simp (disch := omega) only [Int.reduceToNat]
      refine r_ishl dX10_weeksOf_84 (by omega) ?_
      refine r_ior dX10_weeksOf_85 (by omega) (by omega) (fun g85 => ?_)
      refine r_ist4 dX10_weeksOf_86 rfl ?_
      refine r_iinc6 dX10_weeksOf_88 rfl ?_
      refine r_goto 18 dX10_weeksOf_91 (by decide) ?_
      exact ih _ _ _ _ _  hM37 (by omega) (by omega) (by omega) (by omega) (by exact fun a ha => (mS_row ha).trans (hF a ha)) (by rw [← hi, show (k + 1).toNat = k.toNat + 1 by omega, show (k + -1 + 1).toNat = k.toNat by omega]; show dgL _ _ _ _ _ _ = dgL (M 209 1) k.toNat (l / M 209 1) (xor2 u (1 * 2 ^ (l % M 209 1).toNat)) (decide (g = 1) && !decide (bitI u (l % M 209 1) = 1)) (mS Mc 213 k.toNat (l % M 209 1)); congr 1; first | (simp [show g = 1 by omega, c64]; done) | (simp [show ¬ g = 1 by omega]; done) | (simp [c64]; done)) (by omega)
  refine r_ild1 dX10_weeksOf_0 ?_
  refine r_ist3 dX10_weeksOf_1 rfl ?_
  refine r_ald0 dX10_weeksOf_2 ?_
  refine s_getR fi_X10_34 (sh_201) rfl dX10_weeksOf_3 ?_
  refine r_iconst dX10_weeksOf_6 ?_
  refine s_iald hM (sh_210) (by omega) (by decide) dX10_weeksOf_7 (fun g7 => ?_)
  try first | simp (disch := omega) only [Int.reduceToNat, w9, hsr] | simp (disch := omega) only [Int.reduceToNat]
  refine r_ist4 dX10_weeksOf_8 rfl ?_
  refine r_iconst dX10_weeksOf_10 ?_
  refine r_ist5 dX10_weeksOf_11 rfl ?_
  refine r_ild2 dX10_weeksOf_13 ?_
  refine r_iconst dX10_weeksOf_14 ?_
  refine r_isub dX10_weeksOf_15 ?_
  refine r_ist6 dX10_weeksOf_16 rfl ?_
  exact L18 7 _ _ _ _ _  hM (by omega) (by omega) (by omega) (by omega) (by exact fun _ _ => rfl) (by rw [show many - 1 + 1 = many by omega]; rfl) (by omega)
set_option maxHeartbeats 4000000 in
theorem c_X10_order (E : xE) {M : xMem} {k : Int} (hk : -2147483648 ≤ k ∧ k < 2147483648) (hD : MD M) : Ct E mX10_order 10 5 [xr E 201, xi k] M (some (xi ((yOrder M k).1))) ((yOrder M k).2) := by
  refine Ct.of 8 10 (by rfl) (by decide +kernel) (fun hM => ?_)
  show VS E mX10_order 5 _ _ 0 [some (xr E 201), some (xi k), none, none, none, none, none, none, none, none] [] M
  have L78 : ∀ (fu : Nat) (b l c : Int) (Mc : xMem), InR Mc → (¬ M 201 16 = 0 ∧ -1 ≤ k) → (TI (tg (M 209))) → (GI (tg (M 209)) (sk (M 210)) 999) → (∀ a, a ≠ 211 → a ≠ 213 → Mc a = M a) → (b = -1000000 ∨ (0 ≤ b ∧ b < M 209 1 ^ (mnY M).toNat)) → (0 ≤ l ∧ l ≤ 61) → (0 ≤ c ∧ c ≤ M 209 1 ^ (mnY M).toNat) → (foldI (yoF (mnY M)) (M 209 1 ^ (mnY M).toNat - c).toNat c (b, l, Mc) = yoT M) → (M 209 1 ^ (mnY M).toNat - c).toNat < fu → VS E mX10_order 5 (some (xi ((yOrder M k).1))) ((yOrder M k).2) 78 [some (xr E 201), some (xi k), none, some (xi (mnY M)), some (xi (M 209 1 ^ (mnY M).toNat)), some (xi b), some (xi l), some (xi c), none, none] [] Mc := by
    intro fu
    induction fu with
    | zero => intro b l c Mc hML78 hw0 hT hG hF hb hl hcc hi hme; exact absurd hme (Nat.not_lt_zero _)
    | succ fu ih =>
      intro b l c Mc hML78 hw0 hT hG hF hb hl hcc hi hme
      have hn : 1 ≤ M 209 0 ∧ M 209 0 ≤ 5 := hT.1
      have hN : 1 ≤ M 209 1 ∧ M 209 1 ≤ 6 := hT.2.1
      have hra : 1 ≤ M 209 2 ∧ M 209 2 ≤ 60 := hT.2.2.1
      have hpc6 := pcT_b (M 210 4)
      have hmy : mnY M = M 209 1 - pcT (M 210 4) := rfl
      have hpw := pw_b (N := M 209 1) hN (k := (mnY M).toNat) (by omega)
      refine r_ild7 dX10_order_78 ?_
      refine r_ild4 dX10_order_80 ?_
      refine r_icmp_ge 147 dX10_order_82 (by decide) (by omega) (by omega) (fun c82 => ?_) (fun c82 => ?_)
      · skip
        have hx : (b, l, Mc) = yoT M := by rw [← hi, show (M 209 1 ^ (mnY M).toNat - c).toNat = 0 by omega]; rfl
        have hb1 : b = (yoT M).1 := congrArg (fun q => q.1) hx
        have hl1 : l = (yoT M).2.1 := congrArg (fun q => q.2.1) hx
        have hm1 : Mc = (yoT M).2.2 := congrArg (fun q => q.2.2) hx
        subst hb1
        subst hl1
        subst hm1
        have w9 := hF 209 (by decide) (by decide)
        have w10 := hF 210 (by decide) (by decide)
        have hwb := woT_ok (M := (yoT M).2.2) (by rw [w9]; exact hT) (by rw [w9, w10]; exact hG) (yoT M).1 (mnY M)
        refine r_ild5 dX10_order_147 ?_
        refine r_ldc (-1000000) dX10_order_149 wC_X10_133 ?_
        refine r_icmp_eq 159 dX10_order_151 (by decide) (by omega) (by omega) (fun c151 => ?_) (fun c151 => ?_)
        · skip
          refine r_ldc (-1000000) dX10_order_159 wC_X10_133 ?_
          exact s_iret hML78 rfl dX10_order_161 (by unfold yOrder; first | (rw [if_neg (by omega), if_neg (by omega), if_pos (by omega)]; done) | (rw [if_neg (by omega), if_neg (by omega), if_neg (by omega)]; first | (rw [if_pos (by omega)]; done) | (rw [if_neg (by omega)]; done)) | ((repeat' split) <;> first | rfl | omega | (exfalso; omega))) (by unfold yOrder; first | (rw [if_neg (by omega), if_neg (by omega), if_pos (by omega)]; done) | (rw [if_neg (by omega), if_neg (by omega), if_neg (by omega)]; done) | ((repeat' split) <;> first | rfl | omega | (exfalso; omega)))
        refine r_ild1 dX10_order_154 ?_
        refine r_ild3 dX10_order_155 ?_
        refine r_icmp_lt 162 dX10_order_156 (by decide) (by omega) (by omega) (fun c156 => ?_) (fun c156 => ?_)
        · skip
          refine r_ald0 dX10_order_162 ?_
          refine r_ild5 dX10_order_163 ?_
          refine r_ild3 dX10_order_165 ?_
          refine s_callV2r hML78 (c_X10_weeksOf E (by rw [w9]; exact hT) (by rw [w9, w10]; exact hG) (by omega) (by omega)) cv_X10_weeksOf wM_X10_237 (sh_201) rfl rfl (Nat.le_of_ble_eq_true rfl) (by decide) dX10_order_166 (fun hM166 => ?_)
          refine r_pop dX10_order_169 rfl ?_
          refine r_ild1 dX10_order_170 ?_
          refine r_if_ge 179 dX10_order_171 (by decide) (by omega) (fun c171 => ?_) (fun c171 => ?_)
          · skip
            refine r_ald0 dX10_order_179 ?_
            refine s_getR fi_X10_43 (sh_201) rfl dX10_order_180 ?_
            refine r_ild1 dX10_order_183 ?_
            refine s_iald hM166 (sh_213) (by omega) (by decide) dX10_order_184 (fun g184 => ?_)
            try simp (disch := omega) only [Int.reduceToNat]
            exact s_iret hM166 rfl dX10_order_185 (by unfold yOrder; first | (rw [if_neg (by omega), if_neg (by omega), if_pos (by omega)]; done) | (rw [if_neg (by omega), if_neg (by omega), if_neg (by omega)]; first | (rw [if_pos (by omega)]; done) | (rw [if_neg (by omega)]; done)) | ((repeat' split) <;> first | rfl | omega | (exfalso; omega))) (by unfold yOrder; first | (rw [if_neg (by omega), if_neg (by omega), if_pos (by omega)]; done) | (rw [if_neg (by omega), if_neg (by omega), if_neg (by omega)]; done) | ((repeat' split) <;> first | rfl | omega | (exfalso; omega)))
          refine r_ild6 dX10_order_174 ?_
          refine r_goto 185 dX10_order_176 (by decide) ?_
          exact s_iret hM166 rfl dX10_order_185 (by unfold yOrder; first | (rw [if_neg (by omega), if_neg (by omega), if_pos (by omega)]; done) | (rw [if_neg (by omega), if_neg (by omega), if_neg (by omega)]; first | (rw [if_pos (by omega)]; done) | (rw [if_neg (by omega)]; done)) | ((repeat' split) <;> first | rfl | omega | (exfalso; omega))) (by unfold yOrder; first | (rw [if_neg (by omega), if_neg (by omega), if_pos (by omega)]; done) | (rw [if_neg (by omega), if_neg (by omega), if_neg (by omega)]; done) | ((repeat' split) <;> first | rfl | omega | (exfalso; omega)))
        refine r_ldc (-1000000) dX10_order_159 wC_X10_133 ?_
        exact s_iret hML78 rfl dX10_order_161 (by unfold yOrder; first | (rw [if_neg (by omega), if_neg (by omega), if_pos (by omega)]; done) | (rw [if_neg (by omega), if_neg (by omega), if_neg (by omega)]; first | (rw [if_pos (by omega)]; done) | (rw [if_neg (by omega)]; done)) | ((repeat' split) <;> first | rfl | omega | (exfalso; omega))) (by unfold yOrder; first | (rw [if_neg (by omega), if_neg (by omega), if_pos (by omega)]; done) | (rw [if_neg (by omega), if_neg (by omega), if_neg (by omega)]; done) | ((repeat' split) <;> first | rfl | omega | (exfalso; omega)))
      have w9 := hF 209 (by decide) (by decide)
      have w10 := hF 210 (by decide) (by decide)
      have hwo := woT_ok (M := Mc) (by rw [w9]; exact hT) (by rw [w9, w10]; exact hG) c (mnY M)
      refine r_ald0 dX10_order_85 ?_
      refine r_ild7 dX10_order_86 ?_
      refine r_ild3 dX10_order_88 ?_
      refine s_callV2r hML78 (c_X10_weeksOf E (by rw [w9]; exact hT) (by rw [w9, w10]; exact hG) (by omega) (by omega)) cv_X10_weeksOf wM_X10_237 (sh_201) rfl rfl (Nat.le_of_ble_eq_true rfl) (by decide) dX10_order_89 (fun hM89 => ?_)
      refine r_ist8 dX10_order_92 rfl ?_
      refine r_ild8 dX10_order_94 ?_
      refine r_if_lt 110 dX10_order_96 (by decide) (by omega) (fun c96 => ?_) (fun c96 => ?_)
      · skip
        refine r_iconst dX10_order_110 ?_
        refine r_ist9 dX10_order_111 rfl ?_
        refine r_ild9 dX10_order_113 ?_
        refine r_if_eq 123 dX10_order_115 (by decide) (by omega) (fun c115 => ?_) (fun c115 => by exfalso; omega)
        refine r_ild5 dX10_order_123 ?_
        refine r_ist5 dX10_order_125 rfl ?_
        refine r_ild9 dX10_order_127 ?_
        refine r_if_eq 137 dX10_order_129 (by decide) (by omega) (fun c129 => ?_) (fun c129 => by exfalso; omega)
        refine r_ild6 dX10_order_137 ?_
        refine r_ist6 dX10_order_139 rfl ?_
        refine r_iinc7 dX10_order_141 rfl ?_
        refine r_goto 78 dX10_order_144 (by decide) ?_
        refine r_fgt8 ?_
        refine r_fgt9 ?_
        exact ih _ _ _ _  hM89 (by exact hw0) (by exact hT) (by exact hG) (by exact fun a h1 h2 => (hwo.2.1 a h1 h2).trans (hF a h1 h2)) (by omega) (by omega) (by omega) (by refine foldI_go (by omega) hi ?_; unfold yoF; first | (rw [if_pos (by show 0 ≤ (woT Mc c (mnY M)).1 ∧ (woT Mc c (mnY M)).1 < l; omega)]; done) | (rw [if_neg (by show ¬ (0 ≤ (woT Mc c (mnY M)).1 ∧ (woT Mc c (mnY M)).1 < l); omega)]; done)) (by omega)
      refine r_ild8 dX10_order_99 ?_
      refine r_ild6 dX10_order_101 ?_
      refine r_icmp_ge 110 dX10_order_103 (by decide) (by omega) (by omega) (fun c103 => ?_) (fun c103 => ?_)
      · skip
        refine r_iconst dX10_order_110 ?_
        refine r_ist9 dX10_order_111 rfl ?_
        refine r_ild9 dX10_order_113 ?_
        refine r_if_eq 123 dX10_order_115 (by decide) (by omega) (fun c115 => ?_) (fun c115 => by exfalso; omega)
        refine r_ild5 dX10_order_123 ?_
        refine r_ist5 dX10_order_125 rfl ?_
        refine r_ild9 dX10_order_127 ?_
        refine r_if_eq 137 dX10_order_129 (by decide) (by omega) (fun c129 => ?_) (fun c129 => by exfalso; omega)
        refine r_ild6 dX10_order_137 ?_
        refine r_ist6 dX10_order_139 rfl ?_
        refine r_iinc7 dX10_order_141 rfl ?_
        refine r_goto 78 dX10_order_144 (by decide) ?_
        refine r_fgt8 ?_
        refine r_fgt9 ?_
        exact ih _ _ _ _  hM89 (by exact hw0) (by exact hT) (by exact hG) (by exact fun a h1 h2 => (hwo.2.1 a h1 h2).trans (hF a h1 h2)) (by omega) (by omega) (by omega) (by refine foldI_go (by omega) hi ?_; unfold yoF; first | (rw [if_pos (by show 0 ≤ (woT Mc c (mnY M)).1 ∧ (woT Mc c (mnY M)).1 < l; omega)]; done) | (rw [if_neg (by show ¬ (0 ≤ (woT Mc c (mnY M)).1 ∧ (woT Mc c (mnY M)).1 < l); omega)]; done)) (by omega)
      refine r_iconst dX10_order_106 ?_
      refine r_goto 111 dX10_order_107 (by decide) ?_
      refine r_ist9 dX10_order_111 rfl ?_
      refine r_ild9 dX10_order_113 ?_
      refine r_if_eq 123 dX10_order_115 (by decide) (by omega) (fun c115 => by exfalso; omega) (fun c115 => ?_)
      refine r_ild7 dX10_order_118 ?_
      refine r_goto 125 dX10_order_120 (by decide) ?_
      refine r_ist5 dX10_order_125 rfl ?_
      refine r_ild9 dX10_order_127 ?_
      refine r_if_eq 137 dX10_order_129 (by decide) (by omega) (fun c129 => by exfalso; omega) (fun c129 => ?_)
      refine r_ild8 dX10_order_132 ?_
      refine r_goto 139 dX10_order_134 (by decide) ?_
      refine r_ist6 dX10_order_139 rfl ?_
      refine r_iinc7 dX10_order_141 rfl ?_
      refine r_goto 78 dX10_order_144 (by decide) ?_
      refine r_fgt8 ?_
      refine r_fgt9 ?_
      exact ih _ _ _ _  hM89 (by exact hw0) (by exact hT) (by exact hG) (by exact fun a h1 h2 => (hwo.2.1 a h1 h2).trans (hF a h1 h2)) (by omega) (by omega) (by omega) (by refine foldI_go (by omega) hi ?_; unfold yoF; first | (rw [if_pos (by show 0 ≤ (woT Mc c (mnY M)).1 ∧ (woT Mc c (mnY M)).1 < l; omega)]; done) | (rw [if_neg (by show ¬ (0 ≤ (woT Mc c (mnY M)).1 ∧ (woT Mc c (mnY M)).1 < l); omega)]; done)) (by omega)
  have L44 : ∀ (fu : Nat) (c j : Int), (¬ M 201 16 = 0 ∧ -1 ≤ k) → (TI (tg (M 209))) → (GI (tg (M 209)) (sk (M 210)) 999) → (0 ≤ j ∧ (j ≤ mnY M ∨ j = 0)) → (c = M 209 1 ^ j.toNat) → (mnY M - j).toNat < fu → VS E mX10_order 5 (some (xi ((yOrder M k).1))) ((yOrder M k).2) 44 [some (xr E 201), some (xi k), none, some (xi (mnY M)), some (xi c), some (xi j), none, none, none, none] [] M := by
    intro fu
    induction fu with
    | zero => intro c j  hw0 hT hG hb hc hme; exact absurd hme (Nat.not_lt_zero _)
    | succ fu ih =>
      intro c j  hw0 hT hG hb hc hme
      have hn : 1 ≤ M 209 0 ∧ M 209 0 ≤ 5 := hT.1
      have hN : 1 ≤ M 209 1 ∧ M 209 1 ≤ 6 := hT.2.1
      have hra : 1 ≤ M 209 2 ∧ M 209 2 ≤ 60 := hT.2.2.1
      have hpc6 := pcT_b (M 210 4)
      have hmy : mnY M = M 209 1 - pcT (M 210 4) := rfl
      have hpj := pw_b (N := M 209 1) hN (k := j.toNat) (by omega)
      refine r_ild5 dX10_order_44 ?_
      refine r_ild3 dX10_order_46 ?_
      refine r_icmp_ge 67 dX10_order_47 (by decide) (by omega) (by omega) (fun c47 => ?_) (fun c47 => ?_)
      · skip
        have hcc : c = M 209 1 ^ (mnY M).toNat := by rw [hc, show j.toNat = (mnY M).toNat by omega]
        subst hcc
        refine r_ldc (-1000000) dX10_order_67 wC_X10_133 ?_
        refine r_ist5 dX10_order_69 rfl ?_
        refine r_bipush dX10_order_71 (by decide +kernel) ?_
        refine r_ist6 dX10_order_73 rfl ?_
        refine r_iconst dX10_order_75 ?_
        refine r_ist7 dX10_order_76 rfl ?_
        exact L78 46657 _ _ _ _  hM (by omega) (by exact hT) (by exact hG) (by exact fun _ _ _ => rfl) (by omega) (by omega) (by have hpw := pw_b (N := M 209 1) hN (k := (mnY M).toNat) (by omega); omega) (by rw [Int.sub_zero]; rfl) (by have hpw := pw_b (N := M 209 1) hN (k := (mnY M).toNat) (by omega); omega)
      refine r_ild4 dX10_order_50 ?_
      refine r_ald0 dX10_order_52 ?_
      refine s_getR fi_X10_31 (sh_201) rfl dX10_order_53 ?_
      refine r_iconst dX10_order_56 ?_
      refine s_iald hM (sh_209) (by omega) (by decide) dX10_order_57 (fun g57 => ?_)
      try simp (disch := omega) only [Int.reduceToNat]
      refine r_imul dX10_order_58 ?_
      refine r_ist4 dX10_order_59 rfl ?_
      refine r_iinc5 dX10_order_61 rfl ?_
      refine r_goto 44 dX10_order_64 (by decide) ?_
      exact ih _ _  (by exact hw0) (by exact hT) (by exact hG) (by omega) (by rw [hc, show (j + 1).toNat = j.toNat + 1 by omega, Int.pow_succ]) (by omega)
  refine r_ald0 dX10_order_0 ?_
  refine r_ild1 dX10_order_1 ?_
  refine r_iconst dX10_order_2 ?_
  refine r_icmp_lt 10 dX10_order_3 (by decide) (by omega) (by omega) (fun c3 => ?_) (fun c3 => ?_)
  · skip
    refine r_iconst dX10_order_10 ?_
    refine s_callV1r hM (c_X10_need E (by omega)) cv_X10_need wM_X10_194 (sh_201) rfl rfl (Nat.le_of_ble_eq_true rfl) (by decide) dX10_order_11 (fun _ => ?_)
    have hnd1 : (M 201 16 = 0 ∧ needV M 1 = -1000002) ∨ (¬ M 201 16 = 0 ∧ needV M 1 = 0) := by unfold needV; (repeat' split) <;> omega
    have hnd0 : (M 201 16 = 0 ∧ needV M 0 = -1000002) ∨ (¬ M 201 16 = 0 ∧ needV M 0 = -1000001) := by unfold needV; (repeat' split) <;> omega
    refine r_ist2 dX10_order_14 rfl ?_
    refine r_ild2 dX10_order_15 ?_
    refine r_if_ge 21 dX10_order_16 (by decide) (by omega) (fun c16 => ?_) (fun c16 => ?_)
    · skip
      obtain ⟨hd1, hT, hG, hNN⟩ := MD_g hD (by omega)
      have hn : 1 ≤ M 209 0 ∧ M 209 0 ≤ 5 := hT.1
      have hN : 1 ≤ M 209 1 ∧ M 209 1 ≤ 6 := hT.2.1
      have hra : 1 ≤ M 209 2 ∧ M 209 2 ≤ 60 := hT.2.2.1
      have hl : 0 ≤ M 210 1 ∧ M 210 1 ≤ 99 := hG.1.2.1
      have hh : 0 ≤ M 210 2 ∧ M 210 2 ≤ 999 := hG.1.2.2.1
      have hpr : 1 ≤ M 210 3 ∧ M 210 3 ≤ 9 := hG.1.2.2.2.1
      have hsd : 0 ≤ M 210 4 ∧ M 210 4 ≤ 63 := hG.1.2.2.2.2.1
      have hwk : 0 ≤ M 210 0 ∧ M 210 0 ≤ 100000 := hG.1.1
      have hpc6 := pcT_b (M 210 4)
      have hmy : mnY M = M 209 1 - pcT (M 210 4) := rfl
      refine r_ald0 dX10_order_21 ?_
      refine s_getR fi_X10_31 (sh_201) rfl dX10_order_22 ?_
      refine r_iconst dX10_order_25 ?_
      refine s_iald hM (sh_209) (by omega) (by decide) dX10_order_26 (fun g26 => ?_)
      try simp (disch := omega) only [Int.reduceToNat]
      refine r_ald0 dX10_order_27 ?_
      refine s_getR fi_X10_34 (sh_201) rfl dX10_order_28 ?_
      refine r_iconst dX10_order_31 ?_
      refine s_iald hM (sh_210) (by omega) (by decide) dX10_order_32 (fun g32 => ?_)
      try simp (disch := omega) only [Int.reduceToNat]
      refine s_callS1r hM (c_X10_bits E (by omega)) cs_X10_bits wM_X10_234 (Nat.le_of_ble_eq_true rfl) (by decide) dX10_order_33 (fun _ => ?_)
      refine r_isub dX10_order_36 ?_
      refine r_ist3 dX10_order_37 rfl ?_
      refine r_iconst dX10_order_38 ?_
      refine r_ist4 dX10_order_39 rfl ?_
      refine r_iconst dX10_order_41 ?_
      refine r_ist5 dX10_order_42 rfl ?_
      refine r_fgt2 ?_
      exact L44 8 _ _  (by omega) (by exact hT) (by exact hG) (by omega) (by show _ = M 209 1 ^ 0; rw [Int.pow_zero]) (by omega)
    refine r_ild2 dX10_order_19 ?_
    exact s_iret hM rfl dX10_order_20 (by unfold yOrder; first | (rw [if_neg (by omega), if_neg (by omega), if_pos (by omega)]; done) | (rw [if_neg (by omega), if_neg (by omega), if_neg (by omega)]; first | (rw [if_pos (by omega)]; done) | (rw [if_neg (by omega)]; done)) | ((repeat' split) <;> first | rfl | omega | (exfalso; omega))) (by unfold yOrder; first | (rw [if_neg (by omega), if_neg (by omega), if_pos (by omega)]; done) | (rw [if_neg (by omega), if_neg (by omega), if_neg (by omega)]; done) | ((repeat' split) <;> first | rfl | omega | (exfalso; omega)))
  refine r_iconst dX10_order_6 ?_
  refine r_goto 11 dX10_order_7 (by decide) ?_
  refine s_callV1r hM (c_X10_need E (by omega)) cv_X10_need wM_X10_194 (sh_201) rfl rfl (Nat.le_of_ble_eq_true rfl) (by decide) dX10_order_11 (fun _ => ?_)
  have hnd1 : (M 201 16 = 0 ∧ needV M 1 = -1000002) ∨ (¬ M 201 16 = 0 ∧ needV M 1 = 0) := by unfold needV; (repeat' split) <;> omega
  have hnd0 : (M 201 16 = 0 ∧ needV M 0 = -1000002) ∨ (¬ M 201 16 = 0 ∧ needV M 0 = -1000001) := by unfold needV; (repeat' split) <;> omega
  refine r_ist2 dX10_order_14 rfl ?_
  refine r_ild2 dX10_order_15 ?_
  refine r_if_ge 21 dX10_order_16 (by decide) (by omega) (fun c16 => ?_) (fun c16 => ?_)
  · skip
    obtain ⟨hd1, hT, hG, hNN⟩ := MD_g hD (by omega)
    have hn : 1 ≤ M 209 0 ∧ M 209 0 ≤ 5 := hT.1
    have hN : 1 ≤ M 209 1 ∧ M 209 1 ≤ 6 := hT.2.1
    have hra : 1 ≤ M 209 2 ∧ M 209 2 ≤ 60 := hT.2.2.1
    have hl : 0 ≤ M 210 1 ∧ M 210 1 ≤ 99 := hG.1.2.1
    have hh : 0 ≤ M 210 2 ∧ M 210 2 ≤ 999 := hG.1.2.2.1
    have hpr : 1 ≤ M 210 3 ∧ M 210 3 ≤ 9 := hG.1.2.2.2.1
    have hsd : 0 ≤ M 210 4 ∧ M 210 4 ≤ 63 := hG.1.2.2.2.2.1
    have hwk : 0 ≤ M 210 0 ∧ M 210 0 ≤ 100000 := hG.1.1
    have hpc6 := pcT_b (M 210 4)
    have hmy : mnY M = M 209 1 - pcT (M 210 4) := rfl
    refine r_ald0 dX10_order_21 ?_
    refine s_getR fi_X10_31 (sh_201) rfl dX10_order_22 ?_
    refine r_iconst dX10_order_25 ?_
    refine s_iald hM (sh_209) (by omega) (by decide) dX10_order_26 (fun g26 => ?_)
    try simp (disch := omega) only [Int.reduceToNat]
    refine r_ald0 dX10_order_27 ?_
    refine s_getR fi_X10_34 (sh_201) rfl dX10_order_28 ?_
    refine r_iconst dX10_order_31 ?_
    refine s_iald hM (sh_210) (by omega) (by decide) dX10_order_32 (fun g32 => ?_)
    try simp (disch := omega) only [Int.reduceToNat]
    refine s_callS1r hM (c_X10_bits E (by omega)) cs_X10_bits wM_X10_234 (Nat.le_of_ble_eq_true rfl) (by decide) dX10_order_33 (fun _ => ?_)
    refine r_isub dX10_order_36 ?_
    refine r_ist3 dX10_order_37 rfl ?_
    refine r_iconst dX10_order_38 ?_
    refine r_ist4 dX10_order_39 rfl ?_
    refine r_iconst dX10_order_41 ?_
    refine r_ist5 dX10_order_42 rfl ?_
    refine r_fgt2 ?_
    exact L44 8 _ _  (by omega) (by exact hT) (by exact hG) (by omega) (by show _ = M 209 1 ^ 0; rw [Int.pow_zero]) (by omega)
  refine r_ild2 dX10_order_19 ?_
  exact s_iret hM rfl dX10_order_20 (by unfold yOrder; first | (rw [if_neg (by omega), if_neg (by omega), if_pos (by omega)]; done) | (rw [if_neg (by omega), if_neg (by omega), if_neg (by omega)]; first | (rw [if_pos (by omega)]; done) | (rw [if_neg (by omega)]; done)) | ((repeat' split) <;> first | rfl | omega | (exfalso; omega))) (by unfold yOrder; first | (rw [if_neg (by omega), if_neg (by omega), if_pos (by omega)]; done) | (rw [if_neg (by omega), if_neg (by omega), if_neg (by omega)]; done) | ((repeat' split) <;> first | rfl | omega | (exfalso; omega)))
