set_option maxHeartbeats 4000000 in
theorem c_X10_says (E : xE) {M : xMem} {k : Nat} {s : Int} (hk : shp k = (1, 21, [])) (hk2 : 210 ≤ k) (hT : TI (tg (M 209))) (hS : SI (tg (M 209)) (sk (M k))) (hs : 0 ≤ s ∧ s < M 209 1) : Ct E mX10_says 5 3 [xr E 201, xr E k, xi s] M (some (xi (wolT (tg (M 209)) (sk (M k)) s))) (saM M k s) := by
  refine Ct.of 2 5 (by rfl) (by decide +kernel) (fun hM => ?_)
  have hn : 1 ≤ M 209 0 ∧ M 209 0 ≤ 5 := hT.1
  have hN : 1 ≤ M 209 1 ∧ M 209 1 ≤ 6 := hT.2.1
  have hra : 1 ≤ M 209 2 ∧ M 209 2 ≤ 60 := hT.2.2.1
  have hq : (1 ≤ tg (M 209) 2 s.toNat ∧ tg (M 209) 2 s.toNat ≤ 5) ∧ (0 ≤ tg (M 209) 3 s.toNat ∧ tg (M 209) 3 s.toNat < M 209 0) ∧ (1 ≤ tg (M 209) 4 s.toNat ∧ tg (M 209) 4 s.toNat ≤ 30) ∧ (0 ≤ tg (M 209) 5 s.toNat ∧ tg (M 209) 5 s.toNat ≤ s) := hT.2.2.2.2 s hs
  have e8 : M 209 (8 + s).toNat = tg (M 209) 2 s.toNat := ix8 (by omega)
  have e14 : M 209 (14 + s).toNat = tg (M 209) 3 s.toNat := ix14 (by omega)
  have e20 : M 209 (20 + s).toNat = tg (M 209) 4 s.toNat := ix20 (by omega)
  have hpu : (0 ≤ sk (M k) 1 (tg (M 209) 3 s.toNat).toNat ∧ sk (M k) 1 (tg (M 209) 3 s.toNat).toNat ≤ 99) ∧ (0 ≤ sk (M k) 2 (tg (M 209) 3 s.toNat).toNat ∧ sk (M k) 2 (tg (M 209) 3 s.toNat).toNat ≤ 99) := hS.2.2.2.2.2.1 _ hq.2.1
  have f5 : M k (5 + tg (M 209) 3 s.toNat).toNat = sk (M k) 1 (tg (M 209) 3 s.toNat).toNat := iy5 (by omega)
  have f10 : M k (10 + tg (M 209) 3 s.toNat).toNat = sk (M k) 2 (tg (M 209) 3 s.toNat).toNat := iy10 (by omega)
  have hl : 0 ≤ M k 1 ∧ M k 1 ≤ 99 := hS.2.1
  have hh : 0 ≤ M k 2 ∧ M k 2 ≤ 999 := hS.2.2.1
  have hpr : 1 ≤ M k 3 ∧ M k 3 ≤ 9 := hS.2.2.2.1
  have hsd : 0 ≤ M k 4 ∧ M k 4 ≤ 63 := hS.2.2.2.2.1
  have hwk : 0 ≤ M k 0 ∧ M k 0 ≤ 100000 := hS.1
  have hwd := words_b hT (s := s) hs
  have hwo := wol_b hT hS (s := s) hs
  have hcr := crn_b hT hS (s := s) hs
  have hp2 := p2_b (n := s) (by omega)
  have hrb := reachT_b (n := M 209 0) (k := tg (M 209) 2 s.toNat) (sp := tg (M 209) 3 s.toNat) (d := 0) (by omega) (by omega)
  have hor := xor2_63 (a := M k 4) (b := 1 * 2 ^ s.toNat) hsd (by have := p2_5 (n := s) (by omega); omega)
  show VS E mX10_says 3 _ _ 0 [some (xr E 201), some (xr E k), some (xi s), none, none] [] M
  refine r_ald0 dX10_says_0 ?_
  refine s_getR fi_X10_31 (sh_201) rfl dX10_says_1 ?_
  refine r_bipush dX10_says_4 (by decide +kernel) ?_
  refine r_ild2 dX10_says_6 ?_
  refine r_iadd dX10_says_7 ?_
  refine s_iald hM (sh_209) (by omega) (by decide) dX10_says_8 (fun g8 => ?_)
  try simp (disch := omega) only [e8, e14, e20, Int.reduceToNat, f5, f10]
  refine r_ist3 dX10_says_9 rfl ?_
  refine r_ald0 dX10_says_10 ?_
  refine r_ald1 dX10_says_11 ?_
  refine r_ild2 dX10_says_12 ?_
  refine s_callV2r hM (c_X10_rest E (by first | with_reducible assumption | with_reducible exact xSt_9 | with_reducible exact xSt_13 | omega) (by first | with_reducible assumption | with_reducible exact xSt_9 | with_reducible exact xSt_13 | omega) (by first | with_reducible assumption | with_reducible exact xSt_9 | with_reducible exact xSt_13 | omega) (by first | with_reducible assumption | with_reducible exact xSt_9 | with_reducible exact xSt_13 | omega)) cv_X10_rest wM_X10_161 (sh_201) rfl rfl (Nat.le_of_ble_eq_true rfl) (by decide) dX10_says_13 (fun _ => ?_)
  refine r_ist4 dX10_says_16 rfl ?_
  refine r_ald1 dX10_says_18 ?_
  refine r_iconst dX10_says_19 ?_
  refine r_ild3 dX10_says_20 ?_
  refine r_iadd dX10_says_21 ?_
  refine r_dup2 dX10_says_22 rfl rfl ?_
  refine s_iald hM (hk) (by omega) (by decide) dX10_says_23 (fun g23 => ?_)
  try simp (disch := omega) only [e8, e14, e20, Int.reduceToNat, f5, f10]
  refine r_ald0 dX10_says_24 ?_
  refine r_ald1 dX10_says_25 ?_
  refine r_ild2 dX10_says_26 ?_
  refine s_callV2r hM (c_X10_costs E (by first | with_reducible assumption | with_reducible exact xSt_9 | with_reducible exact xSt_13 | omega) (by first | with_reducible assumption | with_reducible exact xSt_9 | with_reducible exact xSt_13 | omega) (by first | with_reducible assumption | with_reducible exact xSt_9 | with_reducible exact xSt_13 | omega) (by first | with_reducible assumption | with_reducible exact xSt_9 | with_reducible exact xSt_13 | omega)) cv_X10_costs wM_X10_169 (sh_201) rfl rfl (Nat.le_of_ble_eq_true rfl) (by decide) dX10_says_27 (fun _ => ?_)
  refine r_isub dX10_says_30 ?_
  refine s_iast hM (hk) (by omega) (by decide) (by omega) dX10_says_31 (fun hM31 => ?_)
  refine r_ald1 dX10_says_32 ?_
  refine r_bipush dX10_says_33 (by decide +kernel) ?_
  refine r_ild3 dX10_says_35 ?_
  refine r_iadd dX10_says_36 ?_
  refine r_dup2 dX10_says_37 rfl rfl ?_
  refine s_iald hM31 (hk) (by omega) (by decide) dX10_says_38 (fun g38 => ?_)
  try simp (disch := omega) only [mS_ne, mS_eq, e8, e14, e20, Int.reduceToNat, f5, f10]
  refine r_ald0 dX10_says_39 ?_
  refine r_ild2 dX10_says_40 ?_
  refine s_callV1r hM31 (c_X10_words E (by rw [mS_row (by omega)]; exact hT) (by rw [mS_ne (Or.inl (by omega))]; exact hs)) cv_X10_words wM_X10_158 (sh_201) rfl rfl (Nat.le_of_ble_eq_true rfl) (by decide) dX10_says_41 (fun _ => ?_)
  rw [mS_row (by omega)]
  refine r_ild4 dX10_says_44 ?_
  refine r_isub dX10_says_46 ?_
  refine r_isub dX10_says_47 ?_
  refine s_iast hM31 (hk) (by omega) (by decide) (by omega) dX10_says_48 (fun hM48 => ?_)
  refine r_ald1 dX10_says_49 ?_
  refine r_iconst dX10_says_50 ?_
  refine r_dup2 dX10_says_51 rfl rfl ?_
  refine s_iald hM48 (hk) (by omega) (by decide) dX10_says_52 (fun g52 => ?_)
  try simp (disch := omega) only [mS_ne, mS_eq, e8, e14, e20, Int.reduceToNat, f5, f10]
  refine r_ild4 dX10_says_53 ?_
  refine r_isub dX10_says_55 ?_
  refine s_iast hM48 (hk) (by omega) (by decide) (by omega) dX10_says_56 (fun hM56 => ?_)
  refine r_ald1 dX10_says_57 ?_
  refine r_iconst dX10_says_58 ?_
  refine r_dup2 dX10_says_59 rfl rfl ?_
  refine s_iald hM56 (hk) (by omega) (by decide) dX10_says_60 (fun g60 => ?_)
  try simp (disch := omega) only [mS_ne, mS_eq, e8, e14, e20, Int.reduceToNat, f5, f10]
  refine r_iconst dX10_says_61 ?_
  refine r_ild2 dX10_says_62 ?_
  refine r_ishl dX10_says_63 (by omega) ?_
  refine r_ior dX10_says_64 (by omega) (by omega) (fun g64 => ?_)
  refine s_iast hM56 (hk) (by omega) (by decide) (by omega) dX10_says_65 (fun hM65 => ?_)
  refine r_ald1 dX10_says_66 ?_
  refine r_bipush dX10_says_67 (by decide +kernel) ?_
  refine r_ild2 dX10_says_69 ?_
  refine r_iadd dX10_says_70 ?_
  refine r_ald0 dX10_says_71 ?_
  refine r_ald0 dX10_says_72 ?_
  refine s_getR fi_X10_31 (sh_201) rfl dX10_says_73 ?_
  refine r_bipush dX10_says_76 (by decide +kernel) ?_
  refine r_ild2 dX10_says_78 ?_
  refine r_iadd dX10_says_79 ?_
  refine s_iald hM65 (sh_209) (by omega) (by decide) dX10_says_80 (fun g80 => ?_)
  try simp (disch := omega) only [mS_ne, mS_eq, e8, e14, e20, Int.reduceToNat, f5, f10]
  refine r_ild3 dX10_says_81 ?_
  refine r_iconst dX10_says_82 ?_
  refine s_callV3r hM65 (c_X10_firstTo E (by simp (disch := omega) only [mS_ne]; omega) (by first | with_reducible assumption | with_reducible exact xSt_9 | with_reducible exact xSt_13 | omega) (by simp (disch := omega) only [mS_ne]; omega) (by first | with_reducible assumption | with_reducible exact xSt_9 | with_reducible exact xSt_13 | omega)) cv_X10_firstTo wM_X10_180 (sh_201) rfl rfl (Nat.le_of_ble_eq_true rfl) (by decide) dX10_says_83 (fun _ => ?_)
  rw [mS_row (by omega), mS_row (by omega), mS_row (by omega), mS_row (by omega)]
  refine s_iast hM65 (hk) (by omega) (by decide) (by omega) dX10_says_86 (fun hM86 => ?_)
  refine r_ild4 dX10_says_87 ?_
  exact s_iret hM86 rfl dX10_says_89 (by rfl) (by rfl)
set_option maxHeartbeats 4000000 in
theorem c_X10_passes (E : xE) {M : xMem} {k : Nat} (hk : shp k = (1, 21, [])) (hk2 : 210 ≤ k) (hT : TI (tg (M 209))) (hS : SI (tg (M 209)) (sk (M k))) (hK : KI (tg (M 209)) (sk (M k))) : Ct E mX10_passes 3 3 [xr E 201, xr E k] M (none) (psM M k) := by
  refine Ct.of 1 3 (by rfl) (by decide +kernel) (fun hM => ?_)
  have hn : 1 ≤ M 209 0 ∧ M 209 0 ≤ 5 := hT.1
  have hN : 1 ≤ M 209 1 ∧ M 209 1 ≤ 6 := hT.2.1
  have hra : 1 ≤ M 209 2 ∧ M 209 2 ≤ 60 := hT.2.2.1
  have hl : 0 ≤ M k 1 ∧ M k 1 ≤ 99 := hS.2.1
  have hh : 0 ≤ M k 2 ∧ M k 2 ≤ 999 := hS.2.2.1
  have hpr : 1 ≤ M k 3 ∧ M k 3 ≤ 9 := hS.2.2.2.1
  have hsd : 0 ≤ M k 4 ∧ M k 4 ≤ 63 := hS.2.2.2.2.1
  have hwk : 0 ≤ M k 0 ∧ M k 0 ≤ 100000 := hS.1
  show VS E mX10_passes 3 _ _ 0 [some (xr E 201), some (xr E k), none] [] M
  have L90 : ∀ (fu : Nat) (p : Int) (Mc : xMem), InR Mc → (0 ≤ p ∧ p ≤ M 209 0) → (Mc = rngM (mS (mS (rngM M k 15 (pv1 (tg (M 209)) (M k)) (M 209 1)) k 2 (min 999 (M k 2 + M k 1))) k 1 (M 209 2)) k 5 (pv2 (tg (M 209)) (M k)) p) → (M 209 0 - p).toNat < fu → VS E mX10_passes 3 (none) (psM M k) 90 [some (xr E 201), some (xr E k), some (xi p)] [] Mc := by
    intro fu
    induction fu with
    | zero => intro p Mc hML90 hb hMc hme; exact absurd hme (Nat.not_lt_zero _)
    | succ fu ih =>
      intro p Mc hML90 hb hMc hme
      have w9 : ∀ j, Mc 209 j = M 209 j := fun j => by rw [hMc, rng_ne (by omega), mS_ne (Or.inl (by omega)), mS_ne (Or.inl (by omega)), rng_ne (by omega)]
      have wk : ∀ j : Nat, 5 + p ≤ (j : Int) → j < 15 → Mc k j = M k j := fun j h1 h2 => by rw [hMc, rng_out (by omega), mS_ne (Or.inr (by omega)), mS_ne (Or.inr (by omega)), rng_out (by omega)]
      have w0 : Mc k 0 = M k 0 := by rw [hMc, rng_out (by omega), mS_ne (Or.inr (by omega)), mS_ne (Or.inr (by omega)), rng_out (by omega)]
      refine r_ild2 dX10_passes_90 ?_
      refine r_ald0 dX10_passes_91 ?_
      refine s_getR fi_X10_31 (sh_201) rfl dX10_passes_92 ?_
      refine r_iconst dX10_passes_95 ?_
      refine s_iald hML90 (sh_209) (by omega) (by decide) dX10_passes_96 (fun g96 => ?_)
      try simp (disch := omega) only [Int.reduceToNat, w9]
      refine r_icmp_ge 130 dX10_passes_97 (by decide) (by omega) (by omega) (fun c97 => ?_) (fun c97 => ?_)
      · skip
        have hp1 : p = M 209 0 := by omega
        subst hp1
        refine r_ald1 dX10_passes_130 ?_
        refine r_iconst dX10_passes_131 ?_
        refine r_dup2 dX10_passes_132 rfl rfl ?_
        refine s_iald hML90 (hk) (by omega) (by decide) dX10_passes_133 (fun g133 => ?_)
        try simp (disch := omega) only [Int.reduceToNat, w9]
        simp only [w0]
        refine r_iconst dX10_passes_134 ?_
        refine r_iadd dX10_passes_135 ?_
        refine s_iast hML90 (hk) (by omega) (by decide) (by omega) dX10_passes_136 (fun hM136 => ?_)
        exact s_vret hM136 rfl dX10_passes_137 (by rw [hMc]; rfl)
      have hp : 0 ≤ p ∧ p < M 209 0 := by omega
      have hin : 0 ≤ M 209 (3 + p.toNat) ∧ M 209 (3 + p.toNat) ≤ 20 := hT.2.2.2.1 p hp
      have hpu : 0 ≤ M k (5 + p.toNat) ∧ M k (5 + p.toNat) ≤ 99 := (hS.2.2.2.2.2.1 p hp).1
      have e5 : (5 + p).toNat = 5 + p.toNat := by omega
      have e3 : (3 + p).toNat = 3 + p.toNat := by omega
      have w5 : Mc k (5 + p.toNat) = M k (5 + p.toNat) := wk _ (by omega) (by omega)
      refine r_ald1 dX10_passes_100 ?_
      refine r_iconst dX10_passes_101 ?_
      refine r_ild2 dX10_passes_102 ?_
      refine r_iadd dX10_passes_103 ?_
      refine r_ald1 dX10_passes_104 ?_
      refine r_iconst dX10_passes_105 ?_
      refine r_ild2 dX10_passes_106 ?_
      refine r_iadd dX10_passes_107 ?_
      refine s_iald hML90 (hk) (by omega) (by decide) dX10_passes_108 (fun g108 => ?_)
      try simp (disch := omega) only [Int.reduceToNat, w9]
      refine r_ald0 dX10_passes_109 ?_
      refine s_getR fi_X10_31 (sh_201) rfl dX10_passes_110 ?_
      refine r_iconst dX10_passes_113 ?_
      refine r_ild2 dX10_passes_114 ?_
      refine r_iadd dX10_passes_115 ?_
      refine s_iald hML90 (sh_209) (by omega) (by decide) dX10_passes_116 (fun g116 => ?_)
      try simp (disch := omega) only [Int.reduceToNat, w9]
      refine r_iadd dX10_passes_117 ?_
      simp only [e5, e3, w5, w9]
      refine r_bipush dX10_passes_118 (by decide +kernel) ?_
      refine s_callS2r hML90 (c_X10_capped E (by first | with_reducible assumption | with_reducible exact xSt_9 | with_reducible exact xSt_13 | omega) (by first | with_reducible assumption | with_reducible exact xSt_9 | with_reducible exact xSt_13 | omega)) cs_X10_capped wM_X10_187 (Nat.le_of_ble_eq_true rfl) (by decide) dX10_passes_120 (fun _ => ?_)
      refine s_iast hML90 (hk) (by omega) (by decide) (by omega) dX10_passes_123 (fun hM123 => ?_)
      refine r_iinc2 dX10_passes_124 rfl ?_
      refine r_goto 90 dX10_passes_127 (by decide) ?_
      exact ih (p + 1) _  hM123 (by omega) (by rw [hMc]; refine rng_s (by omega) ?_; rfl) (by omega)
  have L2 : ∀ (fu : Nat) (s : Int) (Mc : xMem), InR Mc → (0 ≤ s ∧ s ≤ M 209 1) → (Mc = rngM M k 15 (pv1 (tg (M 209)) (M k)) s) → (M 209 1 - s).toNat < fu → VS E mX10_passes 3 (none) (psM M k) 2 [some (xr E 201), some (xr E k), some (xi s)] [] Mc := by
    intro fu
    induction fu with
    | zero => intro s Mc hML2 hb hMc hme; exact absurd hme (Nat.not_lt_zero _)
    | succ fu ih =>
      intro s Mc hML2 hb hMc hme
      have w9 : ∀ j, Mc 209 j = M 209 j := fun j => by rw [hMc, rng_ne (by omega)]
      have wk : ∀ j : Nat, j < 15 ∨ 15 + s ≤ (j : Int) → Mc k j = M k j := fun j h1 => by rw [hMc, rng_out (by omega)]
      refine r_ild2 dX10_passes_2 ?_
      refine r_ald0 dX10_passes_3 ?_
      refine s_getR fi_X10_31 (sh_201) rfl dX10_passes_4 ?_
      refine r_iconst dX10_passes_7 ?_
      refine s_iald hML2 (sh_209) (by omega) (by decide) dX10_passes_8 (fun g8 => ?_)
      try simp (disch := omega) only [Int.reduceToNat, w9]
      refine r_icmp_ge 63 dX10_passes_9 (by decide) (by omega) (by omega) (fun c9 => ?_) (fun c9 => ?_)
      · skip
        have hs1 : s = M 209 1 := by omega
        subst hs1
        have u1 : Mc k 1 = M k 1 := wk 1 (by omega)
        have u2 : Mc k 2 = M k 2 := wk 2 (by omega)
        refine r_ald1 dX10_passes_63 ?_
        refine r_iconst dX10_passes_64 ?_
        refine r_ald1 dX10_passes_65 ?_
        refine r_iconst dX10_passes_66 ?_
        refine s_iald hML2 (hk) (by omega) (by decide) dX10_passes_67 (fun g67 => ?_)
        try simp (disch := omega) only [Int.reduceToNat, w9]
        refine r_ald1 dX10_passes_68 ?_
        refine r_iconst dX10_passes_69 ?_
        refine s_iald hML2 (hk) (by omega) (by decide) dX10_passes_70 (fun g70 => ?_)
        try simp (disch := omega) only [Int.reduceToNat, w9]
        refine r_iadd dX10_passes_71 ?_
        refine r_sipush dX10_passes_72 (by decide +kernel) ?_
        simp only [u1, u2]
        refine s_callS2r hML2 (c_X10_capped E (by first | with_reducible assumption | with_reducible exact xSt_9 | with_reducible exact xSt_13 | omega) (by first | with_reducible assumption | with_reducible exact xSt_9 | with_reducible exact xSt_13 | omega)) cs_X10_capped wM_X10_187 (Nat.le_of_ble_eq_true rfl) (by decide) dX10_passes_75 (fun _ => ?_)
        refine s_iast hML2 (hk) (by omega) (by decide) (by omega) dX10_passes_78 (fun hM78 => ?_)
        refine r_ald1 dX10_passes_79 ?_
        refine r_iconst dX10_passes_80 ?_
        refine r_ald0 dX10_passes_81 ?_
        refine s_getR fi_X10_31 (sh_201) rfl dX10_passes_82 ?_
        refine r_iconst dX10_passes_85 ?_
        refine s_iald hM78 (sh_209) (by omega) (by decide) dX10_passes_86 (fun g86 => ?_)
        try simp (disch := omega) only [Int.reduceToNat, w9]
        simp (disch := omega) only [mS_ne, w9]
        refine s_iast hM78 (hk) (by omega) (by decide) (by omega) dX10_passes_87 (fun hM87 => ?_)
        refine r_iconst dX10_passes_88 ?_
        refine r_ist2 dX10_passes_89 rfl ?_
        exact L90 6 0 _  hM87 (by omega) (by rw [hMc]; exact rng_0 _ _ _ _) (by omega)
      have hs : 0 ≤ s ∧ s < M 209 1 := by omega
      have hq2 : 1 ≤ tg (M 209) 2 s.toNat ∧ tg (M 209) 2 s.toNat ≤ 5 := (hT.2.2.2.2 s hs).1
      have e8 : M 209 (8 + s).toNat = tg (M 209) 2 s.toNat := ix8 (by omega)
      have hkn : 0 ≤ M k (15 + s.toNat) := (hS.2.2.2.2.2.2 s hs).1
      have hkk : M k (15 + s.toNat) < 2 ^ (M 209 0).toNat := (hK s hs).1
      have h5 := p2_5 (n := M 209 0) (by omega)
      have e15 : (15 + s).toNat = 15 + s.toNat := by omega
      have w4 : Mc k 4 = M k 4 := wk 4 (by omega)
      have w15 : Mc k (15 + s.toNat) = M k (15 + s.toNat) := wk _ (by omega)
      refine r_ald1 dX10_passes_12 ?_
      refine r_bipush dX10_passes_13 (by decide +kernel) ?_
      refine r_ild2 dX10_passes_15 ?_
      refine r_iadd dX10_passes_16 ?_
      refine r_ald1 dX10_passes_17 ?_
      refine r_iconst dX10_passes_18 ?_
      refine s_iald hML2 (hk) (by omega) (by decide) dX10_passes_19 (fun g19 => ?_)
      try simp (disch := omega) only [Int.reduceToNat, w9]
      refine r_ild2 dX10_passes_20 ?_
      refine s_callS2r hML2 (c_X10_has E (by first | with_reducible assumption | with_reducible exact xSt_9 | with_reducible exact xSt_13 | omega) (by first | with_reducible assumption | with_reducible exact xSt_9 | with_reducible exact xSt_13 | omega)) cs_X10_has wM_X10_165 (Nat.le_of_ble_eq_true rfl) (by decide) dX10_passes_21 (fun _ => ?_)
      rw [w4] at *
      refine r_ifb_eq 50 dX10_passes_24 (by decide) (fun c24 => ?_) (fun c24 => ?_)
      · skip
        refine r_ald1 dX10_passes_50 ?_
        refine r_bipush dX10_passes_51 (by decide +kernel) ?_
        refine r_ild2 dX10_passes_53 ?_
        refine r_iadd dX10_passes_54 ?_
        refine s_iald hML2 (hk) (by omega) (by decide) dX10_passes_55 (fun g55 => ?_)
        try simp (disch := omega) only [Int.reduceToNat, w9]
        try simp only [e15, w15]
        have hob := onwT_b (n := M 209 0) (k := tg (M 209) 2 s.toNat) (a := M k (15 + s.toNat)) (d := 0) (w := 1) (by omega) (by omega)
        refine s_iast hML2 (hk) (by omega) (by decide) (by omega) dX10_passes_56 (fun hM56 => ?_)
        refine r_iinc2 dX10_passes_57 rfl ?_
        refine r_goto 2 dX10_passes_60 (by decide) ?_
        exact ih (s + 1) _  hM56 (by omega) (by rw [hMc]; refine rng_s (by omega) ?_; unfold pv1; rw [show ((s.toNat : Nat) : Int) = s by omega]; first | (rw [if_pos c24]; rfl) | (rw [if_neg c24]; done)) (by omega)
      refine r_ald0 dX10_passes_27 ?_
      skip
      refine r_ald0 dX10_passes_28 ?_
      refine s_getR fi_X10_31 (sh_201) rfl dX10_passes_29 ?_
      refine r_bipush dX10_passes_32 (by decide +kernel) ?_
      refine r_ild2 dX10_passes_34 ?_
      refine r_iadd dX10_passes_35 ?_
      refine s_iald hML2 (sh_209) (by omega) (by decide) dX10_passes_36 (fun g36 => ?_)
      try simp (disch := omega) only [Int.reduceToNat, w9]
      refine r_ald1 dX10_passes_37 ?_
      refine r_bipush dX10_passes_38 (by decide +kernel) ?_
      refine r_ild2 dX10_passes_40 ?_
      refine r_iadd dX10_passes_41 ?_
      refine s_iald hML2 (hk) (by omega) (by decide) dX10_passes_42 (fun g42 => ?_)
      try simp (disch := omega) only [Int.reduceToNat, w9]
      simp only [w9, e8, e15, w15]
      refine r_iconst dX10_passes_43 ?_
      refine s_callV3r hML2 (c_X10_onward E (by rw [w9]; exact hn) (by omega) (by rw [w9]; omega) (by omega)) cv_X10_onward wM_X10_184 (sh_201) rfl rfl (Nat.le_of_ble_eq_true rfl) (by decide) dX10_passes_44 (fun _ => ?_)
      simp only [w9]
      refine r_goto 56 dX10_passes_47 (by decide) ?_
      try simp only [e15, w15]
      have hob := onwT_b (n := M 209 0) (k := tg (M 209) 2 s.toNat) (a := M k (15 + s.toNat)) (d := 0) (w := 1) (by omega) (by omega)
      refine s_iast hML2 (hk) (by omega) (by decide) (by omega) dX10_passes_56 (fun hM56 => ?_)
      refine r_iinc2 dX10_passes_57 rfl ?_
      refine r_goto 2 dX10_passes_60 (by decide) ?_
      exact ih (s + 1) _  hM56 (by omega) (by rw [hMc]; refine rng_s (by omega) ?_; unfold pv1; rw [show ((s.toNat : Nat) : Int) = s by omega]; first | (rw [if_pos c24]; rfl) | (rw [if_neg c24]; done)) (by omega)
  refine r_iconst dX10_passes_0 ?_
  refine r_ist2 dX10_passes_1 rfl ?_
  exact L2 7 0 _  hM (by omega) (by exact rng_0 _ _ _ _) (by omega)
