set_option maxHeartbeats 4000000 in
theorem c_X6_knownTo (E : xE) {M : xMem} {k : Nat} {p : Int} (hk : xSt k) (hT : TI (tw M)) (hS : SI (tw M) (sv M k)) (hp : 0 ≤ p ∧ p < M 3 6) : Ct E mX6_knownTo 4 0 [xr E k, xi p] M (some (xi (knownToT (tw M) (sv M k) p))) (M) := by
  refine Ct.of 2 4 (by rfl) (by decide +kernel) (fun hM => ?_)
  have hn : 1 ≤ M 3 6 ∧ M 3 6 ≤ 5 := hT.1
  have hN : 1 ≤ M 3 7 ∧ M 3 7 ≤ 6 := hT.2.1
  have hr : 1 ≤ M 3 5 ∧ M 3 5 ≤ 60 := hT.2.2.1
  have hl : 0 ≤ M k 5 ∧ M k 5 ≤ 99 := hS.2.1
  have hh : 0 ≤ M k 6 ∧ M k 6 ≤ 999 := hS.2.2.1
  have hpr : 1 ≤ M k 7 ∧ M k 7 ≤ 9 := hS.2.2.2.1
  have hsd : 0 ≤ M k 8 ∧ M k 8 ≤ 63 := hS.2.2.2.2.1
  have hwk : 0 ≤ M k 4 ∧ M k 4 ≤ 100000 := hS.1
  have hpp := p2_4 (n := p) (by omega)
  show VS E mX6_knownTo 0 _ _ 0 [some (xr E k), some (xi p), none, none] [] M
  have L4 : ∀ (fu : Nat) (a s : Int), (0 ≤ s ∧ s ≤ M 3 7) → (foldI (fun s a => xor2 a (bitI (sv M k 3 s.toNat) p * 2 ^ s.toNat)) (M 3 7 - s).toNat s a = knownToT (tw M) (sv M k) p) → (0 ≤ a ∧ a ≤ 63) → (M 3 7 - s).toNat < fu → VS E mX6_knownTo 0 (some (xi (knownToT (tw M) (sv M k) p))) (M) 4 [some (xr E k), some (xi p), some (xi a), some (xi s)] [] M := by
    intro fu
    induction fu with
    | zero => intro a s  hb hi ha hme; exact absurd hme (Nat.not_lt_zero _)
    | succ fu ih =>
      intro a s  hb hi ha hme
      refine r_ild3 dX6_knownTo_4 ?_
      refine r_ald0 dX6_knownTo_5 ?_
      refine s_getR fi_X6_21 (hk.1) rfl dX6_knownTo_6 ?_
      refine s_getI hM fi_X6_95 (sh_3) rfl dX6_knownTo_9 (fun g9 => ?_)
      refine r_icmp_ge 36 dX6_knownTo_12 (by decide) (by omega) (by omega) (fun c12 => ?_) (fun c12 => ?_)
      · skip
        refine r_ild2 dX6_knownTo_36 ?_
        exact s_iret hM rfl dX6_knownTo_37 (by exact (foldI_end (by omega)).symm.trans hi) (by rfl)
      have hs : 0 ≤ s ∧ s < M 3 7 := by omega
      have hkn : 0 ≤ M (k + 3) s.toNat ∧ M (k + 3) s.toNat ≤ 31 := hS.2.2.2.2.2.2 s hs
      have hdv := div_b (a := M (k + 3) s.toNat) (A := 31) (b := 2 ^ p.toNat) hkn hpp.1
      have hm : 0 ≤ xand (M (k + 3) s.toNat / 2 ^ p.toNat) 1 * 2 ^ s.toNat ∧ xand (M (k + 3) s.toNat / 2 ^ p.toNat) 1 * 2 ^ s.toNat ≤ 32 := bitI_mul (x := M (k + 3) s.toNat) (p := p) (s := s) (by omega)
      have hx := xor2_63 (a := a) (b := xand (M (k + 3) s.toNat / 2 ^ p.toNat) 1 * 2 ^ s.toNat) ha (by omega)
      refine r_ild2 dX6_knownTo_15 ?_
      refine r_ald0 dX6_knownTo_16 ?_
      refine s_getR fi_X6_18 (hk.1) rfl dX6_knownTo_17 ?_
      refine r_ild3 dX6_knownTo_20 ?_
      refine s_iald hM (hk.2.2.2.1) (by omega) (by decide) dX6_knownTo_21 (fun g21 => ?_)
      refine r_ild1 dX6_knownTo_22 ?_
      refine r_ishr dX6_knownTo_23 (by omega) (by omega) ?_
      refine r_iconst dX6_knownTo_24 ?_
      refine r_iand dX6_knownTo_25 (by omega) (by omega) (fun g25 => ?_)
      refine r_ild3 dX6_knownTo_26 ?_
      refine r_ishl dX6_knownTo_27 (by omega) ?_
      refine r_ior dX6_knownTo_28 (by omega) (by omega) (fun g28 => ?_)
      refine r_ist2 dX6_knownTo_29 rfl ?_
      refine r_iinc3 dX6_knownTo_30 rfl ?_
      refine r_goto 4 dX6_knownTo_33 (by decide) ?_
      exact ih _ _  (by omega) (by exact foldI_go (by omega) hi rfl) (by exact hx) (by omega)
  refine r_iconst dX6_knownTo_0 ?_
  refine r_ist2 dX6_knownTo_1 rfl ?_
  refine r_iconst dX6_knownTo_2 ?_
  refine r_ist3 dX6_knownTo_3 rfl ?_
  exact L4 ((M 3 7).toNat + 1) _ _  (by omega) (by exact foldI_0.symm) (by omega) (by omega)
set_option maxHeartbeats 4000000 in
theorem c_X6_understoodBy (E : xE) {M : xMem} {k : Nat} {set : Int} (hk : xSt k) (hT : TI (tw M)) (hS : SI (tw M) (sv M k)) (hset : 0 ≤ set ∧ set ≤ 31) : Ct E mX6_understoodBy 4 1 [xr E k, xi set] M (some (xi (undByT (tw M) (sv M k) set))) (M) := by
  refine Ct.of 2 4 (by rfl) (by decide +kernel) (fun hM => ?_)
  have hn : 1 ≤ M 3 6 ∧ M 3 6 ≤ 5 := hT.1
  have hN : 1 ≤ M 3 7 ∧ M 3 7 ≤ 6 := hT.2.1
  have hr : 1 ≤ M 3 5 ∧ M 3 5 ≤ 60 := hT.2.2.1
  have hl : 0 ≤ M k 5 ∧ M k 5 ≤ 99 := hS.2.1
  have hh : 0 ≤ M k 6 ∧ M k 6 ≤ 999 := hS.2.2.1
  have hpr : 1 ≤ M k 7 ∧ M k 7 ≤ 9 := hS.2.2.2.1
  have hsd : 0 ≤ M k 8 ∧ M k 8 ≤ 63 := hS.2.2.2.2.1
  have hwk : 0 ≤ M k 4 ∧ M k 4 ≤ 100000 := hS.1
  show VS E mX6_understoodBy 1 _ _ 0 [some (xr E k), some (xi set), none, none] [] M
  have L4 : ∀ (fu : Nat) (a s : Int), (0 ≤ s ∧ s ≤ M 3 7) → (foldI (fun s a => if xand (understT (tw M) (sv M k) s) set = set then xor2 a (1 * 2 ^ s.toNat) else a) (M 3 7 - s).toNat s a = undByT (tw M) (sv M k) set) → (0 ≤ a ∧ a ≤ 63) → (M 3 7 - s).toNat < fu → VS E mX6_understoodBy 1 (some (xi (undByT (tw M) (sv M k) set))) (M) 4 [some (xr E k), some (xi set), some (xi a), some (xi s)] [] M := by
    intro fu
    induction fu with
    | zero => intro a s  hb hi ha hme; exact absurd hme (Nat.not_lt_zero _)
    | succ fu ih =>
      intro a s  hb hi ha hme
      refine r_ild3 dX6_understoodBy_4 ?_
      refine r_ald0 dX6_understoodBy_5 ?_
      refine s_getR fi_X6_21 (hk.1) rfl dX6_understoodBy_6 ?_
      refine s_getI hM fi_X6_95 (sh_3) rfl dX6_understoodBy_9 (fun g9 => ?_)
      refine r_icmp_ge 38 dX6_understoodBy_12 (by decide) (by omega) (by omega) (fun c12 => ?_) (fun c12 => ?_)
      · skip
        refine r_ild2 dX6_understoodBy_38 ?_
        exact s_iret hM rfl dX6_understoodBy_39 (by exact (foldI_end (by omega)).symm.trans hi) (by rfl)
      have hs : 0 ≤ s ∧ s < M 3 7 := by omega
      have hun := underst_b hT hS hs
      have hp2 := p2_5 (n := s) (by omega)
      have hx := xor2_63 (a := a) (b := 1 * 2 ^ s.toNat) ha (by omega)
      refine r_ald0 dX6_understoodBy_15 ?_
      refine r_ild3 dX6_understoodBy_16 ?_
      refine s_callV1r hM (c_X6_understanders E (by first | with_reducible assumption | with_reducible exact xSt_9 | with_reducible exact xSt_13 | omega) (by first | with_reducible assumption | with_reducible exact xSt_9 | with_reducible exact xSt_13 | omega) (by first | with_reducible assumption | with_reducible exact xSt_9 | with_reducible exact xSt_13 | omega) (by first | with_reducible assumption | with_reducible exact xSt_9 | with_reducible exact xSt_13 | omega)) cv_X6_understanders wM_X6_119 (hk.1) rfl rfl (Nat.le_of_ble_eq_true rfl) (by decide) dX6_understoodBy_17 (fun _ => ?_)
      refine r_ild1 dX6_understoodBy_20 ?_
      refine r_iand dX6_understoodBy_21 (by omega) (by omega) (fun g21 => ?_)
      refine r_ild1 dX6_understoodBy_22 ?_
      refine r_icmp_ne 32 dX6_understoodBy_23 (by decide) (by omega) (by omega) (fun c23 => ?_) (fun c23 => ?_)
      · skip
        refine r_iinc3 dX6_understoodBy_32 rfl ?_
        refine r_goto 4 dX6_understoodBy_35 (by decide) ?_
        exact ih _ _  (by omega) (by exact foldI_go (by omega) hi (by first | exact if_pos (by assumption) | exact if_neg (by assumption))) (by first | exact ha | exact hx) (by omega)
      refine r_ild2 dX6_understoodBy_26 ?_
      refine r_iconst dX6_understoodBy_27 ?_
      refine r_ild3 dX6_understoodBy_28 ?_
      refine r_ishl dX6_understoodBy_29 (by omega) ?_
      refine r_ior dX6_understoodBy_30 (by omega) (by omega) (fun g30 => ?_)
      refine r_ist2 dX6_understoodBy_31 rfl ?_
      refine r_iinc3 dX6_understoodBy_32 rfl ?_
      refine r_goto 4 dX6_understoodBy_35 (by decide) ?_
      exact ih _ _  (by omega) (by exact foldI_go (by omega) hi (by first | exact if_pos (by assumption) | exact if_neg (by assumption))) (by first | exact ha | exact hx) (by omega)
  refine r_iconst dX6_understoodBy_0 ?_
  refine r_ist2 dX6_understoodBy_1 rfl ?_
  refine r_iconst dX6_understoodBy_2 ?_
  refine r_ist3 dX6_understoodBy_3 rfl ?_
  exact L4 ((M 3 7).toNat + 1) _ _  (by omega) (by exact foldI_0.symm) (by omega) (by omega)
set_option maxHeartbeats 4000000 in
theorem c_X6_understandersOfAll (E : xE) {M : xMem} {k : Nat} {set : Int} (hk : xSt k) (hT : TI (tw M)) (hS : SI (tw M) (sv M k)) (hset : 0 ≤ set ∧ set ≤ 63) : Ct E mX6_understandersOfAll 4 1 [xr E k, xi set] M (some (xi (undAllT (tw M) (sv M k) set))) (M) := by
  refine Ct.of 2 4 (by rfl) (by decide +kernel) (fun hM => ?_)
  have hn : 1 ≤ M 3 6 ∧ M 3 6 ≤ 5 := hT.1
  have hN : 1 ≤ M 3 7 ∧ M 3 7 ≤ 6 := hT.2.1
  have hr : 1 ≤ M 3 5 ∧ M 3 5 ≤ 60 := hT.2.2.1
  have hl : 0 ≤ M k 5 ∧ M k 5 ≤ 99 := hS.2.1
  have hh : 0 ≤ M k 6 ∧ M k 6 ≤ 999 := hS.2.2.1
  have hpr : 1 ≤ M k 7 ∧ M k 7 ≤ 9 := hS.2.2.2.1
  have hsd : 0 ≤ M k 8 ∧ M k 8 ≤ 63 := hS.2.2.2.2.1
  have hwk : 0 ≤ M k 4 ∧ M k 4 ≤ 100000 := hS.1
  have h5 := p2_5 (n := M 3 6) (by omega)
  show VS E mX6_understandersOfAll 1 _ _ 0 [some (xr E k), some (xi set), none, none] [] M
  have L10 : ∀ (fu : Nat) (a s : Int), (0 ≤ s ∧ s ≤ M 3 7) → (foldI (fun s a => if bitI set s = 1 then xand a (understT (tw M) (sv M k) s) else a) (M 3 7 - s).toNat s a = undAllT (tw M) (sv M k) set) → (0 ≤ a ∧ a ≤ 31) → (M 3 7 - s).toNat < fu → VS E mX6_understandersOfAll 1 (some (xi (undAllT (tw M) (sv M k) set))) (M) 10 [some (xr E k), some (xi set), some (xi a), some (xi s)] [] M := by
    intro fu
    induction fu with
    | zero => intro a s  hb hi ha hme; exact absurd hme (Nat.not_lt_zero _)
    | succ fu ih =>
      intro a s  hb hi ha hme
      refine r_ild3 dX6_understandersOfAll_10 ?_
      refine r_ald0 dX6_understandersOfAll_11 ?_
      refine s_getR fi_X6_21 (hk.1) rfl dX6_understandersOfAll_12 ?_
      refine s_getI hM fi_X6_95 (sh_3) rfl dX6_understandersOfAll_15 (fun g15 => ?_)
      refine r_icmp_ge 44 dX6_understandersOfAll_18 (by decide) (by omega) (by omega) (fun c18 => ?_) (fun c18 => ?_)
      · skip
        refine r_ild2 dX6_understandersOfAll_44 ?_
        exact s_iret hM rfl dX6_understandersOfAll_45 (by exact (foldI_end (by omega)).symm.trans hi) (by rfl)
      have hs : 0 ≤ s ∧ s < M 3 7 := by omega
      have hun := underst_b hT hS hs
      have hp2 := p2_5 (n := s) (by omega)
      have hdv := div_b (a := set) (A := 63) (b := 2 ^ s.toNat) hset hp2.1
      have hx := xand_bl (a := a) (B := 31) (b := understT (tw M) (sv M k) s) ha
      refine r_ild1 dX6_understandersOfAll_21 ?_
      refine r_ild3 dX6_understandersOfAll_22 ?_
      refine r_ishr dX6_understandersOfAll_23 (by omega) (by omega) ?_
      refine r_iconst dX6_understandersOfAll_24 ?_
      refine r_iand dX6_understandersOfAll_25 (by omega) (by omega) (fun g25 => ?_)
      refine r_iconst dX6_understandersOfAll_26 ?_
      refine r_icmp_ne 38 dX6_understandersOfAll_27 (by decide) (by omega) (by omega) (fun c27 => ?_) (fun c27 => ?_)
      · skip
        refine r_iinc3 dX6_understandersOfAll_38 rfl ?_
        refine r_goto 10 dX6_understandersOfAll_41 (by decide) ?_
        exact ih _ _  (by omega) (by exact foldI_go (by omega) hi (by dsimp only [bitI]; first | exact if_pos (by assumption) | exact if_neg (by assumption))) (by first | exact ha | exact hx) (by omega)
      refine r_ild2 dX6_understandersOfAll_30 ?_
      refine r_ald0 dX6_understandersOfAll_31 ?_
      refine r_ild3 dX6_understandersOfAll_32 ?_
      refine s_callV1r hM (c_X6_understanders E (by first | with_reducible assumption | with_reducible exact xSt_9 | with_reducible exact xSt_13 | omega) (by first | with_reducible assumption | with_reducible exact xSt_9 | with_reducible exact xSt_13 | omega) (by first | with_reducible assumption | with_reducible exact xSt_9 | with_reducible exact xSt_13 | omega) (by first | with_reducible assumption | with_reducible exact xSt_9 | with_reducible exact xSt_13 | omega)) cv_X6_understanders wM_X6_119 (hk.1) rfl rfl (Nat.le_of_ble_eq_true rfl) (by decide) dX6_understandersOfAll_33 (fun _ => ?_)
      refine r_iand dX6_understandersOfAll_36 (by omega) (by omega) (fun g36 => ?_)
      refine r_ist2 dX6_understandersOfAll_37 rfl ?_
      refine r_iinc3 dX6_understandersOfAll_38 rfl ?_
      refine r_goto 10 dX6_understandersOfAll_41 (by decide) ?_
      exact ih _ _  (by omega) (by exact foldI_go (by omega) hi (by dsimp only [bitI]; first | exact if_pos (by assumption) | exact if_neg (by assumption))) (by first | exact ha | exact hx) (by omega)
  refine r_ald0 dX6_understandersOfAll_0 ?_
  refine s_getR fi_X6_21 (hk.1) rfl dX6_understandersOfAll_1 ?_
  refine s_callV0r hM (c_X8_everyone E (by first | with_reducible assumption | with_reducible exact xSt_9 | with_reducible exact xSt_13 | omega)) cv_X8_everyone wM_X6_115 (sh_3) rfl rfl (Nat.le_of_ble_eq_true rfl) (by decide) dX6_understandersOfAll_4 (fun _ => ?_)
  refine r_ist2 dX6_understandersOfAll_7 rfl ?_
  refine r_iconst dX6_understandersOfAll_8 ?_
  refine r_ist3 dX6_understandersOfAll_9 rfl ?_
  exact L10 ((M 3 7).toNat + 1) _ _  (by omega) (by exact foldI_0.symm) (by omega) (by omega)
set_option maxHeartbeats 4000000 in
theorem c_X6_passedOn (E : xE) {M : xMem} {k : Nat} {s deaf w : Int} (hk : xSt k) (hT : TI (tw M)) (hS : SI (tw M) (sv M k)) (hs : 0 ≤ s ∧ s < M 3 7) (hdf : 0 ≤ deaf ∧ deaf ≤ 31) (hw : 0 ≤ w ∧ w ≤ 1000) : Ct E mX6_passedOn 7 3 [xr E k, xi s, xi deaf, xi w] M (some (xi (passT (tw M) (sv M k) s deaf w))) (M) := by
  refine Ct.of 3 7 (by rfl) (by decide +kernel) (fun hM => ?_)
  have hn : 1 ≤ M 3 6 ∧ M 3 6 ≤ 5 := hT.1
  have hN : 1 ≤ M 3 7 ∧ M 3 7 ≤ 6 := hT.2.1
  have hr : 1 ≤ M 3 5 ∧ M 3 5 ≤ 60 := hT.2.2.1
  have hq : (1 ≤ M 5 s.toNat ∧ M 5 s.toNat ≤ 5) ∧ (0 ≤ M 6 s.toNat ∧ M 6 s.toNat < M 3 6) ∧ (1 ≤ M 7 s.toNat ∧ M 7 s.toNat ≤ 30) ∧ (0 ≤ M 8 s.toNat ∧ M 8 s.toNat ≤ s) := hT.2.2.2.2 s hs
  have hl : 0 ≤ M k 5 ∧ M k 5 ≤ 99 := hS.2.1
  have hh : 0 ≤ M k 6 ∧ M k 6 ≤ 999 := hS.2.2.1
  have hpr : 1 ≤ M k 7 ∧ M k 7 ≤ 9 := hS.2.2.2.1
  have hsd : 0 ≤ M k 8 ∧ M k 8 ≤ 63 := hS.2.2.2.2.1
  have hwk : 0 ≤ M k 4 ∧ M k 4 ≤ 100000 := hS.1
  have hkn : 0 ≤ M (k + 3) s.toNat ∧ M (k + 3) s.toNat ≤ 31 := hS.2.2.2.2.2.2 s hs
  have hp2 := p2_4 (n := M 6 s.toNat) (by omega)
  have hea := xbnd_31 (a := deaf) (b := 1 * 2 ^ (M 6 s.toNat).toNat) hdf
  have hrb := reachT_b (n := M 3 6) (k := M 5 s.toNat) (sp := M 6 s.toNat) (d := xbnd deaf (1 * 2 ^ (M 6 s.toNat).toNat)) (by omega) (by omega)
  have e : passT (tw M) (sv M k) s deaf w = onwT (M 3 6) (M 5 s.toNat) (if bitI (M k 8) s = 1 then M (k + 3) s.toNat else reachT (M 3 6) (M 5 s.toNat) (M 6 s.toNat) (xbnd deaf (1 * 2 ^ (M 6 s.toNat).toNat))) (xbnd deaf (1 * 2 ^ (M 6 s.toNat).toNat)) w := rfl
  show VS E mX6_passedOn 3 _ _ 0 [some (xr E k), some (xi s), some (xi deaf), some (xi w), none, none, none] [] M
  refine r_ald0 dX6_passedOn_0 ?_
  refine s_getR fi_X6_21 (hk.1) rfl dX6_passedOn_1 ?_
  refine s_getR fi_X6_53 (sh_3) rfl dX6_passedOn_4 ?_
  refine r_ild1 dX6_passedOn_7 ?_
  refine s_iald hM (sh_6) (by omega) (by decide) dX6_passedOn_8 (fun g8 => ?_)
  refine r_ist4 dX6_passedOn_9 rfl ?_
  refine r_ild2 dX6_passedOn_11 ?_
  refine r_iconst dX6_passedOn_12 ?_
  refine r_ild4 dX6_passedOn_13 ?_
  refine r_ishl dX6_passedOn_15 (by omega) ?_
  refine r_iconst dX6_passedOn_16 ?_
  refine r_inot dX6_passedOn_17 ?_
  refine r_iandn dX6_passedOn_18 (by omega) (by omega) (fun g18 => ?_)
  refine r_ist5 dX6_passedOn_19 rfl ?_
  refine r_ald0 dX6_passedOn_21 ?_
  refine r_ild1 dX6_passedOn_22 ?_
  refine s_callV1r hM (c_X6_isSaid E (by first | with_reducible assumption | with_reducible exact xSt_9 | with_reducible exact xSt_13 | omega) (by first | with_reducible assumption | with_reducible exact xSt_9 | with_reducible exact xSt_13 | omega) (by first | with_reducible assumption | with_reducible exact xSt_9 | with_reducible exact xSt_13 | omega)) cv_X6_isSaid wM_X6_71 (hk.1) rfl rfl (Nat.le_of_ble_eq_true rfl) (by decide) dX6_passedOn_23 (fun _ => ?_)
  refine r_ifb_eq 38 dX6_passedOn_26 (by decide) (fun c26 => ?_) (fun c26 => ?_)
  · skip
    refine r_ald0 dX6_passedOn_38 ?_
    refine s_getR fi_X6_21 (hk.1) rfl dX6_passedOn_39 ?_
    refine r_ald0 dX6_passedOn_42 ?_
    refine s_getR fi_X6_21 (hk.1) rfl dX6_passedOn_43 ?_
    refine s_getR fi_X6_62 (sh_3) rfl dX6_passedOn_46 ?_
    refine r_ild1 dX6_passedOn_49 ?_
    refine s_iald hM (sh_5) (by omega) (by decide) dX6_passedOn_50 (fun g50 => ?_)
    refine r_ild4 dX6_passedOn_51 ?_
    refine r_ild5 dX6_passedOn_53 ?_
    refine s_callV3r hM (c_X8_reachedBySaying E (by first | with_reducible assumption | with_reducible exact xSt_9 | with_reducible exact xSt_13 | omega) (by first | with_reducible assumption | with_reducible exact xSt_9 | with_reducible exact xSt_13 | omega) (by first | with_reducible assumption | with_reducible exact xSt_9 | with_reducible exact xSt_13 | omega) (by first | with_reducible assumption | with_reducible exact xSt_9 | with_reducible exact xSt_13 | omega)) cv_X8_reachedBySaying wM_X6_78 (sh_3) rfl rfl (Nat.le_of_ble_eq_true rfl) (by decide) dX6_passedOn_55 (fun _ => ?_)
    refine r_ist6 dX6_passedOn_58 rfl ?_
    refine r_ald0 dX6_passedOn_60 ?_
    refine s_getR fi_X6_21 (hk.1) rfl dX6_passedOn_61 ?_
    refine r_ald0 dX6_passedOn_64 ?_
    refine s_getR fi_X6_21 (hk.1) rfl dX6_passedOn_65 ?_
    refine s_getR fi_X6_62 (sh_3) rfl dX6_passedOn_68 ?_
    refine r_ild1 dX6_passedOn_71 ?_
    refine s_iald hM (sh_5) (by omega) (by decide) dX6_passedOn_72 (fun g72 => ?_)
    refine r_ild6 dX6_passedOn_73 ?_
    refine r_ild5 dX6_passedOn_75 ?_
    refine r_ild3 dX6_passedOn_77 ?_
    refine s_callV4r hM (c_X8_onward E (by first | with_reducible assumption | with_reducible exact xSt_9 | with_reducible exact xSt_13 | omega) (by first | with_reducible assumption | with_reducible exact xSt_9 | with_reducible exact xSt_13 | omega) (by first | with_reducible assumption | with_reducible exact xSt_9 | with_reducible exact xSt_13 | omega) (by first | with_reducible assumption | with_reducible exact xSt_9 | with_reducible exact xSt_13 | omega) (by first | with_reducible assumption | with_reducible exact xSt_9 | with_reducible exact xSt_13 | omega)) cv_X8_onward wM_X6_91 (sh_3) rfl rfl (Nat.le_of_ble_eq_true rfl) (by decide) dX6_passedOn_78 (fun _ => ?_)
    exact s_iret hM rfl dX6_passedOn_81 (by rw [e]; split <;> first | rfl | contradiction) (by rfl)
  refine r_ald0 dX6_passedOn_29 ?_
  refine s_getR fi_X6_18 (hk.1) rfl dX6_passedOn_30 ?_
  refine r_ild1 dX6_passedOn_33 ?_
  refine s_iald hM (hk.2.2.2.1) (by omega) (by decide) dX6_passedOn_34 (fun g34 => ?_)
  refine r_goto 58 dX6_passedOn_35 (by decide) ?_
  refine r_ist6 dX6_passedOn_58 rfl ?_
  refine r_ald0 dX6_passedOn_60 ?_
  refine s_getR fi_X6_21 (hk.1) rfl dX6_passedOn_61 ?_
  refine r_ald0 dX6_passedOn_64 ?_
  refine s_getR fi_X6_21 (hk.1) rfl dX6_passedOn_65 ?_
  refine s_getR fi_X6_62 (sh_3) rfl dX6_passedOn_68 ?_
  refine r_ild1 dX6_passedOn_71 ?_
  refine s_iald hM (sh_5) (by omega) (by decide) dX6_passedOn_72 (fun g72 => ?_)
  refine r_ild6 dX6_passedOn_73 ?_
  refine r_ild5 dX6_passedOn_75 ?_
  refine r_ild3 dX6_passedOn_77 ?_
  refine s_callV4r hM (c_X8_onward E (by first | with_reducible assumption | with_reducible exact xSt_9 | with_reducible exact xSt_13 | omega) (by first | with_reducible assumption | with_reducible exact xSt_9 | with_reducible exact xSt_13 | omega) (by first | with_reducible assumption | with_reducible exact xSt_9 | with_reducible exact xSt_13 | omega) (by first | with_reducible assumption | with_reducible exact xSt_9 | with_reducible exact xSt_13 | omega) (by first | with_reducible assumption | with_reducible exact xSt_9 | with_reducible exact xSt_13 | omega)) cv_X8_onward wM_X6_91 (sh_3) rfl rfl (Nat.le_of_ble_eq_true rfl) (by decide) dX6_passedOn_78 (fun _ => ?_)
  exact s_iret hM rfl dX6_passedOn_81 (by rw [e]; split <;> first | rfl | contradiction) (by rfl)
set_option maxHeartbeats 4000000 in
theorem c_X6_claim (E : xE) {M : xMem} {k : Nat} {p : Int} (hk : xSt k) (hT : TI (tw M)) (hS : SI (tw M) (sv M k)) (hp : 0 ≤ p ∧ p < M 3 6) : Ct E mX6_claim 4 1 [xr E k, xi p] M (some (xi (claimT (tw M) (sv M k) p))) (M) := by
  refine Ct.of 2 4 (by rfl) (by decide +kernel) (fun hM => ?_)
  have hn : 1 ≤ M 3 6 ∧ M 3 6 ≤ 5 := hT.1
  have hN : 1 ≤ M 3 7 ∧ M 3 7 ≤ 6 := hT.2.1
  have hr : 1 ≤ M 3 5 ∧ M 3 5 ≤ 60 := hT.2.2.1
  have hl : 0 ≤ M k 5 ∧ M k 5 ≤ 99 := hS.2.1
  have hh : 0 ≤ M k 6 ∧ M k 6 ≤ 999 := hS.2.2.1
  have hpr : 1 ≤ M k 7 ∧ M k 7 ≤ 9 := hS.2.2.2.1
  have hsd : 0 ≤ M k 8 ∧ M k 8 ≤ 63 := hS.2.2.2.2.1
  have hwk : 0 ≤ M k 4 ∧ M k 4 ≤ 100000 := hS.1
  have hpu : (0 ≤ M (k + 1) p.toNat ∧ M (k + 1) p.toNat ≤ 99) ∧ (0 ≤ M (k + 2) p.toNat ∧ M (k + 2) p.toNat ≤ 99) := hS.2.2.2.2.2.1 p hp
  have hin : 0 ≤ M 4 p.toNat ∧ M 4 p.toNat ≤ 20 := hT.2.2.2.1 p hp
  show VS E mX6_claim 1 _ _ 0 [some (xr E k), some (xi p), none, none] [] M
  have L4 : ∀ (fu : Nat) (a s : Int), (0 ≤ s ∧ s ≤ M 3 7) → (foldI (clmF (tw M) (sv M k) p) (M 3 7 - s).toNat s a = foldI (clmF (tw M) (sv M k) p) (M 3 7).toNat 0 0) → (0 ≤ a ∧ a ≤ 60 * s) → (M 3 7 - s).toNat < fu → VS E mX6_claim 1 (some (xi (claimT (tw M) (sv M k) p))) (M) 4 [some (xr E k), some (xi p), some (xi a), some (xi s)] [] M := by
    intro fu
    induction fu with
    | zero => intro a s  hb hi ha hme; exact absurd hme (Nat.not_lt_zero _)
    | succ fu ih =>
      intro a s  hb hi ha hme
      refine r_ild3 dX6_claim_4 ?_
      refine r_ald0 dX6_claim_5 ?_
      refine s_getR fi_X6_21 (hk.1) rfl dX6_claim_6 ?_
      refine s_getI hM fi_X6_95 (sh_3) rfl dX6_claim_9 (fun g9 => ?_)
      refine r_icmp_ge 53 dX6_claim_12 (by decide) (by omega) (by omega) (fun c12 => ?_) (fun c12 => ?_)
      · skip
        refine r_iconst dX6_claim_53 ?_
        refine r_ild2 dX6_claim_54 ?_
        refine r_ald0 dX6_claim_55 ?_
        refine s_getR fi_X6_15 (hk.1) rfl dX6_claim_56 ?_
        refine r_ild1 dX6_claim_59 ?_
        refine s_iald hM (hk.2.2.1) (by omega) (by decide) dX6_claim_60 (fun g60 => ?_)
        refine r_isub dX6_claim_61 ?_
        refine r_max wM_X6_56 wT_max wI_J9 wD_max (Nat.le_of_ble_eq_true rfl) (by decide) (Nat.le_refl 0) (Nat.le_refl 0) (by omega) (by omega) dX6_claim_62 ?_
        exact s_iret hM rfl dX6_claim_65 (by show max 0 (a - M (k + 2) p.toNat) = max 0 (foldI (clmF (tw M) (sv M k) p) (M 3 7).toNat 0 0 - M (k + 2) p.toNat); rw [← hi, foldI_end (by omega)]) (by rfl)
      have hs : 0 ≤ s ∧ s < M 3 7 := by omega
      have hq : (1 ≤ M 5 s.toNat ∧ M 5 s.toNat ≤ 5) ∧ (0 ≤ M 6 s.toNat ∧ M 6 s.toNat < M 3 6) ∧ (1 ≤ M 7 s.toNat ∧ M 7 s.toNat ≤ 30) ∧ (0 ≤ M 8 s.toNat ∧ M 8 s.toNat ≤ s) := hT.2.2.2.2 s hs
      have hwd := words_b hT hs
      refine r_ald0 dX6_claim_15 ?_
      refine s_getR fi_X6_21 (hk.1) rfl dX6_claim_16 ?_
      refine s_getR fi_X6_53 (sh_3) rfl dX6_claim_19 ?_
      refine r_ild3 dX6_claim_22 ?_
      refine s_iald hM (sh_6) (by omega) (by decide) dX6_claim_23 (fun g23 => ?_)
      refine r_ild1 dX6_claim_24 ?_
      refine r_icmp_ne 47 dX6_claim_25 (by decide) (by omega) (by omega) (fun c25 => ?_) (fun c25 => ?_)
      · skip
        refine r_iinc3 dX6_claim_47 rfl ?_
        refine r_goto 4 dX6_claim_50 (by decide) ?_
        exact ih _ _  (by omega) (by exact foldI_go (by omega) hi (show (if M 6 s.toNat = p ∧ ¬ bitI (M k 8) s = 1 then a + wordsT (tw M) s else a) = _ by split <;> first | rfl | (exfalso; omega))) (by omega) (by omega)
      refine r_ald0 dX6_claim_28 ?_
      refine r_ild3 dX6_claim_29 ?_
      refine s_callV1r hM (c_X6_isSaid E (by first | with_reducible assumption | with_reducible exact xSt_9 | with_reducible exact xSt_13 | omega) (by first | with_reducible assumption | with_reducible exact xSt_9 | with_reducible exact xSt_13 | omega) (by first | with_reducible assumption | with_reducible exact xSt_9 | with_reducible exact xSt_13 | omega)) cv_X6_isSaid wM_X6_71 (hk.1) rfl rfl (Nat.le_of_ble_eq_true rfl) (by decide) dX6_claim_30 (fun _ => ?_)
      refine r_ifb_ne 47 dX6_claim_33 (by decide) (fun c33 => ?_) (fun c33 => ?_)
      · skip
        refine r_iinc3 dX6_claim_47 rfl ?_
        refine r_goto 4 dX6_claim_50 (by decide) ?_
        exact ih _ _  (by omega) (by exact foldI_go (by omega) hi (show (if M 6 s.toNat = p ∧ ¬ bitI (M k 8) s = 1 then a + wordsT (tw M) s else a) = _ by split <;> first | rfl | (exfalso; omega))) (by omega) (by omega)
      refine r_ild2 dX6_claim_36 ?_
      refine r_ald0 dX6_claim_37 ?_
      refine s_getR fi_X6_21 (hk.1) rfl dX6_claim_38 ?_
      refine r_ild3 dX6_claim_41 ?_
      refine s_callV1r hM (c_X8_words E (by first | with_reducible assumption | with_reducible exact xSt_9 | with_reducible exact xSt_13 | omega) (by first | with_reducible assumption | with_reducible exact xSt_9 | with_reducible exact xSt_13 | omega)) cv_X8_words wM_X6_47 (sh_3) rfl rfl (Nat.le_of_ble_eq_true rfl) (by decide) dX6_claim_42 (fun _ => ?_)
      refine r_iadd dX6_claim_45 ?_
      refine r_ist2 dX6_claim_46 rfl ?_
      refine r_iinc3 dX6_claim_47 rfl ?_
      refine r_goto 4 dX6_claim_50 (by decide) ?_
      exact ih _ _  (by omega) (by exact foldI_go (by omega) hi (show (if M 6 s.toNat = p ∧ ¬ bitI (M k 8) s = 1 then a + wordsT (tw M) s else a) = _ by split <;> first | rfl | (exfalso; omega))) (by omega) (by omega)
  refine r_iconst dX6_claim_0 ?_
  refine r_ist2 dX6_claim_1 rfl ?_
  refine r_iconst dX6_claim_2 ?_
  refine r_ist3 dX6_claim_3 rfl ?_
  exact L4 ((M 3 7).toNat + 1) _ _  (by omega) (by exact foldI_0.symm) (by omega) (by omega)
