set_option maxHeartbeats 4000000 in
theorem c_X8_hasPerson (E : xE) {M : xMem} {v : Int} (hv : -2147483648 ≤ v ∧ v < 2147483648) : Ct E mX8_hasPerson 2 0 [xr E 3, xi v] M (some (xi (b2i (0 ≤ v ∧ v < M 3 6)))) (M) := by
  refine Ct.of 0 2 (by rfl) (by decide +kernel) (fun hM => ?_)
  show VS E mX8_hasPerson 0 _ _ 0 [some (xr E 3), some (xi v)] [] M
  refine r_ild1 dX8_hasPerson_0 ?_
  refine r_if_lt 16 dX8_hasPerson_1 (by decide) (by omega) (fun c1 => ?_) (fun c1 => ?_)
  · skip
    refine r_iconst dX8_hasPerson_16 ?_
    exact s_zret hM rfl (by omega) dX8_hasPerson_17 (by unfold b2i; split <;> omega) (by rfl)
  refine r_ild1 dX8_hasPerson_4 ?_
  refine r_ald0 dX8_hasPerson_5 ?_
  refine s_getI hM fi_X8_31 (sh_3) rfl dX8_hasPerson_6 (fun g6 => ?_)
  refine r_icmp_ge 16 dX8_hasPerson_9 (by decide) (by omega) (by omega) (fun c9 => ?_) (fun c9 => ?_)
  · skip
    refine r_iconst dX8_hasPerson_16 ?_
    exact s_zret hM rfl (by omega) dX8_hasPerson_17 (by unfold b2i; split <;> omega) (by rfl)
  refine r_iconst dX8_hasPerson_12 ?_
  refine r_goto 17 dX8_hasPerson_13 (by decide) ?_
  exact s_zret hM rfl (by omega) dX8_hasPerson_17 (by unfold b2i; split <;> omega) (by rfl)
set_option maxHeartbeats 4000000 in
theorem c_X8_hasSpeech (E : xE) {M : xMem} {v : Int} (hv : -2147483648 ≤ v ∧ v < 2147483648) : Ct E mX8_hasSpeech 2 0 [xr E 3, xi v] M (some (xi (b2i (0 ≤ v ∧ v < M 3 7)))) (M) := by
  refine Ct.of 0 2 (by rfl) (by decide +kernel) (fun hM => ?_)
  show VS E mX8_hasSpeech 0 _ _ 0 [some (xr E 3), some (xi v)] [] M
  refine r_ild1 dX8_hasSpeech_0 ?_
  refine r_if_lt 16 dX8_hasSpeech_1 (by decide) (by omega) (fun c1 => ?_) (fun c1 => ?_)
  · skip
    refine r_iconst dX8_hasSpeech_16 ?_
    exact s_zret hM rfl (by omega) dX8_hasSpeech_17 (by unfold b2i; split <;> omega) (by rfl)
  refine r_ild1 dX8_hasSpeech_4 ?_
  refine r_ald0 dX8_hasSpeech_5 ?_
  refine s_getI hM fi_X8_34 (sh_3) rfl dX8_hasSpeech_6 (fun g6 => ?_)
  refine r_icmp_ge 16 dX8_hasSpeech_9 (by decide) (by omega) (by omega) (fun c9 => ?_) (fun c9 => ?_)
  · skip
    refine r_iconst dX8_hasSpeech_16 ?_
    exact s_zret hM rfl (by omega) dX8_hasSpeech_17 (by unfold b2i; split <;> omega) (by rfl)
  refine r_iconst dX8_hasSpeech_12 ?_
  refine r_goto 17 dX8_hasSpeech_13 (by decide) ?_
  exact s_zret hM rfl (by omega) dX8_hasSpeech_17 (by unfold b2i; split <;> omega) (by rfl)
set_option maxHeartbeats 4000000 in
theorem c_X8_everyone (E : xE) {M : xMem}  (hn : 0 ≤ M 3 6 ∧ M 3 6 ≤ 5) : Ct E mX8_everyone 1 0 [xr E 3] M (some (xi (2 ^ (M 3 6).toNat - 1))) (M) := by
  refine Ct.of 0 1 (by rfl) (by decide +kernel) (fun hM => ?_)
  show VS E mX8_everyone 0 _ _ 0 [some (xr E 3)] [] M
  refine r_iconst dX8_everyone_0 ?_
  refine r_ald0 dX8_everyone_1 ?_
  refine s_getI hM fi_X8_31 (sh_3) rfl dX8_everyone_2 (fun g2 => ?_)
  refine r_ishl dX8_everyone_5 (by omega) ?_
  refine r_iconst dX8_everyone_6 ?_
  refine r_isub dX8_everyone_7 ?_
  exact s_iret hM rfl dX8_everyone_8 (by rw [Int.one_mul]) (by rfl)
set_option maxHeartbeats 4000000 in
theorem c_X8_words (E : xE) {M : xMem} {s : Int} (hT : TI (tw M)) (hs : 0 ≤ s ∧ s < M 3 7) : Ct E mX8_words 2 0 [xr E 3, xi s] M (some (xi (wordsT (tw M) s))) (M) := by
  refine Ct.of 0 2 (by rfl) (by decide +kernel) (fun hM => ?_)
  have hn : 1 ≤ M 3 6 ∧ M 3 6 ≤ 5 := hT.1
  have hN : 1 ≤ M 3 7 ∧ M 3 7 ≤ 6 := hT.2.1
  have hr : 1 ≤ M 3 5 ∧ M 3 5 ≤ 60 := hT.2.2.1
  have hq : (1 ≤ M 5 s.toNat ∧ M 5 s.toNat ≤ 5) ∧ (0 ≤ M 6 s.toNat ∧ M 6 s.toNat < M 3 6) ∧ (1 ≤ M 7 s.toNat ∧ M 7 s.toNat ≤ 30) ∧ (0 ≤ M 8 s.toNat ∧ M 8 s.toNat ≤ s) := hT.2.2.2.2 s hs
  have e : wordsT (tw M) s = if M 5 s.toNat = 1 then M 7 s.toNat else if M 5 s.toNat = 2 then (M 7 s.toNat + 1) / 2 else if M 5 s.toNat = 3 then 2 * M 7 s.toNat else 0 := rfl
  show VS E mX8_words 0 _ _ 0 [some (xr E 3), some (xi s)] [] M
  refine r_ald0 dX8_words_0 ?_
  refine s_getR fi_X8_15 (sh_3) rfl dX8_words_1 ?_
  refine r_ild1 dX8_words_4 ?_
  refine s_iald hM (sh_5) (by omega) (by decide) dX8_words_5 (fun g5 => ?_)
  by_cases c6 : 1 ≤ M 5 s.toNat ∧ M 5 s.toNat ≤ 3
  · skip
    rcases (show M 5 s.toNat = 1 ∨ M 5 s.toNat = 2 ∨ M 5 s.toNat = 3 by omega) with c6v | c6v | c6v
    · skip
      refine r_tabIn 32 dX8_words_6 (by omega) (by omega) (by rw [c6v]; rfl) (by decide) ?_
      refine r_ald0 dX8_words_32 ?_
      refine s_getR fi_X8_21 (sh_3) rfl dX8_words_33 ?_
      refine r_ild1 dX8_words_36 ?_
      refine s_iald hM (sh_7) (by omega) (by decide) dX8_words_37 (fun g37 => ?_)
      exact s_iret hM rfl dX8_words_38 (by rw [e]; split <;> (try split) <;> (try split) <;> omega) (by rfl)
    · skip
      refine r_tabIn 39 dX8_words_6 (by omega) (by omega) (by rw [c6v]; rfl) (by decide) ?_
      refine r_ald0 dX8_words_39 ?_
      refine s_getR fi_X8_21 (sh_3) rfl dX8_words_40 ?_
      refine r_ild1 dX8_words_43 ?_
      refine s_iald hM (sh_7) (by omega) (by decide) dX8_words_44 (fun g44 => ?_)
      refine r_iconst dX8_words_45 ?_
      refine r_iadd dX8_words_46 ?_
      refine r_iconst dX8_words_47 ?_
      refine r_idiv dX8_words_48 (by omega) (by omega) ?_
      exact s_iret hM rfl dX8_words_49 (by rw [e]; split <;> (try split) <;> (try split) <;> omega) (by rfl)
    · skip
      refine r_tabIn 50 dX8_words_6 (by omega) (by omega) (by rw [c6v]; rfl) (by decide) ?_
      refine r_iconst dX8_words_50 ?_
      refine r_ald0 dX8_words_51 ?_
      refine s_getR fi_X8_21 (sh_3) rfl dX8_words_52 ?_
      refine r_ild1 dX8_words_55 ?_
      refine s_iald hM (sh_7) (by omega) (by decide) dX8_words_56 (fun g56 => ?_)
      refine r_imul dX8_words_57 ?_
      exact s_iret hM rfl dX8_words_58 (by rw [e]; split <;> (try split) <;> (try split) <;> omega) (by rfl)
  refine r_tabOut 59 dX8_words_6 (by omega) (by omega) (by decide) ?_
  refine r_iconst dX8_words_59 ?_
  exact s_iret hM rfl dX8_words_60 (by rw [e]; split <;> (try split) <;> (try split) <;> omega) (by rfl)
set_option maxHeartbeats 4000000 in
theorem c_X8_withBeside (E : xE) {M : xMem} {set : Int} (hn : 1 ≤ M 3 6 ∧ M 3 6 ≤ 5) (hset : 0 ≤ set ∧ set ≤ 31) : Ct E mX8_withBeside 4 1 [xr E 3, xi set] M (some (xi (wbT (M 3 6) set))) (M) := by
  refine Ct.of 2 4 (by rfl) (by decide +kernel) (fun hM => ?_)
  have h1 := mul_b (a := set) (A := 31) (b := 2 ^ (1 : Int).toNat) (B := 2) hset (by decide)
  have hp := p2_4 (n := M 3 6 - 1) (by omega)
  have hp5 := p2_5 (n := M 3 6) (by omega)
  have h2 := div_b (a := set) (b := 2 ^ (M 3 6 - 1).toNat) hset hp.1
  have h3 := div_b (a := set) (b := 2 ^ (1 : Int).toNat) hset (by decide)
  have h4 := mul_b (a := set) (A := 31) (b := 2 ^ (M 3 6 - 1).toNat) (B := 16) hset (by omega)
  show VS E mX8_withBeside 1 _ _ 0 [some (xr E 3), some (xi set), none, none] [] M
  refine r_ild1 dX8_withBeside_0 ?_
  refine r_iconst dX8_withBeside_1 ?_
  refine r_ishl dX8_withBeside_2 (by omega) ?_
  refine r_ild1 dX8_withBeside_3 ?_
  refine r_ald0 dX8_withBeside_4 ?_
  refine s_getI hM fi_X8_31 (sh_3) rfl dX8_withBeside_5 (fun g5 => ?_)
  refine r_iconst dX8_withBeside_8 ?_
  refine r_isub dX8_withBeside_9 ?_
  refine r_ishr dX8_withBeside_10 (by omega) (by omega) ?_
  refine r_ior dX8_withBeside_11 (by omega) (by omega) (fun g11 => ?_)
  refine r_ist2 dX8_withBeside_12 rfl ?_
  refine r_ild1 dX8_withBeside_13 ?_
  refine r_iconst dX8_withBeside_14 ?_
  refine r_ishr dX8_withBeside_15 (by omega) (by omega) ?_
  refine r_ild1 dX8_withBeside_16 ?_
  refine r_ald0 dX8_withBeside_17 ?_
  refine s_getI hM fi_X8_31 (sh_3) rfl dX8_withBeside_18 (fun g18 => ?_)
  refine r_iconst dX8_withBeside_21 ?_
  refine r_isub dX8_withBeside_22 ?_
  refine r_ishl dX8_withBeside_23 (by omega) ?_
  refine r_ior dX8_withBeside_24 (by omega) (by omega) (fun g24 => ?_)
  refine r_ist3 dX8_withBeside_25 rfl ?_
  refine r_ild1 dX8_withBeside_26 ?_
  refine r_ild2 dX8_withBeside_27 ?_
  refine r_ior dX8_withBeside_28 (by omega) (by omega) (fun g28 => ?_)
  refine r_ild3 dX8_withBeside_29 ?_
  refine r_ior dX8_withBeside_30 (by omega) (by omega) (fun g30 => ?_)
  refine r_ald0 dX8_withBeside_31 ?_
  refine s_callV0r hM (c_X8_everyone E (by first | with_reducible assumption | with_reducible exact xSt_9 | with_reducible exact xSt_13 | omega)) cv_X8_everyone wM_X8_43 (sh_3) rfl rfl (Nat.le_of_ble_eq_true rfl) (by decide) dX8_withBeside_32 (fun _ => ?_)
  refine r_iand dX8_withBeside_35 (by omega) (by omega) (fun g35 => ?_)
  exact s_iret hM rfl dX8_withBeside_36 (by rfl) (by rfl)
set_option maxHeartbeats 4000000 in
theorem c_X8_reachedBySaying (E : xE) {M : xMem} {kind sp deaf : Int} (hn : 1 ≤ M 3 6 ∧ M 3 6 ≤ 5) (hkd : -2147483648 ≤ kind ∧ kind < 2147483648) (hsp : 0 ≤ sp ∧ sp ≤ 4) (hdf : 0 ≤ deaf ∧ deaf ≤ 31) : Ct E mX8_reachedBySaying 5 2 [xr E 3, xi kind, xi sp, xi deaf] M (some (xi (reachT (M 3 6) kind sp deaf))) (M) := by
  refine Ct.of 1 5 (by rfl) (by decide +kernel) (fun hM => ?_)
  have hp := p2_4 (n := sp) hsp
  have hw := wbT_b (n := M 3 6) (s := 1 * 2 ^ sp.toNat) (by omega)
  show VS E mX8_reachedBySaying 2 _ _ 0 [some (xr E 3), some (xi kind), some (xi sp), some (xi deaf), none] [] M
  refine r_ild1 dX8_reachedBySaying_0 ?_
  refine r_iconst dX8_reachedBySaying_1 ?_
  refine r_icmp_eq 15 dX8_reachedBySaying_2 (by decide) (by omega) (by omega) (fun c2 => ?_) (fun c2 => ?_)
  · skip
    refine r_iconst dX8_reachedBySaying_15 ?_
    refine r_ild2 dX8_reachedBySaying_16 ?_
    refine r_ishl dX8_reachedBySaying_17 (by omega) ?_
    refine r_ist4 dX8_reachedBySaying_18 rfl ?_
    refine r_ild4 dX8_reachedBySaying_20 ?_
    refine r_ald0 dX8_reachedBySaying_22 ?_
    refine r_ild4 dX8_reachedBySaying_23 ?_
    refine s_callV1r hM (c_X8_withBeside E (by first | with_reducible assumption | with_reducible exact xSt_9 | with_reducible exact xSt_13 | omega) (by first | with_reducible assumption | with_reducible exact xSt_9 | with_reducible exact xSt_13 | omega)) cv_X8_withBeside wM_X8_47 (sh_3) rfl rfl (Nat.le_of_ble_eq_true rfl) (by decide) dX8_reachedBySaying_25 (fun _ => ?_)
    refine r_ild3 dX8_reachedBySaying_28 ?_
    refine r_iconst dX8_reachedBySaying_29 ?_
    refine r_inot dX8_reachedBySaying_30 ?_
    refine r_iandn dX8_reachedBySaying_31 (by omega) (by omega) (fun g31 => ?_)
    refine r_ior dX8_reachedBySaying_32 (by omega) (by omega) (fun g32 => ?_)
    exact s_iret hM rfl dX8_reachedBySaying_33 (by unfold reachT; split <;> first | rfl | omega) (by rfl)
  refine r_ild1 dX8_reachedBySaying_5 ?_
  refine r_iconst dX8_reachedBySaying_6 ?_
  refine r_icmp_eq 15 dX8_reachedBySaying_7 (by decide) (by omega) (by omega) (fun c7 => ?_) (fun c7 => ?_)
  · skip
    refine r_iconst dX8_reachedBySaying_15 ?_
    refine r_ild2 dX8_reachedBySaying_16 ?_
    refine r_ishl dX8_reachedBySaying_17 (by omega) ?_
    refine r_ist4 dX8_reachedBySaying_18 rfl ?_
    refine r_ild4 dX8_reachedBySaying_20 ?_
    refine r_ald0 dX8_reachedBySaying_22 ?_
    refine r_ild4 dX8_reachedBySaying_23 ?_
    refine s_callV1r hM (c_X8_withBeside E (by first | with_reducible assumption | with_reducible exact xSt_9 | with_reducible exact xSt_13 | omega) (by first | with_reducible assumption | with_reducible exact xSt_9 | with_reducible exact xSt_13 | omega)) cv_X8_withBeside wM_X8_47 (sh_3) rfl rfl (Nat.le_of_ble_eq_true rfl) (by decide) dX8_reachedBySaying_25 (fun _ => ?_)
    refine r_ild3 dX8_reachedBySaying_28 ?_
    refine r_iconst dX8_reachedBySaying_29 ?_
    refine r_inot dX8_reachedBySaying_30 ?_
    refine r_iandn dX8_reachedBySaying_31 (by omega) (by omega) (fun g31 => ?_)
    refine r_ior dX8_reachedBySaying_32 (by omega) (by omega) (fun g32 => ?_)
    exact s_iret hM rfl dX8_reachedBySaying_33 (by unfold reachT; split <;> first | rfl | omega) (by rfl)
  refine r_ald0 dX8_reachedBySaying_10 ?_
  refine s_callV0r hM (c_X8_everyone E (by first | with_reducible assumption | with_reducible exact xSt_9 | with_reducible exact xSt_13 | omega)) cv_X8_everyone wM_X8_43 (sh_3) rfl rfl (Nat.le_of_ble_eq_true rfl) (by decide) dX8_reachedBySaying_11 (fun _ => ?_)
  exact s_iret hM rfl dX8_reachedBySaying_14 (by unfold reachT; split <;> first | rfl | omega) (by rfl)
set_option maxHeartbeats 4000000 in
theorem c_X8_onward (E : xE) {M : xMem} {kind a0 deaf w : Int} (hn : 1 ≤ M 3 6 ∧ M 3 6 ≤ 5) (hkd : -2147483648 ≤ kind ∧ kind < 2147483648) (ha0 : 0 ≤ a0 ∧ a0 ≤ 31) (hdf : 0 ≤ deaf ∧ deaf ≤ 31) (hw : 0 ≤ w ∧ w ≤ 1000) : Ct E mX8_onward 9 2 [xr E 3, xi kind, xi a0, xi deaf, xi w] M (some (xi (onwT (M 3 6) kind a0 deaf w))) (M) := by
  refine Ct.of 4 9 (by rfl) (by decide +kernel) (fun hM => ?_)
  have hb := hpw_b kind
  have hm := mul_b (a := w) (A := 1000) (b := hpw kind) (B := 2) hw hb
  show VS E mX8_onward 2 _ _ 0 [some (xr E 3), some (xi kind), some (xi a0), some (xi deaf), some (xi w), none, none, none, none] [] M
  have L38 : ∀ (fu : Nat) (a h : Int), (0 ≤ h ∧ h ≤ 5) → (0 ≤ a ∧ a ≤ 31) → (hopsT (M 3 6) deaf (min 5 (w * hpw kind) - h).toNat a = onwT (M 3 6) kind a0 deaf w) → (5 - h).toNat < fu → VS E mX8_onward 2 (some (xi (onwT (M 3 6) kind a0 deaf w))) (M) 38 [some (xr E 3), some (xi kind), some (xi a0), some (xi deaf), some (xi w), some (xi (hpw kind)), some (xi (min 5 (w * hpw kind))), some (xi a), some (xi h)] [] M := by
    intro fu
    induction fu with
    | zero => intro a h  hh ha hi hme; exact absurd hme (Nat.not_lt_zero _)
    | succ fu ih =>
      intro a h  hh ha hi hme
      have hwb := wbT_b (n := M 3 6) (s := a) (by omega)
      have hst := hopT_b (n := M 3 6) (a := a) (d := deaf) (by omega) ha
      refine r_ild8 dX8_onward_38 ?_
      refine r_ild6 dX8_onward_40 ?_
      refine r_icmp_ge 66 dX8_onward_42 (by decide) (by omega) (by omega) (fun c42 => ?_) (fun c42 => ?_)
      · skip
        refine r_ild7 dX8_onward_66 ?_
        exact s_iret hM rfl dX8_onward_68 (by rw [← hi, show (min 5 (w * hpw kind) - h).toNat = 0 by omega]; rfl) (by rfl)
      refine r_ild7 dX8_onward_45 ?_
      refine r_ald0 dX8_onward_47 ?_
      refine r_ild7 dX8_onward_48 ?_
      refine s_callV1r hM (c_X8_withBeside E (by first | with_reducible assumption | with_reducible exact xSt_9 | with_reducible exact xSt_13 | omega) (by first | with_reducible assumption | with_reducible exact xSt_9 | with_reducible exact xSt_13 | omega)) cv_X8_withBeside wM_X8_47 (sh_3) rfl rfl (Nat.le_of_ble_eq_true rfl) (by decide) dX8_onward_50 (fun _ => ?_)
      refine r_ild3 dX8_onward_53 ?_
      refine r_iconst dX8_onward_54 ?_
      refine r_inot dX8_onward_55 ?_
      refine r_iandn dX8_onward_56 (by omega) (by omega) (fun g56 => ?_)
      refine r_ior dX8_onward_57 (by omega) (by omega) (fun g57 => ?_)
      refine r_ist7 dX8_onward_58 rfl ?_
      refine r_iinc8 dX8_onward_60 rfl ?_
      refine r_goto 38 dX8_onward_63 (by decide) ?_
      exact ih _ _  (by omega) (by exact hst) (by rw [← hi, show (min 5 (w * hpw kind) - h).toNat = (min 5 (w * hpw kind) - (h + 1)).toNat + 1 by omega]; rfl) (by omega)
  have L19 : ∀ (x : Int), (x = hpw kind) → VS E mX8_onward 2 (some (xi (onwT (M 3 6) kind a0 deaf w))) (M) 19 [some (xr E 3), some (xi kind), some (xi a0), some (xi deaf), some (xi w), none, none, none, none] [xi x] M := by
    intro x  hx
    subst hx
    refine r_ist5 dX8_onward_19 rfl ?_
    refine r_iconst dX8_onward_21 ?_
    refine r_ild4 dX8_onward_22 ?_
    refine r_ild5 dX8_onward_24 ?_
    refine r_imul dX8_onward_26 ?_
    refine r_min wM_X8_51 wT_min wI_J9 wD_min (Nat.le_of_ble_eq_true rfl) (by decide) (Nat.le_refl 0) (Nat.le_refl 0) (by omega) (by omega) dX8_onward_27 ?_
    refine r_ist6 dX8_onward_30 rfl ?_
    refine r_ild2 dX8_onward_32 ?_
    refine r_ist7 dX8_onward_33 rfl ?_
    refine r_iconst dX8_onward_35 ?_
    refine r_ist8 dX8_onward_36 rfl ?_
    exact L38 6 _ _  (by omega) (by exact ha0) (by rw [Int.sub_zero]; rfl) (by omega)
  refine r_ild1 dX8_onward_0 ?_
  refine r_iconst dX8_onward_1 ?_
  refine r_icmp_ne 9 dX8_onward_2 (by decide) (by omega) (by omega) (fun c2 => ?_) (fun c2 => ?_)
  · skip
    refine r_ild1 dX8_onward_9 ?_
    refine r_iconst dX8_onward_10 ?_
    refine r_icmp_ne 18 dX8_onward_11 (by decide) (by omega) (by omega) (fun c11 => ?_) (fun c11 => ?_)
    · skip
      refine r_iconst dX8_onward_18 ?_
      exact L19 _  (by unfold hpw; split <;> (try split) <;> omega)
    refine r_iconst dX8_onward_14 ?_
    refine r_goto 19 dX8_onward_15 (by decide) ?_
    exact L19 _  (by unfold hpw; split <;> (try split) <;> omega)
  refine r_iconst dX8_onward_5 ?_
  refine r_goto 19 dX8_onward_6 (by decide) ?_
  exact L19 _  (by unfold hpw; split <;> (try split) <;> omega)
set_option maxHeartbeats 4000000 in
theorem c_X8_takeFrom (E : xE) {M : xMem} {k j : Nat} (hk : xTw k) (hj : xTw j) : Ct E mX8_takeFrom 2 1 [xr E k, xr E j] M (none) (twCp M k j) := by
  refine Ct.of 0 2 (by rfl) (by decide +kernel) (fun hM => ?_)
  show VS E mX8_takeFrom 1 _ _ 0 [some (xr E k), some (xr E j)] [] M
  refine r_ald0 dX8_takeFrom_0 ?_
  refine r_ald1 dX8_takeFrom_1 ?_
  refine s_getI hM fi_X8_27 (hj.1) rfl dX8_takeFrom_2 (fun g2 => ?_)
  refine s_putI hM fp_X8_27 (hk.1) rfl (by omega) dX8_takeFrom_5 (fun hM5 => ?_)
  refine r_ald0 dX8_takeFrom_8 ?_
  refine r_ald1 dX8_takeFrom_9 ?_
  refine s_getI hM5 fi_X8_31 (hj.1) rfl dX8_takeFrom_10 (fun g10 => ?_)
  refine s_putI hM5 fp_X8_31 (hk.1) rfl (by omega) dX8_takeFrom_13 (fun hM13 => ?_)
  refine r_ald0 dX8_takeFrom_16 ?_
  refine r_ald1 dX8_takeFrom_17 ?_
  refine s_getI hM13 fi_X8_34 (hj.1) rfl dX8_takeFrom_18 (fun g18 => ?_)
  refine s_putI hM13 fp_X8_34 (hk.1) rfl (by omega) dX8_takeFrom_21 (fun hM21 => ?_)
  refine r_ald1 dX8_takeFrom_24 ?_
  refine s_getR fi_X8_9 (hj.1) rfl dX8_takeFrom_25 ?_
  refine r_iconst dX8_takeFrom_28 ?_
  refine r_ald0 dX8_takeFrom_29 ?_
  refine s_getR fi_X8_9 (hk.1) rfl dX8_takeFrom_30 ?_
  refine r_iconst dX8_takeFrom_33 ?_
  refine r_iconst dX8_takeFrom_34 ?_
  refine s_acopy hM21 wM_X8_37 (hj.2.1) (hk.2.1) (by omega) (Nat.le_of_ble_eq_true rfl) (by decide) dX8_takeFrom_35 (fun hM35 => ?_)
  refine r_ald1 dX8_takeFrom_38 ?_
  refine s_getR fi_X8_15 (hj.1) rfl dX8_takeFrom_39 ?_
  refine r_iconst dX8_takeFrom_42 ?_
  refine r_ald0 dX8_takeFrom_43 ?_
  refine s_getR fi_X8_15 (hk.1) rfl dX8_takeFrom_44 ?_
  refine r_iconst dX8_takeFrom_47 ?_
  refine r_bipush dX8_takeFrom_48 (by decide +kernel) ?_
  refine s_acopy hM35 wM_X8_37 (hj.2.2.1) (hk.2.2.1) (by omega) (Nat.le_of_ble_eq_true rfl) (by decide) dX8_takeFrom_50 (fun hM50 => ?_)
  refine r_ald1 dX8_takeFrom_53 ?_
  refine s_getR fi_X8_18 (hj.1) rfl dX8_takeFrom_54 ?_
  refine r_iconst dX8_takeFrom_57 ?_
  refine r_ald0 dX8_takeFrom_58 ?_
  refine s_getR fi_X8_18 (hk.1) rfl dX8_takeFrom_59 ?_
  refine r_iconst dX8_takeFrom_62 ?_
  refine r_bipush dX8_takeFrom_63 (by decide +kernel) ?_
  refine s_acopy hM50 wM_X8_37 (hj.2.2.2.1) (hk.2.2.2.1) (by omega) (Nat.le_of_ble_eq_true rfl) (by decide) dX8_takeFrom_65 (fun hM65 => ?_)
  refine r_ald1 dX8_takeFrom_68 ?_
  refine s_getR fi_X8_21 (hj.1) rfl dX8_takeFrom_69 ?_
  refine r_iconst dX8_takeFrom_72 ?_
  refine r_ald0 dX8_takeFrom_73 ?_
  refine s_getR fi_X8_21 (hk.1) rfl dX8_takeFrom_74 ?_
  refine r_iconst dX8_takeFrom_77 ?_
  refine r_bipush dX8_takeFrom_78 (by decide +kernel) ?_
  refine s_acopy hM65 wM_X8_37 (hj.2.2.2.2.1) (hk.2.2.2.2.1) (by omega) (Nat.le_of_ble_eq_true rfl) (by decide) dX8_takeFrom_80 (fun hM80 => ?_)
  refine r_ald1 dX8_takeFrom_83 ?_
  refine s_getR fi_X8_24 (hj.1) rfl dX8_takeFrom_84 ?_
  refine r_iconst dX8_takeFrom_87 ?_
  refine r_ald0 dX8_takeFrom_88 ?_
  refine s_getR fi_X8_24 (hk.1) rfl dX8_takeFrom_89 ?_
  refine r_iconst dX8_takeFrom_92 ?_
  refine r_bipush dX8_takeFrom_93 (by decide +kernel) ?_
  refine s_acopy hM80 wM_X8_37 (hj.2.2.2.2.2) (hk.2.2.2.2.2) (by omega) (Nat.le_of_ble_eq_true rfl) (by decide) dX8_takeFrom_95 (fun hM95 => ?_)
  exact s_vret hM95 rfl dX8_takeFrom_98 (by rfl)
set_option maxHeartbeats 4000000 in
theorem c_X6_takeFrom (E : xE) {M : xMem} {k j t u : Nat} (hk : xSg k t) (hj : xSg j u) : Ct E mX6_takeFrom 2 1 [xr E k, xr E j] M (none) (stCp M k j) := by
  refine Ct.of 0 2 (by rfl) (by decide +kernel) (fun hM => ?_)
  show VS E mX6_takeFrom 1 _ _ 0 [some (xr E k), some (xr E j)] [] M
  refine r_ald0 dX6_takeFrom_0 ?_
  refine r_ald1 dX6_takeFrom_1 ?_
  refine s_getI hM fi_X6_25 (hj.1) rfl dX6_takeFrom_2 (fun g2 => ?_)
  refine s_putI hM fp_X6_25 (hk.1) rfl (by omega) dX6_takeFrom_5 (fun hM5 => ?_)
  refine r_ald0 dX6_takeFrom_8 ?_
  refine r_ald1 dX6_takeFrom_9 ?_
  refine s_getI hM5 fi_X6_29 (hj.1) rfl dX6_takeFrom_10 (fun g10 => ?_)
  refine s_putI hM5 fp_X6_29 (hk.1) rfl (by omega) dX6_takeFrom_13 (fun hM13 => ?_)
  refine r_ald0 dX6_takeFrom_16 ?_
  refine r_ald1 dX6_takeFrom_17 ?_
  refine s_getI hM13 fi_X6_32 (hj.1) rfl dX6_takeFrom_18 (fun g18 => ?_)
  refine s_putI hM13 fp_X6_32 (hk.1) rfl (by omega) dX6_takeFrom_21 (fun hM21 => ?_)
  refine r_ald0 dX6_takeFrom_24 ?_
  refine r_ald1 dX6_takeFrom_25 ?_
  refine s_getI hM21 fi_X6_35 (hj.1) rfl dX6_takeFrom_26 (fun g26 => ?_)
  refine s_putI hM21 fp_X6_35 (hk.1) rfl (by omega) dX6_takeFrom_29 (fun hM29 => ?_)
  refine r_ald0 dX6_takeFrom_32 ?_
  refine r_ald1 dX6_takeFrom_33 ?_
  refine s_getI hM29 fi_X6_38 (hj.1) rfl dX6_takeFrom_34 (fun g34 => ?_)
  refine s_putI hM29 fp_X6_38 (hk.1) rfl (by omega) dX6_takeFrom_37 (fun hM37 => ?_)
  refine r_ald1 dX6_takeFrom_40 ?_
  refine s_getR fi_X6_9 (hj.1) rfl dX6_takeFrom_41 ?_
  refine r_iconst dX6_takeFrom_44 ?_
  refine r_ald0 dX6_takeFrom_45 ?_
  refine s_getR fi_X6_9 (hk.1) rfl dX6_takeFrom_46 ?_
  refine r_iconst dX6_takeFrom_49 ?_
  refine r_iconst dX6_takeFrom_50 ?_
  refine s_acopy hM37 wM_X6_41 (hj.2.1) (hk.2.1) (by omega) (Nat.le_of_ble_eq_true rfl) (by decide) dX6_takeFrom_51 (fun hM51 => ?_)
  refine r_ald1 dX6_takeFrom_54 ?_
  refine s_getR fi_X6_15 (hj.1) rfl dX6_takeFrom_55 ?_
  refine r_iconst dX6_takeFrom_58 ?_
  refine r_ald0 dX6_takeFrom_59 ?_
  refine s_getR fi_X6_15 (hk.1) rfl dX6_takeFrom_60 ?_
  refine r_iconst dX6_takeFrom_63 ?_
  refine r_iconst dX6_takeFrom_64 ?_
  refine s_acopy hM51 wM_X6_41 (hj.2.2.1) (hk.2.2.1) (by omega) (Nat.le_of_ble_eq_true rfl) (by decide) dX6_takeFrom_65 (fun hM65 => ?_)
  refine r_ald1 dX6_takeFrom_68 ?_
  refine s_getR fi_X6_18 (hj.1) rfl dX6_takeFrom_69 ?_
  refine r_iconst dX6_takeFrom_72 ?_
  refine r_ald0 dX6_takeFrom_73 ?_
  refine s_getR fi_X6_18 (hk.1) rfl dX6_takeFrom_74 ?_
  refine r_iconst dX6_takeFrom_77 ?_
  refine r_bipush dX6_takeFrom_78 (by decide +kernel) ?_
  refine s_acopy hM65 wM_X6_41 (hj.2.2.2) (hk.2.2.2) (by omega) (Nat.le_of_ble_eq_true rfl) (by decide) dX6_takeFrom_80 (fun hM80 => ?_)
  exact s_vret hM80 rfl dX6_takeFrom_83 (by rfl)
