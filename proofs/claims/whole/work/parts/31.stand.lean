set_option maxHeartbeats 4000000 in
theorem c_X6_isSaid (E : xE) {M : xMem} {k : Nat} {s : Int} (hk : xSt k) (hsd : 0 ≤ M k 8 ∧ M k 8 ≤ 63) (hs : 0 ≤ s ∧ s ≤ 6) : Ct E mX6_isSaid 2 0 [xr E k, xi s] M (some (xi (b2i (bitI (M k 8) s = 1)))) (M) := by
  refine Ct.of 0 2 (by rfl) (by decide +kernel) (fun hM => ?_)
  have hp2 := p2_b (n := s) (by omega)
  have hdv := div_b (a := M k 8) (A := 63) (b := 2 ^ s.toNat) (by omega) hp2.1
  show VS E mX6_isSaid 0 _ _ 0 [some (xr E k), some (xi s)] [] M
  refine r_ald0 dX6_isSaid_0 ?_
  refine s_getI hM fi_X6_38 (hk.1) rfl dX6_isSaid_1 (fun g1 => ?_)
  refine r_ild1 dX6_isSaid_4 ?_
  refine r_ishr dX6_isSaid_5 (by omega) (by omega) ?_
  refine r_iconst dX6_isSaid_6 ?_
  refine r_iand dX6_isSaid_7 (by omega) (by omega) (fun g7 => ?_)
  refine r_iconst dX6_isSaid_8 ?_
  refine r_icmp_ne 16 dX6_isSaid_9 (by decide) (by omega) (by omega) (fun c9 => ?_) (fun c9 => ?_)
  · skip
    refine r_iconst dX6_isSaid_16 ?_
    exact s_zret hM rfl (by omega) dX6_isSaid_17 (by unfold b2i bitI; split <;> omega) (by rfl)
  refine r_iconst dX6_isSaid_12 ?_
  refine r_goto 17 dX6_isSaid_13 (by decide) ?_
  exact s_zret hM rfl (by omega) dX6_isSaid_17 (by unfold b2i bitI; split <;> omega) (by rfl)
set_option maxHeartbeats 4000000 in
theorem c_X6_wordsOfLeft (E : xE) {M : xMem} {k : Nat} {s : Int} (hk : xSt k) (hT : TI (tw M)) (hS : SI (tw M) (sv M k)) (hs : 0 ≤ s ∧ s < M 3 7) : Ct E mX6_wordsOfLeft 2 1 [xr E k, xi s] M (some (xi (wolT (tw M) (sv M k) s))) (M) := by
  refine Ct.of 0 2 (by rfl) (by decide +kernel) (fun hM => ?_)
  have hn : 1 ≤ M 3 6 ∧ M 3 6 ≤ 5 := hT.1
  have hN : 1 ≤ M 3 7 ∧ M 3 7 ≤ 6 := hT.2.1
  have hr : 1 ≤ M 3 5 ∧ M 3 5 ≤ 60 := hT.2.2.1
  have hq : (1 ≤ M 5 s.toNat ∧ M 5 s.toNat ≤ 5) ∧ (0 ≤ M 6 s.toNat ∧ M 6 s.toNat < M 3 6) ∧ (1 ≤ M 7 s.toNat ∧ M 7 s.toNat ≤ 30) ∧ (0 ≤ M 8 s.toNat ∧ M 8 s.toNat ≤ s) := hT.2.2.2.2 s hs
  have hl : 0 ≤ M k 5 ∧ M k 5 ≤ 99 := hS.2.1
  have hh : 0 ≤ M k 6 ∧ M k 6 ≤ 999 := hS.2.2.1
  have hpr : 1 ≤ M k 7 ∧ M k 7 ≤ 9 := hS.2.2.2.1
  have hsd : 0 ≤ M k 8 ∧ M k 8 ≤ 63 := hS.2.2.2.2.1
  have hwk : 0 ≤ M k 4 ∧ M k 4 ≤ 100000 := hS.1
  have hpu : (0 ≤ M (k + 1) (M 6 s.toNat).toNat ∧ M (k + 1) (M 6 s.toNat).toNat ≤ 99) ∧ (0 ≤ M (k + 2) (M 6 s.toNat).toNat ∧ M (k + 2) (M 6 s.toNat).toNat ≤ 99) := hS.2.2.2.2.2.1 _ hq.2.1
  have hwd := words_b hT hs
  show VS E mX6_wordsOfLeft 1 _ _ 0 [some (xr E k), some (xi s)] [] M
  refine r_iconst dX6_wordsOfLeft_0 ?_
  refine r_ald0 dX6_wordsOfLeft_1 ?_
  refine s_getR fi_X6_21 (hk.1) rfl dX6_wordsOfLeft_2 ?_
  refine r_ild1 dX6_wordsOfLeft_5 ?_
  refine s_callV1r hM (c_X8_words E (by first | with_reducible assumption | with_reducible exact xSt_9 | with_reducible exact xSt_13 | omega) (by first | with_reducible assumption | with_reducible exact xSt_9 | with_reducible exact xSt_13 | omega)) cv_X8_words wM_X6_47 (sh_3) rfl rfl (Nat.le_of_ble_eq_true rfl) (by decide) dX6_wordsOfLeft_6 (fun _ => ?_)
  refine r_ald0 dX6_wordsOfLeft_9 ?_
  refine s_getR fi_X6_15 (hk.1) rfl dX6_wordsOfLeft_10 ?_
  refine r_ald0 dX6_wordsOfLeft_13 ?_
  refine s_getR fi_X6_21 (hk.1) rfl dX6_wordsOfLeft_14 ?_
  refine s_getR fi_X6_53 (sh_3) rfl dX6_wordsOfLeft_17 ?_
  refine r_ild1 dX6_wordsOfLeft_20 ?_
  refine s_iald hM (sh_6) (by omega) (by decide) dX6_wordsOfLeft_21 (fun g21 => ?_)
  refine s_iald hM (hk.2.2.1) (by omega) (by decide) dX6_wordsOfLeft_22 (fun g22 => ?_)
  refine r_isub dX6_wordsOfLeft_23 ?_
  refine r_max wM_X6_56 wT_max wI_J9 wD_max (Nat.le_of_ble_eq_true rfl) (by decide) (Nat.le_refl 0) (Nat.le_refl 0) (by omega) (by omega) dX6_wordsOfLeft_24 ?_
  exact s_iret hM rfl dX6_wordsOfLeft_27 (by rfl) (by rfl)
set_option maxHeartbeats 4000000 in
theorem c_X6_crowns (E : xE) {M : xMem} {k : Nat} {s : Int} (hk : xSt k) (hT : TI (tw M)) (hS : SI (tw M) (sv M k)) (hs : 0 ≤ s ∧ s < M 3 7) : Ct E mX6_crowns 2 2 [xr E k, xi s] M (some (xi (crnT (tw M) (sv M k) s))) (M) := by
  refine Ct.of 0 2 (by rfl) (by decide +kernel) (fun hM => ?_)
  have hn : 1 ≤ M 3 6 ∧ M 3 6 ≤ 5 := hT.1
  have hN : 1 ≤ M 3 7 ∧ M 3 7 ≤ 6 := hT.2.1
  have hr : 1 ≤ M 3 5 ∧ M 3 5 ≤ 60 := hT.2.2.1
  have hq : (1 ≤ M 5 s.toNat ∧ M 5 s.toNat ≤ 5) ∧ (0 ≤ M 6 s.toNat ∧ M 6 s.toNat < M 3 6) ∧ (1 ≤ M 7 s.toNat ∧ M 7 s.toNat ≤ 30) ∧ (0 ≤ M 8 s.toNat ∧ M 8 s.toNat ≤ s) := hT.2.2.2.2 s hs
  have hl : 0 ≤ M k 5 ∧ M k 5 ≤ 99 := hS.2.1
  have hh : 0 ≤ M k 6 ∧ M k 6 ≤ 999 := hS.2.2.1
  have hpr : 1 ≤ M k 7 ∧ M k 7 ≤ 9 := hS.2.2.2.1
  have hsd : 0 ≤ M k 8 ∧ M k 8 ≤ 63 := hS.2.2.2.2.1
  have hwk : 0 ≤ M k 4 ∧ M k 4 ≤ 100000 := hS.1
  have hpu : (0 ≤ M (k + 1) (M 6 s.toNat).toNat ∧ M (k + 1) (M 6 s.toNat).toNat ≤ 99) ∧ (0 ≤ M (k + 2) (M 6 s.toNat).toNat ∧ M (k + 2) (M 6 s.toNat).toNat ≤ 99) := hS.2.2.2.2.2.1 _ hq.2.1
  have e : crnT (tw M) (sv M k) s = if M 5 s.toNat = 4 then 1 else if M 5 s.toNat = 5 then 1 + M 7 s.toNat else wolT (tw M) (sv M k) s * M k 7 := rfl
  show VS E mX6_crowns 2 _ _ 0 [some (xr E k), some (xi s)] [] M
  refine r_ald0 dX6_crowns_0 ?_
  refine s_getR fi_X6_21 (hk.1) rfl dX6_crowns_1 ?_
  refine s_getR fi_X6_62 (sh_3) rfl dX6_crowns_4 ?_
  refine r_ild1 dX6_crowns_7 ?_
  refine s_iald hM (sh_5) (by omega) (by decide) dX6_crowns_8 (fun g8 => ?_)
  by_cases c9_4 : M 5 s.toNat = 4
  · skip
    refine r_look 36 dX6_crowns_9 (by decide) (by omega) (by rw [c9_4]; first | done | decide) (by decide) ?_
    refine r_iconst dX6_crowns_36 ?_
    exact s_iret hM rfl dX6_crowns_37 (by rw [e]; split <;> (try split) <;> first | rfl | omega) (by rfl)
  by_cases c9_5 : M 5 s.toNat = 5
  · skip
    refine r_look 38 dX6_crowns_9 (by decide) (by omega) (by rw [c9_5]; first | done | decide) (by decide) ?_
    refine r_iconst dX6_crowns_38 ?_
    refine r_ald0 dX6_crowns_39 ?_
    refine s_getR fi_X6_21 (hk.1) rfl dX6_crowns_40 ?_
    refine s_getR fi_X6_65 (sh_3) rfl dX6_crowns_43 ?_
    refine r_ild1 dX6_crowns_46 ?_
    refine s_iald hM (sh_7) (by omega) (by decide) dX6_crowns_47 (fun g47 => ?_)
    refine r_iadd dX6_crowns_48 ?_
    exact s_iret hM rfl dX6_crowns_49 (by rw [e]; split <;> (try split) <;> first | rfl | omega) (by rfl)
  refine r_look 50 dX6_crowns_9 (by decide) (by omega) (look_def (by simp; omega)) (by decide) ?_
  refine r_ald0 dX6_crowns_50 ?_
  refine r_ild1 dX6_crowns_51 ?_
  refine s_callV1r hM (c_X6_wordsOfLeft E (by first | with_reducible assumption | with_reducible exact xSt_9 | with_reducible exact xSt_13 | omega) (by first | with_reducible assumption | with_reducible exact xSt_9 | with_reducible exact xSt_13 | omega) (by first | with_reducible assumption | with_reducible exact xSt_9 | with_reducible exact xSt_13 | omega) (by first | with_reducible assumption | with_reducible exact xSt_9 | with_reducible exact xSt_13 | omega)) cv_X6_wordsOfLeft wM_X6_68 (hk.1) rfl rfl (Nat.le_of_ble_eq_true rfl) (by decide) dX6_crowns_52 (fun _ => ?_)
  refine r_ald0 dX6_crowns_55 ?_
  refine s_getI hM fi_X6_35 (hk.1) rfl dX6_crowns_56 (fun g56 => ?_)
  refine r_imul dX6_crowns_59 ?_
  exact s_iret hM rfl dX6_crowns_60 (by rw [e]; split <;> (try split) <;> first | rfl | omega) (by rfl)
set_option maxHeartbeats 4000000 in
theorem c_X6_canSay (E : xE) {M : xMem} {k : Nat} {s : Int} (hk : xSt k) (hT : TI (tw M)) (hS : SI (tw M) (sv M k)) (hs : 0 ≤ s ∧ s < M 3 7) : Ct E mX6_canSay 2 3 [xr E k, xi s] M (some (xi (b2i (canT (tw M) (sv M k) s)))) (M) := by
  refine Ct.of 0 2 (by rfl) (by decide +kernel) (fun hM => ?_)
  have hn : 1 ≤ M 3 6 ∧ M 3 6 ≤ 5 := hT.1
  have hN : 1 ≤ M 3 7 ∧ M 3 7 ≤ 6 := hT.2.1
  have hr : 1 ≤ M 3 5 ∧ M 3 5 ≤ 60 := hT.2.2.1
  have hq : (1 ≤ M 5 s.toNat ∧ M 5 s.toNat ≤ 5) ∧ (0 ≤ M 6 s.toNat ∧ M 6 s.toNat < M 3 6) ∧ (1 ≤ M 7 s.toNat ∧ M 7 s.toNat ≤ 30) ∧ (0 ≤ M 8 s.toNat ∧ M 8 s.toNat ≤ s) := hT.2.2.2.2 s hs
  have hl : 0 ≤ M k 5 ∧ M k 5 ≤ 99 := hS.2.1
  have hh : 0 ≤ M k 6 ∧ M k 6 ≤ 999 := hS.2.2.1
  have hpr : 1 ≤ M k 7 ∧ M k 7 ≤ 9 := hS.2.2.2.1
  have hsd : 0 ≤ M k 8 ∧ M k 8 ≤ 63 := hS.2.2.2.2.1
  have hwk : 0 ≤ M k 4 ∧ M k 4 ≤ 100000 := hS.1
  have hpu : (0 ≤ M (k + 1) (M 6 s.toNat).toNat ∧ M (k + 1) (M 6 s.toNat).toNat ≤ 99) ∧ (0 ≤ M (k + 2) (M 6 s.toNat).toNat ∧ M (k + 2) (M 6 s.toNat).toNat ≤ 99) := hS.2.2.2.2.2.1 _ hq.2.1
  have hwd := words_b hT hs
  have hwo := wol_b hT hS hs
  have hcr := crn_b hT hS hs
  have e : canT (tw M) (sv M k) s ↔ ¬ bitI (M k 8) s = 1 ∧ wolT (tw M) (sv M k) s ≤ M k 5 ∧ crnT (tw M) (sv M k) s ≤ M (k + 1) (M 6 s.toNat).toNat := Iff.rfl
  show VS E mX6_canSay 3 _ _ 0 [some (xr E k), some (xi s)] [] M
  refine r_ald0 dX6_canSay_0 ?_
  refine r_ild1 dX6_canSay_1 ?_
  refine s_callV1r hM (c_X6_isSaid E (by first | with_reducible assumption | with_reducible exact xSt_9 | with_reducible exact xSt_13 | omega) (by first | with_reducible assumption | with_reducible exact xSt_9 | with_reducible exact xSt_13 | omega) (by first | with_reducible assumption | with_reducible exact xSt_9 | with_reducible exact xSt_13 | omega)) cv_X6_isSaid wM_X6_71 (hk.1) rfl rfl (Nat.le_of_ble_eq_true rfl) (by decide) dX6_canSay_2 (fun _ => ?_)
  refine r_ifb_ne 46 dX6_canSay_5 (by decide) (fun c5 => ?_) (fun c5 => ?_)
  · skip
    refine r_iconst dX6_canSay_46 ?_
    exact s_zret hM rfl (by omega) dX6_canSay_47 (by rw [b2i_cg e]; unfold b2i; split <;> omega) (by rfl)
  refine r_ald0 dX6_canSay_8 ?_
  refine s_getI hM fi_X6_29 (hk.1) rfl dX6_canSay_9 (fun g9 => ?_)
  refine r_ald0 dX6_canSay_12 ?_
  refine r_ild1 dX6_canSay_13 ?_
  refine s_callV1r hM (c_X6_wordsOfLeft E (by first | with_reducible assumption | with_reducible exact xSt_9 | with_reducible exact xSt_13 | omega) (by first | with_reducible assumption | with_reducible exact xSt_9 | with_reducible exact xSt_13 | omega) (by first | with_reducible assumption | with_reducible exact xSt_9 | with_reducible exact xSt_13 | omega) (by first | with_reducible assumption | with_reducible exact xSt_9 | with_reducible exact xSt_13 | omega)) cv_X6_wordsOfLeft wM_X6_68 (hk.1) rfl rfl (Nat.le_of_ble_eq_true rfl) (by decide) dX6_canSay_14 (fun _ => ?_)
  refine r_icmp_lt 46 dX6_canSay_17 (by decide) (by omega) (by omega) (fun c17 => ?_) (fun c17 => ?_)
  · skip
    refine r_iconst dX6_canSay_46 ?_
    exact s_zret hM rfl (by omega) dX6_canSay_47 (by rw [b2i_cg e]; unfold b2i; split <;> omega) (by rfl)
  refine r_ald0 dX6_canSay_20 ?_
  refine s_getR fi_X6_9 (hk.1) rfl dX6_canSay_21 ?_
  refine r_ald0 dX6_canSay_24 ?_
  refine s_getR fi_X6_21 (hk.1) rfl dX6_canSay_25 ?_
  refine s_getR fi_X6_53 (sh_3) rfl dX6_canSay_28 ?_
  refine r_ild1 dX6_canSay_31 ?_
  refine s_iald hM (sh_6) (by omega) (by decide) dX6_canSay_32 (fun g32 => ?_)
  refine s_iald hM (hk.2.1) (by omega) (by decide) dX6_canSay_33 (fun g33 => ?_)
  refine r_ald0 dX6_canSay_34 ?_
  refine r_ild1 dX6_canSay_35 ?_
  refine s_callV1r hM (c_X6_crowns E (by first | with_reducible assumption | with_reducible exact xSt_9 | with_reducible exact xSt_13 | omega) (by first | with_reducible assumption | with_reducible exact xSt_9 | with_reducible exact xSt_13 | omega) (by first | with_reducible assumption | with_reducible exact xSt_9 | with_reducible exact xSt_13 | omega) (by first | with_reducible assumption | with_reducible exact xSt_9 | with_reducible exact xSt_13 | omega)) cv_X6_crowns wM_X6_75 (hk.1) rfl rfl (Nat.le_of_ble_eq_true rfl) (by decide) dX6_canSay_36 (fun _ => ?_)
  refine r_icmp_lt 46 dX6_canSay_39 (by decide) (by omega) (by omega) (fun c39 => ?_) (fun c39 => ?_)
  · skip
    refine r_iconst dX6_canSay_46 ?_
    exact s_zret hM rfl (by omega) dX6_canSay_47 (by rw [b2i_cg e]; unfold b2i; split <;> omega) (by rfl)
  refine r_iconst dX6_canSay_42 ?_
  refine r_goto 47 dX6_canSay_43 (by decide) ?_
  exact s_zret hM rfl (by omega) dX6_canSay_47 (by rw [b2i_cg e]; unfold b2i; split <;> omega) (by rfl)
set_option maxHeartbeats 4000000 in
theorem c_X6_speak (E : xE) {M : xMem} {k : Nat} {s : Int} (hk : xSt k) (hT : TI (tw M)) (hS : SI (tw M) (sv M k)) (hs : 0 ≤ s ∧ s < M 3 7) : Ct E mX6_speak 4 3 [xr E k, xi s] M (some (xi (wolT (tw M) (sv M k) s))) (spkM M k s) := by
  refine Ct.of 2 4 (by rfl) (by decide +kernel) (fun hM => ?_)
  have hn : 1 ≤ M 3 6 ∧ M 3 6 ≤ 5 := hT.1
  have hN : 1 ≤ M 3 7 ∧ M 3 7 ≤ 6 := hT.2.1
  have hr : 1 ≤ M 3 5 ∧ M 3 5 ≤ 60 := hT.2.2.1
  have hq : (1 ≤ M 5 s.toNat ∧ M 5 s.toNat ≤ 5) ∧ (0 ≤ M 6 s.toNat ∧ M 6 s.toNat < M 3 6) ∧ (1 ≤ M 7 s.toNat ∧ M 7 s.toNat ≤ 30) ∧ (0 ≤ M 8 s.toNat ∧ M 8 s.toNat ≤ s) := hT.2.2.2.2 s hs
  have hl : 0 ≤ M k 5 ∧ M k 5 ≤ 99 := hS.2.1
  have hh : 0 ≤ M k 6 ∧ M k 6 ≤ 999 := hS.2.2.1
  have hpr : 1 ≤ M k 7 ∧ M k 7 ≤ 9 := hS.2.2.2.1
  have hsd : 0 ≤ M k 8 ∧ M k 8 ≤ 63 := hS.2.2.2.2.1
  have hwk : 0 ≤ M k 4 ∧ M k 4 ≤ 100000 := hS.1
  have hpu : (0 ≤ M (k + 1) (M 6 s.toNat).toNat ∧ M (k + 1) (M 6 s.toNat).toNat ≤ 99) ∧ (0 ≤ M (k + 2) (M 6 s.toNat).toNat ∧ M (k + 2) (M 6 s.toNat).toNat ≤ 99) := hS.2.2.2.2.2.1 _ hq.2.1
  have hwd := words_b hT hs
  have hwo := wol_b hT hS hs
  have hcr := crn_b hT hS hs
  have hp2 := p2_b (n := s) (by omega)
  have hk9 := hk.2.2.2.2
  have hrb := reachT_b (n := M 3 6) (k := M 5 s.toNat) (sp := M 6 s.toNat) (d := 0) (by omega) (by omega)
  have hor := xor2_63 (a := M k 8) (b := 1 * 2 ^ s.toNat) hsd (by have := p2_5 (n := s) (by omega); omega)
  show VS E mX6_speak 3 _ _ 0 [some (xr E k), some (xi s), none, none] [] M
  refine r_ald0 dX6_speak_0 ?_
  refine s_getR fi_X6_21 (hk.1) rfl dX6_speak_1 ?_
  refine s_getR fi_X6_53 (sh_3) rfl dX6_speak_4 ?_
  refine r_ild1 dX6_speak_7 ?_
  refine s_iald hM (sh_6) (by omega) (by decide) dX6_speak_8 (fun g8 => ?_)
  refine r_ist2 dX6_speak_9 rfl ?_
  refine r_ald0 dX6_speak_10 ?_
  refine r_ild1 dX6_speak_11 ?_
  refine s_callV1r hM (c_X6_wordsOfLeft E (by first | with_reducible assumption | with_reducible exact xSt_9 | with_reducible exact xSt_13 | omega) (by first | with_reducible assumption | with_reducible exact xSt_9 | with_reducible exact xSt_13 | omega) (by first | with_reducible assumption | with_reducible exact xSt_9 | with_reducible exact xSt_13 | omega) (by first | with_reducible assumption | with_reducible exact xSt_9 | with_reducible exact xSt_13 | omega)) cv_X6_wordsOfLeft wM_X6_68 (hk.1) rfl rfl (Nat.le_of_ble_eq_true rfl) (by decide) dX6_speak_12 (fun _ => ?_)
  refine r_ist3 dX6_speak_15 rfl ?_
  refine r_ald0 dX6_speak_16 ?_
  refine s_getR fi_X6_9 (hk.1) rfl dX6_speak_17 ?_
  refine r_ild2 dX6_speak_20 ?_
  refine r_dup2 dX6_speak_21 rfl rfl ?_
  refine s_iald hM (hk.2.1) (by omega) (by decide) dX6_speak_22 (fun g22 => ?_)
  refine r_ald0 dX6_speak_23 ?_
  refine r_ild1 dX6_speak_24 ?_
  refine s_callV1r hM (c_X6_crowns E (by first | with_reducible assumption | with_reducible exact xSt_9 | with_reducible exact xSt_13 | omega) (by first | with_reducible assumption | with_reducible exact xSt_9 | with_reducible exact xSt_13 | omega) (by first | with_reducible assumption | with_reducible exact xSt_9 | with_reducible exact xSt_13 | omega) (by first | with_reducible assumption | with_reducible exact xSt_9 | with_reducible exact xSt_13 | omega)) cv_X6_crowns wM_X6_75 (hk.1) rfl rfl (Nat.le_of_ble_eq_true rfl) (by decide) dX6_speak_25 (fun _ => ?_)
  refine r_isub dX6_speak_28 ?_
  refine s_iast hM (hk.2.1) (by omega) (by decide) (by omega) dX6_speak_29 (fun hM29 => ?_)
  refine r_ald0 dX6_speak_30 ?_
  refine s_getR fi_X6_15 (hk.1) rfl dX6_speak_31 ?_
  refine r_ild2 dX6_speak_34 ?_
  refine r_dup2 dX6_speak_35 rfl rfl ?_
  refine s_iald hM29 (hk.2.2.1) (by omega) (by decide) dX6_speak_36 (fun g36 => ?_)
  try simp (disch := omega) only [mS_ne, mS_eq]
  refine r_ald0 dX6_speak_37 ?_
  refine s_getR fi_X6_21 (hk.1) rfl dX6_speak_38 ?_
  refine r_ild1 dX6_speak_41 ?_
  refine s_callV1r hM29 (c_X8_words E (by rw [tw_mS (Or.inl (by omega))]; exact hT) (by simp (disch := omega) only [mS_ne]; exact hs)) cv_X8_words wM_X6_47 (sh_3) rfl rfl (Nat.le_of_ble_eq_true rfl) (by decide) dX6_speak_42 (fun _ => ?_)
  rw [tw_mS (Or.inl (by omega))]
  refine r_ild3 dX6_speak_45 ?_
  refine r_isub dX6_speak_46 ?_
  refine r_isub dX6_speak_47 ?_
  refine s_iast hM29 (hk.2.2.1) (by omega) (by decide) (by omega) dX6_speak_48 (fun hM48 => ?_)
  refine r_ald0 dX6_speak_49 ?_
  refine r_dup dX6_speak_50 rfl ?_
  refine s_getI hM48 fi_X6_29 (hk.1) rfl dX6_speak_51 (fun g51 => ?_)
  try simp (disch := omega) only [mS_ne, mS_eq]
  refine r_ild3 dX6_speak_54 ?_
  refine r_isub dX6_speak_55 ?_
  refine s_putI hM48 fp_X6_29 (hk.1) rfl (by omega) dX6_speak_56 (fun hM56 => ?_)
  refine r_ald0 dX6_speak_59 ?_
  refine r_dup dX6_speak_60 rfl ?_
  refine s_getI hM56 fi_X6_38 (hk.1) rfl dX6_speak_61 (fun g61 => ?_)
  try simp (disch := omega) only [mS_ne, mS_eq]
  refine r_iconst dX6_speak_64 ?_
  refine r_ild1 dX6_speak_65 ?_
  refine r_ishl dX6_speak_66 (by omega) ?_
  refine r_ior dX6_speak_67 (by omega) (by omega) (fun g67 => ?_)
  refine s_putI hM56 fp_X6_38 (hk.1) rfl (by omega) dX6_speak_68 (fun hM68 => ?_)
  refine r_ald0 dX6_speak_71 ?_
  refine s_getR fi_X6_18 (hk.1) rfl dX6_speak_72 ?_
  refine r_ild1 dX6_speak_75 ?_
  refine r_ald0 dX6_speak_76 ?_
  refine s_getR fi_X6_21 (hk.1) rfl dX6_speak_77 ?_
  refine r_ald0 dX6_speak_80 ?_
  refine s_getR fi_X6_21 (hk.1) rfl dX6_speak_81 ?_
  refine s_getR fi_X6_62 (sh_3) rfl dX6_speak_84 ?_
  refine r_ild1 dX6_speak_87 ?_
  refine s_iald hM68 (sh_5) (by omega) (by decide) dX6_speak_88 (fun g88 => ?_)
  try simp (disch := omega) only [mS_ne, mS_eq]
  refine r_ild2 dX6_speak_89 ?_
  refine r_iconst dX6_speak_90 ?_
  refine s_callV3r hM68 (c_X8_reachedBySaying E (by simp (disch := omega) only [mS_ne]; omega) (by first | with_reducible assumption | with_reducible exact xSt_9 | with_reducible exact xSt_13 | omega) (by first | with_reducible assumption | with_reducible exact xSt_9 | with_reducible exact xSt_13 | omega) (by first | with_reducible assumption | with_reducible exact xSt_9 | with_reducible exact xSt_13 | omega)) cv_X8_reachedBySaying wM_X6_78 (sh_3) rfl rfl (Nat.le_of_ble_eq_true rfl) (by decide) dX6_speak_91 (fun _ => ?_)
  simp (disch := omega) only [mS_ne]
  refine s_iast hM68 (hk.2.2.2.1) (by omega) (by decide) (by omega) dX6_speak_94 (fun hM94 => ?_)
  refine r_ild3 dX6_speak_95 ?_
  exact s_iret hM94 rfl dX6_speak_96 (by rfl) (by rfl)
set_option maxHeartbeats 4000000 in
theorem c_X6_canBank (E : xE) {M : xMem} {k : Nat} {p w : Int} (hk : xSt k) (hT : TI (tw M)) (hS : SI (tw M) (sv M k)) (hp : 0 ≤ p ∧ p < M 3 6) (hw : 1 ≤ w ∧ w ≤ 60) : Ct E mX6_canBank 3 0 [xr E k, xi p, xi w] M (some (xi (b2i (w ≤ M k 5 ∧ w * M k 7 ≤ M (k + 1) p.toNat ∧ M (k + 2) p.toNat + w ≤ 99)))) (M) := by
  refine Ct.of 0 3 (by rfl) (by decide +kernel) (fun hM => ?_)
  have hn : 1 ≤ M 3 6 ∧ M 3 6 ≤ 5 := hT.1
  have hN : 1 ≤ M 3 7 ∧ M 3 7 ≤ 6 := hT.2.1
  have hr : 1 ≤ M 3 5 ∧ M 3 5 ≤ 60 := hT.2.2.1
  have hl : 0 ≤ M k 5 ∧ M k 5 ≤ 99 := hS.2.1
  have hh : 0 ≤ M k 6 ∧ M k 6 ≤ 999 := hS.2.2.1
  have hpr : 1 ≤ M k 7 ∧ M k 7 ≤ 9 := hS.2.2.2.1
  have hsd : 0 ≤ M k 8 ∧ M k 8 ≤ 63 := hS.2.2.2.2.1
  have hwk : 0 ≤ M k 4 ∧ M k 4 ≤ 100000 := hS.1
  have hpu : (0 ≤ M (k + 1) p.toNat ∧ M (k + 1) p.toNat ≤ 99) ∧ (0 ≤ M (k + 2) p.toNat ∧ M (k + 2) p.toNat ≤ 99) := hS.2.2.2.2.2.1 p hp
  have hin : 0 ≤ M 4 p.toNat ∧ M 4 p.toNat ≤ 20 := hT.2.2.2.1 p hp
  have hm := mul_b (a := w) (A := 60) (b := M k 7) (B := 9) (by omega) (by omega)
  show VS E mX6_canBank 0 _ _ 0 [some (xr E k), some (xi p), some (xi w)] [] M
  refine r_ild2 dX6_canBank_0 ?_
  refine r_ald0 dX6_canBank_1 ?_
  refine s_getI hM fi_X6_29 (hk.1) rfl dX6_canBank_2 (fun g2 => ?_)
  refine r_icmp_gt 40 dX6_canBank_5 (by decide) (by omega) (by omega) (fun c5 => ?_) (fun c5 => ?_)
  · skip
    refine r_iconst dX6_canBank_40 ?_
    exact s_zret hM rfl (by omega) dX6_canBank_41 (by unfold b2i; split <;> omega) (by rfl)
  refine r_ild2 dX6_canBank_8 ?_
  refine r_ald0 dX6_canBank_9 ?_
  refine s_getI hM fi_X6_35 (hk.1) rfl dX6_canBank_10 (fun g10 => ?_)
  refine r_imul dX6_canBank_13 ?_
  refine r_ald0 dX6_canBank_14 ?_
  refine s_getR fi_X6_9 (hk.1) rfl dX6_canBank_15 ?_
  refine r_ild1 dX6_canBank_18 ?_
  refine s_iald hM (hk.2.1) (by omega) (by decide) dX6_canBank_19 (fun g19 => ?_)
  refine r_icmp_gt 40 dX6_canBank_20 (by decide) (by omega) (by omega) (fun c20 => ?_) (fun c20 => ?_)
  · skip
    refine r_iconst dX6_canBank_40 ?_
    exact s_zret hM rfl (by omega) dX6_canBank_41 (by unfold b2i; split <;> omega) (by rfl)
  refine r_ald0 dX6_canBank_23 ?_
  refine s_getR fi_X6_15 (hk.1) rfl dX6_canBank_24 ?_
  refine r_ild1 dX6_canBank_27 ?_
  refine s_iald hM (hk.2.2.1) (by omega) (by decide) dX6_canBank_28 (fun g28 => ?_)
  refine r_ild2 dX6_canBank_29 ?_
  refine r_iadd dX6_canBank_30 ?_
  refine r_bipush dX6_canBank_31 (by decide +kernel) ?_
  refine r_icmp_gt 40 dX6_canBank_33 (by decide) (by omega) (by omega) (fun c33 => ?_) (fun c33 => ?_)
  · skip
    refine r_iconst dX6_canBank_40 ?_
    exact s_zret hM rfl (by omega) dX6_canBank_41 (by unfold b2i; split <;> omega) (by rfl)
  refine r_iconst dX6_canBank_36 ?_
  refine r_goto 41 dX6_canBank_37 (by decide) ?_
  exact s_zret hM rfl (by omega) dX6_canBank_41 (by unfold b2i; split <;> omega) (by rfl)
set_option maxHeartbeats 4000000 in
theorem c_X6_bank (E : xE) {M : xMem} {k : Nat} {p w : Int} (hk : xSt k) (hT : TI (tw M)) (hS : SI (tw M) (sv M k)) (hp : 0 ≤ p ∧ p < M 3 6) (hw : 1 ≤ w ∧ w ≤ 60) : Ct E mX6_bank 3 0 [xr E k, xi p, xi w] M (some (xi (M (k + 2) p.toNat + w))) (bnkM M k p w) := by
  refine Ct.of 0 3 (by rfl) (by decide +kernel) (fun hM => ?_)
  have hn : 1 ≤ M 3 6 ∧ M 3 6 ≤ 5 := hT.1
  have hN : 1 ≤ M 3 7 ∧ M 3 7 ≤ 6 := hT.2.1
  have hr : 1 ≤ M 3 5 ∧ M 3 5 ≤ 60 := hT.2.2.1
  have hl : 0 ≤ M k 5 ∧ M k 5 ≤ 99 := hS.2.1
  have hh : 0 ≤ M k 6 ∧ M k 6 ≤ 999 := hS.2.2.1
  have hpr : 1 ≤ M k 7 ∧ M k 7 ≤ 9 := hS.2.2.2.1
  have hsd : 0 ≤ M k 8 ∧ M k 8 ≤ 63 := hS.2.2.2.2.1
  have hwk : 0 ≤ M k 4 ∧ M k 4 ≤ 100000 := hS.1
  have hpu : (0 ≤ M (k + 1) p.toNat ∧ M (k + 1) p.toNat ≤ 99) ∧ (0 ≤ M (k + 2) p.toNat ∧ M (k + 2) p.toNat ≤ 99) := hS.2.2.2.2.2.1 p hp
  have hin : 0 ≤ M 4 p.toNat ∧ M 4 p.toNat ≤ 20 := hT.2.2.2.1 p hp
  have hm := mul_b (a := w) (A := 60) (b := M k 7) (B := 9) (by omega) (by omega)
  show VS E mX6_bank 0 _ _ 0 [some (xr E k), some (xi p), some (xi w)] [] M
  refine r_ald0 dX6_bank_0 ?_
  refine r_dup dX6_bank_1 rfl ?_
  refine s_getI hM fi_X6_29 (hk.1) rfl dX6_bank_2 (fun g2 => ?_)
  refine r_ild2 dX6_bank_5 ?_
  refine r_isub dX6_bank_6 ?_
  refine s_putI hM fp_X6_29 (hk.1) rfl (by omega) dX6_bank_7 (fun hM7 => ?_)
  refine r_ald0 dX6_bank_10 ?_
  refine s_getR fi_X6_9 (hk.1) rfl dX6_bank_11 ?_
  refine r_ild1 dX6_bank_14 ?_
  refine r_dup2 dX6_bank_15 rfl rfl ?_
  refine s_iald hM7 (hk.2.1) (by omega) (by decide) dX6_bank_16 (fun g16 => ?_)
  try simp (disch := omega) only [mS_ne, mS_eq]
  refine r_ild2 dX6_bank_17 ?_
  refine r_ald0 dX6_bank_18 ?_
  refine s_getI hM7 fi_X6_35 (hk.1) rfl dX6_bank_19 (fun g19 => ?_)
  try simp (disch := omega) only [mS_ne, mS_eq]
  refine r_imul dX6_bank_22 ?_
  refine r_isub dX6_bank_23 ?_
  refine s_iast hM7 (hk.2.1) (by omega) (by decide) (by omega) dX6_bank_24 (fun hM24 => ?_)
  refine r_ald0 dX6_bank_25 ?_
  refine s_getR fi_X6_15 (hk.1) rfl dX6_bank_26 ?_
  refine r_ild1 dX6_bank_29 ?_
  refine r_dup2 dX6_bank_30 rfl rfl ?_
  refine s_iald hM24 (hk.2.2.1) (by omega) (by decide) dX6_bank_31 (fun g31 => ?_)
  try simp (disch := omega) only [mS_ne, mS_eq]
  refine r_ild2 dX6_bank_32 ?_
  refine r_iadd dX6_bank_33 ?_
  refine s_iast hM24 (hk.2.2.1) (by omega) (by decide) (by omega) dX6_bank_34 (fun hM34 => ?_)
  refine r_ald0 dX6_bank_35 ?_
  refine s_getR fi_X6_15 (hk.1) rfl dX6_bank_36 ?_
  refine r_ild1 dX6_bank_39 ?_
  refine s_iald hM34 (hk.2.2.1) (by omega) (by decide) dX6_bank_40 (fun g40 => ?_)
  try simp (disch := omega) only [mS_ne, mS_eq]
  exact s_iret hM34 rfl dX6_bank_41 (by rfl) (by rfl)
set_option maxHeartbeats 4000000 in
theorem c_X6_purseAhead (E : xE) {M : xMem} {k : Nat} {p w : Int} (hk : xSt k) (hp : 0 ≤ p ∧ p ≤ 4) (hpu : 0 ≤ M (k + 1) p.toNat ∧ M (k + 1) p.toNat ≤ 99) (hin : 0 ≤ M 4 p.toNat ∧ M 4 p.toNat ≤ 20) (hw : 0 ≤ w ∧ w ≤ 1000) : Ct E mX6_purseAhead 3 1 [xr E k, xi p, xi w] M (some (xi (min 99 (M (k + 1) p.toNat + w * M 4 p.toNat)))) (M) := by
  refine Ct.of 0 3 (by rfl) (by decide +kernel) (fun hM => ?_)
  have hm := mul_b (a := w) (A := 1000) (b := M 4 p.toNat) (B := 20) (by omega) (by omega)
  show VS E mX6_purseAhead 1 _ _ 0 [some (xr E k), some (xi p), some (xi w)] [] M
  refine r_bipush dX6_purseAhead_0 (by decide +kernel) ?_
  refine r_ald0 dX6_purseAhead_2 ?_
  refine s_getR fi_X6_9 (hk.1) rfl dX6_purseAhead_3 ?_
  refine r_ild1 dX6_purseAhead_6 ?_
  refine s_iald hM (hk.2.1) (by omega) (by decide) dX6_purseAhead_7 (fun g7 => ?_)
  refine r_ild2 dX6_purseAhead_8 ?_
  refine r_ald0 dX6_purseAhead_9 ?_
  refine s_getR fi_X6_21 (hk.1) rfl dX6_purseAhead_10 ?_
  refine s_getR fi_X6_82 (sh_3) rfl dX6_purseAhead_13 ?_
  refine r_ild1 dX6_purseAhead_16 ?_
  refine s_iald hM (sh_4) (by omega) (by decide) dX6_purseAhead_17 (fun g17 => ?_)
  refine r_imul dX6_purseAhead_18 ?_
  refine r_iadd dX6_purseAhead_19 ?_
  refine r_min wM_X6_85 wT_min wI_J9 wD_min (Nat.le_of_ble_eq_true rfl) (by decide) (Nat.le_refl 0) (Nat.le_refl 0) (by omega) (by omega) dX6_purseAhead_20 ?_
  exact s_iret hM rfl dX6_purseAhead_23 (by rfl) (by rfl)
set_option maxHeartbeats 4000000 in
theorem c_X6_hillAhead (E : xE) {M : xMem} {k : Nat} {w : Int} (hk : xSt k) (hl : 0 ≤ M k 5 ∧ M k 5 ≤ 99) (hh : 0 ≤ M k 6 ∧ M k 6 ≤ 999) (hr : 1 ≤ M 3 5 ∧ M 3 5 ≤ 60) (hw : 0 ≤ w ∧ w ≤ 1000) : Ct E mX6_hillAhead 2 1 [xr E k, xi w] M (some (xi (if w = 0 then M k 6 else min 999 (M k 6 + M k 5 + (w - 1) * M 3 5)))) (M) := by
  refine Ct.of 0 2 (by rfl) (by decide +kernel) (fun hM => ?_)
  show VS E mX6_hillAhead 1 _ _ 0 [some (xr E k), some (xi w)] [] M
  refine r_ild1 dX6_hillAhead_0 ?_
  refine r_if_ne 11 dX6_hillAhead_1 (by decide) (by omega) (fun c1 => ?_) (fun c1 => ?_)
  · skip
    have hm := mul_b (a := w - 1) (A := 1000) (b := M 3 5) (B := 60) (by omega) (by omega)
    refine r_sipush dX6_hillAhead_11 (by decide +kernel) ?_
    refine r_ald0 dX6_hillAhead_14 ?_
    refine s_getI hM fi_X6_32 (hk.1) rfl dX6_hillAhead_15 (fun g15 => ?_)
    refine r_ald0 dX6_hillAhead_18 ?_
    refine s_getI hM fi_X6_29 (hk.1) rfl dX6_hillAhead_19 (fun g19 => ?_)
    refine r_iadd dX6_hillAhead_22 ?_
    refine r_ild1 dX6_hillAhead_23 ?_
    refine r_iconst dX6_hillAhead_24 ?_
    refine r_isub dX6_hillAhead_25 ?_
    refine r_ald0 dX6_hillAhead_26 ?_
    refine s_getR fi_X6_21 (hk.1) rfl dX6_hillAhead_27 ?_
    refine s_getI hM fi_X6_88 (sh_3) rfl dX6_hillAhead_30 (fun g30 => ?_)
    refine r_imul dX6_hillAhead_33 ?_
    refine r_iadd dX6_hillAhead_34 ?_
    refine r_min wM_X6_85 wT_min wI_J9 wD_min (Nat.le_of_ble_eq_true rfl) (by decide) (Nat.le_refl 0) (Nat.le_refl 0) (by omega) (by omega) dX6_hillAhead_35 ?_
    exact s_iret hM rfl dX6_hillAhead_38 (by split <;> first | rfl | omega) (by rfl)
  refine r_ald0 dX6_hillAhead_4 ?_
  refine s_getI hM fi_X6_32 (hk.1) rfl dX6_hillAhead_5 (fun g5 => ?_)
  refine r_goto 38 dX6_hillAhead_8 (by decide) ?_
  exact s_iret hM rfl dX6_hillAhead_38 (by split <;> first | rfl | omega) (by rfl)
set_option maxHeartbeats 4000000 in
theorem c_X6_knownAhead (E : xE) {M : xMem} {k : Nat} {s w : Int} (hk : xSt k) (hT : TI (tw M)) (hS : SI (tw M) (sv M k)) (hs : 0 ≤ s ∧ s < M 3 7) (hw : 0 ≤ w ∧ w ≤ 1000) : Ct E mX6_knownAhead 3 3 [xr E k, xi s, xi w] M (some (xi (knwT (tw M) (sv M k) s w))) (M) := by
  refine Ct.of 0 3 (by rfl) (by decide +kernel) (fun hM => ?_)
  have hn : 1 ≤ M 3 6 ∧ M 3 6 ≤ 5 := hT.1
  have hN : 1 ≤ M 3 7 ∧ M 3 7 ≤ 6 := hT.2.1
  have hr : 1 ≤ M 3 5 ∧ M 3 5 ≤ 60 := hT.2.2.1
  have hq : (1 ≤ M 5 s.toNat ∧ M 5 s.toNat ≤ 5) ∧ (0 ≤ M 6 s.toNat ∧ M 6 s.toNat < M 3 6) ∧ (1 ≤ M 7 s.toNat ∧ M 7 s.toNat ≤ 30) ∧ (0 ≤ M 8 s.toNat ∧ M 8 s.toNat ≤ s) := hT.2.2.2.2 s hs
  have hl : 0 ≤ M k 5 ∧ M k 5 ≤ 99 := hS.2.1
  have hh : 0 ≤ M k 6 ∧ M k 6 ≤ 999 := hS.2.2.1
  have hpr : 1 ≤ M k 7 ∧ M k 7 ≤ 9 := hS.2.2.2.1
  have hsd : 0 ≤ M k 8 ∧ M k 8 ≤ 63 := hS.2.2.2.2.1
  have hwk : 0 ≤ M k 4 ∧ M k 4 ≤ 100000 := hS.1
  have hkn : 0 ≤ M (k + 3) s.toNat ∧ M (k + 3) s.toNat ≤ 31 := hS.2.2.2.2.2.2 s hs
  show VS E mX6_knownAhead 3 _ _ 0 [some (xr E k), some (xi s), some (xi w)] [] M
  refine r_ald0 dX6_knownAhead_0 ?_
  refine s_getR fi_X6_21 (hk.1) rfl dX6_knownAhead_1 ?_
  refine r_ald0 dX6_knownAhead_4 ?_
  refine s_getR fi_X6_21 (hk.1) rfl dX6_knownAhead_5 ?_
  refine s_getR fi_X6_62 (sh_3) rfl dX6_knownAhead_8 ?_
  refine r_ild1 dX6_knownAhead_11 ?_
  refine s_iald hM (sh_5) (by omega) (by decide) dX6_knownAhead_12 (fun g12 => ?_)
  refine r_ald0 dX6_knownAhead_13 ?_
  refine s_getR fi_X6_18 (hk.1) rfl dX6_knownAhead_14 ?_
  refine r_ild1 dX6_knownAhead_17 ?_
  refine s_iald hM (hk.2.2.2.1) (by omega) (by decide) dX6_knownAhead_18 (fun g18 => ?_)
  refine r_iconst dX6_knownAhead_19 ?_
  refine r_ild2 dX6_knownAhead_20 ?_
  refine s_callV4r hM (c_X8_onward E (by first | with_reducible assumption | with_reducible exact xSt_9 | with_reducible exact xSt_13 | omega) (by first | with_reducible assumption | with_reducible exact xSt_9 | with_reducible exact xSt_13 | omega) (by first | with_reducible assumption | with_reducible exact xSt_9 | with_reducible exact xSt_13 | omega) (by first | with_reducible assumption | with_reducible exact xSt_9 | with_reducible exact xSt_13 | omega) (by first | with_reducible assumption | with_reducible exact xSt_9 | with_reducible exact xSt_13 | omega)) cv_X8_onward wM_X6_91 (sh_3) rfl rfl (Nat.le_of_ble_eq_true rfl) (by decide) dX6_knownAhead_21 (fun _ => ?_)
  exact s_iret hM rfl dX6_knownAhead_24 (by rfl) (by rfl)
set_option maxHeartbeats 4000000 in
theorem c_X6_weeksToEarn (E : xE) {M : xMem} {k : Nat} {s x : Int} (hk : xSt k) (hT : TI (tw M)) (hs : 0 ≤ s ∧ s < M 3 7) (hx : -1000 ≤ x ∧ x ≤ 1000) : Ct E mX6_weeksToEarn 4 0 [xr E k, xi s, xi x] M (some (xi (earnT (tw M) s x))) (M) := by
  refine Ct.of 1 4 (by rfl) (by decide +kernel) (fun hM => ?_)
  have hn : 1 ≤ M 3 6 ∧ M 3 6 ≤ 5 := hT.1
  have hN : 1 ≤ M 3 7 ∧ M 3 7 ≤ 6 := hT.2.1
  have hr : 1 ≤ M 3 5 ∧ M 3 5 ≤ 60 := hT.2.2.1
  have hq : (1 ≤ M 5 s.toNat ∧ M 5 s.toNat ≤ 5) ∧ (0 ≤ M 6 s.toNat ∧ M 6 s.toNat < M 3 6) ∧ (1 ≤ M 7 s.toNat ∧ M 7 s.toNat ≤ 30) ∧ (0 ≤ M 8 s.toNat ∧ M 8 s.toNat ≤ s) := hT.2.2.2.2 s hs
  have hin : 0 ≤ M 4 (M 6 s.toNat).toNat ∧ M 4 (M 6 s.toNat).toNat ≤ 20 := hT.2.2.2.1 _ hq.2.1
  have e : earnT (tw M) s x = if x ≤ 0 then 0 else if 0 < M 4 (M 6 s.toNat).toNat then (x + M 4 (M 6 s.toNat).toNat - 1) / M 4 (M 6 s.toNat).toNat else 1000000 := rfl
  show VS E mX6_weeksToEarn 0 _ _ 0 [some (xr E k), some (xi s), some (xi x), none] [] M
  refine r_ald0 dX6_weeksToEarn_0 ?_
  refine s_getR fi_X6_21 (hk.1) rfl dX6_weeksToEarn_1 ?_
  refine s_getR fi_X6_82 (sh_3) rfl dX6_weeksToEarn_4 ?_
  refine r_ald0 dX6_weeksToEarn_7 ?_
  refine s_getR fi_X6_21 (hk.1) rfl dX6_weeksToEarn_8 ?_
  refine s_getR fi_X6_53 (sh_3) rfl dX6_weeksToEarn_11 ?_
  refine r_ild1 dX6_weeksToEarn_14 ?_
  refine s_iald hM (sh_6) (by omega) (by decide) dX6_weeksToEarn_15 (fun g15 => ?_)
  refine s_iald hM (sh_4) (by omega) (by decide) dX6_weeksToEarn_16 (fun g16 => ?_)
  refine r_ist3 dX6_weeksToEarn_17 rfl ?_
  refine r_ild2 dX6_weeksToEarn_18 ?_
  refine r_if_gt 24 dX6_weeksToEarn_19 (by decide) (by omega) (fun c19 => ?_) (fun c19 => ?_)
  · skip
    refine r_ild3 dX6_weeksToEarn_24 ?_
    refine r_if_le 38 dX6_weeksToEarn_25 (by decide) (by omega) (fun c25 => ?_) (fun c25 => ?_)
    · skip
      refine r_ldc (1000000) dX6_weeksToEarn_38 wC_X6_111 ?_
      exact s_iret hM rfl dX6_weeksToEarn_40 (by rw [e]; split <;> (try split) <;> first | rfl | omega) (by rfl)
    refine r_ild2 dX6_weeksToEarn_28 ?_
    refine r_ild3 dX6_weeksToEarn_29 ?_
    refine r_iadd dX6_weeksToEarn_30 ?_
    refine r_iconst dX6_weeksToEarn_31 ?_
    refine r_isub dX6_weeksToEarn_32 ?_
    refine r_ild3 dX6_weeksToEarn_33 ?_
    refine r_idiv dX6_weeksToEarn_34 (by omega) (by omega) ?_
    refine r_goto 40 dX6_weeksToEarn_35 (by decide) ?_
    exact s_iret hM rfl dX6_weeksToEarn_40 (by rw [e]; split <;> (try split) <;> first | rfl | omega) (by rfl)
  refine r_iconst dX6_weeksToEarn_22 ?_
  exact s_iret hM rfl dX6_weeksToEarn_23 (by rw [e]; split <;> (try split) <;> first | rfl | omega) (by rfl)
set_option maxHeartbeats 4000000 in
theorem c_X6_weeksTill (E : xE) {M : xMem} {k : Nat} {s mo : Int} (hk : xSt k) (hT : TI (tw M)) (hS : SI (tw M) (sv M k)) (hs : 0 ≤ s ∧ s < M 3 7) (hmo : -2147483648 ≤ mo ∧ mo < 2147483648) : Ct E mX6_weeksTill 7 3 [xr E k, xi s, xi mo] M (some (xi (tillT (tw M) (sv M k) s mo))) (M) := by
  refine Ct.of 4 7 (by rfl) (by decide +kernel) (fun hM => ?_)
  have hn : 1 ≤ M 3 6 ∧ M 3 6 ≤ 5 := hT.1
  have hN : 1 ≤ M 3 7 ∧ M 3 7 ≤ 6 := hT.2.1
  have hr : 1 ≤ M 3 5 ∧ M 3 5 ≤ 60 := hT.2.2.1
  have hq : (1 ≤ M 5 s.toNat ∧ M 5 s.toNat ≤ 5) ∧ (0 ≤ M 6 s.toNat ∧ M 6 s.toNat < M 3 6) ∧ (1 ≤ M 7 s.toNat ∧ M 7 s.toNat ≤ 30) ∧ (0 ≤ M 8 s.toNat ∧ M 8 s.toNat ≤ s) := hT.2.2.2.2 s hs
  have hl : 0 ≤ M k 5 ∧ M k 5 ≤ 99 := hS.2.1
  have hh : 0 ≤ M k 6 ∧ M k 6 ≤ 999 := hS.2.2.1
  have hpr : 1 ≤ M k 7 ∧ M k 7 ≤ 9 := hS.2.2.2.1
  have hsd : 0 ≤ M k 8 ∧ M k 8 ≤ 63 := hS.2.2.2.2.1
  have hwk : 0 ≤ M k 4 ∧ M k 4 ≤ 100000 := hS.1
  have hpu : (0 ≤ M (k + 1) (M 6 s.toNat).toNat ∧ M (k + 1) (M 6 s.toNat).toNat ≤ 99) ∧ (0 ≤ M (k + 2) (M 6 s.toNat).toNat ∧ M (k + 2) (M 6 s.toNat).toNat ≤ 99) := hS.2.2.2.2.2.1 _ hq.2.1
  have hwd := words_b hT hs
  have hwo := wol_b hT hS hs
  have hcr := crn_b hT hS hs
  have ew : waitT (tw M) (sv M k) s = if wolT (tw M) (sv M k) s ≤ M k 5 ∧ crnT (tw M) (sv M k) s - M (k + 1) (M 6 s.toNat).toNat ≤ 0 then 0 else max 1 (earnT (tw M) s (crnT (tw M) (sv M k) s - M (k + 1) (M 6 s.toNat).toNat)) := rfl
  have et : tillT (tw M) (sv M k) s mo = if (waitT (tw M) (sv M k) s = 0 ∨ wolT (tw M) (sv M k) s ≤ M 3 5 ∧ crnT (tw M) (sv M k) s ≤ 99) ∧ waitT (tw M) (sv M k) s ≤ mo then waitT (tw M) (sv M k) s else -1000000 := rfl
  have hea := earn_b hT (lack := crnT (tw M) (sv M k) s - M (k + 1) (M 6 s.toNat).toNat) hs (by omega)
  have hwa : 0 ≤ waitT (tw M) (sv M k) s ∧ waitT (tw M) (sv M k) s ≤ 1000000 := by rw [ew]; split <;> omega
  show VS E mX6_weeksTill 3 _ _ 0 [some (xr E k), some (xi s), some (xi mo), none, none, none, none] [] M
  have L56 : ∀ (x : Int), (x = waitT (tw M) (sv M k) s) → VS E mX6_weeksTill 3 (some (xi (tillT (tw M) (sv M k) s mo))) (M) 56 [some (xr E k), some (xi s), some (xi mo), some (xi (wolT (tw M) (sv M k) s)), some (xi (crnT (tw M) (sv M k) s - M (k + 1) (M 6 s.toNat).toNat)), none, none] [xi x] M := by
    intro x  hx
    subst hx
    refine r_ist5 dX6_weeksTill_56 rfl ?_
    refine r_ild5 dX6_weeksTill_58 ?_
    refine r_if_eq 84 dX6_weeksTill_60 (by decide) (by omega) (fun c60 => ?_) (fun c60 => ?_)
    · skip
      refine r_iconst dX6_weeksTill_84 ?_
      refine r_goto 89 dX6_weeksTill_85 (by decide) ?_
      refine r_ist6 dX6_weeksTill_89 rfl ?_
      refine r_ild6 dX6_weeksTill_91 ?_
      refine r_if_eq 107 dX6_weeksTill_93 (by decide) (by omega) (fun c93 => by exfalso; omega) (fun c93 => ?_)
      refine r_ild5 dX6_weeksTill_96 ?_
      refine r_ild2 dX6_weeksTill_98 ?_
      refine r_icmp_gt 107 dX6_weeksTill_99 (by decide) (by omega) (by omega) (fun c99 => ?_) (fun c99 => ?_)
      · skip
        refine r_ldc (-1000000) dX6_weeksTill_107 wC_X6_110 ?_
        exact s_iret hM rfl dX6_weeksTill_109 (by rw [et]; split <;> first | rfl | omega) (by rfl)
      refine r_ild5 dX6_weeksTill_102 ?_
      refine r_goto 109 dX6_weeksTill_104 (by decide) ?_
      exact s_iret hM rfl dX6_weeksTill_109 (by rw [et]; split <;> first | rfl | omega) (by rfl)
    refine r_ald0 dX6_weeksTill_63 ?_
    refine s_getR fi_X6_21 (hk.1) rfl dX6_weeksTill_64 ?_
    refine s_getI hM fi_X6_88 (sh_3) rfl dX6_weeksTill_67 (fun g67 => ?_)
    refine r_ild3 dX6_weeksTill_70 ?_
    refine r_icmp_lt 88 dX6_weeksTill_71 (by decide) (by omega) (by omega) (fun c71 => ?_) (fun c71 => ?_)
    · skip
      refine r_iconst dX6_weeksTill_88 ?_
      refine r_ist6 dX6_weeksTill_89 rfl ?_
      refine r_ild6 dX6_weeksTill_91 ?_
      refine r_if_eq 107 dX6_weeksTill_93 (by decide) (by omega) (fun c93 => ?_) (fun c93 => by exfalso; omega)
      refine r_ldc (-1000000) dX6_weeksTill_107 wC_X6_110 ?_
      exact s_iret hM rfl dX6_weeksTill_109 (by rw [et]; split <;> first | rfl | omega) (by rfl)
    refine r_ald0 dX6_weeksTill_74 ?_
    refine r_ild1 dX6_weeksTill_75 ?_
    refine s_callV1r hM (c_X6_crowns E (by first | with_reducible assumption | with_reducible exact xSt_9 | with_reducible exact xSt_13 | omega) (by first | with_reducible assumption | with_reducible exact xSt_9 | with_reducible exact xSt_13 | omega) (by first | with_reducible assumption | with_reducible exact xSt_9 | with_reducible exact xSt_13 | omega) (by first | with_reducible assumption | with_reducible exact xSt_9 | with_reducible exact xSt_13 | omega)) cv_X6_crowns wM_X6_75 (hk.1) rfl rfl (Nat.le_of_ble_eq_true rfl) (by decide) dX6_weeksTill_76 (fun _ => ?_)
    refine r_bipush dX6_weeksTill_79 (by decide +kernel) ?_
    refine r_icmp_gt 88 dX6_weeksTill_81 (by decide) (by omega) (by omega) (fun c81 => ?_) (fun c81 => ?_)
    · skip
      refine r_iconst dX6_weeksTill_88 ?_
      refine r_ist6 dX6_weeksTill_89 rfl ?_
      refine r_ild6 dX6_weeksTill_91 ?_
      refine r_if_eq 107 dX6_weeksTill_93 (by decide) (by omega) (fun c93 => ?_) (fun c93 => by exfalso; omega)
      refine r_ldc (-1000000) dX6_weeksTill_107 wC_X6_110 ?_
      exact s_iret hM rfl dX6_weeksTill_109 (by rw [et]; split <;> first | rfl | omega) (by rfl)
    refine r_iconst dX6_weeksTill_84 ?_
    refine r_goto 89 dX6_weeksTill_85 (by decide) ?_
    refine r_ist6 dX6_weeksTill_89 rfl ?_
    refine r_ild6 dX6_weeksTill_91 ?_
    refine r_if_eq 107 dX6_weeksTill_93 (by decide) (by omega) (fun c93 => by exfalso; omega) (fun c93 => ?_)
    refine r_ild5 dX6_weeksTill_96 ?_
    refine r_ild2 dX6_weeksTill_98 ?_
    refine r_icmp_gt 107 dX6_weeksTill_99 (by decide) (by omega) (by omega) (fun c99 => ?_) (fun c99 => ?_)
    · skip
      refine r_ldc (-1000000) dX6_weeksTill_107 wC_X6_110 ?_
      exact s_iret hM rfl dX6_weeksTill_109 (by rw [et]; split <;> first | rfl | omega) (by rfl)
    refine r_ild5 dX6_weeksTill_102 ?_
    refine r_goto 109 dX6_weeksTill_104 (by decide) ?_
    exact s_iret hM rfl dX6_weeksTill_109 (by rw [et]; split <;> first | rfl | omega) (by rfl)
  refine r_ald0 dX6_weeksTill_0 ?_
  refine r_ild1 dX6_weeksTill_1 ?_
  refine s_callV1r hM (c_X6_wordsOfLeft E (by first | with_reducible assumption | with_reducible exact xSt_9 | with_reducible exact xSt_13 | omega) (by first | with_reducible assumption | with_reducible exact xSt_9 | with_reducible exact xSt_13 | omega) (by first | with_reducible assumption | with_reducible exact xSt_9 | with_reducible exact xSt_13 | omega) (by first | with_reducible assumption | with_reducible exact xSt_9 | with_reducible exact xSt_13 | omega)) cv_X6_wordsOfLeft wM_X6_68 (hk.1) rfl rfl (Nat.le_of_ble_eq_true rfl) (by decide) dX6_weeksTill_2 (fun _ => ?_)
  refine r_ist3 dX6_weeksTill_5 rfl ?_
  refine r_ald0 dX6_weeksTill_6 ?_
  refine r_ild1 dX6_weeksTill_7 ?_
  refine s_callV1r hM (c_X6_crowns E (by first | with_reducible assumption | with_reducible exact xSt_9 | with_reducible exact xSt_13 | omega) (by first | with_reducible assumption | with_reducible exact xSt_9 | with_reducible exact xSt_13 | omega) (by first | with_reducible assumption | with_reducible exact xSt_9 | with_reducible exact xSt_13 | omega) (by first | with_reducible assumption | with_reducible exact xSt_9 | with_reducible exact xSt_13 | omega)) cv_X6_crowns wM_X6_75 (hk.1) rfl rfl (Nat.le_of_ble_eq_true rfl) (by decide) dX6_weeksTill_8 (fun _ => ?_)
  refine r_ald0 dX6_weeksTill_11 ?_
  refine s_getR fi_X6_9 (hk.1) rfl dX6_weeksTill_12 ?_
  refine r_ald0 dX6_weeksTill_15 ?_
  refine s_getR fi_X6_21 (hk.1) rfl dX6_weeksTill_16 ?_
  refine s_getR fi_X6_53 (sh_3) rfl dX6_weeksTill_19 ?_
  refine r_ild1 dX6_weeksTill_22 ?_
  refine s_iald hM (sh_6) (by omega) (by decide) dX6_weeksTill_23 (fun g23 => ?_)
  refine s_iald hM (hk.2.1) (by omega) (by decide) dX6_weeksTill_24 (fun g24 => ?_)
  refine r_isub dX6_weeksTill_25 ?_
  refine r_ist4 dX6_weeksTill_26 rfl ?_
  refine r_ald0 dX6_weeksTill_28 ?_
  refine s_getI hM fi_X6_29 (hk.1) rfl dX6_weeksTill_29 (fun g29 => ?_)
  refine r_ild3 dX6_weeksTill_32 ?_
  refine r_icmp_lt 45 dX6_weeksTill_33 (by decide) (by omega) (by omega) (fun c33 => ?_) (fun c33 => ?_)
  · skip
    refine r_iconst dX6_weeksTill_45 ?_
    refine r_ald0 dX6_weeksTill_46 ?_
    refine r_ild1 dX6_weeksTill_47 ?_
    refine r_ild4 dX6_weeksTill_48 ?_
    refine s_callV2r hM (c_X6_weeksToEarn E (by first | with_reducible assumption | with_reducible exact xSt_9 | with_reducible exact xSt_13 | omega) (by first | with_reducible assumption | with_reducible exact xSt_9 | with_reducible exact xSt_13 | omega) (by first | with_reducible assumption | with_reducible exact xSt_9 | with_reducible exact xSt_13 | omega) (by first | with_reducible assumption | with_reducible exact xSt_9 | with_reducible exact xSt_13 | omega)) cv_X6_weeksToEarn wM_X6_107 (hk.1) rfl rfl (Nat.le_of_ble_eq_true rfl) (by decide) dX6_weeksTill_50 (fun _ => ?_)
    refine r_max wM_X6_56 wT_max wI_J9 wD_max (Nat.le_of_ble_eq_true rfl) (by decide) (Nat.le_refl 0) (Nat.le_refl 0) (by omega) (by omega) dX6_weeksTill_53 ?_
    exact L56 _  (by rw [ew]; split <;> first | rfl | omega)
  refine r_ild4 dX6_weeksTill_36 ?_
  refine r_if_gt 45 dX6_weeksTill_38 (by decide) (by omega) (fun c38 => ?_) (fun c38 => ?_)
  · skip
    refine r_iconst dX6_weeksTill_45 ?_
    refine r_ald0 dX6_weeksTill_46 ?_
    refine r_ild1 dX6_weeksTill_47 ?_
    refine r_ild4 dX6_weeksTill_48 ?_
    refine s_callV2r hM (c_X6_weeksToEarn E (by first | with_reducible assumption | with_reducible exact xSt_9 | with_reducible exact xSt_13 | omega) (by first | with_reducible assumption | with_reducible exact xSt_9 | with_reducible exact xSt_13 | omega) (by first | with_reducible assumption | with_reducible exact xSt_9 | with_reducible exact xSt_13 | omega) (by first | with_reducible assumption | with_reducible exact xSt_9 | with_reducible exact xSt_13 | omega)) cv_X6_weeksToEarn wM_X6_107 (hk.1) rfl rfl (Nat.le_of_ble_eq_true rfl) (by decide) dX6_weeksTill_50 (fun _ => ?_)
    refine r_max wM_X6_56 wT_max wI_J9 wD_max (Nat.le_of_ble_eq_true rfl) (by decide) (Nat.le_refl 0) (Nat.le_refl 0) (by omega) (by omega) dX6_weeksTill_53 ?_
    exact L56 _  (by rw [ew]; split <;> first | rfl | omega)
  refine r_iconst dX6_weeksTill_41 ?_
  refine r_goto 56 dX6_weeksTill_42 (by decide) ?_
  exact L56 _  (by rw [ew]; split <;> first | rfl | omega)
set_option maxHeartbeats 4000000 in
theorem c_X6_understanders (E : xE) {M : xMem} {k : Nat} {s : Int} (hk : xSt k) (hT : TI (tw M)) (hS : SI (tw M) (sv M k)) (hs : 0 ≤ s ∧ s < M 3 7) : Ct E mX6_understanders 3 0 [xr E k, xi s] M (some (xi (understT (tw M) (sv M k) s))) (M) := by
  refine Ct.of 1 3 (by rfl) (by decide +kernel) (fun hM => ?_)
  have hn : 1 ≤ M 3 6 ∧ M 3 6 ≤ 5 := hT.1
  have hN : 1 ≤ M 3 7 ∧ M 3 7 ≤ 6 := hT.2.1
  have hr : 1 ≤ M 3 5 ∧ M 3 5 ≤ 60 := hT.2.2.1
  have hq : (1 ≤ M 5 s.toNat ∧ M 5 s.toNat ≤ 5) ∧ (0 ≤ M 6 s.toNat ∧ M 6 s.toNat < M 3 6) ∧ (1 ≤ M 7 s.toNat ∧ M 7 s.toNat ≤ 30) ∧ (0 ≤ M 8 s.toNat ∧ M 8 s.toNat ≤ s) := hT.2.2.2.2 s hs
  have hl : 0 ≤ M k 5 ∧ M k 5 ≤ 99 := hS.2.1
  have hh : 0 ≤ M k 6 ∧ M k 6 ≤ 999 := hS.2.2.1
  have hpr : 1 ≤ M k 7 ∧ M k 7 ≤ 9 := hS.2.2.2.1
  have hsd : 0 ≤ M k 8 ∧ M k 8 ≤ 63 := hS.2.2.2.2.1
  have hwk : 0 ≤ M k 4 ∧ M k 4 ≤ 100000 := hS.1
  have hkn : 0 ≤ M (k + 3) s.toNat ∧ M (k + 3) s.toNat ≤ 31 := hS.2.2.2.2.2.2 s hs
  have hkm : 0 ≤ M (k + 3) (M 8 s.toNat).toNat ∧ M (k + 3) (M 8 s.toNat).toNat ≤ 31 := hS.2.2.2.2.2.2 (M 8 s.toNat) ⟨hq.2.2.2.1, by have := hs.2; have := hq.2.2.2.2; show M 8 s.toNat < M 3 7; omega⟩
  have e : understT (tw M) (sv M k) s = if M 8 s.toNat = s then M (k + 3) s.toNat else xand (M (k + 3) s.toNat) (M (k + 3) (M 8 s.toNat).toNat) := rfl
  show VS E mX6_understanders 0 _ _ 0 [some (xr E k), some (xi s), none] [] M
  refine r_ald0 dX6_understanders_0 ?_
  refine s_getR fi_X6_21 (hk.1) rfl dX6_understanders_1 ?_
  refine s_getR fi_X6_112 (sh_3) rfl dX6_understanders_4 ?_
  refine r_ild1 dX6_understanders_7 ?_
  refine s_iald hM (sh_8) (by omega) (by decide) dX6_understanders_8 (fun g8 => ?_)
  refine r_ist2 dX6_understanders_9 rfl ?_
  refine r_ild2 dX6_understanders_10 ?_
  refine r_ild1 dX6_understanders_11 ?_
  refine r_icmp_ne 24 dX6_understanders_12 (by decide) (by omega) (by omega) (fun c12 => ?_) (fun c12 => ?_)
  · skip
    refine r_ald0 dX6_understanders_24 ?_
    refine s_getR fi_X6_18 (hk.1) rfl dX6_understanders_25 ?_
    refine r_ild1 dX6_understanders_28 ?_
    refine s_iald hM (hk.2.2.2.1) (by omega) (by decide) dX6_understanders_29 (fun g29 => ?_)
    refine r_ald0 dX6_understanders_30 ?_
    refine s_getR fi_X6_18 (hk.1) rfl dX6_understanders_31 ?_
    refine r_ild2 dX6_understanders_34 ?_
    refine s_iald hM (hk.2.2.2.1) (by omega) (by decide) dX6_understanders_35 (fun g35 => ?_)
    refine r_iand dX6_understanders_36 (by omega) (by omega) (fun g36 => ?_)
    exact s_iret hM rfl dX6_understanders_37 (by rw [e]; split <;> first | rfl | omega) (by rfl)
  refine r_ald0 dX6_understanders_15 ?_
  refine s_getR fi_X6_18 (hk.1) rfl dX6_understanders_16 ?_
  refine r_ild1 dX6_understanders_19 ?_
  refine s_iald hM (hk.2.2.2.1) (by omega) (by decide) dX6_understanders_20 (fun g20 => ?_)
  refine r_goto 37 dX6_understanders_21 (by decide) ?_
  exact s_iret hM rfl dX6_understanders_37 (by rw [e]; split <;> first | rfl | omega) (by rfl)
