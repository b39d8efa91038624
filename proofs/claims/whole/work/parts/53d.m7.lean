set_option maxHeartbeats 4000000 in
theorem c_X10_common (E : xE) {M : xMem} {a b : Int} (ha : 0 ≤ a ∧ a ≤ 100000000000000) (hb : 1 ≤ b ∧ b ≤ 1000000) : Ct E mX10_common 10 0 [xl a, xl b] M (some (xl (cdL 100 a b))) (M) := by
  refine Ct.of 6 10 (by rfl) (by decide +kernel) (fun hM => ?_)
  show VS E mX10_common 0 _ _ 0 [some (xl a), none, some (xl b), none, none, none, none, none, none, none] [] M
  have L6 : ∀ (fu : Nat) (x y : Int) (f : Nat), (0 ≤ x ∧ x ≤ 100000000000000) → (0 ≤ y ∧ y ≤ 1000000) → (cdL (f + 1) x y = cdL 100 a b) → ((f = 99 ∧ 0 < y) ∨ (f ≤ 98 ∧ y < x ∧ x * y < 2 ^ (f + 1))) → f < fu → VS E mX10_common 0 (some (xl (cdL 100 a b))) (M) 6 [some (xl a), none, some (xl b), none, some (xl x), none, some (xl y), none, none, none] [] M := by
    intro fu
    induction fu with
    | zero => intro x y f  hx hy he hf hme; exact absurd hme (Nat.not_lt_zero _)
    | succ fu ih =>
      intro x y f  hx hy he hf hme
      refine r_lld6 dX10_common_6 ?_
      refine r_lconst0 dX10_common_8 ?_
      refine r_lcmp dX10_common_9 (by omega) (by omega) ?_
      refine r_if_eq 31 dX10_common_10 (by decide) (by split <;> (try split) <;> omega) (fun c10 => ?_) (fun c10 => ?_)
      · skip
        have hy0 : y = 0 := by split at c10 <;> (try split at c10) <;> omega
        refine r_lld4 dX10_common_31 ?_
        exact s_lret hM rfl dX10_common_33 (by rw [← he]; show x = if y = 0 then x else _; rw [if_pos hy0]) (by rfl)
      have hy0 : ¬ y = 0 := by split at c10 <;> (try split at c10) <;> omega
      refine r_lld4 dX10_common_13 ?_
      refine r_lld6 dX10_common_15 ?_
      refine r_lrem dX10_common_17 (by omega) (by omega) ?_
      refine r_lst8 dX10_common_18 rfl ?_
      refine r_lld6 dX10_common_20 ?_
      refine r_lst4 dX10_common_22 rfl ?_
      refine r_lld8 dX10_common_24 ?_
      refine r_lst6 dX10_common_26 rfl ?_
      refine r_goto 6 dX10_common_28 (by decide) ?_
      refine r_fgt8 ?_
      exact ih _ _ (f - 1)  (by omega) (by have h1 := Int.emod_nonneg x (show y ≠ 0 by omega); have h2 := Int.emod_lt_of_pos x (show 0 < y by omega); omega) (by have hf0 := cd_pos hy0 hx hy hf; rw [← he, show f - 1 + 1 = f by omega, show f + 1 = f + 1 from rfl]; show cdL f y (x % y) = if y = 0 then x else cdL f y (x % y); rw [if_neg hy0]) (by exact cd_step hy0 hx hy hf) (by have hf0 := cd_pos hy0 hx hy hf; omega)
  refine r_lld0 dX10_common_0 ?_
  refine r_lst4 dX10_common_1 rfl ?_
  refine r_lld2 dX10_common_3 ?_
  refine r_lst6 dX10_common_4 rfl ?_
  exact L6 100 _ _ 99  (by omega) (by omega) (by rfl) (by omega) (by omega)
set_option maxHeartbeats 4000000 in
theorem c_X10_isNoted (E : xE) {M : xMem} {kd sp r i n : Int} (hn : 1 ≤ M 209 0 ∧ M 209 0 ≤ 5) (hkd : -2147483648 ≤ kd ∧ kd < 2147483648) (hsp : 0 ≤ sp ∧ sp < M 209 0) (hr : 0 ≤ r ∧ r ≤ 7) (hin : 0 ≤ i ∧ 1 ≤ n ∧ n ≤ 12 ∧ i + n ≤ 40) : Ct E mX10_isNoted 9 3 [xr E 201, xi kd, xi sp, xi r, xi i, xi n] M (some (xi (b2i (fitY M kd sp r i n = true)))) (M) := by
  refine Ct.of 3 9 (by rfl) (by decide +kernel) (fun hM => ?_)
  have hrn := reach_n (n := M 209 0) (k := kd) (sp := sp) (d := 0) (by omega) hsp
  have h5 := p2_5 (n := M 209 0) (by omega)
  show VS E mX10_isNoted 3 _ _ 0 [some (xr E 201), some (xi kd), some (xi sp), some (xi r), some (xi i), some (xi n), none, none, none] [] M
  have L15 : ∀ (fu : Nat) (a g k : Int), (0 ≤ k ∧ k ≤ n) → (0 ≤ a ∧ a < 2 ^ (M 209 0).toNat) → ((g = 1 ∧ fcL (M 209 0) kd (itG M r) (n - k).toNat (i + k) a = fitY M kd sp r i n) ∨ (g = 0 ∧ fitY M kd sp r i n = false)) → (n - k).toNat < fu → VS E mX10_isNoted 3 (some (xi (b2i (fitY M kd sp r i n = true)))) (M) 15 [some (xr E 201), some (xi kd), some (xi sp), some (xi r), some (xi i), some (xi n), some (xi a), some (xi g), some (xi k)] [] M := by
    intro fu
    induction fu with
    | zero => intro a g k  hb ha hi hme; exact absurd hme (Nat.not_lt_zero _)
    | succ fu ih =>
      intro a g k  hb ha hi hme
      have hon := onw_n (n := M 209 0) (k := kd) (a := a) (d := 0) (w := 1) (by omega) ha
      have hpc := pcT_b (onwT (M 209 0) kd a 0 1)
      refine r_ild8 dX10_isNoted_15 ?_
      refine r_ild5 dX10_isNoted_17 ?_
      refine r_icmp_ge 68 dX10_isNoted_19 (by decide) (by omega) (by omega) (fun c19 => ?_) (fun c19 => ?_)
      · skip
        refine r_ild7 dX10_isNoted_68 ?_
        exact s_zret hM rfl (by omega) dX10_isNoted_70 (by rcases hi with ⟨h1, h2⟩ | ⟨h1, h2⟩; (rw [h1, ← h2, show (n - k).toNat = 0 by omega]; exact (b2i_t rfl).symm); (rw [h1, h2]; exact (b2i_f (by decide)).symm)) (by rfl)
      refine r_ald0 dX10_isNoted_22 ?_
      refine r_ild1 dX10_isNoted_23 ?_
      refine r_ild6 dX10_isNoted_24 ?_
      refine r_iconst dX10_isNoted_26 ?_
      refine s_callV3r hM (c_X10_onward E (by first | with_reducible assumption | with_reducible exact xSt_9 | with_reducible exact xSt_13 | omega) (by first | with_reducible assumption | with_reducible exact xSt_9 | with_reducible exact xSt_13 | omega) (by first | with_reducible assumption | with_reducible exact xSt_9 | with_reducible exact xSt_13 | omega) (by first | with_reducible assumption | with_reducible exact xSt_9 | with_reducible exact xSt_13 | omega)) cv_X10_onward wM_X10_184 (sh_201) rfl rfl (Nat.le_of_ble_eq_true rfl) (by decide) dX10_isNoted_27 (fun _ => ?_)
      refine r_ist6 dX10_isNoted_30 rfl ?_
      refine r_ild7 dX10_isNoted_32 ?_
      refine r_if_eq 59 dX10_isNoted_34 (by decide) (by omega) (fun c34 => ?_) (fun c34 => ?_)
      · skip
        refine r_iconst dX10_isNoted_59 ?_
        refine r_ist7 dX10_isNoted_60 rfl ?_
        refine r_iinc8 dX10_isNoted_62 rfl ?_
        refine r_goto 15 dX10_isNoted_65 (by decide) ?_
        exact ih _ _ _  (by omega) (by omega) (by first | (exact Or.inr ⟨rfl, (hi.resolve_left (by omega)).2⟩) | (have h1 := (hi.resolve_right (by omega)).2; rw [show (n - k).toNat = (n - (k + 1)).toNat + 1 by omega, fcL, e49] at h1; first | (rw [if_pos c52] at h1; exact Or.inl ⟨rfl, by rw [show i + (k + 1) = i + k + 1 by omega]; exact h1⟩) | (rw [if_neg c52] at h1; exact Or.inr ⟨rfl, h1.symm⟩))) (by omega)
      have e49 : itG M r (i + k).toNat = M 204 (40 * r + (i + k)).toNat := by unfold itG; rw [show (((i + k).toNat : Nat) : Int) = i + k by omega]
      have h49 := hM 204 (40 * r + (i + k)).toNat
      refine r_ild6 dX10_isNoted_37 ?_
      refine s_callS1r hM (c_X10_bits E (by omega)) cs_X10_bits wM_X10_234 (Nat.le_of_ble_eq_true rfl) (by decide) dX10_isNoted_39 (fun _ => ?_)
      refine r_ald0 dX10_isNoted_42 ?_
      refine r_ild3 dX10_isNoted_43 ?_
      refine r_ild4 dX10_isNoted_44 ?_
      refine r_ild8 dX10_isNoted_46 ?_
      refine r_iadd dX10_isNoted_48 ?_
      refine s_callV2r hM (c_X10_item E (by omega) (by omega)) cv_X10_item wM_X10_246 (sh_201) rfl rfl (Nat.le_of_ble_eq_true rfl) (by decide) dX10_isNoted_49 (fun _ => ?_)
      refine r_icmp_ne 59 dX10_isNoted_52 (by decide) (by omega) (by omega) (fun c52 => ?_) (fun c52 => ?_)
      · skip
        refine r_iconst dX10_isNoted_59 ?_
        refine r_ist7 dX10_isNoted_60 rfl ?_
        refine r_iinc8 dX10_isNoted_62 rfl ?_
        refine r_goto 15 dX10_isNoted_65 (by decide) ?_
        exact ih _ _ _  (by omega) (by omega) (by first | (exact Or.inr ⟨rfl, (hi.resolve_left (by omega)).2⟩) | (have h1 := (hi.resolve_right (by omega)).2; rw [show (n - k).toNat = (n - (k + 1)).toNat + 1 by omega, fcL, e49] at h1; first | (rw [if_pos c52] at h1; exact Or.inl ⟨rfl, by rw [show i + (k + 1) = i + k + 1 by omega]; exact h1⟩) | (rw [if_neg c52] at h1; exact Or.inr ⟨rfl, h1.symm⟩))) (by omega)
      refine r_iconst dX10_isNoted_55 ?_
      refine r_goto 60 dX10_isNoted_56 (by decide) ?_
      refine r_ist7 dX10_isNoted_60 rfl ?_
      refine r_iinc8 dX10_isNoted_62 rfl ?_
      refine r_goto 15 dX10_isNoted_65 (by decide) ?_
      exact ih _ _ _  (by omega) (by omega) (by first | (exact Or.inr ⟨rfl, (hi.resolve_left (by omega)).2⟩) | (have h1 := (hi.resolve_right (by omega)).2; rw [show (n - k).toNat = (n - (k + 1)).toNat + 1 by omega, fcL, e49] at h1; first | (rw [if_pos c52] at h1; exact Or.inl ⟨rfl, by rw [show i + (k + 1) = i + k + 1 by omega]; exact h1⟩) | (rw [if_neg c52] at h1; exact Or.inr ⟨rfl, h1.symm⟩))) (by omega)
  refine r_ald0 dX10_isNoted_0 ?_
  refine r_ild1 dX10_isNoted_1 ?_
  refine r_ild2 dX10_isNoted_2 ?_
  refine r_iconst dX10_isNoted_3 ?_
  refine s_callV3r hM (c_X10_firstTo E (by first | with_reducible assumption | with_reducible exact xSt_9 | with_reducible exact xSt_13 | omega) (by first | with_reducible assumption | with_reducible exact xSt_9 | with_reducible exact xSt_13 | omega) (by first | with_reducible assumption | with_reducible exact xSt_9 | with_reducible exact xSt_13 | omega) (by first | with_reducible assumption | with_reducible exact xSt_9 | with_reducible exact xSt_13 | omega)) cv_X10_firstTo wM_X10_180 (sh_201) rfl rfl (Nat.le_of_ble_eq_true rfl) (by decide) dX10_isNoted_4 (fun _ => ?_)
  refine r_ist6 dX10_isNoted_7 rfl ?_
  refine r_iconst dX10_isNoted_9 ?_
  refine r_ist7 dX10_isNoted_10 rfl ?_
  refine r_iconst dX10_isNoted_12 ?_
  refine r_ist8 dX10_isNoted_13 rfl ?_
  exact L15 13 _ _ _  (by omega) (by omega) (by exact Or.inl ⟨rfl, by rw [Int.sub_zero, Int.add_zero]; rfl⟩) (by omega)
set_option maxHeartbeats 4000000 in
theorem c_X10_who (E : xE) {M : xMem} {s w r i n : Int} (hs : -2147483648 ≤ s ∧ s < 2147483648) (hw : -2147483648 ≤ w ∧ w < 2147483648) (hr : -2147483648 ≤ r ∧ r < 2147483648) (hi : -2147483648 ≤ i ∧ i < 2147483648) (hn : -2147483648 ≤ n ∧ n < 2147483648) (hD : MD M) (hrw : ∀ i : Nat, i < 8 → (-1 ≤ M 202 i ∧ M 202 i ≤ 40) ∧ (0 ≤ M 203 i ∧ M 203 i ≤ 2)) : Ct E mX10_who 9 4 [xr E 201, xi s, xi w, xi r, xi i, xi n] M (some (xi ((yWho M s w r i n).1))) ((yWho M s w r i n).2) := by
  refine Ct.of 3 9 (by rfl) (by decide +kernel) (fun hM => ?_)
  have hmn := MD_n hD
  show VS E mX10_who 4 _ _ 0 [some (xr E 201), some (xi s), some (xi w), some (xi r), some (xi i), some (xi n), none, none, none] [] M
  have L77 : ∀ (fu : Nat) (a k : Int), ((0 ≤ s ∧ s < M 209 1) ∧ (0 ≤ w ∧ w ≤ 1) ∧ (0 ≤ r ∧ r ≤ 7) ∧ (0 ≤ i ∧ 1 ≤ n ∧ n ≤ 12 ∧ i + n ≤ 40)) → (TI (tg (M 209))) → (0 ≤ k ∧ k ≤ 6) → (0 ≤ a ∧ a ≤ 63) → (foldI (wyF M s w r i n) (6 - k).toNat k a = foldI (wyF M s w r i n) 6 0 0) → (yWho M s w r i n = mfi M (foldI (wyF M s w r i n) 6 0 0)) → (6 - k).toNat < fu → VS E mX10_who 4 (some (xi ((yWho M s w r i n).1))) ((yWho M s w r i n).2) 77 [some (xr E 201), some (xi s), some (xi w), some (xi r), some (xi i), some (xi n), some (xi a), some (xi k), none] [] M := by
    intro fu
    induction fu with
    | zero => intro a k  hg hT hb ha hi hy hme; exact absurd hme (Nat.not_lt_zero _)
    | succ fu ih =>
      intro a k  hg hT hb ha hi hy hme
      have hn : 1 ≤ M 209 0 ∧ M 209 0 ≤ 5 := hT.1
      have hN : 1 ≤ M 209 1 ∧ M 209 1 ≤ 6 := hT.2.1
      have hra : 1 ≤ M 209 2 ∧ M 209 2 ≤ 60 := hT.2.2.1
      have hs : 0 ≤ s ∧ s < M 209 1 := hg.1
      have hq : (1 ≤ tg (M 209) 2 s.toNat ∧ tg (M 209) 2 s.toNat ≤ 5) ∧ (0 ≤ tg (M 209) 3 s.toNat ∧ tg (M 209) 3 s.toNat < M 209 0) ∧ (1 ≤ tg (M 209) 4 s.toNat ∧ tg (M 209) 4 s.toNat ≤ 30) ∧ (0 ≤ tg (M 209) 5 s.toNat ∧ tg (M 209) 5 s.toNat ≤ s) := hT.2.2.2.2 s hs
      have e8 : M 209 (8 + s).toNat = tg (M 209) 2 s.toNat := ix8 (by omega)
      have e14 : M 209 (14 + s).toNat = tg (M 209) 3 s.toNat := ix14 (by omega)
      have e20 : M 209 (20 + s).toNat = tg (M 209) 4 s.toNat := ix20 (by omega)
      have hx0 := xor2_63 (a := a) (b := 0) ha (by omega)
      refine r_ild7 dX10_who_77 ?_
      refine r_bipush dX10_who_79 (by decide +kernel) ?_
      refine r_icmp_ge 187 dX10_who_81 (by decide) (by omega) (by omega) (fun c81 => ?_) (fun c81 => ?_)
      · skip
        refine r_ald0 dX10_who_187 ?_
        refine r_ild6 dX10_who_188 ?_
        refine s_callV1r hM (c_X10_well E ) cv_X10_well wM_X10_83 (sh_201) rfl rfl (Nat.le_of_ble_eq_true rfl) (by decide) dX10_who_190 (fun hM190 => ?_)
        exact s_iret hM190 rfl dX10_who_193 (by rw [hy]; exact (foldI_end (by omega)).symm.trans hi) (by first | (rw [hy]; rfl) | (unfold yWho mfn mfi; (repeat' split) <;> first | rfl | omega | (exfalso; omega)))
      have hk2 := p2_5 (n := k) (by omega)
      have hx1 := xor2_63 (a := a) (b := 1 * 2 ^ k.toNat) ha (by omega)
      refine r_ild2 dX10_who_84 ?_
      refine r_if_ne 124 dX10_who_85 (by decide) (by omega) (fun c85 => ?_) (fun c85 => ?_)
      · skip
        refine r_ald0 dX10_who_124 ?_
        refine r_ild7 dX10_who_125 ?_
        refine s_callV1r hM (c_X10_isPerson E (by first | with_reducible assumption | with_reducible exact xSt_9 | with_reducible exact xSt_13 | omega) (by first | with_reducible assumption | with_reducible exact xSt_9 | with_reducible exact xSt_13 | omega)) cv_X10_isPerson wM_X10_215 (sh_201) rfl rfl (Nat.le_of_ble_eq_true rfl) (by decide) dX10_who_127 (fun _ => ?_)
        refine r_ifb_eq 160 dX10_who_130 (by decide) (fun c130 => ?_) (fun c130 => ?_)
        · skip
          refine r_iconst dX10_who_160 ?_
          refine r_ist8 dX10_who_161 rfl ?_
          refine r_ild6 dX10_who_163 ?_
          refine r_ild8 dX10_who_165 ?_
          refine r_if_eq 177 dX10_who_167 (by decide) (by omega) (fun c167 => ?_) (fun c167 => by exfalso; omega)
          refine r_iconst dX10_who_177 ?_
          refine r_ior dX10_who_178 (by omega) (by omega) (fun g178 => ?_)
          refine r_ist6 dX10_who_179 rfl ?_
          refine r_iinc7 dX10_who_181 rfl ?_
          refine r_goto 77 dX10_who_184 (by decide) ?_
          refine r_fgt8 ?_
          exact ih _ _  (by assumption) (by exact hT) (by omega) (by omega) (by refine foldI_go (by omega) hi ?_; unfold wyF; first | (rw [if_pos (by first | exact Or.inl ⟨by omega, by omega, by assumption⟩ | exact Or.inr ⟨by omega, by omega, by assumption⟩)]; done) | (rw [if_neg (by rintro (q | q) <;> first | omega | (exact absurd q.2.2 (by assumption)))]; done)) (by exact hy) (by omega)
        refine r_ald0 dX10_who_133 ?_
        refine r_ald0 dX10_who_134 ?_
        refine s_getR fi_X10_31 (sh_201) rfl dX10_who_135 ?_
        refine r_bipush dX10_who_138 (by decide +kernel) ?_
        refine r_ild1 dX10_who_140 ?_
        refine r_iadd dX10_who_141 ?_
        refine s_iald hM (sh_209) (by omega) (by decide) dX10_who_142 (fun g142 => ?_)
        try simp (disch := omega) only [Int.reduceToNat, e14, e8]
        refine r_ild7 dX10_who_143 ?_
        refine r_ild3 dX10_who_145 ?_
        refine r_ild4 dX10_who_146 ?_
        refine r_ild5 dX10_who_148 ?_
        refine s_callV5r hM (c_X10_isNoted E (by omega) (by omega) (by omega) (by omega) (by omega)) cv_X10_isNoted wM_X10_253 (sh_201) rfl rfl (Nat.le_of_ble_eq_true rfl) (by decide) dX10_who_150 (fun _ => ?_)
        refine r_ifb_eq 160 dX10_who_153 (by decide) (fun c153 => ?_) (fun c153 => ?_)
        · skip
          refine r_iconst dX10_who_160 ?_
          refine r_ist8 dX10_who_161 rfl ?_
          refine r_ild6 dX10_who_163 ?_
          refine r_ild8 dX10_who_165 ?_
          refine r_if_eq 177 dX10_who_167 (by decide) (by omega) (fun c167 => ?_) (fun c167 => by exfalso; omega)
          refine r_iconst dX10_who_177 ?_
          refine r_ior dX10_who_178 (by omega) (by omega) (fun g178 => ?_)
          refine r_ist6 dX10_who_179 rfl ?_
          refine r_iinc7 dX10_who_181 rfl ?_
          refine r_goto 77 dX10_who_184 (by decide) ?_
          refine r_fgt8 ?_
          exact ih _ _  (by assumption) (by exact hT) (by omega) (by omega) (by refine foldI_go (by omega) hi ?_; unfold wyF; first | (rw [if_pos (by first | exact Or.inl ⟨by omega, by omega, by assumption⟩ | exact Or.inr ⟨by omega, by omega, by assumption⟩)]; done) | (rw [if_neg (by rintro (q | q) <;> first | omega | (exact absurd q.2.2 (by assumption)))]; done)) (by exact hy) (by omega)
        refine r_iconst dX10_who_156 ?_
        refine r_goto 161 dX10_who_157 (by decide) ?_
        refine r_ist8 dX10_who_161 rfl ?_
        refine r_ild6 dX10_who_163 ?_
        refine r_ild8 dX10_who_165 ?_
        refine r_if_eq 177 dX10_who_167 (by decide) (by omega) (fun c167 => by exfalso; omega) (fun c167 => ?_)
        refine r_iconst dX10_who_170 ?_
        refine r_ild7 dX10_who_171 ?_
        refine r_ishl dX10_who_173 (by omega) ?_
        refine r_goto 178 dX10_who_174 (by decide) ?_
        refine r_ior dX10_who_178 (by omega) (by omega) (fun g178 => ?_)
        refine r_ist6 dX10_who_179 rfl ?_
        refine r_iinc7 dX10_who_181 rfl ?_
        refine r_goto 77 dX10_who_184 (by decide) ?_
        refine r_fgt8 ?_
        exact ih _ _  (by assumption) (by exact hT) (by omega) (by omega) (by refine foldI_go (by omega) hi ?_; unfold wyF; first | (rw [if_pos (by first | exact Or.inl ⟨by omega, by omega, by assumption⟩ | exact Or.inr ⟨by omega, by omega, by assumption⟩)]; done) | (rw [if_neg (by rintro (q | q) <;> first | omega | (exact absurd q.2.2 (by assumption)))]; done)) (by exact hy) (by omega)
      refine r_ild7 dX10_who_88 ?_
      refine r_if_le 120 dX10_who_90 (by decide) (by omega) (fun c90 => ?_) (fun c90 => ?_)
      · skip
        refine r_iconst dX10_who_120 ?_
        refine r_goto 161 dX10_who_121 (by decide) ?_
        refine r_ist8 dX10_who_161 rfl ?_
        refine r_ild6 dX10_who_163 ?_
        refine r_ild8 dX10_who_165 ?_
        refine r_if_eq 177 dX10_who_167 (by decide) (by omega) (fun c167 => ?_) (fun c167 => by exfalso; omega)
        refine r_iconst dX10_who_177 ?_
        refine r_ior dX10_who_178 (by omega) (by omega) (fun g178 => ?_)
        refine r_ist6 dX10_who_179 rfl ?_
        refine r_iinc7 dX10_who_181 rfl ?_
        refine r_goto 77 dX10_who_184 (by decide) ?_
        refine r_fgt8 ?_
        exact ih _ _  (by assumption) (by exact hT) (by omega) (by omega) (by refine foldI_go (by omega) hi ?_; unfold wyF; first | (rw [if_pos (by first | exact Or.inl ⟨by omega, by omega, by assumption⟩ | exact Or.inr ⟨by omega, by omega, by assumption⟩)]; done) | (rw [if_neg (by rintro (q | q) <;> first | omega | (exact absurd q.2.2 (by assumption)))]; done)) (by exact hy) (by omega)
      refine r_ald0 dX10_who_93 ?_
      refine r_ild7 dX10_who_94 ?_
      refine r_ald0 dX10_who_96 ?_
      refine s_getR fi_X10_31 (sh_201) rfl dX10_who_97 ?_
      refine r_bipush dX10_who_100 (by decide +kernel) ?_
      refine r_ild1 dX10_who_102 ?_
      refine r_iadd dX10_who_103 ?_
      refine s_iald hM (sh_209) (by omega) (by decide) dX10_who_104 (fun g104 => ?_)
      try simp (disch := omega) only [Int.reduceToNat, e14, e8]
      refine r_ild3 dX10_who_105 ?_
      refine r_ild4 dX10_who_106 ?_
      refine r_ild5 dX10_who_108 ?_
      refine s_callV5r hM (c_X10_isNoted E (by omega) (by omega) (by exact hq.2.1) (by omega) (by omega)) cv_X10_isNoted wM_X10_253 (sh_201) rfl rfl (Nat.le_of_ble_eq_true rfl) (by decide) dX10_who_110 (fun _ => ?_)
      refine r_ifb_eq 120 dX10_who_113 (by decide) (fun c113 => ?_) (fun c113 => ?_)
      · skip
        refine r_iconst dX10_who_120 ?_
        refine r_goto 161 dX10_who_121 (by decide) ?_
        refine r_ist8 dX10_who_161 rfl ?_
        refine r_ild6 dX10_who_163 ?_
        refine r_ild8 dX10_who_165 ?_
        refine r_if_eq 177 dX10_who_167 (by decide) (by omega) (fun c167 => ?_) (fun c167 => by exfalso; omega)
        refine r_iconst dX10_who_177 ?_
        refine r_ior dX10_who_178 (by omega) (by omega) (fun g178 => ?_)
        refine r_ist6 dX10_who_179 rfl ?_
        refine r_iinc7 dX10_who_181 rfl ?_
        refine r_goto 77 dX10_who_184 (by decide) ?_
        refine r_fgt8 ?_
        exact ih _ _  (by assumption) (by exact hT) (by omega) (by omega) (by refine foldI_go (by omega) hi ?_; unfold wyF; first | (rw [if_pos (by first | exact Or.inl ⟨by omega, by omega, by assumption⟩ | exact Or.inr ⟨by omega, by omega, by assumption⟩)]; done) | (rw [if_neg (by rintro (q | q) <;> first | omega | (exact absurd q.2.2 (by assumption)))]; done)) (by exact hy) (by omega)
      refine r_iconst dX10_who_116 ?_
      refine r_goto 161 dX10_who_117 (by decide) ?_
      refine r_ist8 dX10_who_161 rfl ?_
      refine r_ild6 dX10_who_163 ?_
      refine r_ild8 dX10_who_165 ?_
      refine r_if_eq 177 dX10_who_167 (by decide) (by omega) (fun c167 => by exfalso; omega) (fun c167 => ?_)
      refine r_iconst dX10_who_170 ?_
      refine r_ild7 dX10_who_171 ?_
      refine r_ishl dX10_who_173 (by omega) ?_
      refine r_goto 178 dX10_who_174 (by decide) ?_
      refine r_ior dX10_who_178 (by omega) (by omega) (fun g178 => ?_)
      refine r_ist6 dX10_who_179 rfl ?_
      refine r_iinc7 dX10_who_181 rfl ?_
      refine r_goto 77 dX10_who_184 (by decide) ?_
      refine r_fgt8 ?_
      exact ih _ _  (by assumption) (by exact hT) (by omega) (by omega) (by refine foldI_go (by omega) hi ?_; unfold wyF; first | (rw [if_pos (by first | exact Or.inl ⟨by omega, by omega, by assumption⟩ | exact Or.inr ⟨by omega, by omega, by assumption⟩)]; done) | (rw [if_neg (by rintro (q | q) <;> first | omega | (exact absurd q.2.2 (by assumption)))]; done)) (by exact hy) (by omega)
  refine r_ald0 dX10_who_0 ?_
  refine r_ild1 dX10_who_1 ?_
  refine s_callV1r hM (c_X10_isSpeech E (by first | with_reducible assumption | with_reducible exact xSt_9 | with_reducible exact xSt_13 | omega) (by first | with_reducible assumption | with_reducible exact xSt_9 | with_reducible exact xSt_13 | omega)) cv_X10_isSpeech wM_X10_205 (sh_201) rfl rfl (Nat.le_of_ble_eq_true rfl) (by decide) dX10_who_2 (fun _ => ?_)
  refine r_ifb_eq 35 dX10_who_5 (by decide) (fun c5 => ?_) (fun c5 => ?_)
  · skip
    refine r_ldc (-1000001) dX10_who_35 wC_X10_78 ?_
    exact s_iret hM rfl dX10_who_37 (by unfold yWho mfn mfi; (repeat' split) <;> first | rfl | omega | (exfalso; omega)) (by first | (rw [hy]; rfl) | (unfold yWho mfn mfi; (repeat' split) <;> first | rfl | omega | (exfalso; omega)))
  refine r_ild2 dX10_who_8 ?_
  refine r_iconst dX10_who_9 ?_
  refine r_iconst dX10_who_10 ?_
  refine s_callS3r hM (c_X10_in E (by first | with_reducible assumption | with_reducible exact xSt_9 | with_reducible exact xSt_13 | omega) (by first | with_reducible assumption | with_reducible exact xSt_9 | with_reducible exact xSt_13 | omega) (by first | with_reducible assumption | with_reducible exact xSt_9 | with_reducible exact xSt_13 | omega)) cs_X10_in wM_X10_70 (Nat.le_of_ble_eq_true rfl) (by decide) dX10_who_11 (fun _ => ?_)
  refine r_ifb_eq 35 dX10_who_14 (by decide) (fun c14 => ?_) (fun c14 => ?_)
  · skip
    refine r_ldc (-1000001) dX10_who_35 wC_X10_78 ?_
    exact s_iret hM rfl dX10_who_37 (by unfold yWho mfn mfi; (repeat' split) <;> first | rfl | omega | (exfalso; omega)) (by first | (rw [hy]; rfl) | (unfold yWho mfn mfi; (repeat' split) <;> first | rfl | omega | (exfalso; omega)))
  refine r_ild3 dX10_who_17 ?_
  refine s_callS1r hM (c_X10_isRow E (by first | with_reducible assumption | with_reducible exact xSt_9 | with_reducible exact xSt_13 | omega)) cs_X10_isRow wM_X10_74 (Nat.le_of_ble_eq_true rfl) (by decide) dX10_who_18 (fun _ => ?_)
  refine r_ifb_eq 35 dX10_who_21 (by decide) (fun c21 => ?_) (fun c21 => ?_)
  · skip
    refine r_ldc (-1000001) dX10_who_35 wC_X10_78 ?_
    exact s_iret hM rfl dX10_who_37 (by unfold yWho mfn mfi; (repeat' split) <;> first | rfl | omega | (exfalso; omega)) (by first | (rw [hy]; rfl) | (unfold yWho mfn mfi; (repeat' split) <;> first | rfl | omega | (exfalso; omega)))
  refine r_ild5 dX10_who_24 ?_
  refine r_iconst dX10_who_26 ?_
  refine r_bipush dX10_who_27 (by decide +kernel) ?_
  refine s_callS3r hM (c_X10_in E (by first | with_reducible assumption | with_reducible exact xSt_9 | with_reducible exact xSt_13 | omega) (by first | with_reducible assumption | with_reducible exact xSt_9 | with_reducible exact xSt_13 | omega) (by first | with_reducible assumption | with_reducible exact xSt_9 | with_reducible exact xSt_13 | omega)) cs_X10_in wM_X10_70 (Nat.le_of_ble_eq_true rfl) (by decide) dX10_who_29 (fun _ => ?_)
  refine r_ifb_ne 38 dX10_who_32 (by decide) (fun c32 => ?_) (fun c32 => ?_)
  · skip
    have hr1 := hrw r.toNat (by omega)
    refine r_ald0 dX10_who_38 ?_
    refine s_getR fi_X10_7 (sh_201) rfl dX10_who_39 ?_
    refine r_ild3 dX10_who_42 ?_
    refine s_iald hM (sh_202) (by omega) (by decide) dX10_who_43 (fun g43 => ?_)
    try simp (disch := omega) only [Int.reduceToNat, e14, e8]
    refine r_if_ge 53 dX10_who_44 (by decide) (by omega) (fun c44 => ?_) (fun c44 => ?_)
    · skip
      refine r_ald0 dX10_who_53 ?_
      refine r_ild3 dX10_who_54 ?_
      refine r_ild4 dX10_who_55 ?_
      refine r_ild5 dX10_who_57 ?_
      refine s_callV3r hM (c_X10_isPart E (by first | with_reducible assumption | with_reducible exact xSt_9 | with_reducible exact xSt_13 | omega) (by first | with_reducible assumption | with_reducible exact xSt_9 | with_reducible exact xSt_13 | omega) (by first | with_reducible assumption | with_reducible exact xSt_9 | with_reducible exact xSt_13 | omega) (by first | with_reducible assumption | with_reducible exact xSt_9 | with_reducible exact xSt_13 | omega)) cv_X10_isPart wM_X10_86 (sh_201) rfl rfl (Nat.le_of_ble_eq_true rfl) (by decide) dX10_who_59 (fun _ => ?_)
      refine r_ifb_ne 71 dX10_who_62 (by decide) (fun c62 => ?_) (fun c62 => ?_)
      · skip
        obtain ⟨hd1, hT, hG, hNN⟩ := MD_g hD (by omega)
        refine r_iconst dX10_who_71 ?_
        refine r_ist6 dX10_who_72 rfl ?_
        refine r_iconst dX10_who_74 ?_
        refine r_ist7 dX10_who_75 rfl ?_
        exact L77 7 _ _  (by omega) (by exact hT) (by omega) (by omega) (by rfl) (by unfold yWho; rw [if_neg (by omega), if_neg (by omega), if_neg (by omega)]) (by omega)
      refine r_ald0 dX10_who_65 ?_
      refine r_iconst dX10_who_66 ?_
      refine s_callV1r hM (c_X10_meets E (by first | with_reducible assumption | with_reducible exact xSt_9 | with_reducible exact xSt_13 | omega)) cv_X10_meets wM_X10_79 (sh_201) rfl rfl (Nat.le_of_ble_eq_true rfl) (by decide) dX10_who_67 (fun hM67 => ?_)
      exact s_iret hM67 rfl dX10_who_70 (by unfold yWho mfn mfi; (repeat' split) <;> first | rfl | omega | (exfalso; omega)) (by first | (rw [hy]; rfl) | (unfold yWho mfn mfi; (repeat' split) <;> first | rfl | omega | (exfalso; omega)))
    refine r_ald0 dX10_who_47 ?_
    refine r_iconst dX10_who_48 ?_
    refine s_callV1r hM (c_X10_meets E (by first | with_reducible assumption | with_reducible exact xSt_9 | with_reducible exact xSt_13 | omega)) cv_X10_meets wM_X10_79 (sh_201) rfl rfl (Nat.le_of_ble_eq_true rfl) (by decide) dX10_who_49 (fun hM49 => ?_)
    exact s_iret hM49 rfl dX10_who_52 (by unfold yWho mfn mfi; (repeat' split) <;> first | rfl | omega | (exfalso; omega)) (by first | (rw [hy]; rfl) | (unfold yWho mfn mfi; (repeat' split) <;> first | rfl | omega | (exfalso; omega)))
  refine r_ldc (-1000001) dX10_who_35 wC_X10_78 ?_
  exact s_iret hM rfl dX10_who_37 (by unfold yWho mfn mfi; (repeat' split) <;> first | rfl | omega | (exfalso; omega)) (by first | (rw [hy]; rfl) | (unfold yWho mfn mfi; (repeat' split) <;> first | rfl | omega | (exfalso; omega)))
set_option maxHeartbeats 4000000 in
theorem c_X10_priced (E : xE) {M : xMem} {r i q j n : Int} (hr : -2147483648 ≤ r ∧ r < 2147483648) (hi : -2147483648 ≤ i ∧ i < 2147483648) (hq : -2147483648 ≤ q ∧ q < 2147483648) (hj : -2147483648 ≤ j ∧ j < 2147483648) (hn : -2147483648 ≤ n ∧ n < 2147483648) (hrw : ∀ i : Nat, i < 8 → (-1 ≤ M 202 i ∧ M 202 i ≤ 40) ∧ (0 ≤ M 203 i ∧ M 203 i ≤ 2)) : Ct E mX10_priced 8 2 [xr E 201, xi r, xi i, xi q, xi j, xi n] M (some (xi ((yPriced M r i q j n).1))) ((yPriced M r i q j n).2) := by
  refine Ct.of 2 8 (by rfl) (by decide +kernel) (fun hM => ?_)
  show VS E mX10_priced 2 _ _ 0 [some (xr E 201), some (xi r), some (xi i), some (xi q), some (xi j), some (xi n), none, none] [] M
  have L99 : ∀ (fu : Nat) (a k : Int), ((0 ≤ r ∧ r ≤ 7) ∧ (0 ≤ q ∧ q ≤ 7) ∧ (0 ≤ i ∧ 1 ≤ n ∧ n ≤ 12 ∧ i + n ≤ 40) ∧ (0 ≤ j ∧ j + n ≤ 40)) → (0 ≤ k ∧ k ≤ n) → (0 ≤ a ∧ a ≤ 8991 * k) → (foldI (prcF (itG M r) (itG M q) i j) (n - k).toNat k a = foldI (prcF (itG M r) (itG M q) i j) n.toNat 0 0) → (allW (itG M r) 0 999 n.toNat i = allW (itG M r) 0 999 (n - k).toNat (i + k) ∧ allW (itG M q) 1 9 n.toNat j = allW (itG M q) 1 9 (n - k).toNat (j + k)) → (yPriced M r i q j n = if ¬ (allW (itG M r) 0 999 n.toNat i = true ∧ allW (itG M q) 1 9 n.toNat j = true) then mfn M 3 else mfi M (foldI (prcF (itG M r) (itG M q) i j) n.toNat 0 0)) → (n - k).toNat < fu → VS E mX10_priced 2 (some (xi ((yPriced M r i q j n).1))) ((yPriced M r i q j n).2) 99 [some (xr E 201), some (xi r), some (xi i), some (xi q), some (xi j), some (xi n), some (xi a), some (xi k)] [] M := by
    intro fu
    induction fu with
    | zero => intro a k  hg hb ha hi hw hy hme; exact absurd hme (Nat.not_lt_zero _)
    | succ fu ih =>
      intro a k  hg hb ha hi hw hy hme
      refine r_ild7 dX10_priced_99 ?_
      refine r_ild5 dX10_priced_101 ?_
      refine r_icmp_ge 181 dX10_priced_103 (by decide) (by omega) (by omega) (fun c103 => ?_) (fun c103 => ?_)
      · skip
        refine r_ald0 dX10_priced_181 ?_
        refine r_ild6 dX10_priced_182 ?_
        refine s_callV1r hM (c_X10_well E ) cv_X10_well wM_X10_83 (sh_201) rfl rfl (Nat.le_of_ble_eq_true rfl) (by decide) dX10_priced_184 (fun hM184 => ?_)
        exact s_iret hM184 rfl dX10_priced_187 (by rw [hy, if_neg (fun z => z ⟨hw.1.trans (allW_0 (by omega)), hw.2.trans (allW_0 (by omega))⟩)]; exact (foldI_end (by omega)).symm.trans hi) (by first | (rw [hy, if_neg (fun z => z ⟨hw.1.trans (allW_0 (by omega)), hw.2.trans (allW_0 (by omega))⟩)]; rfl) | (rw [hy, if_pos (fun z => allW_x hw (by omega) (by rw [e_ri, e_qj]; omega) z)]; rfl) | (unfold yPriced mfn mfi; (repeat' split) <;> first | rfl | omega | (exfalso; omega)))
      have e_ri : itG M r (i + k).toNat = M 204 (40 * r + (i + k)).toNat := by unfold itG; rw [show (((i + k).toNat : Nat) : Int) = i + k by omega]
      have h_ri := hM 204 (40 * r + (i + k)).toNat
      have e_qj : itG M q (j + k).toNat = M 204 (40 * q + (j + k)).toNat := by unfold itG; rw [show (((j + k).toNat : Nat) : Int) = j + k by omega]
      have h_qj := hM 204 (40 * q + (j + k)).toNat
      refine r_ald0 dX10_priced_106 ?_
      refine r_ild1 dX10_priced_107 ?_
      refine r_ild2 dX10_priced_108 ?_
      refine r_ild7 dX10_priced_109 ?_
      refine r_iadd dX10_priced_111 ?_
      refine s_callV2r hM (c_X10_item E (by omega) (by omega)) cv_X10_item wM_X10_246 (sh_201) rfl rfl (Nat.le_of_ble_eq_true rfl) (by decide) dX10_priced_112 (fun _ => ?_)
      refine r_iconst dX10_priced_115 ?_
      refine r_sipush dX10_priced_116 (by decide +kernel) ?_
      refine s_callS3r hM (c_X10_in E (by first | with_reducible assumption | with_reducible exact xSt_9 | with_reducible exact xSt_13 | omega) (by first | with_reducible assumption | with_reducible exact xSt_9 | with_reducible exact xSt_13 | omega) (by first | with_reducible assumption | with_reducible exact xSt_9 | with_reducible exact xSt_13 | omega)) cs_X10_in wM_X10_70 (Nat.le_of_ble_eq_true rfl) (by decide) dX10_priced_119 (fun _ => ?_)
      refine r_ifb_eq 144 dX10_priced_122 (by decide) (fun c122 => ?_) (fun c122 => ?_)
      · skip
        refine r_ald0 dX10_priced_144 ?_
        refine r_iconst dX10_priced_145 ?_
        refine s_callV1r hM (c_X10_meets E (by first | with_reducible assumption | with_reducible exact xSt_9 | with_reducible exact xSt_13 | omega)) cv_X10_meets wM_X10_79 (sh_201) rfl rfl (Nat.le_of_ble_eq_true rfl) (by decide) dX10_priced_146 (fun hM146 => ?_)
        exact s_iret hM146 rfl dX10_priced_149 (by rw [hy, if_pos (fun z => allW_x hw (by omega) (by rw [e_ri, e_qj]; omega) z)]; rfl) (by first | (rw [hy, if_neg (fun z => z ⟨hw.1.trans (allW_0 (by omega)), hw.2.trans (allW_0 (by omega))⟩)]; rfl) | (rw [hy, if_pos (fun z => allW_x hw (by omega) (by rw [e_ri, e_qj]; omega) z)]; rfl) | (unfold yPriced mfn mfi; (repeat' split) <;> first | rfl | omega | (exfalso; omega)))
      refine r_ald0 dX10_priced_125 ?_
      refine r_ild3 dX10_priced_126 ?_
      refine r_ild4 dX10_priced_127 ?_
      refine r_ild7 dX10_priced_129 ?_
      refine r_iadd dX10_priced_131 ?_
      refine s_callV2r hM (c_X10_item E (by omega) (by omega)) cv_X10_item wM_X10_246 (sh_201) rfl rfl (Nat.le_of_ble_eq_true rfl) (by decide) dX10_priced_132 (fun _ => ?_)
      refine r_iconst dX10_priced_135 ?_
      refine r_bipush dX10_priced_136 (by decide +kernel) ?_
      refine s_callS3r hM (c_X10_in E (by first | with_reducible assumption | with_reducible exact xSt_9 | with_reducible exact xSt_13 | omega) (by first | with_reducible assumption | with_reducible exact xSt_9 | with_reducible exact xSt_13 | omega) (by first | with_reducible assumption | with_reducible exact xSt_9 | with_reducible exact xSt_13 | omega)) cs_X10_in wM_X10_70 (Nat.le_of_ble_eq_true rfl) (by decide) dX10_priced_138 (fun _ => ?_)
      refine r_ifb_ne 150 dX10_priced_141 (by decide) (fun c141 => ?_) (fun c141 => ?_)
      · skip
        refine r_ild6 dX10_priced_150 ?_
        refine r_ald0 dX10_priced_152 ?_
        refine r_ild1 dX10_priced_153 ?_
        refine r_ild2 dX10_priced_154 ?_
        refine r_ild7 dX10_priced_155 ?_
        refine r_iadd dX10_priced_157 ?_
        refine s_callV2r hM (c_X10_item E (by omega) (by omega)) cv_X10_item wM_X10_246 (sh_201) rfl rfl (Nat.le_of_ble_eq_true rfl) (by decide) dX10_priced_158 (fun _ => ?_)
        refine r_ald0 dX10_priced_161 ?_
        refine r_ild3 dX10_priced_162 ?_
        refine r_ild4 dX10_priced_163 ?_
        refine r_ild7 dX10_priced_165 ?_
        refine r_iadd dX10_priced_167 ?_
        refine s_callV2r hM (c_X10_item E (by omega) (by omega)) cv_X10_item wM_X10_246 (sh_201) rfl rfl (Nat.le_of_ble_eq_true rfl) (by decide) dX10_priced_168 (fun _ => ?_)
        refine r_imul dX10_priced_171 ?_
        refine r_iadd dX10_priced_172 ?_
        refine r_ist6 dX10_priced_173 rfl ?_
        refine r_iinc7 dX10_priced_175 rfl ?_
        refine r_goto 99 dX10_priced_178 (by decide) ?_
        exact ih _ _  (by omega) (by omega) (by have hm := mul_b (a := M 204 (40 * r + (i + k)).toNat) (A := 999) (b := M 204 (40 * q + (j + k)).toNat) (B := 9) (by omega) (by omega); omega) (by refine foldI_go (by omega) hi ?_; unfold prcF; rw [e_ri, e_qj]) (by exact ⟨hw.1.trans (allW_s (by omega) (by rw [e_ri]; omega)), hw.2.trans (allW_s (by omega) (by rw [e_qj]; omega))⟩) (by exact hy) (by omega)
      refine r_ald0 dX10_priced_144 ?_
      refine r_iconst dX10_priced_145 ?_
      refine s_callV1r hM (c_X10_meets E (by first | with_reducible assumption | with_reducible exact xSt_9 | with_reducible exact xSt_13 | omega)) cv_X10_meets wM_X10_79 (sh_201) rfl rfl (Nat.le_of_ble_eq_true rfl) (by decide) dX10_priced_146 (fun hM146 => ?_)
      exact s_iret hM146 rfl dX10_priced_149 (by rw [hy, if_pos (fun z => allW_x hw (by omega) (by rw [e_ri, e_qj]; omega) z)]; rfl) (by first | (rw [hy, if_neg (fun z => z ⟨hw.1.trans (allW_0 (by omega)), hw.2.trans (allW_0 (by omega))⟩)]; rfl) | (rw [hy, if_pos (fun z => allW_x hw (by omega) (by rw [e_ri, e_qj]; omega) z)]; rfl) | (unfold yPriced mfn mfi; (repeat' split) <;> first | rfl | omega | (exfalso; omega)))
  refine r_ild1 dX10_priced_0 ?_
  refine s_callS1r hM (c_X10_isRow E (by first | with_reducible assumption | with_reducible exact xSt_9 | with_reducible exact xSt_13 | omega)) cs_X10_isRow wM_X10_74 (Nat.le_of_ble_eq_true rfl) (by decide) dX10_priced_1 (fun _ => ?_)
  refine r_ifb_eq 25 dX10_priced_4 (by decide) (fun c4 => ?_) (fun c4 => ?_)
  · skip
    refine r_ldc (-1000001) dX10_priced_25 wC_X10_78 ?_
    exact s_iret hM rfl dX10_priced_27 (by unfold yPriced mfn mfi; (repeat' split) <;> first | rfl | omega | (exfalso; omega)) (by first | (rw [hy, if_neg (fun z => z ⟨hw.1.trans (allW_0 (by omega)), hw.2.trans (allW_0 (by omega))⟩)]; rfl) | (rw [hy, if_pos (fun z => allW_x hw (by omega) (by rw [e_ri, e_qj]; omega) z)]; rfl) | (unfold yPriced mfn mfi; (repeat' split) <;> first | rfl | omega | (exfalso; omega)))
  refine r_ild3 dX10_priced_7 ?_
  refine s_callS1r hM (c_X10_isRow E (by first | with_reducible assumption | with_reducible exact xSt_9 | with_reducible exact xSt_13 | omega)) cs_X10_isRow wM_X10_74 (Nat.le_of_ble_eq_true rfl) (by decide) dX10_priced_8 (fun _ => ?_)
  refine r_ifb_eq 25 dX10_priced_11 (by decide) (fun c11 => ?_) (fun c11 => ?_)
  · skip
    refine r_ldc (-1000001) dX10_priced_25 wC_X10_78 ?_
    exact s_iret hM rfl dX10_priced_27 (by unfold yPriced mfn mfi; (repeat' split) <;> first | rfl | omega | (exfalso; omega)) (by first | (rw [hy, if_neg (fun z => z ⟨hw.1.trans (allW_0 (by omega)), hw.2.trans (allW_0 (by omega))⟩)]; rfl) | (rw [hy, if_pos (fun z => allW_x hw (by omega) (by rw [e_ri, e_qj]; omega) z)]; rfl) | (unfold yPriced mfn mfi; (repeat' split) <;> first | rfl | omega | (exfalso; omega)))
  refine r_ild5 dX10_priced_14 ?_
  refine r_iconst dX10_priced_16 ?_
  refine r_bipush dX10_priced_17 (by decide +kernel) ?_
  refine s_callS3r hM (c_X10_in E (by first | with_reducible assumption | with_reducible exact xSt_9 | with_reducible exact xSt_13 | omega) (by first | with_reducible assumption | with_reducible exact xSt_9 | with_reducible exact xSt_13 | omega) (by first | with_reducible assumption | with_reducible exact xSt_9 | with_reducible exact xSt_13 | omega)) cs_X10_in wM_X10_70 (Nat.le_of_ble_eq_true rfl) (by decide) dX10_priced_19 (fun _ => ?_)
  refine r_ifb_ne 28 dX10_priced_22 (by decide) (fun c22 => ?_) (fun c22 => ?_)
  · skip
    have hr1 := hrw r.toNat (by omega)
    have hr2 := hrw q.toNat (by omega)
    refine r_ald0 dX10_priced_28 ?_
    refine s_getR fi_X10_7 (sh_201) rfl dX10_priced_29 ?_
    refine r_ild1 dX10_priced_32 ?_
    refine s_iald hM (sh_202) (by omega) (by decide) dX10_priced_33 (fun g33 => ?_)
    try simp (disch := omega) only [Int.reduceToNat]
    refine r_if_ge 43 dX10_priced_34 (by decide) (by omega) (fun c34 => ?_) (fun c34 => ?_)
    · skip
      refine r_ald0 dX10_priced_43 ?_
      refine r_ild1 dX10_priced_44 ?_
      refine r_ild2 dX10_priced_45 ?_
      refine r_ild5 dX10_priced_46 ?_
      refine s_callV3r hM (c_X10_isPart E (by first | with_reducible assumption | with_reducible exact xSt_9 | with_reducible exact xSt_13 | omega) (by first | with_reducible assumption | with_reducible exact xSt_9 | with_reducible exact xSt_13 | omega) (by first | with_reducible assumption | with_reducible exact xSt_9 | with_reducible exact xSt_13 | omega) (by first | with_reducible assumption | with_reducible exact xSt_9 | with_reducible exact xSt_13 | omega)) cv_X10_isPart wM_X10_86 (sh_201) rfl rfl (Nat.le_of_ble_eq_true rfl) (by decide) dX10_priced_48 (fun _ => ?_)
      refine r_ifb_ne 60 dX10_priced_51 (by decide) (fun c51 => ?_) (fun c51 => ?_)
      · skip
        refine r_ald0 dX10_priced_60 ?_
        refine s_getR fi_X10_7 (sh_201) rfl dX10_priced_61 ?_
        refine r_ild3 dX10_priced_64 ?_
        refine s_iald hM (sh_202) (by omega) (by decide) dX10_priced_65 (fun g65 => ?_)
        try simp (disch := omega) only [Int.reduceToNat]
        refine r_if_ge 75 dX10_priced_66 (by decide) (by omega) (fun c66 => ?_) (fun c66 => ?_)
        · skip
          refine r_ald0 dX10_priced_75 ?_
          refine r_ild3 dX10_priced_76 ?_
          refine r_ild4 dX10_priced_77 ?_
          refine r_ild5 dX10_priced_79 ?_
          refine s_callV3r hM (c_X10_isPart E (by first | with_reducible assumption | with_reducible exact xSt_9 | with_reducible exact xSt_13 | omega) (by first | with_reducible assumption | with_reducible exact xSt_9 | with_reducible exact xSt_13 | omega) (by first | with_reducible assumption | with_reducible exact xSt_9 | with_reducible exact xSt_13 | omega) (by first | with_reducible assumption | with_reducible exact xSt_9 | with_reducible exact xSt_13 | omega)) cv_X10_isPart wM_X10_86 (sh_201) rfl rfl (Nat.le_of_ble_eq_true rfl) (by decide) dX10_priced_81 (fun _ => ?_)
          refine r_ifb_ne 93 dX10_priced_84 (by decide) (fun c84 => ?_) (fun c84 => ?_)
          · skip
            refine r_iconst dX10_priced_93 ?_
            refine r_ist6 dX10_priced_94 rfl ?_
            refine r_iconst dX10_priced_96 ?_
            refine r_ist7 dX10_priced_97 rfl ?_
            exact L99 13 _ _  (by omega) (by omega) (by omega) (by rw [Int.sub_zero]) (by constructor <;> rw [Int.sub_zero, Int.add_zero]) (by unfold yPriced; rw [if_neg (by omega), if_neg (by omega), if_neg (by omega), if_neg (by omega), if_neg (by omega)]) (by omega)
          refine r_ald0 dX10_priced_87 ?_
          refine r_iconst dX10_priced_88 ?_
          refine s_callV1r hM (c_X10_meets E (by first | with_reducible assumption | with_reducible exact xSt_9 | with_reducible exact xSt_13 | omega)) cv_X10_meets wM_X10_79 (sh_201) rfl rfl (Nat.le_of_ble_eq_true rfl) (by decide) dX10_priced_89 (fun hM89 => ?_)
          exact s_iret hM89 rfl dX10_priced_92 (by unfold yPriced mfn mfi; (repeat' split) <;> first | rfl | omega | (exfalso; omega)) (by first | (rw [hy, if_neg (fun z => z ⟨hw.1.trans (allW_0 (by omega)), hw.2.trans (allW_0 (by omega))⟩)]; rfl) | (rw [hy, if_pos (fun z => allW_x hw (by omega) (by rw [e_ri, e_qj]; omega) z)]; rfl) | (unfold yPriced mfn mfi; (repeat' split) <;> first | rfl | omega | (exfalso; omega)))
        refine r_ald0 dX10_priced_69 ?_
        refine r_iconst dX10_priced_70 ?_
        refine s_callV1r hM (c_X10_meets E (by first | with_reducible assumption | with_reducible exact xSt_9 | with_reducible exact xSt_13 | omega)) cv_X10_meets wM_X10_79 (sh_201) rfl rfl (Nat.le_of_ble_eq_true rfl) (by decide) dX10_priced_71 (fun hM71 => ?_)
        exact s_iret hM71 rfl dX10_priced_74 (by unfold yPriced mfn mfi; (repeat' split) <;> first | rfl | omega | (exfalso; omega)) (by first | (rw [hy, if_neg (fun z => z ⟨hw.1.trans (allW_0 (by omega)), hw.2.trans (allW_0 (by omega))⟩)]; rfl) | (rw [hy, if_pos (fun z => allW_x hw (by omega) (by rw [e_ri, e_qj]; omega) z)]; rfl) | (unfold yPriced mfn mfi; (repeat' split) <;> first | rfl | omega | (exfalso; omega)))
      refine r_ald0 dX10_priced_54 ?_
      refine r_iconst dX10_priced_55 ?_
      refine s_callV1r hM (c_X10_meets E (by first | with_reducible assumption | with_reducible exact xSt_9 | with_reducible exact xSt_13 | omega)) cv_X10_meets wM_X10_79 (sh_201) rfl rfl (Nat.le_of_ble_eq_true rfl) (by decide) dX10_priced_56 (fun hM56 => ?_)
      exact s_iret hM56 rfl dX10_priced_59 (by unfold yPriced mfn mfi; (repeat' split) <;> first | rfl | omega | (exfalso; omega)) (by first | (rw [hy, if_neg (fun z => z ⟨hw.1.trans (allW_0 (by omega)), hw.2.trans (allW_0 (by omega))⟩)]; rfl) | (rw [hy, if_pos (fun z => allW_x hw (by omega) (by rw [e_ri, e_qj]; omega) z)]; rfl) | (unfold yPriced mfn mfi; (repeat' split) <;> first | rfl | omega | (exfalso; omega)))
    refine r_ald0 dX10_priced_37 ?_
    refine r_iconst dX10_priced_38 ?_
    refine s_callV1r hM (c_X10_meets E (by first | with_reducible assumption | with_reducible exact xSt_9 | with_reducible exact xSt_13 | omega)) cv_X10_meets wM_X10_79 (sh_201) rfl rfl (Nat.le_of_ble_eq_true rfl) (by decide) dX10_priced_39 (fun hM39 => ?_)
    exact s_iret hM39 rfl dX10_priced_42 (by unfold yPriced mfn mfi; (repeat' split) <;> first | rfl | omega | (exfalso; omega)) (by first | (rw [hy, if_neg (fun z => z ⟨hw.1.trans (allW_0 (by omega)), hw.2.trans (allW_0 (by omega))⟩)]; rfl) | (rw [hy, if_pos (fun z => allW_x hw (by omega) (by rw [e_ri, e_qj]; omega) z)]; rfl) | (unfold yPriced mfn mfi; (repeat' split) <;> first | rfl | omega | (exfalso; omega)))
  refine r_ldc (-1000001) dX10_priced_25 wC_X10_78 ?_
  exact s_iret hM rfl dX10_priced_27 (by unfold yPriced mfn mfi; (repeat' split) <;> first | rfl | omega | (exfalso; omega)) (by first | (rw [hy, if_neg (fun z => z ⟨hw.1.trans (allW_0 (by omega)), hw.2.trans (allW_0 (by omega))⟩)]; rfl) | (rw [hy, if_pos (fun z => allW_x hw (by omega) (by rw [e_ri, e_qj]; omega) z)]; rfl) | (unfold yPriced mfn mfi; (repeat' split) <;> first | rfl | omega | (exfalso; omega)))
set_option maxHeartbeats 4000000 in
theorem c_X10_drawn (E : xE) {M : xMem} {n x w : Int} (hn : -2147483648 ≤ n ∧ n < 2147483648) (hx : -2147483648 ≤ x ∧ x < 2147483648) (hw : -2147483648 ≤ w ∧ w < 2147483648) (hD : MD M) : Ct E mX10_drawn 9 4 [xr E 201, xi n, xi x, xi w] M (some (xi ((yDrawn M n x w).1))) ((yDrawn M n x w).2) := by
  refine Ct.of 5 9 (by rfl) (by decide +kernel) (fun hM => ?_)
  show VS E mX10_drawn 4 _ _ 0 [some (xr E 201), some (xi n), some (xi x), some (xi w), none, none, none, none, none] [] M
  have L57 : ∀ (fu : Nat) (y k : Int) (Mc : xMem), InR Mc → (¬ M 201 16 = 0 ∧ (0 ≤ n ∧ n ≤ 60) ∧ (1 ≤ x ∧ x ≤ 999999) ∧ (0 ≤ w ∧ w ≤ 1)) → (TI (tg (M 209))) → (0 ≤ k ∧ k ≤ n) → (0 ≤ y ∧ y ≤ 2147483647) → (Mc 209 = M 209) → (GI (tg (M 209)) (sk (Mc 211)) (999 + k)) → (dyL (n - k).toNat y Mc = dyL n.toNat x (cnM M)) → (n - k).toNat < fu → VS E mX10_drawn 4 (some (xi ((yDrawn M n x w).1))) ((yDrawn M n x w).2) 57 [some (xr E 201), some (xi n), some (xi x), some (xi w), none, some (xl y), none, some (xi k), none] [] Mc := by
    intro fu
    induction fu with
    | zero => intro y k Mc hML57 hg0 hT hb hyb h9 hg hi hme; exact absurd hme (Nat.not_lt_zero _)
    | succ fu ih =>
      intro y k Mc hML57 hg0 hT hb hyb h9 hg hi hme
      have hn : 1 ≤ M 209 0 ∧ M 209 0 ≤ 5 := hT.1
      have hN : 1 ≤ M 209 1 ∧ M 209 1 ≤ 6 := hT.2.1
      have hra : 1 ≤ M 209 2 ∧ M 209 2 ≤ 60 := hT.2.2.1
      have w9 : ∀ j, Mc 209 j = M 209 j := fun j => by rw [h9]
      refine r_ild7 dX10_drawn_57 ?_
      refine r_ild1 dX10_drawn_59 ?_
      refine r_icmp_ge 126 dX10_drawn_60 (by decide) (by omega) (by omega) (fun c60 => ?_) (fun c60 => ?_)
      · skip
        refine r_ild3 dX10_drawn_126 ?_
        refine r_if_ne 139 dX10_drawn_127 (by decide) (by omega) (fun c127 => ?_) (fun c127 => ?_)
        · skip
          refine r_ald0 dX10_drawn_139 ?_
          refine s_getR fi_X10_37 (sh_201) rfl dX10_drawn_140 ?_
          refine r_iconst dX10_drawn_143 ?_
          refine s_iald hML57 (sh_211) (by omega) (by decide) dX10_drawn_144 (fun g144 => ?_)
          try simp (disch := omega) only [Int.reduceToNat, w9]
          exact s_iret hML57 rfl dX10_drawn_145 (by unfold yDrawn; first | (rw [if_neg (by omega), if_neg (by omega), ← hi, show (n - k).toNat = 0 by omega]; show _ = if w = 0 then Mc 211 4 else Mc 211 2; first | (rw [if_pos (by omega)]; done) | (rw [if_neg (by omega)]; done)) | ((repeat' split) <;> first | rfl | omega | (exfalso; omega))) (by unfold yDrawn; first | (rw [if_neg (by omega), if_neg (by omega), ← hi, show (n - k).toNat = 0 by omega]; rfl) | ((repeat' split) <;> first | rfl | omega | (exfalso; omega)))
        refine r_ald0 dX10_drawn_130 ?_
        refine s_getR fi_X10_37 (sh_201) rfl dX10_drawn_131 ?_
        refine r_iconst dX10_drawn_134 ?_
        refine s_iald hML57 (sh_211) (by omega) (by decide) dX10_drawn_135 (fun g135 => ?_)
        try simp (disch := omega) only [Int.reduceToNat, w9]
        refine r_goto 145 dX10_drawn_136 (by decide) ?_
        exact s_iret hML57 rfl dX10_drawn_145 (by unfold yDrawn; first | (rw [if_neg (by omega), if_neg (by omega), ← hi, show (n - k).toNat = 0 by omega]; show _ = if w = 0 then Mc 211 4 else Mc 211 2; first | (rw [if_pos (by omega)]; done) | (rw [if_neg (by omega)]; done)) | ((repeat' split) <;> first | rfl | omega | (exfalso; omega))) (by unfold yDrawn; first | (rw [if_neg (by omega), if_neg (by omega), ← hi, show (n - k).toNat = 0 by omega]; rfl) | ((repeat' split) <;> first | rfl | omega | (exfalso; omega)))
      have hx1 := Int.emod_nonneg (y * 16807) (show (2147483647 : Int) ≠ 0 by decide)
      have hx2 := Int.emod_lt_of_pos (y * 16807) (show (0 : Int) < 2147483647 by decide)
      have hx3 := Int.emod_nonneg (y * 16807 % 2147483647) (show M 209 1 ≠ 0 by omega)
      have hx4 := Int.emod_lt_of_pos (y * 16807 % 2147483647) (show 0 < M 209 1 by omega)
      have hs : 0 ≤ y * 16807 % 2147483647 % M 209 1 ∧ y * 16807 % 2147483647 % M 209 1 < M 209 1 := ⟨hx3, hx4⟩
      refine r_lld5 dX10_drawn_63 ?_
      refine r_ldc2 (16807) dX10_drawn_65 wJ_X10_266 ?_
      refine r_lmul dX10_drawn_68 ?_
      refine r_ldc2 (2147483647) dX10_drawn_69 wJ_X10_268 ?_
      refine r_lrem dX10_drawn_72 (by omega) (by omega) ?_
      refine r_lst5 dX10_drawn_73 rfl ?_
      refine r_lld5 dX10_drawn_75 ?_
      refine r_ald0 dX10_drawn_77 ?_
      refine s_getR fi_X10_31 (sh_201) rfl dX10_drawn_78 ?_
      refine r_iconst dX10_drawn_81 ?_
      refine s_iald hML57 (sh_209) (by omega) (by decide) dX10_drawn_82 (fun g82 => ?_)
      try simp (disch := omega) only [Int.reduceToNat, w9]
      refine r_i2l dX10_drawn_83 (by omega) ?_
      refine r_lrem dX10_drawn_84 (by omega) (by omega) ?_
      refine r_l2i dX10_drawn_85 ?_
      refine r_ist8 dX10_drawn_86 rfl ?_
      refine r_ald0 dX10_drawn_88 ?_
      refine r_ald0 dX10_drawn_89 ?_
      refine s_getR fi_X10_37 (sh_201) rfl dX10_drawn_90 ?_
      refine r_ild8 dX10_drawn_93 ?_
      refine s_callV2r hML57 (c_X10_can E (by exact sh_211) (by rw [h9]; exact hT) (by rw [h9]; exact hg.1) (by rw [w9]; exact hs)) cv_X10_can wM_X10_208 (sh_201) rfl rfl (Nat.le_of_ble_eq_true rfl) (by decide) dX10_drawn_95 (fun _ => ?_)
      rw [h9]
      refine r_ifb_eq 112 dX10_drawn_98 (by decide) (fun c98 => ?_) (fun c98 => ?_)
      · skip
        refine r_ald0 dX10_drawn_112 ?_
        refine r_ald0 dX10_drawn_113 ?_
        refine s_getR fi_X10_37 (sh_201) rfl dX10_drawn_114 ?_
        refine s_callV1v hML57 (c_X10_passes E sh_211 (by decide) (by first | (rw [h9]; exact hT) | (rw [sa_lo (by decide), h9]; exact hT)) (by first | (rw [h9]; exact hg.1) | (rw [sa_lo (a := 209) (by decide)]; exact (sa_GI (M := Mc) (k := 211) (w := 999 + k) (s := y * 16807 % 2147483647 % M 209 1) (by rw [h9]; exact hT) (by rw [h9]; exact hg) (by rw [w9]; exact hs) (by rw [h9]; exact c98)).1)) (by first | (rw [h9]; exact hg.2.1) | (rw [sa_lo (a := 209) (by decide)]; exact (sa_GI (M := Mc) (k := 211) (w := 999 + k) (s := y * 16807 % 2147483647 % M 209 1) (by rw [h9]; exact hT) (by rw [h9]; exact hg) (by rw [w9]; exact hs) (by rw [h9]; exact c98)).2.1))) cv_X10_passes wM_X10_201 (sh_201) rfl rfl (Nat.le_of_ble_eq_true rfl) (by decide) dX10_drawn_117 (fun hM117 => ?_)
        refine r_iinc7 dX10_drawn_120 rfl ?_
        refine r_goto 57 dX10_drawn_123 (by decide) ?_
        refine r_fgt8 ?_
        exact ih _ (k + 1) _  hM117 (by exact hg0) (by exact hT) (by omega) (by omega) (by rw [ps_lo (by decide)]; first | exact h9 | exact (sa_lo (by decide)).trans h9) (by rw [show (999 + (k + 1) : Int) = 999 + k + 1 by omega]; first | (have h0 := ps_GI (M := Mc) (k := 211) (w := 999 + k) (by rw [h9]; exact hT) (by omega) (by rw [h9]; exact hg); rw [h9] at h0; exact h0) | (have h0 := ps_GI (M := saM Mc 211 (y * 16807 % 2147483647 % M 209 1)) (k := 211) (w := 999 + k) (by rw [sa_lo (by decide), h9]; exact hT) (by omega) (by have h1 := sa_GI (M := Mc) (k := 211) (w := 999 + k) (s := y * 16807 % 2147483647 % M 209 1) (by rw [h9]; exact hT) (by rw [h9]; exact hg) (by rw [w9]; exact hs) (by rw [h9]; exact c98); rw [sa_lo (by decide)]; exact h1); rw [sa_lo (a := 209) (by decide), h9] at h0; exact h0)) (by rw [← hi, show (n - k).toNat = (n - (k + 1)).toNat + 1 by omega]; show _ = dyL _ _ (psM (if canT (tg (Mc 209)) (sk (Mc 211)) (y * 16807 % 2147483647 % Mc 209 1) then saM Mc 211 (y * 16807 % 2147483647 % Mc 209 1) else Mc) 211); rw [h9]; first | (rw [if_pos c98]; done) | (rw [if_neg c98]; done)) (by omega)
      refine r_ald0 dX10_drawn_101 ?_
      refine r_ald0 dX10_drawn_102 ?_
      refine s_getR fi_X10_37 (sh_201) rfl dX10_drawn_103 ?_
      refine r_ild8 dX10_drawn_106 ?_
      refine s_callV2r hML57 (c_X10_says E (by exact sh_211) (by decide) (by rw [h9]; exact hT) (by rw [h9]; exact hg.1) (by rw [w9]; exact hs)) cv_X10_says wM_X10_212 (sh_201) rfl rfl (Nat.le_of_ble_eq_true rfl) (by decide) dX10_drawn_108 (fun hM108 => ?_)
      skip
      refine r_pop dX10_drawn_111 rfl ?_
      refine r_ald0 dX10_drawn_112 ?_
      refine r_ald0 dX10_drawn_113 ?_
      refine s_getR fi_X10_37 (sh_201) rfl dX10_drawn_114 ?_
      refine s_callV1v hM108 (c_X10_passes E sh_211 (by decide) (by first | (rw [h9]; exact hT) | (rw [sa_lo (by decide), h9]; exact hT)) (by first | (rw [h9]; exact hg.1) | (rw [sa_lo (a := 209) (by decide)]; exact (sa_GI (M := Mc) (k := 211) (w := 999 + k) (s := y * 16807 % 2147483647 % M 209 1) (by rw [h9]; exact hT) (by rw [h9]; exact hg) (by rw [w9]; exact hs) (by rw [h9]; exact c98)).1)) (by first | (rw [h9]; exact hg.2.1) | (rw [sa_lo (a := 209) (by decide)]; exact (sa_GI (M := Mc) (k := 211) (w := 999 + k) (s := y * 16807 % 2147483647 % M 209 1) (by rw [h9]; exact hT) (by rw [h9]; exact hg) (by rw [w9]; exact hs) (by rw [h9]; exact c98)).2.1))) cv_X10_passes wM_X10_201 (sh_201) rfl rfl (Nat.le_of_ble_eq_true rfl) (by decide) dX10_drawn_117 (fun hM117 => ?_)
      refine r_iinc7 dX10_drawn_120 rfl ?_
      refine r_goto 57 dX10_drawn_123 (by decide) ?_
      refine r_fgt8 ?_
      exact ih _ (k + 1) _  hM117 (by exact hg0) (by exact hT) (by omega) (by omega) (by rw [ps_lo (by decide)]; first | exact h9 | exact (sa_lo (by decide)).trans h9) (by rw [show (999 + (k + 1) : Int) = 999 + k + 1 by omega]; first | (have h0 := ps_GI (M := Mc) (k := 211) (w := 999 + k) (by rw [h9]; exact hT) (by omega) (by rw [h9]; exact hg); rw [h9] at h0; exact h0) | (have h0 := ps_GI (M := saM Mc 211 (y * 16807 % 2147483647 % M 209 1)) (k := 211) (w := 999 + k) (by rw [sa_lo (by decide), h9]; exact hT) (by omega) (by have h1 := sa_GI (M := Mc) (k := 211) (w := 999 + k) (s := y * 16807 % 2147483647 % M 209 1) (by rw [h9]; exact hT) (by rw [h9]; exact hg) (by rw [w9]; exact hs) (by rw [h9]; exact c98); rw [sa_lo (by decide)]; exact h1); rw [sa_lo (a := 209) (by decide), h9] at h0; exact h0)) (by rw [← hi, show (n - k).toNat = (n - (k + 1)).toNat + 1 by omega]; show _ = dyL _ _ (psM (if canT (tg (Mc 209)) (sk (Mc 211)) (y * 16807 % 2147483647 % Mc 209 1) then saM Mc 211 (y * 16807 % 2147483647 % Mc 209 1) else Mc) 211); rw [h9]; first | (rw [if_pos c98]; done) | (rw [if_neg c98]; done)) (by omega)
  have L33 : ∀ (v : Int), ((v = 1 ∧ ((0 ≤ n ∧ n ≤ 60) ∧ (1 ≤ x ∧ x ≤ 999999) ∧ (0 ≤ w ∧ w ≤ 1))) ∨ (v = 0 ∧ ¬ ((0 ≤ n ∧ n ≤ 60) ∧ (1 ≤ x ∧ x ≤ 999999) ∧ (0 ≤ w ∧ w ≤ 1)))) → VS E mX10_drawn 4 (some (xi ((yDrawn M n x w).1))) ((yDrawn M n x w).2) 33 [some (xr E 201), some (xi n), some (xi x), some (xi w), none, none, none, none, none] [xi v, xr E 201] M := by
    intro v  hv
    refine s_callV1r hM (c_X10_need E (by first | exact b01 | omega)) cv_X10_need wM_X10_194 (sh_201) rfl rfl (Nat.le_of_ble_eq_true rfl) (by decide) dX10_drawn_33 (fun _ => ?_)
    refine r_ist4 dX10_drawn_36 rfl ?_
    have hnd : (M 201 16 = 0 ∧ needV M v = -1000002) ∨ (¬ M 201 16 = 0 ∧ v = 0 ∧ needV M v = -1000001) ∨ (¬ M 201 16 = 0 ∧ v = 1 ∧ needV M v = 0) := by unfold needV; split <;> (try split) <;> omega
    refine r_ild4 dX10_drawn_38 ?_
    refine r_if_ge 46 dX10_drawn_40 (by decide) (by omega) (fun c40 => ?_) (fun c40 => ?_)
    · skip
      obtain ⟨hd1, hT, hG, hNN⟩ := MD_g hD (by omega)
      have hn : 1 ≤ M 209 0 ∧ M 209 0 ≤ 5 := hT.1
      have hN : 1 ≤ M 209 1 ∧ M 209 1 ≤ 6 := hT.2.1
      have hra : 1 ≤ M 209 2 ∧ M 209 2 ≤ 60 := hT.2.2.1
      refine r_ald0 dX10_drawn_46 ?_
      refine s_callV0v hM (c_X10_copyNow E ) cv_X10_copyNow wM_X10_221 (sh_201) rfl rfl (Nat.le_of_ble_eq_true rfl) (by decide) dX10_drawn_47 (fun hM47 => ?_)
      refine r_ild2 dX10_drawn_50 ?_
      refine r_i2l dX10_drawn_51 (by omega) ?_
      refine r_lst5 dX10_drawn_52 rfl ?_
      refine r_iconst dX10_drawn_54 ?_
      refine r_ist7 dX10_drawn_55 rfl ?_
      refine r_fgt4 ?_
      exact L57 61 _ 0 _  hM47 (by omega) (by exact hT) (by omega) (by omega) (by exact cn_row (by decide)) (by rw [Int.add_zero]; exact GI_SA (cn_SA hT) hG) (by rw [Int.sub_zero]) (by omega)
    refine r_ild4 dX10_drawn_43 ?_
    exact s_iret hM rfl dX10_drawn_45 (by unfold yDrawn; first | (rw [if_neg (by omega), if_neg (by omega), ← hi, show (n - k).toNat = 0 by omega]; show _ = if w = 0 then Mc 211 4 else Mc 211 2; first | (rw [if_pos (by omega)]; done) | (rw [if_neg (by omega)]; done)) | ((repeat' split) <;> first | rfl | omega | (exfalso; omega))) (by unfold yDrawn; first | (rw [if_neg (by omega), if_neg (by omega), ← hi, show (n - k).toNat = 0 by omega]; rfl) | ((repeat' split) <;> first | rfl | omega | (exfalso; omega)))
  refine r_ald0 dX10_drawn_0 ?_
  refine r_ild1 dX10_drawn_1 ?_
  refine s_callS1r hM (c_X10_isAhead E (by first | with_reducible assumption | with_reducible exact xSt_9 | with_reducible exact xSt_13 | omega)) cs_X10_isAhead wM_X10_224 (Nat.le_of_ble_eq_true rfl) (by decide) dX10_drawn_2 (fun _ => ?_)
  refine r_ifb_eq 32 dX10_drawn_5 (by decide) (fun c5 => ?_) (fun c5 => ?_)
  · skip
    refine r_iconst dX10_drawn_32 ?_
    exact L33 _  (by omega)
  refine r_ild2 dX10_drawn_8 ?_
  refine r_iconst dX10_drawn_9 ?_
  refine r_ldcw (999999) dX10_drawn_10 wC_X10_265 ?_
  refine s_callS3r hM (c_X10_in E (by first | with_reducible assumption | with_reducible exact xSt_9 | with_reducible exact xSt_13 | omega) (by first | with_reducible assumption | with_reducible exact xSt_9 | with_reducible exact xSt_13 | omega) (by first | with_reducible assumption | with_reducible exact xSt_9 | with_reducible exact xSt_13 | omega)) cs_X10_in wM_X10_70 (Nat.le_of_ble_eq_true rfl) (by decide) dX10_drawn_13 (fun _ => ?_)
  refine r_ifb_eq 32 dX10_drawn_16 (by decide) (fun c16 => ?_) (fun c16 => ?_)
  · skip
    refine r_iconst dX10_drawn_32 ?_
    exact L33 _  (by omega)
  refine r_ild3 dX10_drawn_19 ?_
  refine r_iconst dX10_drawn_20 ?_
  refine r_iconst dX10_drawn_21 ?_
  refine s_callS3r hM (c_X10_in E (by first | with_reducible assumption | with_reducible exact xSt_9 | with_reducible exact xSt_13 | omega) (by first | with_reducible assumption | with_reducible exact xSt_9 | with_reducible exact xSt_13 | omega) (by first | with_reducible assumption | with_reducible exact xSt_9 | with_reducible exact xSt_13 | omega)) cs_X10_in wM_X10_70 (Nat.le_of_ble_eq_true rfl) (by decide) dX10_drawn_22 (fun _ => ?_)
  refine r_ifb_eq 32 dX10_drawn_25 (by decide) (fun c25 => ?_) (fun c25 => ?_)
  · skip
    refine r_iconst dX10_drawn_32 ?_
    exact L33 _  (by omega)
  refine r_iconst dX10_drawn_28 ?_
  refine r_goto 33 dX10_drawn_29 (by decide) ?_
  exact L33 _  (by omega)
