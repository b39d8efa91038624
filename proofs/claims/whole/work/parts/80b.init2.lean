section INI2
theorem V0_nn {E : xE} {y : xM} {d mc ms : Nat} {Q : Option Value → Nat → (Nat → va_E) → Prop} {pc : Nat} {ls : List (Option Value)} {st : List Value} {n n' : Nat} {hp : Nat → va_E} {ce ce' sl sl' : Nat} (hn : n' = n) (hc : ce' = ce) (hs : sl' = sl) (k : V0 E y d mc ms Q pc ls st n' hp ce' sl') : V0 E y d mc ms Q pc ls st n hp ce sl := by
  subst hn; subst hc; subst hs
  exact k
def rfs (E : xE) (b s i : Nat) : Nat → Option Nat := fun j => if j < i then some (E.2.1 + (b + s * j)) else none
theorem rfs_0 (E : xE) (b s : Nat) : (fun _ => none) = rfs E b s 0 := by
  funext j
  unfold rfs
  rw [if_neg (by omega)]
theorem rfs_s {E : xE} {b s i : Nat} : va_up (rfs E b s i) (i : Int).toNat (some (E.2.1 + (b + s * i))) = rfs E b s (i + 1) := by
  funext j
  rw [show ((i : Int)).toNat = i by omega]
  by_cases h : j = i
  · subst h
    refine (if_pos rfl).trans ?_
    unfold rfs
    rw [if_pos (by omega)]
  · refine (if_neg h).trans ?_
    unfold rfs
    by_cases h2 : j < i
    · rw [if_pos h2, if_pos (by omega)]
    · rw [if_neg h2, if_neg (by omega)]
theorem rfs_end {E : xE} {b s n : Nat} {l : List (Option Nat)} (hl : l.length = n) (h : ∀ i, i < n → l[i]? = some (some (b + s * i))) : rfs E b s n = fun j => (l.getD j none).map (fun p => E.2.1 + p) := by
  funext j
  unfold rfs
  by_cases h2 : j < n
  · rw [if_pos h2, List.getD_eq_getElem?_getD, h j h2]
    rfl
  · rw [if_neg h2, List.getD_eq_getElem?_getD, List.getElem?_eq_none (by omega)]
    rfl
theorem xC_in {E : xE} {M : xMem} {k ci : Nat} {l : List (Option Nat)} (h : shp k = (0, ci, l)) : xC E M k = .inr (ci, xflds E M k 0 l) := by
  unfold xC
  rw [h]
  rfl
theorem xC_rf {E : xE} {M : xMem} {k c n b s : Nat} {l : List (Option Nat)} (hs : shp k = (c + 3, n, l)) (hl : l.length = n) (h : ∀ i, i < n → l[i]? = some (some (b + s * i))) : (.inl (E.2.2.2 (c + 2), n, .inr (.inr (.inr (.inr (rfs E b s n))))) : va_E) = xC E M k := by
  unfold xC
  rw [hs, rfs_end hl h]
  rfl
theorem rfl_18 : ∀ i, i < 24 → (shp 18).2.2[i]? = some (some (19 + 4 * i)) := ps_5
theorem rfl_116 : ∀ i, i < 7 → (shp 116).2.2[i]? = some (some (119 + 4 * i)) := by decide +kernel
theorem rfl_1 : ∀ i, i < 8 → (shp 1).2.2[i]? = some (some (163 + 2 * i)) := by decide +kernel
theorem rfl_2 : ∀ i, i < 2 → (shp 2).2.2[i]? = some (some (179 + 11 * i)) := by decide +kernel
theorem xC_18 {E : xE} {M : xMem} : (.inl (E.2.2.2 4, 24, .inr (.inr (.inr (.inr (rfs E 19 4 24))))) : va_E) = xC E M 18 := xC_rf (c := 2) (l := (shp 18).2.2) (by decide +kernel) (by decide +kernel) rfl_18
theorem xC_116 {E : xE} {M : xMem} : (.inl (E.2.2.2 4, 7, .inr (.inr (.inr (.inr (rfs E 119 4 7))))) : va_E) = xC E M 116 := xC_rf (c := 2) (l := (shp 116).2.2) (by decide +kernel) (by decide +kernel) rfl_116
theorem xC_1 {E : xE} {M : xMem} : (.inl (E.2.2.2 2, 8, .inr (.inr (.inr (.inr (rfs E 163 2 8))))) : va_E) = xC E M 1 := xC_rf (c := 0) (l := (shp 1).2.2) (by decide +kernel) (by decide +kernel) rfl_1
theorem xC_2 {E : xE} {M : xMem} : (.inl (E.2.2.2 3, 2, .inr (.inr (.inr (.inr (rfs E 179 11 2))))) : va_E) = xC E M 2 := xC_rf (c := 1) (l := (shp 2).2.2) (by decide +kernel) (by decide +kernel) rfl_2
set_option maxHeartbeats 1000000 in
theorem i_X3 (E : xE)  {hp : Nat → va_E} (h0 : hp 17 = .inr (3, [.null, xi 0, xi 0])) : xK E mX3_init 3 2 97 624 [xr E 17, xr E 3] (18) hp (Lq E 17 (115) hp) := by
  have hh : xK E mX3_init ((lg_sl [xr E 17, xr E 3]).length + 1) 2 97 624 [xr E 17, xr E 3] (18) hp (Lq E 17 (115) hp) := by
    refine xK.of 1 (by decide +kernel) ?_
    show V0 E mX3_init 2 97 624 _ 0 [some (xr E 17), some (xr E 3), none] [] (18) hp 0 0
    have L15 : ∀ (fu i : Nat) (hp' : Nat → va_E), i ≤ 24 → hp' 17 = .inr (3, [xr E 18, xi 0, xi 0]) → hp' 18 = .inl (E.2.2.2 4, 24, .inr (.inr (.inr (.inr (rfs E 19 4 i))))) → (∀ a, 19 ≤ a → a < 19 + 4 * i → True → hp' a = xC E mZ a) → (∀ a, a < 17 → hp' a = hp a) → 24 - i < fu → V0 E mX3_init 2 97 624 (Lq E 17 115 hp) 15 [some (xr E 17), some (xr E 3), some (xi (i : Int))] [] (19 + 4 * i) hp' (1 + 4 * i) (24 + 25 * i) := by
      intro fu
      induction fu with
      | zero => intro i hp' _ _ _ _ _ hme; exact absurd hme (Nat.not_lt_zero _)
      | succ fu ih =>
        intro i hp' hi hob har hla hx0 hme
        refine r_ild2 dX3_init_15 ?_
        refine r_bipush dX3_init_16 (by decide +kernel) ?_
        refine r_icmp_ge 41 dX3_init_18 (by decide) (by omega) (by omega) (fun cc => ?_) (fun cc => ?_)
        · have hi2 : i = 24 := by omega
          subst hi2
          refine r_vret rfl dX3_init_41 (by decide) (by decide) ⟨rfl, rfl, fun a h1 h2 => ?_, fun a h1 => ?_⟩
          · rcases (show a = 17 ∨ a = 18 ∨ 19 ≤ a by omega) with rfl | rfl | hz
            · exact hob.trans (xC_sh sh_17 rfl)
            · exact har.trans xC_18
            · exact hla a hz (by omega) trivial
          · exact hx0 a h1
        have hi3 : i < 24 := by omega
        refine r_ald0 dX3_init_21 ?_
        refine r_get (f := 0) (v := xr E 18) xc_X3 wF_X3_11 (by decide) (by omega) hob rfl dX3_init_22 ?_
        refine r_ild2 dX3_init_25 ?_
        refine r_new [.null, .null, .null, .null, xi 0, xi 0, xi 0, xi 0, xi 0] xc_X6 wK_X3_9 wN_X6 wI_X6 df_X6 (by omega) (by omega) dX3_init_26 ?_
        refine r_dup dX3_init_29 rfl ?_
        refine r_ald1 dX3_init_30 ?_
        refine r_callI0 rfl (i_X6 E (k := 19 + 4 * i) (t := 3) (ps_all i hi3).1.g va_eq) ci_X6_init wM_X3_17 rfl rfl (Nat.le_of_ble_eq_true rfl) (by decide) (by omega) (by omega) dX3_init_31 (fun v1 n1 hp1 hq1 => ?_)
        obtain ⟨rfl, rfl, hl1, ho1⟩ := hq1
        show V0 E mX3_init 2 97 624 _ 34 [some (xr E 17), some (xr E 3), some (xi (i : Int))] [xr E (19 + 4 * i), xi (i : Int), xr E 18] (19 + 4 * i + 4) hp1 _ _
        refine r_aast (k := 18) (t := 4) (v := 19 + 4 * i) (ci := 6) (by omega) rfl ((ho1 _ (by omega)).trans ((va_ne (by omega)).trans har)) (by omega) ((hl1 _ (by omega) (by omega)).trans (xC_in (ps_1 i hi3))) rfl (by omega) (by omega) (by decide) dX3_init_34 ?_
        refine r_iinc2 dX3_init_35 rfl ?_
        refine r_goto 15 dX3_init_38 (by decide) ?_
        have e1 : ((i : Int) + 1) = ((i + 1 : Nat) : Int) := by omega
        rw [e1]
        refine V0_nn (n' := 19 + 4 * (i + 1)) (ce' := 1 + 4 * (i + 1)) (sl' := 24 + 25 * (i + 1)) (by omega) (by omega) (by omega) ?_
        refine ih (i + 1) _ (by omega) ((va_ne (by omega)).trans ((ho1 _ (by omega)).trans ((va_ne (by omega)).trans hob))) (va_eq.trans (by rw [rfs_s])) (fun a h1 h2 h3 => ?_) (fun a h1 => (va_ne (by omega)).trans ((ho1 a (by omega)).trans ((va_ne (by omega)).trans (hx0 a h1)))) (by omega)
        rw [va_ne (by omega)]
        by_cases hlt : a < 19 + 4 * i
        · rw [ho1 a hlt, va_ne (by omega)]
          exact hla a h1 hlt h3
        · exact hl1 a (by omega) (by omega)
    refine r_ald0 dX3_init_0 ?_
    refine r_objInit wM_X3_3 wO_obj wD_obj (Nat.le_of_ble_eq_true rfl) (by decide) dX3_init_1 ?_
    refine r_ald0 dX3_init_4 ?_
    refine r_bipush dX3_init_5 (by decide +kernel) ?_
    refine r_anew (N := 24) (t := 4) (C := RX6) rfl (fun _ h => h.2.2.1.2.2) wK_X3_9 (by decide) (by decide) (by decide) dX3_init_7 ?_
    refine r_putF (f := 0) xc_X3 wF_X3_11 (by decide) rfl rfl rfl rfl rfl (by omega) ((va_ne (by omega)).trans (h0)) (Nat.le_of_ble_eq_true rfl) dX3_init_10 ?_
    refine r_iconst dX3_init_13 ?_
    refine r_ist2 dX3_init_14 rfl ?_
    refine V0_nn (n' := 19 + 4 * 0) (ce' := 1 + 4 * 0) (sl' := 24 + 25 * 0) (by omega) (by omega) (by omega) ?_
    exact L15 25 0 _ (by omega) (va_eq) (((va_ne (by omega)).trans (va_eq)).trans (by rw [← rfs_0])) (fun a h1 h2 _ => by omega) (fun a h1 => (va_ne (by omega)).trans ((va_ne (by omega)).trans (rfl))) (by omega)
  exact hh
set_option maxHeartbeats 1000000 in
theorem i_X2 (E : xE)  {hp : Nat → va_E} (h0 : hp 115 = .inr (2, [.null, .null, .null, .null, xi 0, xi 0])) : xK E mX2_init 3 2 31 194 [xr E 115, xr E 3] (116) hp (Lq E 115 (147) hp) := by
  have hh : xK E mX2_init ((lg_sl [xr E 115, xr E 3]).length + 1) 2 31 194 [xr E 115, xr E 3] (116) hp (Lq E 115 (147) hp) := by
    refine xK.of 1 (by decide +kernel) ?_
    show V0 E mX2_init 2 31 194 _ 0 [some (xr E 115), some (xr E 3), none] [] (116) hp 0 0
    have L36 : ∀ (fu i : Nat) (hp' : Nat → va_E), i ≤ 7 → hp' 115 = .inr (2, [xr E 3, xr E 116, xr E 117, xr E 118, xi 0, xi 0]) → hp' 116 = .inl (E.2.2.2 4, 7, .inr (.inr (.inr (.inr (rfs E 119 4 i))))) → (∀ a, 119 ≤ a → a < 119 + 4 * i → True → hp' a = xC E mZ a) → (∀ a, a < 115 → hp' a = hp a) → hp' 117 = xC E mZ 117 → hp' 118 = xC E mZ 118 → 7 - i < fu → V0 E mX2_init 2 31 194 (Lq E 115 147 hp) 36 [some (xr E 115), some (xr E 3), some (xi (i : Int))] [] (119 + 4 * i) hp' (3 + 4 * i) (19 + 25 * i) := by
      intro fu
      induction fu with
      | zero => intro i hp' _ _ _ _ _ _ _ hme; exact absurd hme (Nat.not_lt_zero _)
      | succ fu ih =>
        intro i hp' hi hob har hla hx0 hx1 hx2 hme
        refine r_ild2 dX2_init_36 ?_
        refine r_bipush dX2_init_37 (by decide +kernel) ?_
        refine r_icmp_gt 62 dX2_init_39 (by decide) (by omega) (by omega) (fun cc => ?_) (fun cc => ?_)
        · have hi2 : i = 7 := by omega
          subst hi2
          refine r_vret rfl dX2_init_62 (by decide) (by decide) ⟨rfl, rfl, fun a h1 h2 => ?_, fun a h1 => ?_⟩
          · rcases (show a = 115 ∨ a = 116 ∨ a = 117 ∨ a = 118 ∨ 119 ≤ a by omega) with rfl | rfl | rfl | rfl | hz
            · exact hob.trans (xC_sh sh_115 rfl)
            · exact har.trans xC_116
            · exact hx1
            · exact hx2
            · exact hla a hz (by omega) trivial
          · exact hx0 a h1
        have hi3 : i < 7 := by omega
        refine r_ald0 dX2_init_42 ?_
        refine r_get (f := 1) (v := xr E 116) xc_X2 wF_X2_11 (by decide) (by omega) hob rfl dX2_init_43 ?_
        refine r_ild2 dX2_init_46 ?_
        refine r_new [.null, .null, .null, .null, xi 0, xi 0, xi 0, xi 0, xi 0] xc_X6 wK_X2_9 wN_X6 wI_X6 df_X6 (by omega) (by omega) dX2_init_47 ?_
        refine r_dup dX2_init_50 rfl ?_
        refine r_ald1 dX2_init_51 ?_
        refine r_callI0 rfl (i_X6 E (k := 119 + 4 * i) (t := 3) ⟨lv_1 i hi3, lv_2 i hi3, lv_3 i hi3, lv_4 i hi3⟩ va_eq) ci_X6_init wM_X2_28 rfl rfl (Nat.le_of_ble_eq_true rfl) (by decide) (by omega) (by omega) dX2_init_52 (fun v1 n1 hp1 hq1 => ?_)
        obtain ⟨rfl, rfl, hl1, ho1⟩ := hq1
        show V0 E mX2_init 2 31 194 _ 55 [some (xr E 115), some (xr E 3), some (xi (i : Int))] [xr E (119 + 4 * i), xi (i : Int), xr E 116] (119 + 4 * i + 4) hp1 _ _
        refine r_aast (k := 116) (t := 4) (v := 119 + 4 * i) (ci := 6) (by omega) rfl ((ho1 _ (by omega)).trans ((va_ne (by omega)).trans har)) (by omega) ((hl1 _ (by omega) (by omega)).trans (xC_in (lv_1 i hi3))) rfl (by omega) (by omega) (by decide) dX2_init_55 ?_
        refine r_iinc2 dX2_init_56 rfl ?_
        refine r_goto 36 dX2_init_59 (by decide) ?_
        have e1 : ((i : Int) + 1) = ((i + 1 : Nat) : Int) := by omega
        rw [e1]
        refine V0_nn (n' := 119 + 4 * (i + 1)) (ce' := 3 + 4 * (i + 1)) (sl' := 19 + 25 * (i + 1)) (by omega) (by omega) (by omega) ?_
        refine ih (i + 1) _ (by omega) ((va_ne (by omega)).trans ((ho1 _ (by omega)).trans ((va_ne (by omega)).trans hob))) (va_eq.trans (by rw [rfs_s])) (fun a h1 h2 h3 => ?_) (fun a h1 => (va_ne (by omega)).trans ((ho1 a (by omega)).trans ((va_ne (by omega)).trans (hx0 a h1)))) ((va_ne (by omega)).trans ((ho1 _ (by omega)).trans ((va_ne (by omega)).trans hx1))) ((va_ne (by omega)).trans ((ho1 _ (by omega)).trans ((va_ne (by omega)).trans hx2))) (by omega)
        rw [va_ne (by omega)]
        by_cases hlt : a < 119 + 4 * i
        · rw [ho1 a hlt, va_ne (by omega)]
          exact hla a h1 hlt h3
        · exact hl1 a (by omega) (by omega)
    refine r_ald0 dX2_init_0 ?_
    refine r_objInit wM_X2_3 wO_obj wD_obj (Nat.le_of_ble_eq_true rfl) (by decide) dX2_init_1 ?_
    refine r_ald0 dX2_init_4 ?_
    refine r_bipush dX2_init_5 (by decide +kernel) ?_
    refine r_anew (N := 7) (t := 4) (C := RX6) rfl (fun _ h => h.2.2.1.2.2) wK_X2_9 (by decide) (by decide) (by decide) dX2_init_7 ?_
    refine r_putF (f := 1) xc_X2 wF_X2_11 (by decide) rfl rfl rfl rfl rfl (by omega) ((va_ne (by omega)).trans (h0)) (Nat.le_of_ble_eq_true rfl) dX2_init_10 ?_
    refine r_ald0 dX2_init_13 ?_
    refine r_bipush dX2_init_14 (by decide +kernel) ?_
    refine r_newI (N := 6) wA_int (by decide) (by decide) (by decide) dX2_init_16 ?_
    refine r_putF (f := 2) xc_X2 wF_X2_17 (by decide) rfl rfl rfl rfl rfl (by omega) ((va_ne (by omega)).trans (va_eq)) (Nat.le_of_ble_eq_true rfl) dX2_init_18 ?_
    refine r_ald0 dX2_init_21 ?_
    refine r_bipush dX2_init_22 (by decide +kernel) ?_
    refine r_newI (N := 6) wA_int (by decide) (by decide) (by decide) dX2_init_24 ?_
    refine r_putF (f := 3) xc_X2 wF_X2_21 (by decide) rfl rfl rfl rfl rfl (by omega) ((va_ne (by omega)).trans (va_eq)) (Nat.le_of_ble_eq_true rfl) dX2_init_26 ?_
    refine r_ald0 dX2_init_29 ?_
    refine r_ald1 dX2_init_30 ?_
    refine r_putF (f := 0) xc_X2 wF_X2_24 (by decide) rfl rfl rfl rfl rfl (by omega) (va_eq) (Nat.le_of_ble_eq_true rfl) dX2_init_31 ?_
    refine r_iconst dX2_init_34 ?_
    refine r_ist2 dX2_init_35 rfl ?_
    refine V0_nn (n' := 119 + 4 * 0) (ce' := 3 + 4 * 0) (sl' := 19 + 25 * 0) (by omega) (by omega) (by omega) ?_
    exact L36 8 0 _ (by omega) (va_eq) (((va_ne (by omega)).trans ((va_ne (by omega)).trans ((va_ne (by omega)).trans ((va_ne (by omega)).trans ((va_ne (by omega)).trans ((va_ne (by omega)).trans (va_eq))))))).trans (by rw [← rfs_0])) (fun a h1 h2 _ => by omega) (fun a h1 => (va_ne (by omega)).trans ((va_ne (by omega)).trans ((va_ne (by omega)).trans ((va_ne (by omega)).trans ((va_ne (by omega)).trans ((va_ne (by omega)).trans ((va_ne (by omega)).trans (rfl)))))))) (((va_ne (by omega)).trans ((va_ne (by omega)).trans ((va_ne (by omega)).trans ((va_ne (by omega)).trans (va_eq))))).trans (xC_sh sh_117 rfl)) (((va_ne (by omega)).trans ((va_ne (by omega)).trans (va_eq))).trans (xC_sh sh_118 rfl)) (by omega)
  exact hh
set_option maxHeartbeats 1000000 in
theorem i_X9 (E : xE)  {hp : Nat → va_E} (h0 : hp 0 = .inr (9, [.null, .null, .null, .null, .null, .null, .null, .null, .null, .null, xi 0])) : xK E mX9_init 2 3 200 1682 [xr E 0] (1) hp (Lq E 0 (201) hp) := by
  have hh : xK E mX9_init ((lg_sl [xr E 0]).length + 1) 3 200 1682 [xr E 0] (1) hp (Lq E 0 (201) hp) := by
    refine xK.of 1 (by decide +kernel) ?_
    show V0 E mX9_init 3 200 1682 _ 0 [some (xr E 0), none] [] (1) hp 0 0
    have L162 : ∀ (fu i : Nat) (hp' : Nat → va_E), i ≤ 2 → hp' 0 = .inr (9, [xr E 1, xr E 2, xr E 3, xr E 9, xr E 13, xr E 17, xr E 115, xr E 147, xr E 149, xr E 161, xi 0]) → hp' 2 = .inl (E.2.2.2 3, 2, .inr (.inr (.inr (.inr (rfs E 179 11 i))))) → (∀ a, 3 ≤ a → a < 179 + 11 * i → True → hp' a = xC E mZ a) → hp' 1 = xC E mZ 1 → 2 - i < fu → V0 E mX9_init 3 200 1682 (Lq E 0 201 hp) 162 [some (xr E 0), some (xi (i : Int))] [] (179 + 11 * i) hp' (178 + 11 * i) (1552 + 65 * i) := by
      intro fu
      induction fu with
      | zero => intro i hp' _ _ _ _ _ hme; exact absurd hme (Nat.not_lt_zero _)
      | succ fu ih =>
        intro i hp' hi hob har hla hx0 hme
        refine r_ild1 dX9_init_162 ?_
        refine r_iconst dX9_init_163 ?_
        refine r_icmp_ge 186 dX9_init_164 (by decide) (by omega) (by omega) (fun cc => ?_) (fun cc => ?_)
        · have hi2 : i = 2 := by omega
          subst hi2
          refine r_vret rfl dX9_init_186 (by decide) (by decide) ⟨rfl, rfl, fun a h1 h2 => ?_, fun a h1 => absurd h1 (by omega)⟩
          rcases (show a = 0 ∨ a = 1 ∨ a = 2 ∨ 3 ≤ a by omega) with rfl | rfl | rfl | hz
          · exact hob.trans (xC_sh sh_0 rfl)
          · exact hx0
          · exact har.trans xC_2
          · exact hla a hz (by omega) trivial
        have hi3 : i < 2 := by omega
        refine r_ald0 dX9_init_167 ?_
        refine r_get (f := 1) (v := xr E 2) xc_X9 wF_X9_17 (by decide) (by omega) hob rfl dX9_init_168 ?_
        refine r_ild1 dX9_init_171 ?_
        refine r_new [.null, .null, xi 0] xc_X1 wK_X9_15 wN_X1 wI_X1 df_X1 (by omega) (by omega) dX9_init_172 ?_
        refine r_dup dX9_init_175 rfl ?_
        refine r_callN0 rfl (i_X1 E (k := 179 + 11 * i) (im_all i hi3).1 va_eq) ci_X1_init (List.mem_of_getElem? (i := 5) rfl) rfl rfl (Nat.le_of_ble_eq_true rfl) (by decide) (by omega) (by omega) dX9_init_176 (fun v1 n1 hp1 hq1 => ?_)
        obtain ⟨rfl, rfl, hl1, ho1⟩ := hq1
        show V0 E mX9_init 3 200 1682 _ 179 [some (xr E 0), some (xi (i : Int))] [xr E (179 + 11 * i), xi (i : Int), xr E 2] (179 + 11 * i + 11) hp1 _ _
        refine r_aast (k := 2) (t := 3) (v := 179 + 11 * i) (ci := 1) (by omega) rfl ((ho1 _ (by omega)).trans ((va_ne (by omega)).trans har)) (by omega) ((hl1 _ (by omega) (by omega)).trans (xC_in (im_all i hi3).1.1)) rfl (by omega) (by omega) (by decide) dX9_init_179 ?_
        refine r_iinc1 dX9_init_180 rfl ?_
        refine r_goto 162 dX9_init_183 (by decide) ?_
        have e1 : ((i : Int) + 1) = ((i + 1 : Nat) : Int) := by omega
        rw [e1]
        refine V0_nn (n' := 179 + 11 * (i + 1)) (ce' := 178 + 11 * (i + 1)) (sl' := 1552 + 65 * (i + 1)) (by omega) (by omega) (by omega) ?_
        refine ih (i + 1) _ (by omega) ((va_ne (by omega)).trans ((ho1 _ (by omega)).trans ((va_ne (by omega)).trans hob))) (va_eq.trans (by rw [rfs_s])) (fun a h1 h2 h3 => ?_) ((va_ne (by omega)).trans ((ho1 _ (by omega)).trans ((va_ne (by omega)).trans hx0))) (by omega)
        rw [va_ne (by omega)]
        by_cases hlt : a < 179 + 11 * i
        · rw [ho1 a hlt, va_ne (by omega)]
          exact hla a h1 hlt h3
        · exact hl1 a (by omega) (by omega)
    have L135 : ∀ (fu i : Nat) (hp' : Nat → va_E), i ≤ 8 → hp' 0 = .inr (9, [xr E 1, xr E 2, xr E 3, xr E 9, xr E 13, xr E 17, xr E 115, xr E 147, xr E 149, xr E 161, xi 0]) → hp' 1 = .inl (E.2.2.2 2, 8, .inr (.inr (.inr (.inr (rfs E 163 2 i))))) → (∀ a, 3 ≤ a → a < 163 + 2 * i → True → hp' a = xC E mZ a) → hp' 2 = .inl (E.2.2.2 3, 2, .inr (.inr (.inr (.inr (fun _ => none))))) → 8 - i < fu → V0 E mX9_init 3 200 1682 (Lq E 0 201 hp) 135 [some (xr E 0), some (xi (i : Int))] [] (163 + 2 * i) hp' (162 + 2 * i) (1200 + 44 * i) := by
      intro fu
      induction fu with
      | zero => intro i hp' _ _ _ _ _ hme; exact absurd hme (Nat.not_lt_zero _)
      | succ fu ih =>
        intro i hp' hi hob har hla hx0 hme
        refine r_ild1 dX9_init_135 ?_
        refine r_bipush dX9_init_136 (by decide +kernel) ?_
        refine r_icmp_ge 160 dX9_init_138 (by decide) (by omega) (by omega) (fun cc => ?_) (fun cc => ?_)
        · have hi2 : i = 8 := by omega
          subst hi2
          refine r_iconst dX9_init_160 ?_
          refine r_ist1 dX9_init_161 rfl ?_
          refine V0_nn (n' := 179 + 11 * 0) (ce' := 178 + 11 * 0) (sl' := 1552 + 65 * 0) (by omega) (by omega) (by omega) ?_
          exact L162 3 0 _ (by omega) hob (hx0.trans (by rw [← rfs_0])) (fun a h1 h2 _ => hla a h1 (by omega) trivial) (har.trans xC_1) (by omega)
        have hi3 : i < 8 := by omega
        refine r_ald0 dX9_init_141 ?_
        refine r_get (f := 0) (v := xr E 1) xc_X9 wF_X9_11 (by decide) (by omega) hob rfl dX9_init_142 ?_
        refine r_ild1 dX9_init_145 ?_
        refine r_new [.null, xi 0, xi 0, xi 0] xc_X5 wK_X9_9 wN_X5 wI_X5 df_X5 (by omega) (by omega) dX9_init_146 ?_
        refine r_dup dX9_init_149 rfl ?_
        refine r_callN0 rfl (i_X5 E (k := 163 + 2 * i) (rw_all i hi3).1 va_eq) ci_X5_init (List.mem_of_getElem? (i := 4) rfl) rfl rfl (Nat.le_of_ble_eq_true rfl) (by decide) (by omega) (by omega) dX9_init_150 (fun v1 n1 hp1 hq1 => ?_)
        obtain ⟨rfl, rfl, hl1, ho1⟩ := hq1
        show V0 E mX9_init 3 200 1682 _ 153 [some (xr E 0), some (xi (i : Int))] [xr E (163 + 2 * i), xi (i : Int), xr E 1] (163 + 2 * i + 2) hp1 _ _
        refine r_aast (k := 1) (t := 2) (v := 163 + 2 * i) (ci := 5) (by omega) rfl ((ho1 _ (by omega)).trans ((va_ne (by omega)).trans har)) (by omega) ((hl1 _ (by omega) (by omega)).trans (xC_in (rw_all i hi3).1.1)) rfl (by omega) (by omega) (by decide) dX9_init_153 ?_
        refine r_iinc1 dX9_init_154 rfl ?_
        refine r_goto 135 dX9_init_157 (by decide) ?_
        have e1 : ((i : Int) + 1) = ((i + 1 : Nat) : Int) := by omega
        rw [e1]
        refine V0_nn (n' := 163 + 2 * (i + 1)) (ce' := 162 + 2 * (i + 1)) (sl' := 1200 + 44 * (i + 1)) (by omega) (by omega) (by omega) ?_
        refine ih (i + 1) _ (by omega) ((va_ne (by omega)).trans ((ho1 _ (by omega)).trans ((va_ne (by omega)).trans hob))) (va_eq.trans (by rw [rfs_s])) (fun a h1 h2 h3 => ?_) ((va_ne (by omega)).trans ((ho1 _ (by omega)).trans ((va_ne (by omega)).trans hx0))) (by omega)
        rw [va_ne (by omega)]
        by_cases hlt : a < 163 + 2 * i
        · rw [ho1 a hlt, va_ne (by omega)]
          exact hla a h1 hlt h3
        · exact hl1 a (by omega) (by omega)
    refine r_ald0 dX9_init_0 ?_
    refine r_objInit wM_X9_1 wO_obj wD_obj (Nat.le_of_ble_eq_true rfl) (by decide) dX9_init_1 ?_
    refine r_ald0 dX9_init_4 ?_
    refine r_bipush dX9_init_5 (by decide +kernel) ?_
    refine r_anew (N := 8) (t := 2) (C := RX5) rfl (fun _ h => h.2.2.1.1) wK_X9_9 (by decide) (by decide) (by decide) dX9_init_7 ?_
    refine r_putF (f := 0) xc_X9 wF_X9_11 (by decide) rfl rfl rfl rfl rfl (by omega) ((va_ne (by omega)).trans (h0)) (Nat.le_of_ble_eq_true rfl) dX9_init_10 ?_
    refine r_ald0 dX9_init_13 ?_
    refine r_iconst dX9_init_14 ?_
    refine r_anew (N := 2) (t := 3) (C := RX1) rfl (fun _ h => h.2.2.1.2.1) wK_X9_15 (by decide) (by decide) (by decide) dX9_init_15 ?_
    refine r_putF (f := 1) xc_X9 wF_X9_17 (by decide) rfl rfl rfl rfl rfl (by omega) ((va_ne (by omega)).trans (va_eq)) (Nat.le_of_ble_eq_true rfl) dX9_init_18 ?_
    refine r_ald0 dX9_init_21 ?_
    refine r_new [.null, .null, .null, .null, .null, xi 0, xi 0, xi 0] xc_X8 wK_X9_21 wN_X8 wI_X8 df_X8 (by decide) (by decide) dX9_init_22 ?_
    refine r_dup dX9_init_25 rfl ?_
    refine r_callN0 rfl (i_X8 E (k := 3) xTw_3 (va_eq)) ci_X8_init (List.mem_of_getElem? (i := 0) rfl) rfl rfl (Nat.le_of_ble_eq_true rfl) (by decide) (by decide) (by decide) dX9_init_26 (fun v0 n0 hp0 hq0 => ?_)
    obtain ⟨rfl, rfl, hl0, ho0⟩ := hq0
    show V0 E mX9_init 3 200 1682 _ 29 [some (xr E 0), none] [xr E 3, xr E 0] 9 hp0 _ _
    refine r_putF (f := 2) xc_X9 wF_X9_24 (by decide) rfl rfl rfl rfl rfl (by omega) ((ho0 _ (by omega)).trans ((va_ne (by omega)).trans (va_eq))) (Nat.le_of_ble_eq_true rfl) dX9_init_29 ?_
    refine r_ald0 dX9_init_32 ?_
    refine r_new [.null, .null, .null, .null, xi 0, xi 0, xi 0, xi 0, xi 0] xc_X6 wK_X9_28 wN_X6 wI_X6 df_X6 (by decide) (by decide) dX9_init_33 ?_
    refine r_dup dX9_init_36 rfl ?_
    refine r_ald0 dX9_init_37 ?_
    refine r_get (f := 2) (v := xr E 3) xc_X9 wF_X9_24 (by decide) (by omega) ((va_ne (by omega)).trans (va_eq)) rfl dX9_init_38 ?_
    refine r_callI0 rfl (i_X6 E (k := 9) (t := 3) xSt_9.g (va_eq)) ci_X6_init wM_X9_30 rfl rfl (Nat.le_of_ble_eq_true rfl) (by decide) (by decide) (by decide) dX9_init_41 (fun v1 n1 hp1 hq1 => ?_)
    obtain ⟨rfl, rfl, hl1, ho1⟩ := hq1
    show V0 E mX9_init 3 200 1682 _ 44 [some (xr E 0), none] [xr E 9, xr E 0] 13 hp1 _ _
    refine r_putF (f := 3) xc_X9 wF_X9_33 (by decide) rfl rfl rfl rfl rfl (by omega) ((ho1 _ (by omega)).trans ((va_ne (by omega)).trans (va_eq))) (Nat.le_of_ble_eq_true rfl) dX9_init_44 ?_
    refine r_ald0 dX9_init_47 ?_
    refine r_new [.null, .null, .null, .null, xi 0, xi 0, xi 0, xi 0, xi 0] xc_X6 wK_X9_28 wN_X6 wI_X6 df_X6 (by decide) (by decide) dX9_init_48 ?_
    refine r_dup dX9_init_51 rfl ?_
    refine r_ald0 dX9_init_52 ?_
    refine r_get (f := 2) (v := xr E 3) xc_X9 wF_X9_24 (by decide) (by omega) ((va_ne (by omega)).trans (va_eq)) rfl dX9_init_53 ?_
    refine r_callI0 rfl (i_X6 E (k := 13) (t := 3) xSt_13.g (va_eq)) ci_X6_init wM_X9_30 rfl rfl (Nat.le_of_ble_eq_true rfl) (by decide) (by decide) (by decide) dX9_init_56 (fun v2 n2 hp2 hq2 => ?_)
    obtain ⟨rfl, rfl, hl2, ho2⟩ := hq2
    show V0 E mX9_init 3 200 1682 _ 59 [some (xr E 0), none] [xr E 13, xr E 0] 17 hp2 _ _
    refine r_putF (f := 4) xc_X9 wF_X9_37 (by decide) rfl rfl rfl rfl rfl (by omega) ((ho2 _ (by omega)).trans ((va_ne (by omega)).trans (va_eq))) (Nat.le_of_ble_eq_true rfl) dX9_init_59 ?_
    refine r_ald0 dX9_init_62 ?_
    refine r_new [.null, xi 0, xi 0] xc_X3 wK_X9_40 wN_X3 wI_X3 df_X3 (by decide) (by decide) dX9_init_63 ?_
    refine r_dup dX9_init_66 rfl ?_
    refine r_ald0 dX9_init_67 ?_
    refine r_get (f := 2) (v := xr E 3) xc_X9 wF_X9_24 (by decide) (by omega) ((va_ne (by omega)).trans (va_eq)) rfl dX9_init_68 ?_
    refine r_callI0 rfl (i_X3 E (va_eq)) ci_X3_init wM_X9_42 rfl rfl (Nat.le_of_ble_eq_true rfl) (by decide) (by decide) (by decide) dX9_init_71 (fun v3 n3 hp3 hq3 => ?_)
    obtain ⟨rfl, rfl, hl3, ho3⟩ := hq3
    show V0 E mX9_init 3 200 1682 _ 74 [some (xr E 0), none] [xr E 17, xr E 0] 115 hp3 _ _
    refine r_putF (f := 5) xc_X9 wF_X9_43 (by decide) rfl rfl rfl rfl rfl (by omega) ((ho3 _ (by omega)).trans ((va_ne (by omega)).trans (va_eq))) (Nat.le_of_ble_eq_true rfl) dX9_init_74 ?_
    refine r_ald0 dX9_init_77 ?_
    refine r_new [.null, .null, .null, .null, xi 0, xi 0] xc_X2 wK_X9_47 wN_X2 wI_X2 df_X2 (by decide) (by decide) dX9_init_78 ?_
    refine r_dup dX9_init_81 rfl ?_
    refine r_ald0 dX9_init_82 ?_
    refine r_get (f := 2) (v := xr E 3) xc_X9 wF_X9_24 (by decide) (by omega) ((va_ne (by omega)).trans (va_eq)) rfl dX9_init_83 ?_
    refine r_callI0 rfl (i_X2 E (va_eq)) ci_X2_init wM_X9_49 rfl rfl (Nat.le_of_ble_eq_true rfl) (by decide) (by decide) (by decide) dX9_init_86 (fun v4 n4 hp4 hq4 => ?_)
    obtain ⟨rfl, rfl, hl4, ho4⟩ := hq4
    show V0 E mX9_init 3 200 1682 _ 89 [some (xr E 0), none] [xr E 115, xr E 0] 147 hp4 _ _
    refine r_putF (f := 6) xc_X9 wF_X9_50 (by decide) rfl rfl rfl rfl rfl (by omega) ((ho4 _ (by omega)).trans ((va_ne (by omega)).trans (va_eq))) (Nat.le_of_ble_eq_true rfl) dX9_init_89 ?_
    refine r_ald0 dX9_init_92 ?_
    refine r_new [.null, xi 0] xc_X7 wK_X9_54 wN_X7 wI_X7 df_X7 (by decide) (by decide) dX9_init_93 ?_
    refine r_dup dX9_init_96 rfl ?_
    refine r_callN0 rfl (i_X7 E (va_eq)) ci_X7_init (List.mem_of_getElem? (i := 1) rfl) rfl rfl (Nat.le_of_ble_eq_true rfl) (by decide) (by decide) (by decide) dX9_init_97 (fun v5 n5 hp5 hq5 => ?_)
    obtain ⟨rfl, rfl, hl5, ho5⟩ := hq5
    show V0 E mX9_init 3 200 1682 _ 100 [some (xr E 0), none] [xr E 147, xr E 0] 149 hp5 _ _
    refine r_putF (f := 7) xc_X9 wF_X9_57 (by decide) rfl rfl rfl rfl rfl (by omega) ((ho5 _ (by omega)).trans ((va_ne (by omega)).trans (va_eq))) (Nat.le_of_ble_eq_true rfl) dX9_init_100 ?_
    refine r_ald0 dX9_init_103 ?_
    refine r_new [.null, .null, .null, xi 0, xi 0, xi 0, xi 0, xi 0, xi 0, xi 0, xi 0] xc_X4 wK_X9_61 wN_X4 wI_X4 df_X4 (by decide) (by decide) dX9_init_104 ?_
    refine r_dup dX9_init_107 rfl ?_
    refine r_callN0 rfl (i_X4 E (va_eq)) ci_X4_init (List.mem_of_getElem? (i := 2) rfl) rfl rfl (Nat.le_of_ble_eq_true rfl) (by decide) (by decide) (by decide) dX9_init_108 (fun v6 n6 hp6 hq6 => ?_)
    obtain ⟨rfl, rfl, hl6, ho6⟩ := hq6
    show V0 E mX9_init 3 200 1682 _ 111 [some (xr E 0), none] [xr E 149, xr E 0] 161 hp6 _ _
    refine r_putF (f := 8) xc_X9 wF_X9_64 (by decide) rfl rfl rfl rfl rfl (by omega) ((ho6 _ (by omega)).trans ((va_ne (by omega)).trans (va_eq))) (Nat.le_of_ble_eq_true rfl) dX9_init_111 ?_
    refine r_ald0 dX9_init_114 ?_
    refine r_new [.null, .null, .null, xi 0] xc_X0 wK_X9_68 wN_X0 wI_X0 df_X0 (by decide) (by decide) dX9_init_115 ?_
    refine r_dup dX9_init_118 rfl ?_
    refine r_ald0 dX9_init_119 ?_
    refine r_get (f := 2) (v := xr E 3) xc_X9 wF_X9_24 (by decide) (by omega) ((va_ne (by omega)).trans (va_eq)) rfl dX9_init_120 ?_
    refine r_ald0 dX9_init_123 ?_
    refine r_get (f := 3) (v := xr E 9) xc_X9 wF_X9_33 (by decide) (by omega) ((va_ne (by omega)).trans (va_eq)) rfl dX9_init_124 ?_
    refine r_callI0 rfl (i_X0 E (va_eq)) ci_X0_init wM_X9_70 rfl rfl (Nat.le_of_ble_eq_true rfl) (by decide) (by decide) (by decide) dX9_init_127 (fun v7 n7 hp7 hq7 => ?_)
    obtain ⟨rfl, rfl, hl7, ho7⟩ := hq7
    show V0 E mX9_init 3 200 1682 _ 130 [some (xr E 0), none] [xr E 161, xr E 0] 163 hp7 _ _
    refine r_putF (f := 9) xc_X9 wF_X9_73 (by decide) rfl rfl rfl rfl rfl (by omega) ((ho7 _ (by omega)).trans ((va_ne (by omega)).trans (va_eq))) (Nat.le_of_ble_eq_true rfl) dX9_init_130 ?_
    refine r_iconst dX9_init_133 ?_
    refine r_ist1 dX9_init_134 rfl ?_
    refine V0_nn (n' := 163 + 2 * 0) (ce' := 162 + 2 * 0) (sl' := 1200 + 44 * 0) (by omega) (by omega) (by omega) ?_
    exact L135 9 0 _ (by omega) (va_eq) (((va_ne (by omega)).trans ((ho7 _ (by omega)).trans ((va_ne (by omega)).trans ((va_ne (by omega)).trans ((ho6 _ (by omega)).trans ((va_ne (by omega)).trans ((va_ne (by omega)).trans ((ho5 _ (by omega)).trans ((va_ne (by omega)).trans ((va_ne (by omega)).trans ((ho4 _ (by omega)).trans ((va_ne (by omega)).trans ((va_ne (by omega)).trans ((ho3 _ (by omega)).trans ((va_ne (by omega)).trans ((va_ne (by omega)).trans ((ho2 _ (by omega)).trans ((va_ne (by omega)).trans ((va_ne (by omega)).trans ((ho1 _ (by omega)).trans ((va_ne (by omega)).trans ((va_ne (by omega)).trans ((ho0 _ (by omega)).trans ((va_ne (by omega)).trans ((va_ne (by omega)).trans ((va_ne (by omega)).trans ((va_ne (by omega)).trans (va_eq)))))))))))))))))))))))))))).trans (by rw [← rfs_0])) (fun a h1 h2 _ => by
      rcases (show (3 ≤ a ∧ a < 9) ∨ (9 ≤ a ∧ a < 13) ∨ (13 ≤ a ∧ a < 17) ∨ (17 ≤ a ∧ a < 115) ∨ (115 ≤ a ∧ a < 147) ∨ (147 ≤ a ∧ a < 149) ∨ (149 ≤ a ∧ a < 161) ∨ (161 ≤ a ∧ a < 163) by omega) with hz | hz | hz | hz | hz | hz | hz | hz
      · exact (va_ne (by omega)).trans ((ho7 _ (by omega)).trans ((va_ne (by omega)).trans ((va_ne (by omega)).trans ((ho6 _ (by omega)).trans ((va_ne (by omega)).trans ((va_ne (by omega)).trans ((ho5 _ (by omega)).trans ((va_ne (by omega)).trans ((va_ne (by omega)).trans ((ho4 _ (by omega)).trans ((va_ne (by omega)).trans ((va_ne (by omega)).trans ((ho3 _ (by omega)).trans ((va_ne (by omega)).trans ((va_ne (by omega)).trans ((ho2 _ (by omega)).trans ((va_ne (by omega)).trans ((va_ne (by omega)).trans ((ho1 _ (by omega)).trans ((va_ne (by omega)).trans ((va_ne (by omega)).trans (hl0 a (by omega) (by omega)))))))))))))))))))))))
      · exact (va_ne (by omega)).trans ((ho7 _ (by omega)).trans ((va_ne (by omega)).trans ((va_ne (by omega)).trans ((ho6 _ (by omega)).trans ((va_ne (by omega)).trans ((va_ne (by omega)).trans ((ho5 _ (by omega)).trans ((va_ne (by omega)).trans ((va_ne (by omega)).trans ((ho4 _ (by omega)).trans ((va_ne (by omega)).trans ((va_ne (by omega)).trans ((ho3 _ (by omega)).trans ((va_ne (by omega)).trans ((va_ne (by omega)).trans ((ho2 _ (by omega)).trans ((va_ne (by omega)).trans ((va_ne (by omega)).trans (hl1 a (by omega) (by omega))))))))))))))))))))
      · exact (va_ne (by omega)).trans ((ho7 _ (by omega)).trans ((va_ne (by omega)).trans ((va_ne (by omega)).trans ((ho6 _ (by omega)).trans ((va_ne (by omega)).trans ((va_ne (by omega)).trans ((ho5 _ (by omega)).trans ((va_ne (by omega)).trans ((va_ne (by omega)).trans ((ho4 _ (by omega)).trans ((va_ne (by omega)).trans ((va_ne (by omega)).trans ((ho3 _ (by omega)).trans ((va_ne (by omega)).trans ((va_ne (by omega)).trans (hl2 a (by omega) (by omega)))))))))))))))))
      · exact (va_ne (by omega)).trans ((ho7 _ (by omega)).trans ((va_ne (by omega)).trans ((va_ne (by omega)).trans ((ho6 _ (by omega)).trans ((va_ne (by omega)).trans ((va_ne (by omega)).trans ((ho5 _ (by omega)).trans ((va_ne (by omega)).trans ((va_ne (by omega)).trans ((ho4 _ (by omega)).trans ((va_ne (by omega)).trans ((va_ne (by omega)).trans (hl3 a (by omega) (by omega))))))))))))))
      · exact (va_ne (by omega)).trans ((ho7 _ (by omega)).trans ((va_ne (by omega)).trans ((va_ne (by omega)).trans ((ho6 _ (by omega)).trans ((va_ne (by omega)).trans ((va_ne (by omega)).trans ((ho5 _ (by omega)).trans ((va_ne (by omega)).trans ((va_ne (by omega)).trans (hl4 a (by omega) (by omega)))))))))))
      · exact (va_ne (by omega)).trans ((ho7 _ (by omega)).trans ((va_ne (by omega)).trans ((va_ne (by omega)).trans ((ho6 _ (by omega)).trans ((va_ne (by omega)).trans ((va_ne (by omega)).trans (hl5 a (by omega) (by omega))))))))
      · exact (va_ne (by omega)).trans ((ho7 _ (by omega)).trans ((va_ne (by omega)).trans ((va_ne (by omega)).trans (hl6 a (by omega) (by omega)))))
      · exact (va_ne (by omega)).trans (hl7 a (by omega) (by omega))) ((va_ne (by omega)).trans ((ho7 _ (by omega)).trans ((va_ne (by omega)).trans ((va_ne (by omega)).trans ((ho6 _ (by omega)).trans ((va_ne (by omega)).trans ((va_ne (by omega)).trans ((ho5 _ (by omega)).trans ((va_ne (by omega)).trans ((va_ne (by omega)).trans ((ho4 _ (by omega)).trans ((va_ne (by omega)).trans ((va_ne (by omega)).trans ((ho3 _ (by omega)).trans ((va_ne (by omega)).trans ((va_ne (by omega)).trans ((ho2 _ (by omega)).trans ((va_ne (by omega)).trans ((va_ne (by omega)).trans ((ho1 _ (by omega)).trans ((va_ne (by omega)).trans ((va_ne (by omega)).trans ((ho0 _ (by omega)).trans ((va_ne (by omega)).trans ((va_ne (by omega)).trans (va_eq)))))))))))))))))))))))))) (by omega)
  exact hh
end INI2
