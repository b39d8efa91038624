section INI
def mZ : xMem := fun _ _ => 0
theorem va_eq {f : Nat → va_E} {k : Nat} {v : va_E} : va_up f k v k = v := if_pos rfl
theorem va_ne {f : Nat → va_E} {k a : Nat} {v : va_E} (h : a ≠ k) : va_up f k v a = f a := if_neg h
def Lq (E : xE) (lo hi : Nat) (hp : Nat → va_E) : Option Value → Nat → (Nat → va_E) → Prop := fun v n hp' => v = none ∧ n = hi ∧ (∀ a, lo ≤ a → a < hi → hp' a = xC E mZ a) ∧ ∀ a, a < lo → hp' a = hp a
theorem xC_sh {E : xE} {M : xMem} {k : Nat} {s : xS} {c : va_E} (h : shp k = s) (e : xcell E M k s = c) : c = xC E M k := by
  unfold xC
  rw [h]
  exact e.symm
theorem V0_cg {E : xE} {y : xM} {d mc ms : Nat} {Q : Option Value → Nat → (Nat → va_E) → Prop} {pc : Nat} {ls : List (Option Value)} {st : List Value} {n : Nat} {hp hp' : Nat → va_E} {ce sl : Nat} (h : ∀ a, a < n → hp' a = hp a) (k : V0 E y d mc ms Q pc ls st n hp' ce sl) : V0 E y d mc ms Q pc ls st n hp ce sl := by
  intro p e s m args below meth c H locs la ok hP hS hL
  refine k p e s m args below meth c H locs la ok ⟨hP.1, fun i q hq => ?_⟩ hS hL
  obtain ⟨hi, rfl⟩ := xW_get hq
  rw [h i hi]
  exact hP.2 i _ (xW_at hi)
theorem df_X0 : ∀ j, j < 4 → defaultValue (tyX0 j) = vp_V [.null, .null, .null, xi 0] j := fun j hj => by
  rcases (show j = 0 ∨ j = 1 ∨ j = 2 ∨ j = 3 by omega) with rfl | rfl | rfl | rfl <;> rfl
theorem df_X1 : ∀ j, j < 3 → defaultValue (tyX1 j) = vp_V [.null, .null, xi 0] j := fun j hj => by
  rcases (show j = 0 ∨ j = 1 ∨ j = 2 by omega) with rfl | rfl | rfl <;> rfl
theorem df_X2 : ∀ j, j < 6 → defaultValue (tyX2 j) = vp_V [.null, .null, .null, .null, xi 0, xi 0] j := fun j hj => by
  rcases (show j = 0 ∨ j = 1 ∨ j = 2 ∨ j = 3 ∨ j = 4 ∨ j = 5 by omega) with rfl | rfl | rfl | rfl | rfl | rfl <;> rfl
theorem df_X3 : ∀ j, j < 3 → defaultValue (tyX3 j) = vp_V [.null, xi 0, xi 0] j := fun j hj => by
  rcases (show j = 0 ∨ j = 1 ∨ j = 2 by omega) with rfl | rfl | rfl <;> rfl
theorem df_X4 : ∀ j, j < 11 → defaultValue (tyX4 j) = vp_V [.null, .null, .null, xi 0, xi 0, xi 0, xi 0, xi 0, xi 0, xi 0, xi 0] j := fun j hj => by
  rcases (show j = 0 ∨ j = 1 ∨ j = 2 ∨ j = 3 ∨ j = 4 ∨ j = 5 ∨ j = 6 ∨ j = 7 ∨ j = 8 ∨ j = 9 ∨ j = 10 by omega) with rfl | rfl | rfl | rfl | rfl | rfl | rfl | rfl | rfl | rfl | rfl <;> rfl
theorem df_X5 : ∀ j, j < 4 → defaultValue (tyX5 j) = vp_V [.null, xi 0, xi 0, xi 0] j := fun j hj => by
  rcases (show j = 0 ∨ j = 1 ∨ j = 2 ∨ j = 3 by omega) with rfl | rfl | rfl | rfl <;> rfl
theorem df_X6 : ∀ j, j < 9 → defaultValue (tyX6 j) = vp_V [.null, .null, .null, .null, xi 0, xi 0, xi 0, xi 0, xi 0] j := fun j hj => by
  rcases (show j = 0 ∨ j = 1 ∨ j = 2 ∨ j = 3 ∨ j = 4 ∨ j = 5 ∨ j = 6 ∨ j = 7 ∨ j = 8 by omega) with rfl | rfl | rfl | rfl | rfl | rfl | rfl | rfl | rfl <;> rfl
theorem df_X7 : ∀ j, j < 2 → defaultValue (tyX7 j) = vp_V [.null, xi 0] j := fun j hj => by
  rcases (show j = 0 ∨ j = 1 by omega) with rfl | rfl <;> rfl
theorem df_X8 : ∀ j, j < 8 → defaultValue (tyX8 j) = vp_V [.null, .null, .null, .null, .null, xi 0, xi 0, xi 0] j := fun j hj => by
  rcases (show j = 0 ∨ j = 1 ∨ j = 2 ∨ j = 3 ∨ j = 4 ∨ j = 5 ∨ j = 6 ∨ j = 7 by omega) with rfl | rfl | rfl | rfl | rfl | rfl | rfl | rfl <;> rfl
theorem df_X9 : ∀ j, j < 11 → defaultValue (tyX9 j) = vp_V [.null, .null, .null, .null, .null, .null, .null, .null, .null, .null, xi 0] j := fun j hj => by
  rcases (show j = 0 ∨ j = 1 ∨ j = 2 ∨ j = 3 ∨ j = 4 ∨ j = 5 ∨ j = 6 ∨ j = 7 ∨ j = 8 ∨ j = 9 ∨ j = 10 by omega) with rfl | rfl | rfl | rfl | rfl | rfl | rfl | rfl | rfl | rfl | rfl <;> rfl
theorem df_X10 : ∀ j, j < 31 → defaultValue (tyX10 j) = vp_V [.null, .null, .null, xi 0, xi 0, .null, xi 0, xi 0, xi 0, xi 0, xi 0, xi 0, xi 0, .null, .null, .null, xi 0, .null, .null, .null, xi 0, xi 0, .null, .null, .null, .null, .null, .null, .null, xi 0, .null] j := fun j hj => by
  rcases (show j = 0 ∨ j = 1 ∨ j = 2 ∨ j = 3 ∨ j = 4 ∨ j = 5 ∨ j = 6 ∨ j = 7 ∨ j = 8 ∨ j = 9 ∨ j = 10 ∨ j = 11 ∨ j = 12 ∨ j = 13 ∨ j = 14 ∨ j = 15 ∨ j = 16 ∨ j = 17 ∨ j = 18 ∨ j = 19 ∨ j = 20 ∨ j = 21 ∨ j = 22 ∨ j = 23 ∨ j = 24 ∨ j = 25 ∨ j = 26 ∨ j = 27 ∨ j = 28 ∨ j = 29 ∨ j = 30 by omega) with rfl | rfl | rfl | rfl | rfl | rfl | rfl | rfl | rfl | rfl | rfl | rfl | rfl | rfl | rfl | rfl | rfl | rfl | rfl | rfl | rfl | rfl | rfl | rfl | rfl | rfl | rfl | rfl | rfl | rfl | rfl <;> rfl
set_option maxHeartbeats 1000000 in
theorem i_X8 (E : xE) {k : Nat} (hT : xTw k) {hp : Nat → va_E} (h0 : hp k = .inr (8, [.null, .null, .null, .null, .null, xi 0, xi 0, xi 0])) : xK E mX8_init 1 1 5 29 [xr E k] ((k + 1)) hp (Lq E k ((k + 6)) hp) := by
  have hh : xK E mX8_init ((lg_sl [xr E k]).length + 0) 1 5 29 [xr E k] ((k + 1)) hp (Lq E k ((k + 6)) hp) := by
    refine xK.of 0 (by decide +kernel) ?_
    show V0 E mX8_init 1 5 29 _ 0 [some (xr E k)] [] ((k + 1)) hp 0 0
    refine r_ald0 dX8_init_0 ?_
    refine r_objInit wM_X8_3 wO_obj wD_obj (Nat.le_of_ble_eq_true rfl) (by decide) dX8_init_1 ?_
    refine r_ald0 dX8_init_4 ?_
    refine r_iconst dX8_init_5 ?_
    refine r_newI (N := 5) wA_int (by decide) (by decide) (by decide) dX8_init_6 ?_
    refine r_putF (f := 0) xc_X8 wF_X8_9 (by decide) rfl rfl rfl rfl rfl (by omega) ((va_ne (by omega)).trans (h0)) (Nat.le_of_ble_eq_true rfl) dX8_init_8 ?_
    refine r_ald0 dX8_init_11 ?_
    refine r_bipush dX8_init_12 (by decide +kernel) ?_
    refine r_newI (N := 6) wA_int (by decide) (by decide) (by decide) dX8_init_14 ?_
    refine r_putF (f := 1) xc_X8 wF_X8_15 (by decide) rfl rfl rfl rfl rfl (by omega) ((va_ne (by omega)).trans (va_eq)) (Nat.le_of_ble_eq_true rfl) dX8_init_16 ?_
    refine r_ald0 dX8_init_19 ?_
    refine r_bipush dX8_init_20 (by decide +kernel) ?_
    refine r_newI (N := 6) wA_int (by decide) (by decide) (by decide) dX8_init_22 ?_
    refine r_putF (f := 2) xc_X8 wF_X8_18 (by decide) rfl rfl rfl rfl rfl (by omega) ((va_ne (by omega)).trans (va_eq)) (Nat.le_of_ble_eq_true rfl) dX8_init_24 ?_
    refine r_ald0 dX8_init_27 ?_
    refine r_bipush dX8_init_28 (by decide +kernel) ?_
    refine r_newI (N := 6) wA_int (by decide) (by decide) (by decide) dX8_init_30 ?_
    refine r_putF (f := 3) xc_X8 wF_X8_21 (by decide) rfl rfl rfl rfl rfl (by omega) ((va_ne (by omega)).trans (va_eq)) (Nat.le_of_ble_eq_true rfl) dX8_init_32 ?_
    refine r_ald0 dX8_init_35 ?_
    refine r_bipush dX8_init_36 (by decide +kernel) ?_
    refine r_newI (N := 6) wA_int (by decide) (by decide) (by decide) dX8_init_38 ?_
    refine r_putF (f := 4) xc_X8 wF_X8_24 (by decide) rfl rfl rfl rfl rfl (by omega) ((va_ne (by omega)).trans (va_eq)) (Nat.le_of_ble_eq_true rfl) dX8_init_40 ?_
    refine r_vret rfl dX8_init_43 (by decide) (by decide) ⟨rfl, rfl, fun a h1 h2 => ?_, fun a h1 => ?_⟩
    · rcases (show a = k ∨ a = (k + 1) ∨ a = (k + 2) ∨ a = (k + 3) ∨ a = (k + 4) ∨ a = (k + 5) by omega) with rfl | rfl | rfl | rfl | rfl | rfl
      · exact (va_eq).trans (xC_sh hT.1 rfl)
      · exact ((va_ne (by omega)).trans ((va_ne (by omega)).trans ((va_ne (by omega)).trans ((va_ne (by omega)).trans ((va_ne (by omega)).trans ((va_ne (by omega)).trans ((va_ne (by omega)).trans ((va_ne (by omega)).trans ((va_ne (by omega)).trans (va_eq)))))))))).trans (xC_sh hT.2.1 rfl)
      · exact ((va_ne (by omega)).trans ((va_ne (by omega)).trans ((va_ne (by omega)).trans ((va_ne (by omega)).trans ((va_ne (by omega)).trans ((va_ne (by omega)).trans ((va_ne (by omega)).trans (va_eq)))))))).trans (xC_sh hT.2.2.1 rfl)
      · exact ((va_ne (by omega)).trans ((va_ne (by omega)).trans ((va_ne (by omega)).trans ((va_ne (by omega)).trans ((va_ne (by omega)).trans (va_eq)))))).trans (xC_sh hT.2.2.2.1 rfl)
      · exact ((va_ne (by omega)).trans ((va_ne (by omega)).trans ((va_ne (by omega)).trans (va_eq)))).trans (xC_sh hT.2.2.2.2.1 rfl)
      · exact ((va_ne (by omega)).trans (va_eq)).trans (xC_sh hT.2.2.2.2.2 rfl)
    · exact (va_ne (by omega)).trans ((va_ne (by omega)).trans ((va_ne (by omega)).trans ((va_ne (by omega)).trans ((va_ne (by omega)).trans ((va_ne (by omega)).trans ((va_ne (by omega)).trans ((va_ne (by omega)).trans ((va_ne (by omega)).trans ((va_ne (by omega)).trans (rfl))))))))))
  exact hh
set_option maxHeartbeats 1000000 in
theorem i_X6 (E : xE) {k t : Nat} (hS : xSg k t) {hp : Nat → va_E} (h0 : hp k = .inr (6, [.null, .null, .null, .null, xi 0, xi 0, xi 0, xi 0, xi 0])) : xK E mX6_init 2 1 3 16 [xr E k, xr E t] ((k + 1)) hp (Lq E k ((k + 4)) hp) := by
  have hh : xK E mX6_init ((lg_sl [xr E k, xr E t]).length + 0) 1 3 16 [xr E k, xr E t] ((k + 1)) hp (Lq E k ((k + 4)) hp) := by
    refine xK.of 0 (by decide +kernel) ?_
    show V0 E mX6_init 1 3 16 _ 0 [some (xr E k), some (xr E t)] [] ((k + 1)) hp 0 0
    refine r_ald0 dX6_init_0 ?_
    refine r_objInit wM_X6_3 wO_obj wD_obj (Nat.le_of_ble_eq_true rfl) (by decide) dX6_init_1 ?_
    refine r_ald0 dX6_init_4 ?_
    refine r_iconst dX6_init_5 ?_
    refine r_newI (N := 5) wA_int (by decide) (by decide) (by decide) dX6_init_6 ?_
    refine r_putF (f := 1) xc_X6 wF_X6_9 (by decide) rfl rfl rfl rfl rfl (by omega) ((va_ne (by omega)).trans (h0)) (Nat.le_of_ble_eq_true rfl) dX6_init_8 ?_
    refine r_ald0 dX6_init_11 ?_
    refine r_iconst dX6_init_12 ?_
    refine r_newI (N := 5) wA_int (by decide) (by decide) (by decide) dX6_init_13 ?_
    refine r_putF (f := 2) xc_X6 wF_X6_15 (by decide) rfl rfl rfl rfl rfl (by omega) ((va_ne (by omega)).trans (va_eq)) (Nat.le_of_ble_eq_true rfl) dX6_init_15 ?_
    refine r_ald0 dX6_init_18 ?_
    refine r_bipush dX6_init_19 (by decide +kernel) ?_
    refine r_newI (N := 6) wA_int (by decide) (by decide) (by decide) dX6_init_21 ?_
    refine r_putF (f := 3) xc_X6 wF_X6_18 (by decide) rfl rfl rfl rfl rfl (by omega) ((va_ne (by omega)).trans (va_eq)) (Nat.le_of_ble_eq_true rfl) dX6_init_23 ?_
    refine r_ald0 dX6_init_26 ?_
    refine r_ald1 dX6_init_27 ?_
    refine r_putF (f := 0) xc_X6 wF_X6_21 (by decide) rfl rfl rfl rfl rfl (by omega) (va_eq) (Nat.le_of_ble_eq_true rfl) dX6_init_28 ?_
    refine r_vret rfl dX6_init_31 (by decide) (by decide) ⟨rfl, rfl, fun a h1 h2 => ?_, fun a h1 => ?_⟩
    · rcases (show a = k ∨ a = (k + 1) ∨ a = (k + 2) ∨ a = (k + 3) by omega) with rfl | rfl | rfl | rfl
      · exact (va_eq).trans (xC_sh hS.1 rfl)
      · exact ((va_ne (by omega)).trans ((va_ne (by omega)).trans ((va_ne (by omega)).trans ((va_ne (by omega)).trans ((va_ne (by omega)).trans ((va_ne (by omega)).trans (va_eq))))))).trans (xC_sh hS.2.1 rfl)
      · exact ((va_ne (by omega)).trans ((va_ne (by omega)).trans ((va_ne (by omega)).trans ((va_ne (by omega)).trans (va_eq))))).trans (xC_sh hS.2.2.1 rfl)
      · exact ((va_ne (by omega)).trans ((va_ne (by omega)).trans (va_eq))).trans (xC_sh hS.2.2.2 rfl)
    · exact (va_ne (by omega)).trans ((va_ne (by omega)).trans ((va_ne (by omega)).trans ((va_ne (by omega)).trans ((va_ne (by omega)).trans ((va_ne (by omega)).trans ((va_ne (by omega)).trans (rfl)))))))
  exact hh
set_option maxHeartbeats 1000000 in
theorem i_X5 (E : xE) {k : Nat} (hR : xRw k) {hp : Nat → va_E} (h0 : hp k = .inr (5, [.null, xi 0, xi 0, xi 0])) : xK E mX5_init 1 1 1 40 [xr E k] ((k + 1)) hp (Lq E k ((k + 2)) hp) := by
  have hh : xK E mX5_init ((lg_sl [xr E k]).length + 0) 1 1 40 [xr E k] ((k + 1)) hp (Lq E k ((k + 2)) hp) := by
    refine xK.of 0 (by decide +kernel) ?_
    show V0 E mX5_init 1 1 40 _ 0 [some (xr E k)] [] ((k + 1)) hp 0 0
    refine r_ald0 dX5_init_0 ?_
    refine r_objInit wM_X5_3 wO_obj wD_obj (Nat.le_of_ble_eq_true rfl) (by decide) dX5_init_1 ?_
    refine r_ald0 dX5_init_4 ?_
    refine r_bipush dX5_init_5 (by decide +kernel) ?_
    refine r_newI (N := 40) wA_int (by decide) (by decide) (by decide) dX5_init_7 ?_
    refine r_putF (f := 0) xc_X5 wF_X5_9 (by decide) rfl rfl rfl rfl rfl (by omega) ((va_ne (by omega)).trans (h0)) (Nat.le_of_ble_eq_true rfl) dX5_init_9 ?_
    refine r_vret rfl dX5_init_12 (by decide) (by decide) ⟨rfl, rfl, fun a h1 h2 => ?_, fun a h1 => ?_⟩
    · rcases (show a = k ∨ a = (k + 1) by omega) with rfl | rfl
      · exact (va_eq).trans (xC_sh hR.1 rfl)
      · exact ((va_ne (by omega)).trans (va_eq)).trans (xC_sh hR.2.1 rfl)
    · exact (va_ne (by omega)).trans ((va_ne (by omega)).trans (rfl))
  exact hh
set_option maxHeartbeats 1000000 in
theorem i_X7 (E : xE)  {hp : Nat → va_E} (h0 : hp 147 = .inr (7, [.null, xi 0])) : xK E mX7_init 1 1 1 61 [xr E 147] (148) hp (Lq E 147 (149) hp) := by
  have hh : xK E mX7_init ((lg_sl [xr E 147]).length + 0) 1 1 61 [xr E 147] (148) hp (Lq E 147 (149) hp) := by
    refine xK.of 0 (by decide +kernel) ?_
    show V0 E mX7_init 1 1 61 _ 0 [some (xr E 147)] [] (148) hp 0 0
    refine r_ald0 dX7_init_0 ?_
    refine r_objInit wM_X7_3 wO_obj wD_obj (Nat.le_of_ble_eq_true rfl) (by decide) dX7_init_1 ?_
    refine r_ald0 dX7_init_4 ?_
    refine r_bipush dX7_init_5 (by decide +kernel) ?_
    refine r_newI (N := 61) wA_int (by decide) (by decide) (by decide) dX7_init_7 ?_
    refine r_putF (f := 0) xc_X7 wF_X7_9 (by decide) rfl rfl rfl rfl rfl (by omega) ((va_ne (by omega)).trans (h0)) (Nat.le_of_ble_eq_true rfl) dX7_init_9 ?_
    refine r_vret rfl dX7_init_12 (by decide) (by decide) ⟨rfl, rfl, fun a h1 h2 => ?_, fun a h1 => ?_⟩
    · rcases (show a = 147 ∨ a = 148 by omega) with rfl | rfl
      · exact (va_eq).trans (xC_sh sh_147 rfl)
      · exact ((va_ne (by omega)).trans (va_eq)).trans (xC_sh sh_148 rfl)
    · exact (va_ne (by omega)).trans ((va_ne (by omega)).trans (rfl))
  exact hh
set_option maxHeartbeats 1000000 in
theorem i_X0 (E : xE)  {hp : Nat → va_E} (h0 : hp 161 = .inr (0, [.null, .null, .null, xi 0])) : xK E mX0_init 3 1 1 16 [xr E 161, xr E 3, xr E 9] (162) hp (Lq E 161 (163) hp) := by
  have hh : xK E mX0_init ((lg_sl [xr E 161, xr E 3, xr E 9]).length + 0) 1 1 16 [xr E 161, xr E 3, xr E 9] (162) hp (Lq E 161 (163) hp) := by
    refine xK.of 0 (by decide +kernel) ?_
    show V0 E mX0_init 1 1 16 _ 0 [some (xr E 161), some (xr E 3), some (xr E 9)] [] (162) hp 0 0
    refine r_ald0 dX0_init_0 ?_
    refine r_objInit wM_X0_3 wO_obj wD_obj (Nat.le_of_ble_eq_true rfl) (by decide) dX0_init_1 ?_
    refine r_ald0 dX0_init_4 ?_
    refine r_bipush dX0_init_5 (by decide +kernel) ?_
    refine r_newI (N := 16) wA_int (by decide) (by decide) (by decide) dX0_init_7 ?_
    refine r_putF (f := 2) xc_X0 wF_X0_9 (by decide) rfl rfl rfl rfl rfl (by omega) ((va_ne (by omega)).trans (h0)) (Nat.le_of_ble_eq_true rfl) dX0_init_9 ?_
    refine r_ald0 dX0_init_12 ?_
    refine r_ald1 dX0_init_13 ?_
    refine r_putF (f := 0) xc_X0 wF_X0_15 (by decide) rfl rfl rfl rfl rfl (by omega) (va_eq) (Nat.le_of_ble_eq_true rfl) dX0_init_14 ?_
    refine r_ald0 dX0_init_17 ?_
    refine r_ald2 dX0_init_18 ?_
    refine r_putF (f := 1) xc_X0 wF_X0_19 (by decide) rfl rfl rfl rfl rfl (by omega) (va_eq) (Nat.le_of_ble_eq_true rfl) dX0_init_19 ?_
    refine r_vret rfl dX0_init_22 (by decide) (by decide) ⟨rfl, rfl, fun a h1 h2 => ?_, fun a h1 => ?_⟩
    · rcases (show a = 161 ∨ a = 162 by omega) with rfl | rfl
      · exact (va_eq).trans (xC_sh sh_161 rfl)
      · exact ((va_ne (by omega)).trans ((va_ne (by omega)).trans ((va_ne (by omega)).trans (va_eq)))).trans (xC_sh sh_162 rfl)
    · exact (va_ne (by omega)).trans ((va_ne (by omega)).trans ((va_ne (by omega)).trans ((va_ne (by omega)).trans (rfl))))
  exact hh
set_option maxHeartbeats 1000000 in
theorem i_X1 (E : xE) {k : Nat} (hI : xIm k) {hp : Nat → va_E} (h0 : hp k = .inr (1, [.null, .null, xi 0])) : xK E mX1_init 1 2 10 62 [xr E k] ((k + 1)) hp (Lq E k ((k + 11)) hp) := by
  have hh : xK E mX1_init ((lg_sl [xr E k]).length + 0) 2 10 62 [xr E k] ((k + 1)) hp (Lq E k ((k + 11)) hp) := by
    refine xK.of 0 (by decide +kernel) ?_
    show V0 E mX1_init 2 10 62 _ 0 [some (xr E k)] [] ((k + 1)) hp 0 0
    refine r_ald0 dX1_init_0 ?_
    refine r_objInit wM_X1_1 wO_obj wD_obj (Nat.le_of_ble_eq_true rfl) (by decide) dX1_init_1 ?_
    refine r_ald0 dX1_init_4 ?_
    refine r_new [.null, .null, .null, .null, .null, xi 0, xi 0, xi 0] xc_X8 wK_X1_7 wN_X8 wI_X8 df_X8 (by decide) (by decide) dX1_init_5 ?_
    refine r_dup dX1_init_8 rfl ?_
    refine r_callN0 rfl (i_X8 E (k := k + 1) hI.2.1 (va_eq)) ci_X8_init (List.mem_of_getElem? (i := 6) rfl) rfl rfl (Nat.le_of_ble_eq_true rfl) (by decide) (by decide) (by decide) dX1_init_9 (fun v0 n0 hp0 hq0 => ?_)
    obtain ⟨rfl, rfl, hl0, ho0⟩ := hq0
    show V0 E mX1_init 2 10 62 _ 12 [some (xr E k)] [xr E (k + 1), xr E k] (k + 7) hp0 _ _
    refine r_putF (f := 0) xc_X1 wF_X1_10 (by decide) rfl rfl rfl rfl rfl (by omega) ((ho0 _ (by omega)).trans ((va_ne (by omega)).trans (h0))) (Nat.le_of_ble_eq_true rfl) dX1_init_12 ?_
    refine r_ald0 dX1_init_15 ?_
    refine r_new [.null, .null, .null, .null, xi 0, xi 0, xi 0, xi 0, xi 0] xc_X6 wK_X1_16 wN_X6 wI_X6 df_X6 (by decide) (by decide) dX1_init_16 ?_
    refine r_dup dX1_init_19 rfl ?_
    refine r_ald0 dX1_init_20 ?_
    refine r_get (f := 0) (v := xr E (k + 1)) xc_X1 wF_X1_10 (by decide) (by omega) ((va_ne (by omega)).trans (va_eq)) rfl dX1_init_21 ?_
    refine r_callI0 rfl (i_X6 E (k := k + 7) (t := k + 1) hI.2.2.1 (va_eq)) ci_X6_init wM_X1_18 rfl rfl (Nat.le_of_ble_eq_true rfl) (by decide) (by decide) (by decide) dX1_init_24 (fun v1 n1 hp1 hq1 => ?_)
    obtain ⟨rfl, rfl, hl1, ho1⟩ := hq1
    show V0 E mX1_init 2 10 62 _ 27 [some (xr E k)] [xr E (k + 7), xr E k] (k + 11) hp1 _ _
    refine r_putF (f := 1) xc_X1 wF_X1_21 (by decide) rfl rfl rfl rfl rfl (by omega) ((ho1 _ (by omega)).trans ((va_ne (by omega)).trans (va_eq))) (Nat.le_of_ble_eq_true rfl) dX1_init_27 ?_
    refine r_vret rfl dX1_init_30 (by decide) (by decide) ⟨rfl, rfl, fun a h1 h2 => ?_, fun a h1 => ?_⟩
    · rcases (show a = k ∨ ((k + 1) ≤ a ∧ a < (k + 7)) ∨ ((k + 7) ≤ a ∧ a < (k + 11)) by omega) with rfl | hz | hz
      · exact (va_eq).trans (xC_sh hI.1 rfl)
      · exact (va_ne (by omega)).trans ((ho1 _ (by omega)).trans ((va_ne (by omega)).trans ((va_ne (by omega)).trans (hl0 a (by omega) (by omega)))))
      · exact (va_ne (by omega)).trans (hl1 a (by omega) (by omega))
    · exact (va_ne (by omega)).trans ((ho1 _ (by omega)).trans ((va_ne (by omega)).trans ((va_ne (by omega)).trans ((ho0 _ (by omega)).trans ((va_ne (by omega)).trans (rfl))))))
  exact hh
set_option maxHeartbeats 1000000 in
theorem i_X4 (E : xE)  {hp : Nat → va_E} (h0 : hp 149 = .inr (4, [.null, .null, .null, xi 0, xi 0, xi 0, xi 0, xi 0, xi 0, xi 0, xi 0])) : xK E mX4_init 1 2 11 182 [xr E 149] (150) hp (Lq E 149 (161) hp) := by
  have hh : xK E mX4_init ((lg_sl [xr E 149]).length + 0) 2 11 182 [xr E 149] (150) hp (Lq E 149 (161) hp) := by
    refine xK.of 0 (by decide +kernel) ?_
    show V0 E mX4_init 2 11 182 _ 0 [some (xr E 149)] [] (150) hp 0 0
    refine r_ald0 dX4_init_0 ?_
    refine r_objInit wM_X4_3 wO_obj wD_obj (Nat.le_of_ble_eq_true rfl) (by decide) dX4_init_1 ?_
    refine r_ald0 dX4_init_4 ?_
    refine r_bipush dX4_init_5 (by decide +kernel) ?_
    refine r_newI (N := 120) wA_int (by decide) (by decide) (by decide) dX4_init_7 ?_
    refine r_putF (f := 0) xc_X4 wF_X4_9 (by decide) rfl rfl rfl rfl rfl (by omega) ((va_ne (by omega)).trans (h0)) (Nat.le_of_ble_eq_true rfl) dX4_init_9 ?_
    refine r_ald0 dX4_init_12 ?_
    refine r_new [.null, .null, .null, .null, .null, xi 0, xi 0, xi 0] xc_X8 wK_X4_15 wN_X8 wI_X8 df_X8 (by decide) (by decide) dX4_init_13 ?_
    refine r_dup dX4_init_16 rfl ?_
    refine r_callN0 rfl (i_X8 E (k := 151) xTw_151 (va_eq)) ci_X8_init (List.mem_of_getElem? (i := 3) rfl) rfl rfl (Nat.le_of_ble_eq_true rfl) (by decide) (by decide) (by decide) dX4_init_17 (fun v0 n0 hp0 hq0 => ?_)
    obtain ⟨rfl, rfl, hl0, ho0⟩ := hq0
    show V0 E mX4_init 2 11 182 _ 20 [some (xr E 149)] [xr E 151, xr E 149] 157 hp0 _ _
    refine r_putF (f := 1) xc_X4 wF_X4_18 (by decide) rfl rfl rfl rfl rfl (by omega) ((ho0 _ (by omega)).trans ((va_ne (by omega)).trans (va_eq))) (Nat.le_of_ble_eq_true rfl) dX4_init_20 ?_
    refine r_ald0 dX4_init_23 ?_
    refine r_new [.null, .null, .null, .null, xi 0, xi 0, xi 0, xi 0, xi 0] xc_X6 wK_X4_22 wN_X6 wI_X6 df_X6 (by decide) (by decide) dX4_init_24 ?_
    refine r_dup dX4_init_27 rfl ?_
    refine r_ald0 dX4_init_28 ?_
    refine r_get (f := 1) (v := xr E 151) xc_X4 wF_X4_18 (by decide) (by omega) ((va_ne (by omega)).trans (va_eq)) rfl dX4_init_29 ?_
    refine r_callI0 rfl (i_X6 E (k := 157) (t := 151) xSg_157 (va_eq)) ci_X6_init wM_X4_24 rfl rfl (Nat.le_of_ble_eq_true rfl) (by decide) (by decide) (by decide) dX4_init_32 (fun v1 n1 hp1 hq1 => ?_)
    obtain ⟨rfl, rfl, hl1, ho1⟩ := hq1
    show V0 E mX4_init 2 11 182 _ 35 [some (xr E 149)] [xr E 157, xr E 149] 161 hp1 _ _
    refine r_putF (f := 2) xc_X4 wF_X4_27 (by decide) rfl rfl rfl rfl rfl (by omega) ((ho1 _ (by omega)).trans ((va_ne (by omega)).trans (va_eq))) (Nat.le_of_ble_eq_true rfl) dX4_init_35 ?_
    refine r_vret rfl dX4_init_38 (by decide) (by decide) ⟨rfl, rfl, fun a h1 h2 => ?_, fun a h1 => ?_⟩
    · rcases (show a = 149 ∨ a = 150 ∨ (151 ≤ a ∧ a < 157) ∨ (157 ≤ a ∧ a < 161) by omega) with rfl | rfl | hz | hz
      · exact (va_eq).trans (xC_sh sh_149 rfl)
      · exact ((va_ne (by omega)).trans ((ho1 _ (by omega)).trans ((va_ne (by omega)).trans ((va_ne (by omega)).trans ((ho0 _ (by omega)).trans ((va_ne (by omega)).trans ((va_ne (by omega)).trans (va_eq)))))))).trans (xC_sh sh_150 rfl)
      · exact (va_ne (by omega)).trans ((ho1 _ (by omega)).trans ((va_ne (by omega)).trans ((va_ne (by omega)).trans (hl0 a (by omega) (by omega)))))
      · exact (va_ne (by omega)).trans (hl1 a (by omega) (by omega))
    · exact (va_ne (by omega)).trans ((ho1 _ (by omega)).trans ((va_ne (by omega)).trans ((va_ne (by omega)).trans ((ho0 _ (by omega)).trans ((va_ne (by omega)).trans ((va_ne (by omega)).trans ((va_ne (by omega)).trans (rfl))))))))
  exact hh
end INI
