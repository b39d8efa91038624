section INI3
def mI (i : Nat) : xMem := fun a j => if a = 202 ∧ j < i then -1 else 0
theorem mI_0 : mI 0 = mZ := by
  funext a j
  unfold mI mZ
  rw [if_neg (by omega)]
theorem mI_s (i : Nat) : mS (mI i) 202 i (-1) = mI (i + 1) := by
  funext a j
  unfold mS mI
  by_cases h : a = 202
  · by_cases h1 : j = i
    · rw [if_pos ⟨h, h1⟩, if_pos ⟨h, by omega⟩]
    · rw [if_neg (fun q => h1 q.2)]
      by_cases h2 : j < i
      · rw [if_pos ⟨h, h2⟩, if_pos ⟨h, by omega⟩]
      · rw [if_neg (fun q => h2 q.2), if_neg (fun q => by omega)]
  · rw [if_neg (fun q => h q.1), if_neg (fun q => h q.1), if_neg (fun q => h q.1)]
theorem InR_mI (i : Nat) : InR (mI i) := by
  intro a j
  unfold mI
  split <;> decide
def L1q (E : xE) : Option Value → Nat → (Nat → va_E) → Prop := fun v n hp' => v = none ∧ n = 220 ∧ ∀ a, a < 220 → hp' a = xC E (mI 8) a
set_option maxHeartbeats 2000000 in
theorem i_X10 (E : xE) {hp : Nat → va_E} (h0 : hp 201 = .inr (10, [.null, .null, .null, xi 0, xi 0, .null, xi 0, xi 0, xi 0, xi 0, xi 0, xi 0, xi 0, .null, .null, .null, xi 0, .null, .null, .null, xi 0, xi 0, .null, .null, .null, .null, .null, .null, .null, xi 0, .null])) (hb : ∀ a, a < 201 → hp a = xC E mZ a) : xK E mX10_init 2 1 18 1324 [xr E 201] 202 hp (L1q E) := by
  have hh : xK E mX10_init ((lg_sl [xr E 201]).length + 1) 1 18 1324 [xr E 201] 202 hp (L1q E) := by
    refine xK.of 1 (by decide +kernel) ?_
    show V0 E mX10_init 1 18 1324 _ 0 [some (xr E 201), none] [] 202 hp 0 0
    have L149 : ∀ (fu i : Nat), i ≤ 8 → 8 - i < fu → V0 E mX10_init 1 18 1324 (L1q E) 149 [some (xr E 201), some (xi (i : Int))] [] 220 (xC E (mI i)) 18 1324 := by
      intro fu
      induction fu with
      | zero => intro i _ h; exact absurd h (Nat.not_lt_zero _)
      | succ fu ih =>
        intro i hi hme
        refine r_ild1 dX10_init_149 ?_
        refine r_bipush dX10_init_150 (by decide +kernel) ?_
        refine r_icmp_ge 168 dX10_init_152 (by decide) (by omega) (by omega) (fun cc => ?_) (fun cc => ?_)
        · have hi2 : i = 8 := by omega
          subst hi2
          exact r_vret rfl dX10_init_168 (by decide) (by decide) ⟨rfl, rfl, fun a h1 => rfl⟩
        refine r_ald0 dX10_init_155 ?_
        refine r_get (f := 0) (v := xr E 202) xc_X10 wF_X10_7 (by decide) (by omega) (xC_in sh_201) rfl dX10_init_156 ?_
        refine r_ild1 dX10_init_159 ?_
        refine r_iconst dX10_init_160 ?_
        refine r_iast (k := 202) (N := 8) (by omega) ((xC_sh sh_202 rfl).symm) (by omega) (by omega) (by omega) dX10_init_161 ?_
        have e2 : va_up (xC E (mI i)) 202 (.inl (E.2.2.2 0, 8, .inl (upd (fun j => xI (mI i 202 j)) (i : Int).toNat (xI (-1))))) = xC E (mI (i + 1)) := by
          rw [show ((i : Int)).toNat = i by omega, xC_ast sh_202, mI_s]
        rw [e2]
        refine r_iinc1 dX10_init_162 rfl ?_
        refine r_goto 149 dX10_init_165 (by decide) ?_
        rw [show ((i : Int) + 1) = ((i + 1 : Nat) : Int) by omega]
        exact ih (i + 1) (by omega) (by omega)
    refine r_ald0 dX10_init_0 ?_
    refine r_objInit wM_X10_1 wO_obj wD_obj (Nat.le_of_ble_eq_true rfl) (by decide) dX10_init_1 ?_
    refine r_ald0 dX10_init_4 ?_
    refine r_bipush dX10_init_5 (by decide +kernel) ?_
    refine r_newI (N := 8) wA_int (by decide) (by decide) (by decide) dX10_init_7 ?_
    refine r_putF (f := 0) xc_X10 wF_X10_7 (by decide) rfl rfl rfl rfl rfl (by omega) ((va_ne (by omega)).trans (h0)) (Nat.le_of_ble_eq_true rfl) dX10_init_9 ?_
    refine r_ald0 dX10_init_12 ?_
    refine r_bipush dX10_init_13 (by decide +kernel) ?_
    refine r_newI (N := 8) wA_int (by decide) (by decide) (by decide) dX10_init_15 ?_
    refine r_putF (f := 1) xc_X10 wF_X10_13 (by decide) rfl rfl rfl rfl rfl (by omega) ((va_ne (by omega)).trans (va_eq)) (Nat.le_of_ble_eq_true rfl) dX10_init_17 ?_
    refine r_ald0 dX10_init_20 ?_
    refine r_sipush dX10_init_21 (by decide +kernel) ?_
    refine r_newI (N := 320) wA_int (by decide) (by decide) (by decide) dX10_init_24 ?_
    refine r_putF (f := 2) xc_X10 wF_X10_16 (by decide) rfl rfl rfl rfl rfl (by omega) ((va_ne (by omega)).trans (va_eq)) (Nat.le_of_ble_eq_true rfl) dX10_init_26 ?_
    refine r_ald0 dX10_init_29 ?_
    refine r_bipush dX10_init_30 (by decide +kernel) ?_
    refine r_newI (N := 120) wA_int (by decide) (by decide) (by decide) dX10_init_32 ?_
    refine r_putF (f := 5) xc_X10 wF_X10_19 (by decide) rfl rfl rfl rfl rfl (by omega) ((va_ne (by omega)).trans (va_eq)) (Nat.le_of_ble_eq_true rfl) dX10_init_34 ?_
    refine r_ald0 dX10_init_37 ?_
    refine r_bipush dX10_init_38 (by decide +kernel) ?_
    refine r_newI (N := 32) wA_int (by decide) (by decide) (by decide) dX10_init_40 ?_
    refine r_putF (f := 13) xc_X10 wF_X10_22 (by decide) rfl rfl rfl rfl rfl (by omega) ((va_ne (by omega)).trans (va_eq)) (Nat.le_of_ble_eq_true rfl) dX10_init_42 ?_
    refine r_ald0 dX10_init_45 ?_
    refine r_iconst dX10_init_46 ?_
    refine r_newI (N := 5) wA_int (by decide) (by decide) (by decide) dX10_init_47 ?_
    refine r_putF (f := 14) xc_X10 wF_X10_25 (by decide) rfl rfl rfl rfl rfl (by omega) ((va_ne (by omega)).trans (va_eq)) (Nat.le_of_ble_eq_true rfl) dX10_init_49 ?_
    refine r_ald0 dX10_init_52 ?_
    refine r_iconst dX10_init_53 ?_
    refine r_newI (N := 1) wA_int (by decide) (by decide) (by decide) dX10_init_54 ?_
    refine r_putF (f := 15) xc_X10 wF_X10_28 (by decide) rfl rfl rfl rfl rfl (by omega) ((va_ne (by omega)).trans (va_eq)) (Nat.le_of_ble_eq_true rfl) dX10_init_56 ?_
    refine r_ald0 dX10_init_59 ?_
    refine r_bipush dX10_init_60 (by decide +kernel) ?_
    refine r_newI (N := 32) wA_int (by decide) (by decide) (by decide) dX10_init_62 ?_
    refine r_putF (f := 17) xc_X10 wF_X10_31 (by decide) rfl rfl rfl rfl rfl (by omega) ((va_ne (by omega)).trans (va_eq)) (Nat.le_of_ble_eq_true rfl) dX10_init_64 ?_
    refine r_ald0 dX10_init_67 ?_
    refine r_bipush dX10_init_68 (by decide +kernel) ?_
    refine r_newI (N := 21) wA_int (by decide) (by decide) (by decide) dX10_init_70 ?_
    refine r_putF (f := 18) xc_X10 wF_X10_34 (by decide) rfl rfl rfl rfl rfl (by omega) ((va_ne (by omega)).trans (va_eq)) (Nat.le_of_ble_eq_true rfl) dX10_init_72 ?_
    refine r_ald0 dX10_init_75 ?_
    refine r_bipush dX10_init_76 (by decide +kernel) ?_
    refine r_newI (N := 21) wA_int (by decide) (by decide) (by decide) dX10_init_78 ?_
    refine r_putF (f := 19) xc_X10 wF_X10_37 (by decide) rfl rfl rfl rfl rfl (by omega) ((va_ne (by omega)).trans (va_eq)) (Nat.le_of_ble_eq_true rfl) dX10_init_80 ?_
    refine r_ald0 dX10_init_83 ?_
    refine r_sipush dX10_init_84 (by decide +kernel) ?_
    refine r_newI (N := 504) wA_int (by decide) (by decide) (by decide) dX10_init_87 ?_
    refine r_putF (f := 22) xc_X10 wF_X10_40 (by decide) rfl rfl rfl rfl rfl (by omega) ((va_ne (by omega)).trans (va_eq)) (Nat.le_of_ble_eq_true rfl) dX10_init_89 ?_
    refine r_ald0 dX10_init_92 ?_
    refine r_bipush dX10_init_93 (by decide +kernel) ?_
    refine r_newI (N := 6) wA_int (by decide) (by decide) (by decide) dX10_init_95 ?_
    refine r_putF (f := 23) xc_X10 wF_X10_43 (by decide) rfl rfl rfl rfl rfl (by omega) ((va_ne (by omega)).trans (va_eq)) (Nat.le_of_ble_eq_true rfl) dX10_init_97 ?_
    refine r_ald0 dX10_init_100 ?_
    refine r_bipush dX10_init_101 (by decide +kernel) ?_
    refine r_newI (N := 61) wA_int (by decide) (by decide) (by decide) dX10_init_103 ?_
    refine r_putF (f := 24) xc_X10 wF_X10_46 (by decide) rfl rfl rfl rfl rfl (by omega) ((va_ne (by omega)).trans (va_eq)) (Nat.le_of_ble_eq_true rfl) dX10_init_105 ?_
    refine r_ald0 dX10_init_108 ?_
    refine r_bipush dX10_init_109 (by decide +kernel) ?_
    refine r_newI (N := 61) wA_int (by decide) (by decide) (by decide) dX10_init_111 ?_
    refine r_putF (f := 25) xc_X10 wF_X10_49 (by decide) rfl rfl rfl rfl rfl (by omega) ((va_ne (by omega)).trans (va_eq)) (Nat.le_of_ble_eq_true rfl) dX10_init_113 ?_
    refine r_ald0 dX10_init_116 ?_
    refine r_iconst dX10_init_117 ?_
    refine r_newZ (N := 2) wA_boolean (by decide) (by decide) (by decide) dX10_init_118 ?_
    refine r_putF (f := 26) xc_X10 wF_X10_52 (by decide) rfl rfl rfl rfl rfl (by omega) ((va_ne (by omega)).trans (va_eq)) (Nat.le_of_ble_eq_true rfl) dX10_init_120 ?_
    refine r_ald0 dX10_init_123 ?_
    refine r_bipush dX10_init_124 (by decide +kernel) ?_
    refine r_newI (N := 64) wA_int (by decide) (by decide) (by decide) dX10_init_126 ?_
    refine r_putF (f := 27) xc_X10 wF_X10_56 (by decide) rfl rfl rfl rfl rfl (by omega) ((va_ne (by omega)).trans (va_eq)) (Nat.le_of_ble_eq_true rfl) dX10_init_128 ?_
    refine r_ald0 dX10_init_131 ?_
    refine r_bipush dX10_init_132 (by decide +kernel) ?_
    refine r_newI (N := 42) wA_int (by decide) (by decide) (by decide) dX10_init_134 ?_
    refine r_putF (f := 28) xc_X10 wF_X10_59 (by decide) rfl rfl rfl rfl rfl (by omega) ((va_ne (by omega)).trans (va_eq)) (Nat.le_of_ble_eq_true rfl) dX10_init_136 ?_
    refine r_ald0 dX10_init_139 ?_
    refine r_bipush dX10_init_140 (by decide +kernel) ?_
    refine r_newI (N := 16) wA_int (by decide) (by decide) (by decide) dX10_init_142 ?_
    refine r_putF (f := 30) xc_X10 wF_X10_62 (by decide) rfl rfl rfl rfl rfl (by omega) ((va_ne (by omega)).trans (va_eq)) (Nat.le_of_ble_eq_true rfl) dX10_init_144 ?_
    refine r_iconst dX10_init_147 ?_
    refine r_ist1 dX10_init_148 rfl ?_
    refine V0_nn (n' := 220) (ce' := 18) (sl' := 1324) (by omega) (by omega) (by omega) ?_
    refine V0_cg (hp' := xC E (mI 0)) (fun a h1 => ?_) (L149 9 0 (by omega) (by omega))
    rw [mI_0]
    rcases (show a < 201 ∨ a = 201 ∨ a = 202 ∨ a = 203 ∨ a = 204 ∨ a = 205 ∨ a = 206 ∨ a = 207 ∨ a = 208 ∨ a = 209 ∨ a = 210 ∨ a = 211 ∨ a = 212 ∨ a = 213 ∨ a = 214 ∨ a = 215 ∨ a = 216 ∨ a = 217 ∨ a = 218 ∨ a = 219 by omega) with hz | rfl | rfl | rfl | rfl | rfl | rfl | rfl | rfl | rfl | rfl | rfl | rfl | rfl | rfl | rfl | rfl | rfl | rfl | rfl
    · exact ((va_ne (by omega)).trans ((va_ne (by omega)).trans ((va_ne (by omega)).trans ((va_ne (by omega)).trans ((va_ne (by omega)).trans ((va_ne (by omega)).trans ((va_ne (by omega)).trans ((va_ne (by omega)).trans ((va_ne (by omega)).trans ((va_ne (by omega)).trans ((va_ne (by omega)).trans ((va_ne (by omega)).trans ((va_ne (by omega)).trans ((va_ne (by omega)).trans ((va_ne (by omega)).trans ((va_ne (by omega)).trans ((va_ne (by omega)).trans ((va_ne (by omega)).trans ((va_ne (by omega)).trans ((va_ne (by omega)).trans ((va_ne (by omega)).trans ((va_ne (by omega)).trans ((va_ne (by omega)).trans ((va_ne (by omega)).trans ((va_ne (by omega)).trans ((va_ne (by omega)).trans ((va_ne (by omega)).trans ((va_ne (by omega)).trans ((va_ne (by omega)).trans ((va_ne (by omega)).trans ((va_ne (by omega)).trans ((va_ne (by omega)).trans ((va_ne (by omega)).trans ((va_ne (by omega)).trans ((va_ne (by omega)).trans ((va_ne (by omega)).trans (hb a hz))))))))))))))))))))))))))))))))))))).symm
    · exact ((va_eq).trans (xC_sh sh_201 rfl)).symm
    · exact (((va_ne (by omega)).trans ((va_ne (by omega)).trans ((va_ne (by omega)).trans ((va_ne (by omega)).trans ((va_ne (by omega)).trans ((va_ne (by omega)).trans ((va_ne (by omega)).trans ((va_ne (by omega)).trans ((va_ne (by omega)).trans ((va_ne (by omega)).trans ((va_ne (by omega)).trans ((va_ne (by omega)).trans ((va_ne (by omega)).trans ((va_ne (by omega)).trans ((va_ne (by omega)).trans ((va_ne (by omega)).trans ((va_ne (by omega)).trans ((va_ne (by omega)).trans ((va_ne (by omega)).trans ((va_ne (by omega)).trans ((va_ne (by omega)).trans ((va_ne (by omega)).trans ((va_ne (by omega)).trans ((va_ne (by omega)).trans ((va_ne (by omega)).trans ((va_ne (by omega)).trans ((va_ne (by omega)).trans ((va_ne (by omega)).trans ((va_ne (by omega)).trans ((va_ne (by omega)).trans ((va_ne (by omega)).trans ((va_ne (by omega)).trans ((va_ne (by omega)).trans ((va_ne (by omega)).trans ((va_ne (by omega)).trans (va_eq)))))))))))))))))))))))))))))))))))).trans (xC_sh sh_202 rfl)).symm
    · exact (((va_ne (by omega)).trans ((va_ne (by omega)).trans ((va_ne (by omega)).trans ((va_ne (by omega)).trans ((va_ne (by omega)).trans ((va_ne (by omega)).trans ((va_ne (by omega)).trans ((va_ne (by omega)).trans ((va_ne (by omega)).trans ((va_ne (by omega)).trans ((va_ne (by omega)).trans ((va_ne (by omega)).trans ((va_ne (by omega)).trans ((va_ne (by omega)).trans ((va_ne (by omega)).trans ((va_ne (by omega)).trans ((va_ne (by omega)).trans ((va_ne (by omega)).trans ((va_ne (by omega)).trans ((va_ne (by omega)).trans ((va_ne (by omega)).trans ((va_ne (by omega)).trans ((va_ne (by omega)).trans ((va_ne (by omega)).trans ((va_ne (by omega)).trans ((va_ne (by omega)).trans ((va_ne (by omega)).trans ((va_ne (by omega)).trans ((va_ne (by omega)).trans ((va_ne (by omega)).trans ((va_ne (by omega)).trans ((va_ne (by omega)).trans ((va_ne (by omega)).trans (va_eq)))))))))))))))))))))))))))))))))).trans (xC_sh sh_203 rfl)).symm
    · exact (((va_ne (by omega)).trans ((va_ne (by omega)).trans ((va_ne (by omega)).trans ((va_ne (by omega)).trans ((va_ne (by omega)).trans ((va_ne (by omega)).trans ((va_ne (by omega)).trans ((va_ne (by omega)).trans ((va_ne (by omega)).trans ((va_ne (by omega)).trans ((va_ne (by omega)).trans ((va_ne (by omega)).trans ((va_ne (by omega)).trans ((va_ne (by omega)).trans ((va_ne (by omega)).trans ((va_ne (by omega)).trans ((va_ne (by omega)).trans ((va_ne (by omega)).trans ((va_ne (by omega)).trans ((va_ne (by omega)).trans ((va_ne (by omega)).trans ((va_ne (by omega)).trans ((va_ne (by omega)).trans ((va_ne (by omega)).trans ((va_ne (by omega)).trans ((va_ne (by omega)).trans ((va_ne (by omega)).trans ((va_ne (by omega)).trans ((va_ne (by omega)).trans ((va_ne (by omega)).trans ((va_ne (by omega)).trans (va_eq)))))))))))))))))))))))))))))))).trans (xC_sh sh_204 rfl)).symm
    · exact (((va_ne (by omega)).trans ((va_ne (by omega)).trans ((va_ne (by omega)).trans ((va_ne (by omega)).trans ((va_ne (by omega)).trans ((va_ne (by omega)).trans ((va_ne (by omega)).trans ((va_ne (by omega)).trans ((va_ne (by omega)).trans ((va_ne (by omega)).trans ((va_ne (by omega)).trans ((va_ne (by omega)).trans ((va_ne (by omega)).trans ((va_ne (by omega)).trans ((va_ne (by omega)).trans ((va_ne (by omega)).trans ((va_ne (by omega)).trans ((va_ne (by omega)).trans ((va_ne (by omega)).trans ((va_ne (by omega)).trans ((va_ne (by omega)).trans ((va_ne (by omega)).trans ((va_ne (by omega)).trans ((va_ne (by omega)).trans ((va_ne (by omega)).trans ((va_ne (by omega)).trans ((va_ne (by omega)).trans ((va_ne (by omega)).trans ((va_ne (by omega)).trans (va_eq)))))))))))))))))))))))))))))).trans (xC_sh sh_205 rfl)).symm
    · exact (((va_ne (by omega)).trans ((va_ne (by omega)).trans ((va_ne (by omega)).trans ((va_ne (by omega)).trans ((va_ne (by omega)).trans ((va_ne (by omega)).trans ((va_ne (by omega)).trans ((va_ne (by omega)).trans ((va_ne (by omega)).trans ((va_ne (by omega)).trans ((va_ne (by omega)).trans ((va_ne (by omega)).trans ((va_ne (by omega)).trans ((va_ne (by omega)).trans ((va_ne (by omega)).trans ((va_ne (by omega)).trans ((va_ne (by omega)).trans ((va_ne (by omega)).trans ((va_ne (by omega)).trans ((va_ne (by omega)).trans ((va_ne (by omega)).trans ((va_ne (by omega)).trans ((va_ne (by omega)).trans ((va_ne (by omega)).trans ((va_ne (by omega)).trans ((va_ne (by omega)).trans ((va_ne (by omega)).trans (va_eq)))))))))))))))))))))))))))).trans (xC_sh sh_206 rfl)).symm
    · exact (((va_ne (by omega)).trans ((va_ne (by omega)).trans ((va_ne (by omega)).trans ((va_ne (by omega)).trans ((va_ne (by omega)).trans ((va_ne (by omega)).trans ((va_ne (by omega)).trans ((va_ne (by omega)).trans ((va_ne (by omega)).trans ((va_ne (by omega)).trans ((va_ne (by omega)).trans ((va_ne (by omega)).trans ((va_ne (by omega)).trans ((va_ne (by omega)).trans ((va_ne (by omega)).trans ((va_ne (by omega)).trans ((va_ne (by omega)).trans ((va_ne (by omega)).trans ((va_ne (by omega)).trans ((va_ne (by omega)).trans ((va_ne (by omega)).trans ((va_ne (by omega)).trans ((va_ne (by omega)).trans ((va_ne (by omega)).trans ((va_ne (by omega)).trans (va_eq)))))))))))))))))))))))))).trans (xC_sh sh_207 rfl)).symm
    · exact (((va_ne (by omega)).trans ((va_ne (by omega)).trans ((va_ne (by omega)).trans ((va_ne (by omega)).trans ((va_ne (by omega)).trans ((va_ne (by omega)).trans ((va_ne (by omega)).trans ((va_ne (by omega)).trans ((va_ne (by omega)).trans ((va_ne (by omega)).trans ((va_ne (by omega)).trans ((va_ne (by omega)).trans ((va_ne (by omega)).trans ((va_ne (by omega)).trans ((va_ne (by omega)).trans ((va_ne (by omega)).trans ((va_ne (by omega)).trans ((va_ne (by omega)).trans ((va_ne (by omega)).trans ((va_ne (by omega)).trans ((va_ne (by omega)).trans ((va_ne (by omega)).trans ((va_ne (by omega)).trans (va_eq)))))))))))))))))))))))).trans (xC_sh sh_208 rfl)).symm
    · exact (((va_ne (by omega)).trans ((va_ne (by omega)).trans ((va_ne (by omega)).trans ((va_ne (by omega)).trans ((va_ne (by omega)).trans ((va_ne (by omega)).trans ((va_ne (by omega)).trans ((va_ne (by omega)).trans ((va_ne (by omega)).trans ((va_ne (by omega)).trans ((va_ne (by omega)).trans ((va_ne (by omega)).trans ((va_ne (by omega)).trans ((va_ne (by omega)).trans ((va_ne (by omega)).trans ((va_ne (by omega)).trans ((va_ne (by omega)).trans ((va_ne (by omega)).trans ((va_ne (by omega)).trans ((va_ne (by omega)).trans ((va_ne (by omega)).trans (va_eq)))))))))))))))))))))).trans (xC_sh sh_209 rfl)).symm
    · exact (((va_ne (by omega)).trans ((va_ne (by omega)).trans ((va_ne (by omega)).trans ((va_ne (by omega)).trans ((va_ne (by omega)).trans ((va_ne (by omega)).trans ((va_ne (by omega)).trans ((va_ne (by omega)).trans ((va_ne (by omega)).trans ((va_ne (by omega)).trans ((va_ne (by omega)).trans ((va_ne (by omega)).trans ((va_ne (by omega)).trans ((va_ne (by omega)).trans ((va_ne (by omega)).trans ((va_ne (by omega)).trans ((va_ne (by omega)).trans ((va_ne (by omega)).trans ((va_ne (by omega)).trans (va_eq)))))))))))))))))))).trans (xC_sh sh_210 rfl)).symm
    · exact (((va_ne (by omega)).trans ((va_ne (by omega)).trans ((va_ne (by omega)).trans ((va_ne (by omega)).trans ((va_ne (by omega)).trans ((va_ne (by omega)).trans ((va_ne (by omega)).trans ((va_ne (by omega)).trans ((va_ne (by omega)).trans ((va_ne (by omega)).trans ((va_ne (by omega)).trans ((va_ne (by omega)).trans ((va_ne (by omega)).trans ((va_ne (by omega)).trans ((va_ne (by omega)).trans ((va_ne (by omega)).trans ((va_ne (by omega)).trans (va_eq)))))))))))))))))).trans (xC_sh sh_211 rfl)).symm
    · exact (((va_ne (by omega)).trans ((va_ne (by omega)).trans ((va_ne (by omega)).trans ((va_ne (by omega)).trans ((va_ne (by omega)).trans ((va_ne (by omega)).trans ((va_ne (by omega)).trans ((va_ne (by omega)).trans ((va_ne (by omega)).trans ((va_ne (by omega)).trans ((va_ne (by omega)).trans ((va_ne (by omega)).trans ((va_ne (by omega)).trans ((va_ne (by omega)).trans ((va_ne (by omega)).trans (va_eq)))))))))))))))).trans (xC_sh sh_212 rfl)).symm
    · exact (((va_ne (by omega)).trans ((va_ne (by omega)).trans ((va_ne (by omega)).trans ((va_ne (by omega)).trans ((va_ne (by omega)).trans ((va_ne (by omega)).trans ((va_ne (by omega)).trans ((va_ne (by omega)).trans ((va_ne (by omega)).trans ((va_ne (by omega)).trans ((va_ne (by omega)).trans ((va_ne (by omega)).trans ((va_ne (by omega)).trans (va_eq)))))))))))))).trans (xC_sh sh_213 rfl)).symm
    · exact (((va_ne (by omega)).trans ((va_ne (by omega)).trans ((va_ne (by omega)).trans ((va_ne (by omega)).trans ((va_ne (by omega)).trans ((va_ne (by omega)).trans ((va_ne (by omega)).trans ((va_ne (by omega)).trans ((va_ne (by omega)).trans ((va_ne (by omega)).trans ((va_ne (by omega)).trans (va_eq)))))))))))).trans (xC_sh sh_214 rfl)).symm
    · exact (((va_ne (by omega)).trans ((va_ne (by omega)).trans ((va_ne (by omega)).trans ((va_ne (by omega)).trans ((va_ne (by omega)).trans ((va_ne (by omega)).trans ((va_ne (by omega)).trans ((va_ne (by omega)).trans ((va_ne (by omega)).trans (va_eq)))))))))).trans (xC_sh sh_215 rfl)).symm
    · exact (((va_ne (by omega)).trans ((va_ne (by omega)).trans ((va_ne (by omega)).trans ((va_ne (by omega)).trans ((va_ne (by omega)).trans ((va_ne (by omega)).trans ((va_ne (by omega)).trans (va_eq)))))))).trans (xC_sh sh_216 rfl)).symm
    · exact (((va_ne (by omega)).trans ((va_ne (by omega)).trans ((va_ne (by omega)).trans ((va_ne (by omega)).trans ((va_ne (by omega)).trans (va_eq)))))).trans (xC_sh sh_217 rfl)).symm
    · exact (((va_ne (by omega)).trans ((va_ne (by omega)).trans ((va_ne (by omega)).trans (va_eq)))).trans (xC_sh sh_218 rfl)).symm
    · exact (((va_ne (by omega)).trans (va_eq)).trans (xC_sh sh_219 rfl)).symm
  exact hh
end INI3
