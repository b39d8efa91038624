section XR14
variable {E : xE} {y : xM} {d mc ms : Nat} {Q : Option Value → Nat → (Nat → va_E) → Prop} {pc : Nat} {ls : List (Option Value)} {st : List Value} {n : Nat} {hp : Nat → va_E} {ce sl : Nat}
theorem r_ild14 {a0 a1 a2 a3 a4 a5 a6 a7 a8 a9 a10 a11 a12 a13 : Option Value} {x : Int32} (hd : decode y.2.1 pc = .ok (.iload 14, 2)) (k : V0 E y d mc ms Q (pc + 2) (a0 :: a1 :: a2 :: a3 :: a4 :: a5 :: a6 :: a7 :: a8 :: a9 :: a10 :: a11 :: a12 :: a13 :: some (.int x) :: ls) (.int x :: st) n hp ce sl) : V0 E y d mc ms Q pc (a0 :: a1 :: a2 :: a3 :: a4 :: a5 :: a6 :: a7 :: a8 :: a9 :: a10 :: a11 :: a12 :: a13 :: some (.int x) :: ls) st n hp ce sl :=
  V0_st rfl (fun p e s m args below meth c H locs la Z ok hL kk => lv_iload ok.1 ok.2.1 hd (hL.at (k := 14) rfl) (kk la hL)) k
theorem r_ist14 {a0 a1 a2 a3 a4 a5 a6 a7 a8 a9 a10 a11 a12 a13 : Option Value} {b : Option Value} {x : Int32} (hd : decode y.2.1 pc = .ok (.istore 14, 2)) (hc : xc1 a13 = true) (k : V0 E y d mc ms Q (pc + 2) (a0 :: a1 :: a2 :: a3 :: a4 :: a5 :: a6 :: a7 :: a8 :: a9 :: a10 :: a11 :: a12 :: a13 :: some (.int x) :: ls) st n hp ce sl) : V0 E y d mc ms Q pc (a0 :: a1 :: a2 :: a3 :: a4 :: a5 :: a6 :: a7 :: a8 :: a9 :: a10 :: a11 :: a12 :: a13 :: b :: ls) (.int x :: st) n hp ce sl :=
  V0_st (ls' := (a0 :: a1 :: a2 :: a3 :: a4 :: a5 :: a6 :: a7 :: a8 :: a9 :: a10 :: a11 :: a12 :: a13 :: some (.int x) :: ls)) rfl (fun p e s m args below meth c H locs la Z ok hL kk => lv_istore ok.1 ok.2.1 hd hL (by simp only [List.length_cons]; omega) rfl (fun la2 h2 => kk la2 (hL.set1 (i := 14) (by simp only [List.length_cons]; omega) (fun w _ hw => by cases hw; exact hc) h2))) k
theorem r_iinc14 {a0 a1 a2 a3 a4 a5 a6 a7 a8 a9 a10 a11 a12 a13 : Option Value} {a z : Int} (hd : decode y.2.1 pc = .ok (.iinc 14 z, 3)) (hc : xc1 a13 = true) (k : V0 E y d mc ms Q (pc + 3) (a0 :: a1 :: a2 :: a3 :: a4 :: a5 :: a6 :: a7 :: a8 :: a9 :: a10 :: a11 :: a12 :: a13 :: some (xi (a + z)) :: ls) st n hp ce sl) : V0 E y d mc ms Q pc (a0 :: a1 :: a2 :: a3 :: a4 :: a5 :: a6 :: a7 :: a8 :: a9 :: a10 :: a11 :: a12 :: a13 :: some (xi a) :: ls) st n hp ce sl :=
  V0_st (ls' := (a0 :: a1 :: a2 :: a3 :: a4 :: a5 :: a6 :: a7 :: a8 :: a9 :: a10 :: a11 :: a12 :: a13 :: some (xi (a + z)) :: ls)) rfl (fun p e s m args below meth c H locs la Z ok hL kk => by
    obtain ⟨j, hj⟩ := List.getElem?_of_mem ((xlv_mem (a0 :: a1 :: a2 :: a3 :: a4 :: a5 :: a6 :: a7 :: a8 :: a9 :: a10 :: a11 :: a12 :: a13 :: some (xi a) :: ls) 0 (14, xi a)).mpr ⟨14, rfl, rfl⟩)
    exact lv_iinc ok.1 ok.2.1 hd hL (k := j) hj (xI_add a z) (by simp only [List.length_cons]; omega) rfl (fun la2 h2 => kk la2 (hL.set1 (i := 14) (by simp only [List.length_cons]; omega) (fun w _ hw => by cases hw; exact hc) h2))) k
end XR14
theorem r_fgt14 {E : xE} {y : xM} {d pc : Nat} {ls : List (Option Value)} {b0 b1 b2 b3 b4 b5 b6 b7 b8 b9 b10 b11 b12 b13 : Option Value} {b : Option Value} {mc ms n ce sl : Nat} {Q : Option Value → Nat → (Nat → va_E) → Prop} {hp : Nat → va_E} {st : List Value} (k : V0 E y d mc ms Q pc (b0 :: b1 :: b2 :: b3 :: b4 :: b5 :: b6 :: b7 :: b8 :: b9 :: b10 :: b11 :: b12 :: b13 :: none :: ls) st n hp ce sl) : V0 E y d mc ms Q pc (b0 :: b1 :: b2 :: b3 :: b4 :: b5 :: b6 :: b7 :: b8 :: b9 :: b10 :: b11 :: b12 :: b13 :: b :: ls) st n hp ce sl :=
  fun p e s m args below meth c H locs la ok hP hS hL => k p e s m args below meth c H locs la ok hP hS ⟨hL.1, hL.2.1, fun q hq => by
    obtain ⟨j, e1, e2⟩ := (xlv_mem _ _ _).mp hq
    refine hL.2.2 q ((xlv_mem _ _ _).mpr ⟨j, e1, ?_⟩)
    rcases Nat.lt_trichotomy j 14 with h | h | h
    · rcases (show j = 0 ∨ j = 1 ∨ j = 2 ∨ j = 3 ∨ j = 4 ∨ j = 5 ∨ j = 6 ∨ j = 7 ∨ j = 8 ∨ j = 9 ∨ j = 10 ∨ j = 11 ∨ j = 12 ∨ j = 13 by omega) with rfl | rfl | rfl | rfl | rfl | rfl | rfl | rfl | rfl | rfl | rfl | rfl | rfl | rfl <;> exact e2
    · subst h; simp at e2
    · obtain ⟨i, rfl⟩ : ∃ i, j = i + 15 := ⟨j - 15, by omega⟩
      simpa using e2⟩
