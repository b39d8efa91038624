section PAIRS
theorem Rl.nxB {A B : xMem} (h : Rl A B) : 0 ≤ B 201 21 ∧ B 201 21 < 24 := by
  obtain ⟨a1, a2, a3, a4, -⟩ := h.2.2.2.2.1
  omega
theorem Rl.kpB {A B : xMem} (h : Rl A B) : 0 ≤ B 201 20 ∧ B 201 20 ≤ 24 := by
  obtain ⟨a1, a2, a3, a4, -⟩ := h.2.2.2.2.1
  omega
theorem Rl.lnB {A B : xMem} (h : Rl A B) : 0 ≤ B 201 4 ∧ B 201 4 ≤ 120 := by
  obtain ⟨a1, a2, -⟩ := h.2.2.1
  omega
theorem Rl.trB {A B : xMem} (h : Rl A B) : 0 ≤ B 201 29 ∧ B 201 29 ≤ 16 := by
  obtain ⟨a1, a2, -⟩ := h.2.2.2.2.2.2
  omega
theorem Rl_start : Rl (mI 8) (mI 8) := by
  have z : ∀ a j : Nat, a ≠ 202 → mI 8 a j = 0 := fun a j h => by unfold mI; rw [if_neg (fun q => h q.1)]
  have w : ∀ j : Nat, j < 8 → mI 8 202 j = -1 := fun j h => by unfold mI; rw [if_pos ⟨rfl, h⟩]
  refine ⟨fun r hr => ?_, ?_, ?_, Or.inl ?_, ?_, fun k hk => ?_, ?_⟩
  · rw [z (163 + 2 * r) 1 (by omega), z (163 + 2 * r) 2 (by omega), z (163 + 2 * r) 3 (by omega), z 203 r (by decide), w r hr]
    exact ⟨Or.inl rfl, by decide, by decide, by decide, fun _ => rfl, fun h => absurd h (by decide)⟩
  · show mI 8 0 10 = mI 8 201 3
    rw [z _ _ (by decide), z _ _ (by decide)]
  · unfold RlT
    rw [z 149 3 (by decide), z 201 4 (by decide), z 149 4 (by decide), z 201 11 (by decide), z 157 4 (by decide), z 157 6 (by decide), z 157 8 (by decide)]
    refine ⟨rfl, by decide, rfl, fun j _ => ?_, fun j _ => ?_, fun j _ => ?_, by decide, fun i _ => z _ _ (by decide), fun i _ => z _ _ (by decide)⟩
    · rw [z 150 j (by decide)]; decide
    · rw [z 205 j (by decide)]; decide
    · rw [z 205 j (by decide), z 150 j (by decide)]
  · rw [z 3 6 (by decide), z 3 7 (by decide), z 201 16 (by decide), z 209 0 (by decide), z 209 1 (by decide), z 9 4 (by decide), z 9 5 (by decide), z 9 6 (by decide), z 210 0 (by decide), z 210 1 (by decide), z 210 2 (by decide)]
    decide
  · unfold RlP
    rw [z 17 1 (by decide), z 17 2 (by decide), z 201 21 (by decide), z 201 20 (by decide)]
    exact ⟨by decide, by decide, rfl, rfl, fun _ => rfl, fun d hd => absurd hd (by omega)⟩
  · rw [z (179 + 11 * k) 2 (by omega), z 216 k (by decide)]
    exact ⟨Or.inl rfl, rfl, fun h => absurd h (by decide)⟩
  · unfold RlA
    rw [z 161 3 (by decide), z 201 29 (by decide)]
    exact ⟨rfl, by decide, fun j hj => absurd hj (by omega)⟩
theorem duchy_bn {A B : xMem} (h : Rl A B) : (ryAll B).1 = true → 0 ≤ (ryAll B).2 206 0 ∧ (ryAll B).2 206 0 ≤ 5 := by
  obtain ⟨t1, t2, t3, t4, t5, t6, t7, t8, t9⟩ := h.2.2.1
  have hz : Zt (mS A 149 3 0) B (advM (mS (mS (mS (mS (mS A 149 6 (A 149 3)) 149 3 0) 149 7 0) 151 6 0) 151 7 0)) (ryM0 B) := by
    unfold ryM0
    refine Zp.adv ⟨⟨fun a j q1 q2 => ?_, ?_, ?_, ?_, ?_⟩, FY_mS (by decide) (FY_mS (by decide) (FY_mS (by decide) ⟨fun _ _ _ _ _ => rfl, fun _ _ _ _ _ _ _ => rfl⟩)), RI_0 t2 t4, ⟨?_, ?_, fun j hj => ?_⟩, ?_, ?_, fun j hj => ?_, ?_⟩
    · simp (disch := omega) only [mS_ne]
    · simp (disch := decide) only [mS_ne]
    · simp (disch := decide) only [mS_ne]
    · simp (disch := decide) only [mS_ne]
    · simp (disch := decide) only [mS_ne, mS_eq]
    · simp (disch := decide) only [mS_ne]; omega
    · simp (disch := decide) only [mS_ne, mS_eq]; omega
    · simp (disch := omega) only [mS_ne]; exact t5 j hj
    · simp (disch := decide) only [mS_ne, mS_eq]; exact t1
    · simp (disch := decide) only [mS_ne, mS_eq]
    · simp (disch := decide) only [mS_ne, mS_eq] at hj ⊢
      exact t6 j hj
    · simp (disch := decide) only [mS_ne]
  have hor := all_or hz ⟨by rw [adv_lo (by decide), mS_ne (by decide), mS_eq], by rw [adv_lo (by decide), mS_eq]⟩
  have er : rdTape A = rdAll (advM (mS (mS (mS (mS (mS A 149 6 (A 149 3)) 149 3 0) 149 7 0) 151 6 0) 151 7 0)) := rfl
  rw [← er] at hor
  intro hb
  rcases hor with ⟨k1, k2, k3⟩ | ⟨k1, k2, k3⟩
  · obtain ⟨-, ⟨-, -, -, q4, -⟩, -⟩ := k3
    omega
  · rw [k2] at hb
    cases hb
def Pr (E : xE) (zx zy : xM) (nx dx ny dy : Nat) (av : List Value) (M : xMem) : Prop := ∃ (v : Int) (M1 M2 : xMem), Ct E zx nx dx (xr E 0 :: av) M (some (xi v)) M1 ∧ Ct E zy ny dy (xr E 201 :: av) M1 (some (xi v)) M2 ∧ Rl M2 M2
def PrL (E : xE) (zx zy : xM) (nx dx ny dy : Nat) (av : List Value) (M : xMem) : Prop := ∃ (v : Int) (M1 M2 : xMem), Ct E zx nx dx (xr E 0 :: av) M (some (xl v)) M1 ∧ Ct E zy ny dy (xr E 201 :: av) M1 (some (xl v)) M2 ∧ Rl M2 M2
theorem pr_row (E : xE) {M : xMem} (h : Rl M M) {x1 x2 x3 : Int} (r1 : -2147483648 ≤ x1 ∧ x1 < 2147483648) (r2 : -2147483648 ≤ x2 ∧ x2 < 2147483648) (r3 : -2147483648 ≤ x3 ∧ x3 < 2147483648) : Pr E mX9_row mX10_row 4 1 5 2 [xi x1, xi x2, xi x3] M := by
  have h1 : Rl M (xRow M x1 x2 x3).2 := h.full (fun _ _ _ => rfl) (fun a j ha => fx_row ha  x1 x2 x3)
  have e := st_row h1 x1 x2 x3
  refine ⟨_, _, _, c_X9_row E r1 r2 r3, ?_, e.2.full (fun a j ha => congrFun (fy_row ha x1 x2 x3) j) (fun _ _ _ => rfl)⟩
  rw [e.1]
  exact c_X10_row E r1 r2 r3
theorem pr_set (E : xE) {M : xMem} (h : Rl M M) {x1 x2 x3 : Int} (r1 : -2147483648 ≤ x1 ∧ x1 < 2147483648) (r2 : -2147483648 ≤ x2 ∧ x2 < 2147483648) (r3 : -2147483648 ≤ x3 ∧ x3 < 2147483648) : Pr E mX9_set mX10_set 5 2 5 2 [xi x1, xi x2, xi x3] M := by
  have h1 : Rl M (xSet M x1 x2 x3).2 := h.full (fun _ _ _ => rfl) (fun a j ha => fx_set ha  x1 x2 x3)
  have e := st_set h1 x1 x2 x3
  refine ⟨_, _, _, c_X9_set E r1 r2 r3 h.hrx, ?_, e.2.full (fun a j ha => congrFun (fy_set ha x1 x2 x3) j) (fun _ _ _ => rfl)⟩
  rw [e.1]
  exact c_X10_set E r1 r2 r3 h1.hry
theorem pr_copy (E : xE) {M : xMem} (h : Rl M M) {x1 x2 x3 x4 x5 : Int} (r1 : -2147483648 ≤ x1 ∧ x1 < 2147483648) (r2 : -2147483648 ≤ x2 ∧ x2 < 2147483648) (r3 : -2147483648 ≤ x3 ∧ x3 < 2147483648) (r4 : -2147483648 ≤ x4 ∧ x4 < 2147483648) (r5 : -2147483648 ≤ x5 ∧ x5 < 2147483648) : Pr E mX9_copy mX10_copy 8 1 9 2 [xi x1, xi x2, xi x3, xi x4, xi x5] M := by
  have h1 : Rl M (xCopy M x1 x2 x3 x4 x5).2 := h.full (fun _ _ _ => rfl) (fun a j ha => fx_copy ha  x1 x2 x3 x4 x5)
  have e := st_copy h1 x1 x2 x3 x4 x5
  refine ⟨_, _, _, c_X9_copy E r1 r2 r3 r4 r5 h.hrx, ?_, e.2.full (fun a j ha => congrFun (fy_copy ha x1 x2 x3 x4 x5) j) (fun _ _ _ => rfl)⟩
  rw [e.1]
  exact c_X10_copy E r1 r2 r3 r4 r5 h1.hry
theorem pr_drop (E : xE) {M : xMem} (h : Rl M M) {x1 : Int} (r1 : -2147483648 ≤ x1 ∧ x1 < 2147483648) : Pr E mX9_drop mX10_drop 2 1 3 2 [xi x1] M := by
  have h1 : Rl M (xDrop M x1).2 := h.full (fun _ _ _ => rfl) (fun a j ha => fx_drop ha  x1)
  have e := st_drop h1 x1
  refine ⟨_, _, _, c_X9_drop E r1 h.hrx, ?_, e.2.full (fun a j ha => congrFun (fy_drop ha x1) j) (fun _ _ _ => rfl)⟩
  rw [e.1]
  exact c_X10_drop E r1 h1.hry
theorem pr_feed (E : xE) {M : xMem} (h : Rl M M) {x1 : Int} (r1 : -2147483648 ≤ x1 ∧ x1 < 2147483648) : Pr E mX9_feed mX10_feed 2 1 2 1 [xi x1] M := by
  have h1 : Rl M (xFeed M x1).2 := h.full (fun _ _ _ => rfl) (fun a j ha => fx_feed ha  x1)
  have e := st_feed h1 x1
  refine ⟨_, _, _, c_X9_feed E r1 h.2.2.1.2.1, ?_, e.2.full (fun a j ha => congrFun (fy_feed ha x1) j) (fun _ _ _ => rfl)⟩
  rw [e.1]
  exact c_X10_feed E r1 h1.lnB
theorem pr_duchy (E : xE) {M : xMem} (h : Rl M M) : Pr E mX9_duchy mX10_duchy 1 7 4 6 [] M := by
  have h1 : Rl M (xDuchy M).2 := h.full (fun _ _ _ => rfl) (fun a j ha => fx_duchy h ha)
  have e := st_duchy h1 
  refine ⟨_, _, _, c_X9_duchy E h.2.2.1.2.1 h.2.2.1.2.2.2.1, ?_, e.2.full (fun a j ha => congrFun (fy_duchy h1 ha) j) (fun _ _ _ => rfl)⟩
  rw [e.1]
  exact c_X10_duchy E h1.lnB h1.2.2.1.2.2.2.2.1 (duchy_bn h1)
theorem pr_fault (E : xE) {M : xMem} (h : Rl M M) : Pr E mX9_fault mX10_fault 1 0 1 0 [] M := by
  have h1 : Rl M M := h
  have e : M 149 4 = M 201 11 := h.2.2.1.2.2.1
  refine ⟨_, M, M, c_X9_fault E , ?_, h⟩
  rw [e]
  exact c_X10_fault E 
theorem pr_undo (E : xE) {M : xMem} (h : Rl M M) : Pr E mX9_undo mX10_undo 1 3 2 0 [] M := by
  have h1 : Rl M (xUndo M).2 := h.full (fun _ _ _ => rfl) (fun a j ha => fx_undo ha  )
  have e := st_undo h1 
  refine ⟨_, _, _, c_X9_undo E h.2.2.2.2.1.1 h.2.2.2.2.1.2.1, ?_, e.2.full (fun a j ha => congrFun (fy_undo ha ) j) (fun _ _ _ => rfl)⟩
  rw [e.1]
  exact c_X10_undo E h1.nxB h1.kpB
theorem pr_weeks (E : xE) {M : xMem} (h : Rl M M) {x1 : Int} (r1 : -2147483648 ≤ x1 ∧ x1 < 2147483648) : Pr E mX9_weeks mX10_weeks 3 4 4 4 [xi x1] M := by
  have h1 : Rl M (xWeeks M x1).2 := h.full (fun _ _ _ => rfl) (fun a j ha => fx_weeks ha h.2.2.2.2.1.1 h.2.2.2.2.1.2.1 x1)
  have e := st_weeks h1 x1
  refine ⟨_, _, _, c_X9_weeks E r1 h.hD h.2.2.2.2.1.1 h.2.2.2.2.1.2.1, ?_, e.2.full (fun a j ha => congrFun (fy_weeks ha x1) j) (fun _ _ _ => rfl)⟩
  rw [e.1]
  exact c_X10_weeks E r1 h1.MD h1.nxB h1.kpB
theorem pr_say (E : xE) {M : xMem} (h : Rl M M) {x1 : Int} (r1 : -2147483648 ≤ x1 ∧ x1 < 2147483648) : Pr E mX9_say mX10_say 2 4 2 4 [xi x1] M := by
  have h1 : Rl M (xSay M x1).2 := h.full (fun _ _ _ => rfl) (fun a j ha => fx_say ha h.2.2.2.2.1.1 x1)
  have e := st_say h1 x1
  refine ⟨_, _, _, c_X9_say E r1 h.hD h.2.2.2.2.1.1 h.2.2.2.2.1.2.1, ?_, e.2.full (fun a j ha => congrFun (fy_say ha x1) j) (fun _ _ _ => rfl)⟩
  rw [e.1]
  exact c_X10_say E r1 h1.MD h1.nxB h1.kpB
theorem pr_buy (E : xE) {M : xMem} (h : Rl M M) {x1 x2 : Int} (r1 : -2147483648 ≤ x1 ∧ x1 < 2147483648) (r2 : -2147483648 ≤ x2 ∧ x2 < 2147483648) : Pr E mX9_buy mX10_buy 3 3 3 2 [xi x1, xi x2] M := by
  have h1 : Rl M (xBuy M x1 x2).2 := h.full (fun _ _ _ => rfl) (fun a j ha => fx_buy ha h.2.2.2.2.1.1 x1 x2)
  have e := st_buy h1 x1 x2
  refine ⟨_, _, _, c_X9_buy E r1 r2 h.hD h.2.2.2.2.1.1 h.2.2.2.2.1.2.1, ?_, e.2.full (fun a j ha => congrFun (fy_buy ha x1 x2) j) (fun _ _ _ => rfl)⟩
  rw [e.1]
  exact c_X10_buy E r1 r2 h1.MD h1.nxB h1.kpB
theorem pr_letOut (E : xE) {M : xMem} (h : Rl M M) {x1 : Int} (r1 : -2147483648 ≤ x1 ∧ x1 < 2147483648) : Pr E mX9_letOut mX10_letOut 2 3 3 1 [xi x1] M := by
  have h1 : Rl M (xLet M x1).2 := h.full (fun _ _ _ => rfl) (fun a j ha => fx_let ha h.2.2.2.2.1.1 x1)
  have e := st_let h1 x1
  refine ⟨_, _, _, c_X9_letOut E r1 h.hD h.2.2.2.2.1.1 h.2.2.2.2.1.2.1, ?_, e.2.full (fun a j ha => congrFun (fy_let ha x1) j) (fun _ _ _ => rfl)⟩
  rw [e.1]
  exact c_X10_letOut E r1 h1.MD h1.nxB h1.kpB
theorem pr_price (E : xE) {M : xMem} (h : Rl M M) {x1 : Int} (r1 : -2147483648 ≤ x1 ∧ x1 < 2147483648) : Pr E mX9_price mX10_price 3 3 4 1 [xi x1] M := by
  have h1 : Rl M (xPrice M x1).2 := h.full (fun _ _ _ => rfl) (fun a j ha => fx_price ha h.2.2.2.2.1.1 x1)
  have e := st_price h1 x1
  refine ⟨_, _, _, c_X9_price E r1 h.hD h.2.2.2.2.1.1 h.2.2.2.2.1.2.1, ?_, e.2.full (fun a j ha => congrFun (fy_price ha x1) j) (fun _ _ _ => rfl)⟩
  rw [e.1]
  exact c_X10_price E r1 h1.MD h1.nxB h1.kpB
theorem pr_speech (E : xE) {M : xMem} (h : Rl M M) {x1 x2 : Int} (r1 : -2147483648 ≤ x1 ∧ x1 < 2147483648) (r2 : -2147483648 ≤ x2 ∧ x2 < 2147483648) : Pr E mX9_speech mX10_speech 3 4 3 4 [xi x1, xi x2] M := by
  have h1 : Rl M M := h
  have e := an_speech h x1 x2
  refine ⟨_, M, M, c_X9_speech E r1 r2 h.hD, ?_, h⟩
  rw [e]
  exact c_X10_speech E r1 r2 h1.MD
theorem pr_person (E : xE) {M : xMem} (h : Rl M M) {x1 x2 : Int} (r1 : -2147483648 ≤ x1 ∧ x1 < 2147483648) (r2 : -2147483648 ≤ x2 ∧ x2 < 2147483648) : Pr E mX9_person mX10_person 3 2 6 2 [xi x1, xi x2] M := by
  have h1 : Rl M M := h
  have e := an_person h x1 x2
  refine ⟨_, M, M, c_X9_person E r1 r2 h.hD, ?_, h⟩
  rw [e]
  exact c_X10_person E r1 r2 h1.MD
theorem pr_stand (E : xE) {M : xMem} (h : Rl M M) {x1 : Int} (r1 : -2147483648 ≤ x1 ∧ x1 < 2147483648) : Pr E mX9_stand mX10_stand 2 1 3 1 [xi x1] M := by
  have h1 : Rl M M := h
  have e := an_stand h x1
  refine ⟨_, M, M, c_X9_stand E r1 h.hD, ?_, h⟩
  rw [e]
  exact c_X10_stand E r1 h1.MD
theorem pr_purse (E : xE) {M : xMem} (h : Rl M M) {x1 x2 : Int} (r1 : -2147483648 ≤ x1 ∧ x1 < 2147483648) (r2 : -2147483648 ≤ x2 ∧ x2 < 2147483648) : Pr E mX9_purse mX10_purse 3 2 3 5 [xi x1, xi x2] M := by
  have h1 : Rl M M := h
  have e := st_purse h x1 x2
  refine ⟨_, M, _, c_X9_purse E r1 r2 h.hD, ?_, e.2.full (fun a j ha => congrFun (fy_purse ha x1 x2) j) (fun _ _ _ => rfl)⟩
  rw [e.1]
  exact c_X10_purse E r1 r2 h1.MD
theorem pr_hill (E : xE) {M : xMem} (h : Rl M M) {x1 : Int} (r1 : -2147483648 ≤ x1 ∧ x1 < 2147483648) : Pr E mX9_hill mX10_hill 2 2 3 5 [xi x1] M := by
  have h1 : Rl M M := h
  have e := st_hill h x1
  refine ⟨_, M, _, c_X9_hill E r1 h.hD, ?_, e.2.full (fun a j ha => congrFun (fy_hill ha x1) j) (fun _ _ _ => rfl)⟩
  rw [e.1]
  exact c_X10_hill E r1 h1.MD
theorem pr_known (E : xE) {M : xMem} (h : Rl M M) {x1 x2 : Int} (r1 : -2147483648 ≤ x1 ∧ x1 < 2147483648) (r2 : -2147483648 ≤ x2 ∧ x2 < 2147483648) : Pr E mX9_known mX10_known 3 4 3 5 [xi x1, xi x2] M := by
  have h1 : Rl M M := h
  have e := st_known h x1 x2
  refine ⟨_, M, _, c_X9_known E r1 r2 h.hD, ?_, e.2.full (fun a j ha => congrFun (fy_known ha x1 x2) j) (fun _ _ _ => rfl)⟩
  rw [e.1]
  exact c_X10_known E r1 r2 h1.MD
theorem pr_allKnow (E : xE) {M : xMem} (h : Rl M M) {x1 : Int} (r1 : -2147483648 ≤ x1 ∧ x1 < 2147483648) : Pr E mX9_allKnow mX10_allKnow 3 4 3 5 [xi x1] M := by
  have h1 : Rl M M := h
  have e := st_allKnow h x1
  refine ⟨_, M, _, c_X9_allKnow E r1 h.hD, ?_, e.2.full (fun a j ha => congrFun (fy_allKnow ha x1) j) (fun _ _ _ => rfl)⟩
  rw [e.1]
  exact c_X10_allKnow E r1 h1.MD
theorem pr_when (E : xE) {M : xMem} (h : Rl M M) {x1 : Int} (r1 : -2147483648 ≤ x1 ∧ x1 < 2147483648) : Pr E mX9_when mX10_when 2 4 3 5 [xi x1] M := by
  have h1 : Rl M M := h
  have e := st_when h x1
  refine ⟨_, M, _, c_X9_when E r1 h.hD, ?_, e.2.full (fun a j ha => congrFun (fy_when ha x1) j) (fun _ _ _ => rfl)⟩
  rw [e.1]
  exact c_X10_when E r1 h1.MD
theorem pr_most (E : xE) {M : xMem} (h : Rl M M) {x1 : Int} (r1 : -2147483648 ≤ x1 ∧ x1 < 2147483648) : Pr E mX9_most mX10_most 4 6 8 5 [xi x1] M := by
  have h1 : Rl M (xMost M x1).2 := h.full (fun _ _ _ => rfl) (fun a j ha => fx_most ha  x1)
  have e := st_most h1 x1
  refine ⟨_, _, _, c_X9_most E r1 h.hD, ?_, e.2.full (fun a j ha => congrFun (fy_most ha x1) j) (fun _ _ _ => rfl)⟩
  rw [e.1]
  exact c_X10_most E r1 h1.MD
theorem pr_order (E : xE) {M : xMem} (h : Rl M M) {x1 : Int} (r1 : -2147483648 ≤ x1 ∧ x1 < 2147483648) : Pr E mX9_order mX10_order 2 12 10 5 [xi x1] M := by
  have h1 : Rl M (xOrder M x1).2 := h.full (fun _ _ _ => rfl) (fun a j ha => fx_order ha  x1)
  have e := st_order h1 x1
  refine ⟨_, _, _, c_X9_order E r1 h.hD, ?_, e.2.full (fun a j ha => congrFun (fy_order ha x1) j) (fun _ _ _ => rfl)⟩
  rw [e.1]
  exact c_X10_order E r1 h1.MD
theorem pr_clear (E : xE) {M : xMem} (h : Rl M M) : Pr E mX9_clear mX10_clear 1 2 4 2 [] M := by
  have h1 : Rl M M := h
  have e := an_clear h 
  refine ⟨_, M, M, c_X9_clear E h.hD, ?_, h⟩
  rw [e]
  exact c_X10_clear E h1.MD
theorem pr_deaf (E : xE) {M : xMem} (h : Rl M M) {x1 x2 x3 x4 : Int} (r1 : -2147483648 ≤ x1 ∧ x1 < 2147483648) (r2 : -2147483648 ≤ x2 ∧ x2 < 2147483648) (r3 : -2147483648 ≤ x3 ∧ x3 < 2147483648) (r4 : -2147483648 ≤ x4 ∧ x4 < 2147483648) : Pr E mX9_deaf mX10_deaf 6 5 8 4 [xi x1, xi x2, xi x3, xi x4] M := by
  have h1 : Rl M M := h
  have e := an_deaf h x1 x2 x3 x4
  refine ⟨_, M, M, c_X9_deaf E r1 r2 r3 r4 h.hD, ?_, h⟩
  rw [e]
  exact c_X10_deaf E r1 r2 r3 r4 h1.MD
theorem pr_share (E : xE) {M : xMem} (h : Rl M M) {x1 x2 : Int} (r1 : -2147483648 ≤ x1 ∧ x1 < 2147483648) (r2 : -2147483648 ≤ x2 ∧ x2 < 2147483648) : Pr E mX9_share mX10_share 3 3 7 2 [xi x1, xi x2] M := by
  have h1 : Rl M M := h
  have e := an_share h x1 x2
  refine ⟨_, M, M, c_X9_share E r1 r2 h.hD, ?_, h⟩
  rw [e]
  exact c_X10_share E r1 r2 h1.MD
theorem pr_thrift (E : xE) {M : xMem} (h : Rl M M) {x1 x2 x3 x4 x5 : Int} (r1 : -2147483648 ≤ x1 ∧ x1 < 2147483648) (r2 : -2147483648 ≤ x2 ∧ x2 < 2147483648) (r3 : -2147483648 ≤ x3 ∧ x3 < 2147483648) (r4 : -2147483648 ≤ x4 ∧ x4 < 2147483648) (r5 : -2147483648 ≤ x5 ∧ x5 < 2147483648) : Pr E mX9_thrift mX10_thrift 8 3 7 2 [xi x1, xi x2, xi x3, xi x4, xi x5] M := by
  have h1 : Rl M (xThrift M x1 x2 x3 x4 x5).2 := h.full (fun _ _ _ => rfl) (fun a j ha => fx_thrift ha  x1 x2 x3 x4 x5)
  have e := st_thrift h1 x1 x2 x3 x4 x5
  refine ⟨_, _, _, c_X9_thrift E r1 r2 r3 r4 r5 h.hD h.hrx, ?_, e.2.full (fun a j ha => congrFun (fy_thrift ha x1 x2 x3 x4 x5) j) (fun _ _ _ => rfl)⟩
  rw [e.1]
  exact c_X10_thrift E r1 r2 r3 r4 r5 h1.MD h1.hry
theorem pr_who (E : xE) {M : xMem} (h : Rl M M) {x1 x2 x3 x4 x5 : Int} (r1 : -2147483648 ≤ x1 ∧ x1 < 2147483648) (r2 : -2147483648 ≤ x2 ∧ x2 < 2147483648) (r3 : -2147483648 ≤ x3 ∧ x3 < 2147483648) (r4 : -2147483648 ≤ x4 ∧ x4 < 2147483648) (r5 : -2147483648 ≤ x5 ∧ x5 < 2147483648) : Pr E mX9_who mX10_who 10 4 9 4 [xi x1, xi x2, xi x3, xi x4, xi x5] M := by
  have h1 : Rl M (xWho M x1 x2 x3 x4 x5).2 := h.full (fun _ _ _ => rfl) (fun a j ha => fx_who ha  x1 x2 x3 x4 x5)
  have e := st_who h1 x1 x2 x3 x4 x5
  refine ⟨_, _, _, c_X9_who E r1 r2 r3 r4 r5 h.hD h.hrx, ?_, e.2.full (fun a j ha => congrFun (fy_who ha x1 x2 x3 x4 x5) j) (fun _ _ _ => rfl)⟩
  rw [e.1]
  exact c_X10_who E r1 r2 r3 r4 r5 h1.MD h1.hry
theorem pr_priced (E : xE) {M : xMem} (h : Rl M M) {x1 x2 x3 x4 x5 : Int} (r1 : -2147483648 ≤ x1 ∧ x1 < 2147483648) (r2 : -2147483648 ≤ x2 ∧ x2 < 2147483648) (r3 : -2147483648 ≤ x3 ∧ x3 < 2147483648) (r4 : -2147483648 ≤ x4 ∧ x4 < 2147483648) (r5 : -2147483648 ≤ x5 ∧ x5 < 2147483648) : Pr E mX9_priced mX10_priced 9 2 8 2 [xi x1, xi x2, xi x3, xi x4, xi x5] M := by
  have h1 : Rl M (xPriced M x1 x2 x3 x4 x5).2 := h.full (fun _ _ _ => rfl) (fun a j ha => fx_priced ha  x1 x2 x3 x4 x5)
  have e := st_priced h1 x1 x2 x3 x4 x5
  refine ⟨_, _, _, c_X9_priced E r1 r2 r3 r4 r5 h.hrx, ?_, e.2.full (fun a j ha => congrFun (fy_priced ha x1 x2 x3 x4 x5) j) (fun _ _ _ => rfl)⟩
  rw [e.1]
  exact c_X10_priced E r1 r2 r3 r4 r5 h1.hry
theorem pr_heard (E : xE) {M : xMem} (h : Rl M M) {x1 x2 x3 x4 x5 : Int} (r1 : -2147483648 ≤ x1 ∧ x1 < 2147483648) (r2 : -2147483648 ≤ x2 ∧ x2 < 2147483648) (r3 : -2147483648 ≤ x3 ∧ x3 < 2147483648) (r4 : -2147483648 ≤ x4 ∧ x4 < 2147483648) (r5 : -2147483648 ≤ x5 ∧ x5 < 2147483648) : PrL E mX9_heard mX10_heard 12 5 15 4 [xi x1, xi x2, xi x3, xi x4, xi x5] M := by
  have h1 : Rl M M := h
  have e := an_heard h x1 x2 x3 x4 x5
  refine ⟨_, M, M, c_X9_heard E r1 r2 r3 r4 r5 h.hD, ?_, h⟩
  rw [e]
  exact c_X10_heard E r1 r2 r3 r4 r5 h1.MD
theorem pr_drawn (E : xE) {M : xMem} (h : Rl M M) {x1 x2 x3 : Int} (r1 : -2147483648 ≤ x1 ∧ x1 < 2147483648) (r2 : -2147483648 ≤ x2 ∧ x2 < 2147483648) (r3 : -2147483648 ≤ x3 ∧ x3 < 2147483648) : Pr E mX9_drawn mX10_drawn 4 5 9 4 [xi x1, xi x2, xi x3] M := by
  have h1 : Rl M (xDrawn M x1 x2 x3).2 := h.full (fun _ _ _ => rfl) (fun a j ha => fx_drawn ha  x1 x2 x3)
  have e := st_drawn h1 x1 x2 x3
  refine ⟨_, _, _, c_X9_drawn E r1 r2 r3 h.hD h.w9, ?_, e.2.full (fun a j ha => congrFun (fy_drawn ha x1 x2 x3) j) (fun _ _ _ => rfl)⟩
  rw [e.1]
  exact c_X10_drawn E r1 r2 r3 h1.MD
theorem pr_image (E : xE) {M : xMem} (h : Rl M M) {x1 : Int} (r1 : -2147483648 ≤ x1 ∧ x1 < 2147483648) : Pr E mX9_image mX10_image 2 2 3 1 [xi x1] M := by
  have h1 : Rl M (xImage M x1).2 := h.full (fun _ _ _ => rfl) (fun a j ha => fx_image ha  x1)
  have e := st_image h1 x1
  refine ⟨_, _, _, c_X9_image E r1 h.hD, ?_, e.2.full (fun a j ha => congrFun (fy_image ha x1) j) (fun _ _ _ => rfl)⟩
  rw [e.1]
  exact c_X10_image E r1
theorem pr_restore (E : xE) {M : xMem} (h : Rl M M) {x1 : Int} (r1 : -2147483648 ≤ x1 ∧ x1 < 2147483648) : Pr E mX9_restore mX10_restore 2 2 3 1 [xi x1] M := by
  have h1 : Rl M (xRestore M x1).2 := h.full (fun _ _ _ => rfl) (fun a j ha => fx_restore ha  x1)
  have e := st_restore h1 x1
  refine ⟨_, _, _, c_X9_restore E r1 h.himg, ?_, e.2.full (fun a j ha => congrFun (fy_restore ha x1) j) (fun _ _ _ => rfl)⟩
  rw [e.1]
  exact c_X10_restore E r1 h1.hki
theorem pr_kind (E : xE) {M : xMem} (h : Rl M M) {x1 : Int} (r1 : -2147483648 ≤ x1 ∧ x1 < 2147483648) : Pr E mX9_kind mX10_kind 2 1 2 2 [xi x1] M := by
  have h1 : Rl M M := h
  have e := an_kind h x1
  refine ⟨_, M, M, c_X9_kind E r1 h.hD, ?_, h⟩
  rw [e]
  exact c_X10_kind E r1 h1.MD
theorem pr_as (E : xE) {M : xMem} (h : Rl M M) {x1 x2 : Int} (r1 : -2147483648 ≤ x1 ∧ x1 < 2147483648) (r2 : -2147483648 ≤ x2 ∧ x2 < 2147483648) : Pr E mX9_as mX10_as 3 1 5 2 [xi x1, xi x2] M := by
  have h1 : Rl M (xAs M x1 x2).2 := h.full (fun _ _ _ => rfl) (fun a j ha => fx_as ha  x1 x2)
  have e := st_as h1 x1 x2
  refine ⟨_, _, _, c_X9_as E r1 r2 h.hD, ?_, e.2.full (fun a j ha => congrFun (fy_as ha x1 x2) j) (fun _ _ _ => rfl)⟩
  rw [e.1]
  exact c_X10_as E r1 r2 h1.MD
theorem pr_ask (E : xE) {M : xMem} (h : Rl M M) {x1 x2 : Int} (r1 : -2147483648 ≤ x1 ∧ x1 < 2147483648) (r2 : -2147483648 ≤ x2 ∧ x2 < 2147483648) : Pr E mX9_ask mX10_ask 3 7 3 7 [xi x1, xi x2] M := by
  have h1 : Rl M (xAsk M x1 x2).2 := h.full (fun _ _ _ => rfl) (fun a j ha => fx_ask ha  x1 x2)
  have e := st_ask h1 x1 x2
  refine ⟨_, _, _, c_X9_ask E r1 r2 h.hD, ?_, e.2.full (fun a j ha => congrFun (fy_ask ha x1 x2) j) (fun _ _ _ => rfl)⟩
  rw [e.1]
  exact c_X10_ask E r1 r2 h1.MD
theorem pr_trace (E : xE) {M : xMem} (h : Rl M M) {x1 : Int} (r1 : -2147483648 ≤ x1 ∧ x1 < 2147483648) : Pr E mX9_trace mX10_trace 2 0 2 1 [xi x1] M := by
  have h1 : Rl M M := h
  have e := an_trace h x1
  refine ⟨_, M, M, c_X9_trace E r1 h.2.2.2.2.2.2.2.1, ?_, h⟩
  rw [e]
  exact c_X10_trace E r1 h1.trB
theorem pr_count (E : xE) {M : xMem} (h : Rl M M) {x1 : Int} (r1 : -2147483648 ≤ x1 ∧ x1 < 2147483648) : Pr E mX9_count mX10_count 2 1 4 1 [xi x1] M := by
  have h1 : Rl M M := h
  have e := an_count h x1
  refine ⟨_, M, M, c_X9_count E r1 h.hrx, ?_, h⟩
  rw [e]
  exact c_X10_count E r1 h1.hry
theorem pr_status (E : xE) {M : xMem} (h : Rl M M) : Pr E mX9_status mX10_status 1 0 1 0 [] M := by
  have h1 : Rl M M := h
  have e : M 0 10 = M 201 3 := h.2.1
  refine ⟨_, M, M, c_X9_status E , ?_, h⟩
  rw [e]
  exact c_X10_status E 
end PAIRS
