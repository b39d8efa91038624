section FRM
theorem mCp_ne {M : xMem} {k1 k0 dp sp n a j : Nat} (h : a ≠ k1) : mCp M k1 k0 dp sp n a j = M a j := by
  unfold mCp
  exact if_neg (fun q => h q.1)
theorem cpR_ne {M : xMem} {d s lo hi : Int} {a j : Nat} (h : a ≠ 204) : cpR M d s lo hi a j = M a j := by
  unfold cpR
  exact if_neg (fun q => h q.1)
theorem kp_hi {M : xMem} {a j : Nat} (h : 115 ≤ a) (hb : 0 ≤ M 17 1 ∧ M 17 1 < 24) : kpM M a j = M a j := by
  unfold kpM
  rw [mS_ne (Or.inl (by omega)), mS_ne (Or.inl (by omega)), stCp_ne (by omega)]
theorem bnk_lo {M : xMem} {k : Nat} {p n : Int} {a j : Nat} (h : a < k ∨ k + 4 ≤ a) : bnkM M k p n a j = M a j := by
  unfold bnkM
  rw [mS_ne (Or.inl (by omega)), mS_ne (Or.inl (by omega)), mS_ne (Or.inl (by omega))]
/-! the class leaves the model alone -/
section FX9
variable {M : xMem} {a j : Nat}
theorem fx_row (ha : 201 ≤ a) (r l n : Int) : (xRow M r l n).2 a j = M a j := by
  unfold xRow fndX finX rowM
  (repeat' split) <;> first | rfl | (dsimp only; simp (disch := omega) only [mS_ne, rng_ne])
theorem fx_set (ha : 201 ≤ a) (r i v : Int) : (xSet M r i v).2 a j = M a j := by
  unfold xSet fndX finX
  (repeat' split) <;> first | rfl | (dsimp only; simp (disch := omega) only [mS_ne])
theorem fx_copy (ha : 201 ≤ a) (b i c k n : Int) : (xCopy M b i c k n).2 a j = M a j := by
  unfold xCopy fndX finX
  (repeat' split) <;> first | rfl | (dsimp only; simp (disch := omega) only [mS_ne, mCp_ne])
theorem fx_drop (ha : 201 ≤ a) (r : Int) : (xDrop M r).2 a j = M a j := by
  unfold xDrop fndX finX
  (repeat' split) <;> first | rfl | (dsimp only; simp (disch := omega) only [mS_ne])
theorem fx_feed (ha : 201 ≤ a) (c : Int) : (xFeed M c).2 a j = M a j := by
  unfold xFeed
  (repeat' split) <;> first | rfl | (dsimp only; simp (disch := omega) only [mS_ne])
theorem fx_undo (ha : 201 ≤ a) : (xUndo M).2 a j = M a j := by
  unfold xUndo gbM
  (repeat' split) <;> first | rfl | (dsimp only; simp (disch := omega) only [mS_ne, stCp_ne])
theorem fx_say (ha : 201 ≤ a) (hb : 0 ≤ M 17 1 ∧ M 17 1 < 24) (s : Int) : (xSay M s).2 a j = M a j := by
  unfold xSay
  (repeat' split) <;> first | rfl | (dsimp only; rw [spk_lo (by omega), kp_hi (by omega) hb])
theorem fx_buy (ha : 201 ≤ a) (hb : 0 ≤ M 17 1 ∧ M 17 1 < 24) (p n : Int) : (xBuy M p n).2 a j = M a j := by
  unfold xBuy
  (repeat' split) <;> first | rfl | (dsimp only; rw [bnk_lo (by omega), kp_hi (by omega) hb])
theorem fx_let (ha : 201 ≤ a) (hb : 0 ≤ M 17 1 ∧ M 17 1 < 24) (n : Int) : (xLet M n).2 a j = M a j := by
  unfold xLet
  (repeat' split) <;> first | rfl | (dsimp only; rw [mS_ne (Or.inl (by omega)), mS_ne (Or.inl (by omega)), kp_hi (by omega) hb])
theorem fx_price (ha : 201 ≤ a) (hb : 0 ≤ M 17 1 ∧ M 17 1 < 24) (v : Int) : (xPrice M v).2 a j = M a j := by
  unfold xPrice
  (repeat' split) <;> first | rfl | (dsimp only; rw [mS_ne (Or.inl (by omega)), kp_hi (by omega) hb])
theorem wk_hi (ha : 201 ≤ a) : ∀ (k : Nat) (M : xMem), (0 ≤ M 17 1 ∧ M 17 1 < 24) → (0 ≤ M 17 2 ∧ M 17 2 ≤ 24) → wkM k M a j = M a j
  | 0, _, _, _ => rfl
  | k + 1, M, hb, hc => by
    have h := kp_b hb hc
    refine (wk_hi ha k _ ?_ ?_).trans ?_
    · rw [pas_lo (by decide) (by decide)]; exact h.1
    · rw [pas_lo (by decide) (by decide)]; exact h.2
    · rw [pas_lo (by decide) (by omega), kp_hi (by omega) hb]
theorem fx_weeks (ha : 201 ≤ a) (hb : 0 ≤ M 17 1 ∧ M 17 1 < 24) (hc : 0 ≤ M 17 2 ∧ M 17 2 ≤ 24) (n : Int) : (xWeeks M n).2 a j = M a j := by
  unfold xWeeks
  (repeat' split) <;> first | rfl | exact wk_hi ha _ _ hb hc
theorem try_hi {set : Int} (ha : 201 ≤ a) : ∀ (k : Nat) (s b : Int) (M : xMem), (tryL set k s b M).2 a j = M a j
  | 0, _, _, _ => rfl
  | k + 1, s, b, M => by
    unfold tryL
    split
    · exact try_hi ha k _ _ _
    · split
      · exact (try_hi ha k _ _ _).trans (spk_lo (by omega))
      · rfl
theorem tryT_hi (ha : 201 ≤ a) (set : Int) : (tryT M set).2 a j = M a j := (try_hi ha _ _ _ _).trans (stCp_ne (by omega))
theorem lg_hi (ha : 201 ≤ a) : ∀ (k : Nat) (i : Int) (q : Int × Int × xMem), (foldI lgF k i q).2.2 a j = q.2.2 a j
  | 0, _, _ => rfl
  | k + 1, i, q => by
    refine (lg_hi ha k (i + 1) (lgF i q)).trans ?_
    unfold lgF
    (repeat' split) <;> first | rfl | exact tryT_hi ha i
theorem fx_most (ha : 201 ≤ a) (w : Int) : (xMost M w).2 a j = M a j := by
  unfold xMost
  (repeat' split) <;> first | rfl | exact lg_hi ha _ _ _ | exact (tryT_hi ha _).trans (lg_hi ha _ _ _)
theorem fx_order (ha : 201 ≤ a) (k : Int) : (xOrder M k).2 a j = M a j := by
  unfold xOrder
  (repeat' split) <;> first | rfl | (show ffM M a j = M a j; unfold ffM; rw [goM_lo 6 0 _ (by decide) (by unfold gK; omega), mS_ne (Or.inl (by omega)), stCp_ne (by omega), mS_ne (Or.inl (by omega)), mS_ne (Or.inl (by omega))])
theorem fx_thrift (ha : 201 ≤ a) (p w r i n : Int) : (xThrift M p w r i n).2 a j = M a j := by
  unfold xThrift fndX finX
  (repeat' split) <;> first | rfl | (dsimp only; simp (disch := omega) only [mS_ne]; done) | (dsimp only; rw [mS_ne (Or.inl (by omega)), thL_row (by omega), thB_lo (by omega) (by omega)])
theorem fx_who (ha : 201 ≤ a) (s w r i n : Int) : (xWho M s w r i n).2 a j = M a j := by
  unfold xWho fndX finX
  (repeat' split) <;> first | rfl | (dsimp only; simp (disch := omega) only [mS_ne])
theorem fx_priced (ha : 201 ≤ a) (r i q k n : Int) : (xPriced M r i q k n).2 a j = M a j := by
  unfold xPriced fndX finX
  (repeat' split) <;> first | rfl | (dsimp only; simp (disch := omega) only [mS_ne])
theorem dt_hi (ha : 201 ≤ a) : ∀ (k : Nat) (x : Int) (M : xMem), dtL k x M a j = M a j
  | 0, _, _ => rfl
  | k + 1, x, M => by
    refine (dt_hi ha k _ _).trans ?_
    rw [pas_lo (by decide) (by omega)]
    split
    · exact spk_lo (by omega)
    · rfl
theorem fx_drawn (ha : 201 ≤ a) (n x w : Int) : (xDrawn M n x w).2 a j = M a j := by
  unfold xDrawn
  (repeat' split) <;> first | rfl | exact (dt_hi ha _ _ _).trans (stCp_ne (by omega))
theorem fx_image (ha : 201 ≤ a) (k : Int) : (xImage M k).2 a j = M a j := by
  unfold xImage
  (repeat' split) <;> first | rfl | (dsimp only; rw [mS_ne (Or.inl (by omega)), stCp_ne (by omega), twCp_ne (by omega)])
theorem fx_restore (ha : 201 ≤ a) (k : Int) : (xRestore M k).2 a j = M a j := by
  unfold xRestore
  (repeat' split) <;> first | rfl | (dsimp only; rw [mS_ne (Or.inl (by omega)), stCp_ne (by omega), twCp_ne (by omega)])
theorem fx_as (ha : 201 ≤ a) (s k : Int) : (xAs M s k).2 a j = M a j := by
  unfold xAs fndX finX
  (repeat' split) <;> first | rfl | (dsimp only; simp (disch := omega) only [mS_ne])
theorem fx_ask (ha : 201 ≤ a) (s w : Int) : (xAsk M s w).2 a j = M a j := by
  unfold xAsk
  (repeat' split) <;> first | rfl | (dsimp only; rw [lvMs_o (by omega), mS_ne (Or.inl (by omega))])
end FX9
/-! the model leaves the class alone -/
section FY9
variable {M : xMem} {a : Nat}
theorem rng_row {c : Nat} {off n : Int} {v : Nat → Int} (h : a ≠ c) : rngM M c off v n a = M a := funext fun _ => rng_ne h
theorem cpR_row {d s lo hi : Int} (h : a ≠ 204) : cpR M d s lo hi a = M a := funext fun _ => cpR_ne h
theorem fy_row (ha : a < 201) (r l n : Int) : (yRow M r l n).2 a = M a := by
  unfold yRow mfn mfi
  (repeat' split) <;> first | rfl | (dsimp only; simp (disch := omega) only [mS_row, rng_row])
theorem fy_set (ha : a < 201) (r i v : Int) : (ySet M r i v).2 a = M a := by
  unfold ySet mfn mfi
  (repeat' split) <;> first | rfl | (dsimp only; simp (disch := omega) only [mS_row])
theorem fy_copy (ha : a < 201) (b i c k n : Int) : (yCopy M b i c k n).2 a = M a := by
  unfold yCopy mfn mfi
  (repeat' split) <;> first | rfl | (dsimp only; simp (disch := omega) only [mS_row, cpR_row])
theorem fy_drop (ha : a < 201) (r : Int) : (yDrop M r).2 a = M a := by
  unfold yDrop mfn mfi
  (repeat' split) <;> first | rfl | (dsimp only; simp (disch := omega) only [mS_row])
theorem fy_feed (ha : a < 201) (c : Int) : (yFeed M c).2 a = M a := by
  unfold yFeed
  (repeat' split) <;> first | rfl | (dsimp only; simp (disch := omega) only [mS_row])
theorem fy_undo (ha : a < 201) : (yUndo M).2 a = M a := by
  unfold yUndo
  (repeat' split) <;> first | rfl | (dsimp only; simp (disch := omega) only [mS_row, rng_row])
theorem fy_say (ha : a < 201) (s : Int) : (ySay M s).2 a = M a := by
  unfold ySay
  (repeat' split) <;> first | rfl | (dsimp only; rw [sa_lo (by omega), re_row (by omega)])
theorem fy_buy (ha : a < 201) (p n : Int) : (yBuy M p n).2 a = M a := by
  unfold yBuy byM
  (repeat' split) <;> first | rfl | (dsimp only; rw [mS_row (by omega), mS_row (by omega), mS_row (by omega), re_row (by omega)])
theorem fy_let (ha : a < 201) (n : Int) : (yLet M n).2 a = M a := by
  unfold yLet
  (repeat' split) <;> first | rfl | (dsimp only; rw [mS_row (by omega), mS_row (by omega), re_row (by omega)])
theorem fy_price (ha : a < 201) (v : Int) : (yPrice M v).2 a = M a := by
  unfold yPrice
  (repeat' split) <;> first | rfl | (dsimp only; rw [mS_row (by omega), re_row (by omega)])
theorem ywk_lo (ha : a < 201) : ∀ (k : Nat) (M : xMem), ywk k M a = M a
  | 0, _ => rfl
  | k + 1, M => (ywk_lo ha k _).trans ((ps_lo (by omega)).trans (re_row (by omega)))
theorem fy_weeks (ha : a < 201) (n : Int) : (yWeeks M n).2 a = M a := by
  unfold yWeeks
  (repeat' split) <;> first | rfl | exact ywk_lo ha _ _
theorem ah_lo (ha : a < 201) : ∀ (k : Nat) (M : xMem), ahM k M a = M a
  | 0, _ => rfl
  | k + 1, M => (ah_lo ha k _).trans (ps_lo (by omega))
theorem fy_purse (ha : a < 201) (p n : Int) : (yPurse M p n).2 a = M a := by
  unfold yPurse
  (repeat' split) <;> first | rfl | exact (ah_lo ha _ _).trans (cn_row (by omega))
theorem fy_hill (ha : a < 201) (n : Int) : (yHill M n).2 a = M a := by
  unfold yHill
  (repeat' split) <;> first | rfl | exact (ah_lo ha _ _).trans (cn_row (by omega))
theorem fy_known (ha : a < 201) (s n : Int) : (yKnown M s n).2 a = M a := by
  unfold yKnown
  (repeat' split) <;> first | rfl | exact (ah_lo ha _ _).trans (cn_row (by omega))
theorem ay_lo {s : Int} (ha : a < 201) : ∀ (k : Nat) (n : Int) (M : xMem), (ayL s k n M).2 a = M a
  | 0, _, _ => rfl
  | k + 1, n, M => by
    unfold ayL
    split
    · rfl
    · exact (ay_lo ha k _ _).trans (ps_lo (by omega))
theorem fy_allKnow (ha : a < 201) (s : Int) : (yAllKnow M s).2 a = M a := by
  unfold yAllKnow
  (repeat' split) <;> first | rfl | exact (ay_lo ha _ _ _).trans (cn_row (by omega))
theorem yw_lo {s : Int} (ha : a < 201) : ∀ (k : Nat) (n : Int) (M : xMem), (ywL s k n M).2 a = M a
  | 0, _, _ => rfl
  | k + 1, n, M => by
    unfold ywL
    split
    · rfl
    · exact (yw_lo ha k _ _).trans (ps_lo (by omega))
theorem fy_when (ha : a < 201) (s : Int) : (yWhen M s).2 a = M a := by
  unfold yWhen
  (repeat' split) <;> first | rfl | exact (yw_lo ha _ _ _).trans (cn_row (by omega))
theorem saL_lo {set : Int} (ha : a < 201) : ∀ (k : Nat) (s b : Int) (M : xMem), (saL set k s b M).2 a = M a
  | 0, _, _, _ => rfl
  | k + 1, s, b, M => by
    unfold saL
    split
    · split
      · exact (saL_lo ha k _ _ _).trans (sa_lo (by omega))
      · rfl
    · exact saL_lo ha k _ _ _
theorem saT_lo (ha : a < 201) (set : Int) : (saT M set).2 a = M a := (saL_lo ha _ _ _ _).trans (cn_row (by omega))
theorem my_lo (ha : a < 201) : ∀ (k : Nat) (i : Int) (q : Int × Int × xMem), (foldI myF k i q).2.2 a = q.2.2 a
  | 0, _, _ => rfl
  | k + 1, i, q => by
    refine (my_lo ha k (i + 1) (myF i q)).trans ?_
    unfold myF
    split <;> exact saT_lo ha i
theorem fy_most (ha : a < 201) (w : Int) : (yMost M w).2 a = M a := by
  unfold yMost
  split
  · rfl
  · split
    · rfl
    · exact (saT_lo ha _).trans (my_lo ha _ _ _)
theorem woT_lo (ha : a < 201) (c m : Int) : (woT M c m).2 a = M a := by
  unfold woT
  split
  · exact (woL_row (by omega) _ _ _ _).trans ((cn_row (by omega)).trans (dg_row (by omega) _ _ _ _ _))
  · exact (cn_row (by omega)).trans (dg_row (by omega) _ _ _ _ _)
theorem yo_lo {m : Int} (ha : a < 201) : ∀ (k : Nat) (i : Int) (q : Int × Int × xMem), (foldI (yoF m) k i q).2.2 a = q.2.2 a
  | 0, _, _ => rfl
  | k + 1, i, q => by
    refine (yo_lo ha k (i + 1) (yoF m i q)).trans ?_
    unfold yoF
    split <;> exact woT_lo ha i m
theorem fy_order (ha : a < 201) (k : Int) : (yOrder M k).2 a = M a := by
  unfold yOrder
  split
  · rfl
  · split
    · rfl
    · split
      · exact yo_lo ha _ _ _
      · exact (woT_lo ha _ _).trans (yo_lo ha _ _ _)
theorem fy_thrift (ha : a < 201) (p w r i n : Int) : (yThrift M p w r i n).2 a = M a := by
  unfold yThrift mfn mfi
  split
  · rfl
  · split
    · exact mS_row (by omega)
    · split
      · exact mS_row (by omega)
      · split
        · exact mS_row (by omega)
        · exact (mS_row (by omega)).trans ((tyL_row (by omega) (by omega) _ _ _).trans (rng_row (by omega)))
theorem fy_who (ha : a < 201) (s w r i n : Int) : (yWho M s w r i n).2 a = M a := by
  unfold yWho mfn mfi
  (repeat' split) <;> first | rfl | exact mS_row (by omega)
theorem fy_priced (ha : a < 201) (r i q k n : Int) : (yPriced M r i q k n).2 a = M a := by
  unfold yPriced mfn mfi
  (repeat' split) <;> first | rfl | exact mS_row (by omega)
theorem dy_lo (ha : a < 201) : ∀ (k : Nat) (x : Int) (M : xMem), dyL k x M a = M a
  | 0, _, _ => rfl
  | k + 1, x, M => by
    refine (dy_lo ha k _ _).trans ?_
    rw [ps_lo (by omega)]
    split
    · exact sa_lo (by omega)
    · rfl
theorem fy_drawn (ha : a < 201) (n x w : Int) : (yDrawn M n x w).2 a = M a := by
  unfold yDrawn
  split
  · rfl
  · split
    · rfl
    · exact (dy_lo ha _ _ _).trans (cn_row (by omega))
theorem fy_image (ha : a < 201) (k : Int) : (yImage M k).2 a = M a := by
  unfold yImage
  (repeat' split) <;> first | rfl | (dsimp only; simp (disch := omega) only [mS_row, rng_row])
theorem fy_restore (ha : a < 201) (k : Int) : (yRestore M k).2 a = M a := by
  unfold yRestore
  (repeat' split) <;> first | rfl | (dsimp only; simp (disch := omega) only [mS_row, rng_row])
theorem fy_as (ha : a < 201) (s k : Int) : (yAs M s k).2 a = M a := by
  unfold yAs mfn mfi
  (repeat' split) <;> first | rfl | exact mS_row (by omega)
theorem fy_ask (ha : a < 201) (s w : Int) : (yAsk M s w).2 a = M a := by
  unfold yAsk
  split
  · rfl
  · exact (lvL_row (by omega) _ _).trans (mS_row (by omega))
end FY9
theorem duchy_f {A B : xMem} (h : Rl A B) : FX (mS A 149 3 0) (rdTape A).2 ∧ FY B (ryAll B).2 := by
  obtain ⟨t1, t2, t3, t4, t5, t6, t7, t8, t9⟩ := h.2.2.1
  have hz : Zt (mS A 149 3 0) B (advM (mS (mS (mS (mS (mS A 149 6 (A 149 3)) 149 3 0) 149 7 0) 151 6 0) 151 7 0)) (ryM0 B) := by
    unfold ryM0
    refine Zp.adv ⟨⟨fun a j q1 q2 => ?_, ?_, ?_, ?_, ?_⟩, FY_mS (by decide) (FY_mS (by decide) (FY_mS (by decide) ⟨fun _ _ _ _ _ => rfl, fun _ _ _ _ _ _ _ => rfl⟩)), RI_0 t2 t4, ⟨?_, ?_, fun j hj => ?_⟩, ?_, ?_, fun j hj => ?_, ?_⟩
    · simp (disch := omega) only [mS_ne]
    · simp (disch := decide) only [mS_ne]
    · simp (disch := decide) only [mS_ne]
    · simp (disch := decide) only [mS_ne]
    · simp (disch := decide) only [mS_ne, mS_eq]
    · simp (disch := decide) only [mS_ne]; omega
    · simp (disch := decide) only [mS_ne, mS_eq]; omega
    · simp (disch := omega) only [mS_ne]; exact t5 j hj
    · simp (disch := decide) only [mS_ne, mS_eq]; exact t1
    · simp (disch := decide) only [mS_ne, mS_eq]
    · simp (disch := decide) only [mS_ne, mS_eq] at hj ⊢
      exact t6 j hj
    · simp (disch := decide) only [mS_ne]
  have hor := all_or hz ⟨by rw [adv_lo (by decide), mS_ne (by decide), mS_eq], by rw [adv_lo (by decide), mS_eq]⟩
  have er : rdTape A = rdAll (advM (mS (mS (mS (mS (mS A 149 6 (A 149 3)) 149 3 0) 149 7 0) 151 6 0) 151 7 0)) := rfl
  rw [← er] at hor
  rcases hor with ⟨k1, k2, k3⟩ | ⟨k1, k2, k3⟩
  · exact ⟨k3.1.1.1, k3.1.1.2.1⟩
  · exact ⟨k3.1, k3.2.1⟩
theorem fx_duchy {A B : xMem} (h : Rl A B) {a j : Nat} (ha : 201 ≤ a) : (xDuchy A).2 a j = A a j := by
  obtain ⟨f1, -⟩ := duchy_f h
  have hx : (rdTape A).2 a j = A a j := (f1.1 a j (by omega) (by omega)).trans (mS_ne (Or.inl (by omega)))
  unfold xDuchy
  split
  · show mS (stCp (twCp (rdTape A).2 3 151) 9 157) 17 2 0 a j = _
    rw [mS_ne (Or.inl (by omega)), stCp_ne (by omega), twCp_ne (by omega)]
    exact hx
  · exact hx
theorem fy_duchy {A B : xMem} (h : Rl A B) {a : Nat} (ha : a < 201) : (yDuchy B).2 a = B a := by
  obtain ⟨-, f2⟩ := duchy_f h
  have hy : (ryAll B).2 a = B a := f2.1 a (by omega) (by omega) (by omega) (by omega)
  unfold yDuchy yNew
  split
  · dsimp only
    simp (disch := omega) only [mS_row, rng_row]
    exact hy
  · dsimp only
    simp (disch := omega) only [mS_row]
    exact hy
end FRM
