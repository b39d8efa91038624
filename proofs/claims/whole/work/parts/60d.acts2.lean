section RLD2
/-- a stand changed in single fields -/
theorem GI_f {T S S' : xMem} {w : Int} (g : GI T S w) (h1 : S' 1 = S 1) (h2 : S' 2 = S 2) (h3 : S' 3 = S 3) (h4 : S' 0 4 = S 0 4) (h5 : 0 ≤ S' 0 5 ∧ S' 0 5 ≤ 99) (h6 : 0 ≤ S' 0 6 ∧ S' 0 6 ≤ 999) (h7 : 1 ≤ S' 0 7 ∧ S' 0 7 ≤ 9) (h8 : S' 0 8 = S 0 8) : GI T S' w := by
  obtain ⟨⟨s1, s2, s3, s4, s5, s6, s7⟩, hK, hw⟩ := g
  refine ⟨⟨by rw [h4]; exact s1, h5, h6, h7, by rw [h8]; exact s5, fun i hi => by rw [h1, h2]; exact s6 i hi, fun s hs => by rw [h3]; exact s7 s hs⟩, fun s hs => by rw [h3, h8]; exact hK s hs, by rw [h4, h8]; exact hw⟩
theorem SA_f {T S R S' R' : xMem} (h : SA T S R) (h1 : S' 1 = S 1) (h2 : S' 2 = S 2) (h3 : S' 3 = S 3) (k1 : R' 1 = R 1) (k2 : R' 2 = R 2) (k3 : R' 3 = R 3) (e4 : S' 0 4 = R' 0 4) (e5 : S' 0 5 = R' 0 5) (e6 : S' 0 6 = R' 0 6) (e7 : S' 0 7 = R' 0 7) (e8 : S' 0 8 = R' 0 8) : SA T S' R' :=
  ⟨⟨e4, e5, e6, e7, e8⟩, fun i hi => by rw [h1, h2, k1, k2]; exact h.2.1 i hi, fun s hs => by rw [h3, k3]; exact h.2.2 s hs⟩
theorem sv_rows {M N : xMem} {k : Nat} (h : ∀ a j, k < a → a < k + 4 → N a j = M a j) : sv N k 1 = sv M k 1 ∧ sv N k 2 = sv M k 2 ∧ sv N k 3 = sv M k 3 :=
  ⟨funext fun j => h _ _ (by omega) (by omega), funext fun j => h _ _ (by omega) (by omega), funext fun j => h _ _ (by omega) (by omega)⟩
theorem sk_rows {f g : Nat → Int} (h : ∀ j, 5 ≤ j → f j = g j) : sk f 1 = sk g 1 ∧ sk f 2 = sk g 2 ∧ sk f 3 = sk g 3 :=
  ⟨funext fun j => h _ (by omega), funext fun j => h _ (by omega), funext fun j => h _ (by omega)⟩
theorem st_let {A B : xMem} (h : Rl A B) (n : Int) : (xLet A n).1 = (yLet B n).1 ∧ Rl (xLet A n).2 (yLet B n).2 := by
  unfold xLet yLet
  rcases h.cases with ⟨a1, a2, a3, a4, a5⟩ | ⟨d1, hT, hG, ht, hs, hNN, hn, hb1, hb2⟩
  · rw [if_pos a1, if_pos a3]; exact ⟨rfl, h⟩
  · have e5 : A 9 5 = B 210 1 := hs.1.2.1
    have e6 : A 9 6 = B 210 2 := hs.1.2.2.1
    rw [if_neg (show ¬ A 3 6 = 0 by omega), if_neg (show ¬ B 201 16 = 0 by omega), ← e5, ← e6]
    by_cases g1 : 1 ≤ n ∧ n ≤ 99
    · rw [if_neg (not_not_intro g1), if_neg (not_not_intro g1)]
      by_cases g2 : A 9 6 < n ∨ 99 < A 9 5 + n
      · rw [if_pos g2, if_pos g2]; exact ⟨rfl, h⟩
      · rw [if_neg g2, if_neg g2]
        refine ⟨rfl, ?_⟩
        dsimp only
        have k9 : ∀ a j, a < 17 → kpM A a j = A a j := fun a j q => kp_lo q
        have e10 : ∀ j, reM B 210 j = B 210 j := fun j => by rw [re_row (by decide)]
        have hl : 0 ≤ A 9 5 ∧ A 9 5 ≤ 99 := hG.1.2.1
        have hh : 0 ≤ A 9 6 ∧ A 9 6 ≤ 999 := hG.1.2.2.1
        have c0 : ∀ j, mS (mS (kpM A) 9 6 (A 9 6 - n)) 9 5 (A 9 5 + n) 9 j = if j = 5 then A 9 5 + n else if j = 6 then A 9 6 - n else A 9 j := fun j => by
          by_cases q : j = 5
          · subst q; rw [if_pos rfl, mS_eq]
          · rw [if_neg q, mS_ne (Or.inr q)]
            by_cases q2 : j = 6
            · subst q2; rw [if_pos rfl, mS_eq]
            · rw [if_neg q2, mS_ne (Or.inr q2), k9 9 j (by decide)]
        have d0 : ∀ j, mS (mS (reM B) 210 2 (A 9 6 - n)) 210 1 (A 9 5 + n) 210 j = if j = 1 then A 9 5 + n else if j = 2 then A 9 6 - n else B 210 j := fun j => by
          by_cases q : j = 1
          · subst q; rw [if_pos rfl, mS_eq]
          · rw [if_neg q, mS_ne (Or.inr q)]
            by_cases q2 : j = 2
            · subst q2; rw [if_pos rfl, mS_eq]
            · rw [if_neg q2, mS_ne (Or.inr q2), e10]
        obtain ⟨r1, r2, r3⟩ := sv_rows (M := A) (N := mS (mS (kpM A) 9 6 (A 9 6 - n)) 9 5 (A 9 5 + n)) (k := 9) fun a j q1 q2 => by rw [mS_ne (Or.inl (by omega)), mS_ne (Or.inl (by omega)), k9 a j (by omega)]
        obtain ⟨t1, t2, t3⟩ := sk_rows (f := mS (mS (reM B) 210 2 (A 9 6 - n)) 210 1 (A 9 5 + n) 210) (g := B 210) fun j hj => by rw [d0, if_neg (by omega), if_neg (by omega)]
        refine Rl.did h hT hG ht hs hNN d1 (fun a j q => by rw [mS_ne (Or.inl (by omega)), mS_ne (Or.inl (by omega))]) (fun a q => by rw [mS_row q, mS_row q]) (GI_f hG r1 r2 r3 ?_ ?_ ?_ ?_ ?_) (SA_f hs r1 r2 r3 t1 t2 t3 ?_ ?_ ?_ ?_ ?_)
        · rw [sv_at0, c0]; rfl
        · rw [sv_at0, c0, if_pos rfl]; omega
        · rw [sv_at0, c0, if_neg (by decide), if_pos rfl]; omega
        · rw [sv_at0, c0]; exact hG.1.2.2.2.1
        · rw [sv_at0, c0]; rfl
        · rw [sv_at0, c0]; exact hs.1.1.trans (d0 0).symm
        · rw [sv_at0, c0]; exact (d0 1).symm
        · rw [sv_at0, c0]; exact (d0 2).symm
        · rw [sv_at0, c0]; exact hs.1.2.2.2.1.trans (d0 3).symm
        · rw [sv_at0, c0]; exact hs.1.2.2.2.2.trans (d0 4).symm
    · rw [if_pos g1, if_pos g1]; exact ⟨rfl, h⟩
theorem st_price {A B : xMem} (h : Rl A B) (v : Int) : (xPrice A v).1 = (yPrice B v).1 ∧ Rl (xPrice A v).2 (yPrice B v).2 := by
  unfold xPrice yPrice
  rcases h.cases with ⟨a1, a2, a3, a4, a5⟩ | ⟨d1, hT, hG, ht, hs, hNN, hn, hb1, hb2⟩
  · rw [if_pos a1, if_pos a3]; exact ⟨rfl, h⟩
  · rw [if_neg (show ¬ A 3 6 = 0 by omega), if_neg (show ¬ B 201 16 = 0 by omega)]
    by_cases g1 : 1 ≤ v ∧ v ≤ 9
    · rw [if_neg (not_not_intro g1), if_neg (not_not_intro g1)]
      refine ⟨hs.1.2.2.2.1, ?_⟩
      dsimp only
      have k9 : ∀ a j, a < 17 → kpM A a j = A a j := fun a j q => kp_lo q
      have e10 : ∀ j, reM B 210 j = B 210 j := fun j => by rw [re_row (by decide)]
      have c0 : ∀ j, mS (kpM A) 9 7 v 9 j = if j = 7 then v else A 9 j := fun j => by
        by_cases q : j = 7
        · subst q; rw [if_pos rfl, mS_eq]
        · rw [if_neg q, mS_ne (Or.inr q), k9 9 j (by decide)]
      have d0 : ∀ j, mS (reM B) 210 3 v 210 j = if j = 3 then v else B 210 j := fun j => by
        by_cases q : j = 3
        · subst q; rw [if_pos rfl, mS_eq]
        · rw [if_neg q, mS_ne (Or.inr q), e10]
      obtain ⟨r1, r2, r3⟩ := sv_rows (M := A) (N := mS (kpM A) 9 7 v) (k := 9) fun a j q1 q2 => by rw [mS_ne (Or.inl (by omega)), k9 a j (by omega)]
      obtain ⟨t1, t2, t3⟩ := sk_rows (f := mS (reM B) 210 3 v 210) (g := B 210) fun j hj => by rw [d0, if_neg (by omega)]
      refine Rl.did h hT hG ht hs hNN d1 (fun a j q => by rw [mS_ne (Or.inl (by omega))]) (fun a q => by rw [mS_row q]) (GI_f hG r1 r2 r3 ?_ ?_ ?_ ?_ ?_) (SA_f hs r1 r2 r3 t1 t2 t3 ?_ ?_ ?_ ?_ ?_)
      · rw [sv_at0, c0]; rfl
      · rw [sv_at0, c0]; exact hG.1.2.1
      · rw [sv_at0, c0]; exact hG.1.2.2.1
      · rw [sv_at0, c0, if_pos rfl]; exact g1
      · rw [sv_at0, c0]; rfl
      · rw [sv_at0, c0]; exact hs.1.1.trans (d0 0).symm
      · rw [sv_at0, c0]; exact hs.1.2.1.trans (d0 1).symm
      · rw [sv_at0, c0]; exact hs.1.2.2.1.trans (d0 2).symm
      · rw [sv_at0, c0]; exact (d0 3).symm
      · rw [sv_at0, c0]; exact hs.1.2.2.2.2.trans (d0 4).symm
    · rw [if_pos g1, if_pos g1]; exact ⟨rfl, h⟩
theorem st_undo {A B : xMem} (h : Rl A B) : (xUndo A).1 = (yUndo B).1 ∧ Rl (xUndo A).2 (yUndo B).2 := by
  obtain ⟨p1, p2, p3, p4, p5, p6⟩ := h.2.2.2.2.1
  unfold xUndo yUndo
  rw [← p4]
  by_cases g : A 17 2 = 0
  · rw [if_pos g, if_pos g]; exact ⟨rfl, h⟩
  · rw [if_neg g, if_neg g]
    refine ⟨rfl, ?_⟩
    dsimp only
    rcases h.cases with ⟨a1, a2, a3, a4, a5⟩ | ⟨d1, hT, hG, ht, hs, hNN, hn, hb1, hb2⟩
    · exact absurd (p5 a1) g
    · obtain ⟨q1, q2⟩ := p6 1 (by omega)
      have hg : gbN A = (A 17 1 - 1) % 24 := by unfold gbN; split <;> omega
      have hi : (B 201 21 + 24 - 1) % 24 = (A 17 1 - 1) % 24 := by omega
      have hx0 : 0 ≤ (A 17 1 - 1) % 24 := Int.emod_nonneg _ (by decide)
      have hx1 : (A 17 1 - 1) % 24 < 24 := Int.emod_lt_of_pos _ (by decide)
      have hnx : ∀ d, (A 17 1 - (d + 1)) % 24 = ((A 17 1 - 1) % 24 - d) % 24 := fun d => by omega
      unfold gbM
      rw [if_neg g, hg, hi]
      generalize hx : (A 17 1 - 1) % 24 = x at *
      have eA : ∀ a j, a < 9 ∨ 13 ≤ a → a ≠ 17 → stCp (mS (mS A 17 1 x) 17 2 (A 17 2 - 1)) 9 (19 + 4 * x.toNat) a j = A a j := fun a j z1 z2 => by rw [stCp_ne (by omega), mS_ne (Or.inl z2), mS_ne (Or.inl z2)]
      have eA1 : stCp (mS (mS A 17 1 x) 17 2 (A 17 2 - 1)) 9 (19 + 4 * x.toNat) 17 1 = x := by rw [stCp_ne (by omega), mS_ne (Or.inr (by decide)), mS_eq]
      have eA2 : stCp (mS (mS A 17 1 x) 17 2 (A 17 2 - 1)) 9 (19 + 4 * x.toNat) 17 2 = A 17 2 - 1 := by rw [stCp_ne (by omega), mS_eq]
      have eB : ∀ a, a ≠ 201 → a ≠ 210 → rngM (mS (mS B 201 21 x) 201 20 (A 17 2 - 1)) 210 0 (fun j => B 212 (21 * x + j).toNat) 21 a = B a := fun a z1 z2 => by funext j; rw [rng_ne z2, mS_ne (Or.inl z1), mS_ne (Or.inl z1)]
      have eB1 : ∀ j, j ≠ 20 → j ≠ 21 → rngM (mS (mS B 201 21 x) 201 20 (A 17 2 - 1)) 210 0 (fun j => B 212 (21 * x + j).toNat) 21 201 j = B 201 j := fun j z1 z2 => by rw [rng_ne (by decide), mS_ne (Or.inr z1), mS_ne (Or.inr z2)]
      have etw : tw (stCp (mS (mS A 17 1 x) 17 2 (A 17 2 - 1)) 9 (19 + 4 * x.toNat)) = tw A := tw_eq fun a j z1 z2 => eA a j (by omega) (by omega)
      have esv : SA (tw A) (sv (stCp (mS (mS A 17 1 x) 17 2 (A 17 2 - 1)) 9 (19 + 4 * x.toNat)) 9) (sv A (19 + 4 * x.toNat)) := by
        have z := SA_cp (M := mS (mS A 17 1 x) 17 2 (A 17 2 - 1)) (k := 9) (j := 19 + 4 * x.toNat) hT (by omega)
        rw [sv_mS (a := 19 + 4 * x.toNat) (Or.inr (by omega)), sv_mS (a := 19 + 4 * x.toNat) (Or.inr (by omega))] at z
        exact z
      refine Rl.act h (fun a j z => eA a j (by omega) (by omega)) (fun a z1 z2 z3 z4 z5 => eB a (by omega) z3) (fun j z1 z2 z3 => eB1 j z2 z3) (fun z => (eB1 16 (by decide) (by decide)).trans z) (Or.inr ⟨?_, ?_, ?_, ?_, ?_, ?_⟩) ⟨?_, ?_, ?_, ?_, ?_, ?_⟩
      · rw [eB1 16 (by decide) (by decide)]; exact d1
      · rw [etw]; exact hT
      · rw [etw]; exact GI_SA esv q1
      · rw [etw, eB 209 (by decide) (by decide)]; exact ht
      · rw [etw]
        refine esv.trans (q2.trans (sk_eq hT fun j hj => ?_))
        rw [rng_in (by omega)]
        rfl
      · rw [eB 209 (by decide) (by decide)]; exact hNN
      · rw [eA1]; omega
      · rw [eA2]; omega
      · rw [eA1, rng_ne (by decide), mS_ne (Or.inr (by decide)), mS_eq]
      · rw [eA2, rng_ne (by decide), mS_eq]
      · intro z
        rw [eA 3 6 (by decide) (by decide)] at z
        omega
      · intro d hd
        rw [eA2] at hd
        rw [eA1, etw, eB 212 (by decide) (by decide), ← hnx d]
        have z := p6 (d + 1) (by omega)
        have w0 : 0 ≤ (A 17 1 - (d + 1)) % 24 := Int.emod_nonneg _ (by decide)
        have w1 : (A 17 1 - (d + 1)) % 24 < 24 := Int.emod_lt_of_pos _ (by decide)
        rw [sv_eq (M := A) (k := 19 + 4 * ((A 17 1 - (d + 1)) % 24).toNat) fun a j z1 z2 => eA a j (by omega) (by omega)]
        exact z
/-! images -/
theorem twCp_at {M : xMem} {k j : Nat} (h : j + 6 ≤ k ∨ k + 6 ≤ j) : (∀ f, 5 ≤ f → f ≤ 7 → twCp M k j k f = M j f) ∧ (∀ i, i < 5 → twCp M k j (k + 1) i = M (j + 1) i) ∧ (∀ i, i < 6 → twCp M k j (k + 2) i = M (j + 2) i) ∧ (∀ i, i < 6 → twCp M k j (k + 3) i = M (j + 3) i) ∧ (∀ i, i < 6 → twCp M k j (k + 4) i = M (j + 4) i) ∧ (∀ i, i < 6 → twCp M k j (k + 5) i = M (j + 5) i) := by
  have cin : ∀ (N : xMem) (c d n i : Nat), i < n → mCp N c d 0 0 n c i = N d i := fun N c d n i hi => by unfold mCp; rw [if_pos ⟨rfl, by omega, by omega⟩, show 0 + (i - 0) = i by omega]
  have cne : ∀ (N : xMem) (c d n a i : Nat), a ≠ c → mCp N c d 0 0 n a i = N a i := fun N c d n a i hi => by unfold mCp; rw [if_neg (fun q => hi q.1)]
  refine ⟨fun f h5 h7 => ?_, fun i hi => ?_, fun i hi => ?_, fun i hi => ?_, fun i hi => ?_, fun i hi => ?_⟩
  · unfold twCp
    rw [cne _ _ _ _ _ _ (by omega), cne _ _ _ _ _ _ (by omega), cne _ _ _ _ _ _ (by omega), cne _ _ _ _ _ _ (by omega), cne _ _ _ _ _ _ (by omega)]
    rcases (show f = 5 ∨ f = 6 ∨ f = 7 by omega) with rfl | rfl | rfl <;> simp (disch := omega) only [mS_ne, mS_eq]
  · unfold twCp
    rw [cne _ _ _ _ _ _ (by omega), cne _ _ _ _ _ _ (by omega), cne _ _ _ _ _ _ (by omega), cne _ _ _ _ _ _ (by omega), cin _ _ _ _ _ hi]
    simp (disch := omega) only [mS_ne]
  · unfold twCp
    rw [cne _ _ _ _ _ _ (by omega), cne _ _ _ _ _ _ (by omega), cne _ _ _ _ _ _ (by omega), cin _ _ _ _ _ hi, cne _ _ _ _ _ _ (by omega)]
    simp (disch := omega) only [mS_ne]
  · unfold twCp
    rw [cne _ _ _ _ _ _ (by omega), cne _ _ _ _ _ _ (by omega), cin _ _ _ _ _ hi, cne _ _ _ _ _ _ (by omega), cne _ _ _ _ _ _ (by omega)]
    simp (disch := omega) only [mS_ne]
  · unfold twCp
    rw [cne _ _ _ _ _ _ (by omega), cin _ _ _ _ _ hi, cne _ _ _ _ _ _ (by omega), cne _ _ _ _ _ _ (by omega), cne _ _ _ _ _ _ (by omega)]
    simp (disch := omega) only [mS_ne]
  · unfold twCp
    rw [cin _ _ _ _ _ hi, cne _ _ _ _ _ _ (by omega), cne _ _ _ _ _ _ (by omega), cne _ _ _ _ _ _ (by omega), cne _ _ _ _ _ _ (by omega)]
    simp (disch := omega) only [mS_ne]
theorem TA_cp {M : xMem} {k j : Nat} (h : j + 6 ≤ k ∨ k + 6 ≤ j) (hT : TI (twk M j)) : TA (twk M j) (twk (twCp M k j) k) := by
  obtain ⟨c0, c1, c2, c3, c4, c5⟩ := twCp_at (M := M) h
  have hn : 1 ≤ twk M j 0 6 ∧ twk M j 0 6 ≤ 5 := hT.1
  have hN : 1 ≤ twk M j 0 7 ∧ twk M j 0 7 ≤ 6 := hT.2.1
  exact ⟨(c0 5 (by decide) (by decide)).symm, (c0 6 (by decide) (by decide)).symm, (c0 7 (by decide) (by decide)).symm, fun i hi => (c1 _ (by omega)).symm, fun s hs => ⟨(c2 _ (by omega)).symm, (c3 _ (by omega)).symm, (c4 _ (by omega)).symm, (c5 _ (by omega)).symm⟩⟩
theorem TA.trans {T U V : xMem} (h : TA T U) (k : TA U V) : TA T V := ⟨h.1.trans k.1, h.2.1.trans k.2.1, h.2.2.1.trans k.2.2.1, fun i hi => (h.2.2.2.1 i hi).trans (k.2.2.2.1 i (by rw [← h.2.1]; exact hi)), fun s hs => by
  obtain ⟨c1, c2, c3, c4⟩ := h.2.2.2.2 s hs
  obtain ⟨e1, e2, e3, e4⟩ := k.2.2.2.2 s (by rw [← h.2.2.1]; exact hs)
  exact ⟨c1.trans e1, c2.trans e2, c3.trans e3, c4.trans e4⟩⟩
theorem tg_eq {f g : Nat → Int} {T : xMem} (hT : TI T) (ht : TA T (tg f)) (h : ∀ j : Nat, j < 32 → g j = f j) : TA T (tg g) := by
  have hn := hT.1
  have hN := hT.2.1
  obtain ⟨a1, a2, a3, a4, a5⟩ := ht
  refine ⟨a1.trans (h 2 (by decide)).symm, a2.trans (h 0 (by decide)).symm, a3.trans (h 1 (by decide)).symm, fun i hi => (a4 i hi).trans (h _ (by omega)).symm, fun s hs => ?_⟩
  obtain ⟨c1, c2, c3, c4⟩ := a5 s hs
  refine ⟨c1.trans (h _ (by omega)).symm, c2.trans (h _ (by omega)).symm, c3.trans (h _ (by omega)).symm, c4.trans ?_⟩
  show (if f (26 + s.toNat) = -1000000 then (s.toNat : Int) else f (26 + s.toNat)) = if g (26 + s.toNat) = -1000000 then (s.toNat : Int) else g (26 + s.toNat)
  rw [h _ (by omega)]
theorem NN_eq {f g : Nat → Int} {T : xMem} (hT : TI T) (ht : TA T (tg f)) (h : ∀ j : Nat, j < 32 → g j = f j) (hn : NN f) : NN g := fun s hs => by
  have hN := hT.2.1
  have e : T 0 7 = f 1 := ht.2.2.1
  rw [h 1 (by decide)] at hs
  rw [h _ (by omega)]
  exact hn s hs
theorem st_image {A B : xMem} (h : Rl A B) (k : Int) : (xImage A k).1 = (yImage B k).1 ∧ Rl (xImage A k).2 (yImage B k).2 := by
  unfold xImage yImage
  by_cases g1 : 0 ≤ k ∧ k ≤ 1
  · rw [if_neg (not_not_intro g1), if_neg (not_not_intro g1)]
    rcases h.cases with ⟨a1, a2, a3, a4, a5⟩ | ⟨d1, hT, hG, ht, hs, hNN, hn, hb1, hb2⟩
    · rw [if_pos a1, if_pos a3]; exact ⟨rfl, h⟩
    · rw [if_neg (show ¬ A 3 6 = 0 by omega), if_neg (show ¬ B 201 16 = 0 by omega)]
      refine ⟨rfl, ?_⟩
      dsimp only
      obtain ⟨h1, h2, h3, h4, h5, h6, h7⟩ := h
      have eA : ∀ a j, a < 179 + 11 * k.toNat ∨ 179 + 11 * k.toNat + 11 ≤ a → mS (stCp (twCp A (179 + 11 * k.toNat + 1) 3) (179 + 11 * k.toNat + 7) 9) (179 + 11 * k.toNat) 2 1 a j = A a j := fun a j z => by rw [mS_ne (Or.inl (by omega)), stCp_ne (by omega), twCp_ne (by omega)]
      have eB : ∀ a, a ≠ 216 → a ≠ 217 → a ≠ 218 → rngM (rngM (mS B 216 k.toNat 1) 217 (32 * k) (B 209) 32) 218 (21 * k) (B 210) 21 a = B a := fun a z1 z2 z3 => by funext j; rw [rng_ne z3, rng_ne z2, mS_ne (Or.inl z1)]
      refine ⟨h1.cg (fun a j q1 q2 => eA a j (by omega)) (fun a j q1 q2 => by rw [eB a (by omega) (by omega) (by omega)]), by unfold RlS; rw [eA 0 10 (by omega), eB 201 (by decide) (by decide) (by decide)]; exact h2,
        h3.cg (fun a j q1 q2 => eA a j (by omega)) (by rw [eB 201 (by decide) (by decide) (by decide)]) (by rw [eB 201 (by decide) (by decide) (by decide)]) (fun j => by rw [eB 205 (by decide) (by decide) (by decide)]),
        h4.cg (fun a j q1 q2 => eA a j (by omega)) (by rw [eB 201 (by decide) (by decide) (by decide)]) (eB 209 (by decide) (by decide) (by decide)) (eB 210 (by decide) (by decide) (by decide)),
        h5.cg (fun a j q1 q2 => eA a j (by omega)) (fun a j q1 q2 => eA a j (by omega)) (by rw [eB 201 (by decide) (by decide) (by decide)]) (by rw [eB 201 (by decide) (by decide) (by decide)]) (eB 212 (by decide) (by decide) (by decide)), fun i hi => ?_,
        h7.cg (fun a j q1 q2 => eA a j (by omega)) (by rw [eB 201 (by decide) (by decide) (by decide)]) (eB 219 (by decide) (by decide) (by decide))⟩
      by_cases e : i = k.toNat
      · subst e
        have c1 : mS (stCp (twCp A (179 + 11 * k.toNat + 1) 3) (179 + 11 * k.toNat + 7) 9) (179 + 11 * k.toNat) 2 1 (179 + 11 * k.toNat) 2 = 1 := mS_eq
        have etw : TA (tw A) (twk (mS (stCp (twCp A (179 + 11 * k.toNat + 1) 3) (179 + 11 * k.toNat + 7) 9) (179 + 11 * k.toNat) 2 1) (180 + 11 * k.toNat)) := by
          have z := TA_cp (M := A) (k := 180 + 11 * k.toNat) (j := 3) (by omega) (by rw [← tw_twk]; exact hT)
          rw [← tw_twk] at z
          rw [twk_eq (M := twCp A (180 + 11 * k.toNat) 3) fun a j z1 z2 => by rw [mS_ne (Or.inl (by omega)), stCp_ne (by omega), show 179 + 11 * k.toNat + 1 = 180 + 11 * k.toNat by omega]]
          exact z
        have esv : SA (tw A) (sv (mS (stCp (twCp A (179 + 11 * k.toNat + 1) 3) (179 + 11 * k.toNat + 7) 9) (179 + 11 * k.toNat) 2 1) (186 + 11 * k.toNat)) (sv A 9) := by
          have z := SA_cp (M := twCp A (179 + 11 * k.toNat + 1) 3) (k := 179 + 11 * k.toNat + 7) (j := 9) hT (by omega)
          rw [sv_eq (M := A) (k := 9) fun a j z1 z2 => twCp_ne (by omega), show 179 + 11 * k.toNat + 7 = 186 + 11 * k.toNat by omega] at z
          rw [sv_eq (M := stCp (twCp A (179 + 11 * k.toNat + 1) 3) (186 + 11 * k.toNat) 9) fun a j z1 z2 => by rw [mS_ne (Or.inl (by omega)), show 179 + 11 * k.toNat + 7 = 186 + 11 * k.toNat by omega]]
          exact z
        have b9 : ∀ j : Nat, j < 32 → rngM (rngM (mS B 216 k.toNat 1) 217 (32 * k) (B 209) 32) 218 (21 * k) (B 210) 21 217 (32 * k.toNat + j) = B 209 j := fun j hj => by
          rw [rng_ne (by decide), rng_in (by omega), show 32 * k.toNat + j - (32 * k).toNat = j by omega]
        have b10 : ∀ j : Nat, j < 21 → rngM (rngM (mS B 216 k.toNat 1) 217 (32 * k) (B 209) 32) 218 (21 * k) (B 210) 21 218 (21 * k.toNat + j) = B 210 j := fun j hj => by
          rw [rng_in (by omega), show 21 * k.toNat + j - (21 * k).toNat = j by omega]
        rw [c1]
        refine ⟨Or.inr rfl, by rw [rng_ne (by decide), rng_ne (by decide), mS_eq], fun _ => ⟨by rw [eB 201 (by decide) (by decide) (by decide)]; exact d1, etw.TI hT, GI_ta etw esv.symm hG, etw.symm.trans (tg_eq hT ht b9), SA_ta etw (esv.trans (hs.trans (sk_eq hT fun j hj => (b10 j hj).symm))), NN_eq hT ht b9 hNN⟩⟩
      · obtain ⟨k1, k2, k3⟩ := h6 i hi
        rw [eA (179 + 11 * i) 2 (by omega), rng_ne (by decide), rng_ne (by decide), mS_ne (Or.inr e), twk_eq (M := A) (k := 180 + 11 * i) fun a j z1 z2 => eA a j (by omega), sv_eq (M := A) (k := 186 + 11 * i) fun a j z1 z2 => eA a j (by omega)]
        refine ⟨k1, k2, fun z => ?_⟩
        obtain ⟨m0, m1, m2, m3, m4, m5⟩ := k3 z
        have b9 : ∀ j : Nat, j < 32 → rngM (rngM (mS B 216 k.toNat 1) 217 (32 * k) (B 209) 32) 218 (21 * k) (B 210) 21 217 (32 * i + j) = B 217 (32 * i + j) := fun j hj => by
          rw [rng_ne (by decide), rng_out (by omega), mS_ne (Or.inl (by decide))]
        have b10 : ∀ j : Nat, j < 21 → rngM (rngM (mS B 216 k.toNat 1) 217 (32 * k) (B 209) 32) 218 (21 * k) (B 210) 21 218 (21 * i + j) = B 218 (21 * i + j) := fun j hj => by
          rw [rng_out (by omega), rng_ne (by decide), mS_ne (Or.inl (by decide))]
        exact ⟨by rw [eB 201 (by decide) (by decide) (by decide)]; exact m0, m1, m2, tg_eq m1 m3 b9, m4.trans (sk_eq m1 fun j hj => (b10 j hj).symm), NN_eq m1 m3 b9 m5⟩
  · rw [if_pos g1, if_pos g1]; exact ⟨rfl, h⟩
theorem st_restore {A B : xMem} (h : Rl A B) (k : Int) : (xRestore A k).1 = (yRestore B k).1 ∧ Rl (xRestore A k).2 (yRestore B k).2 := by
  unfold xRestore yRestore
  by_cases g1 : 0 ≤ k ∧ k ≤ 1
  · rw [if_neg (not_not_intro g1), if_neg (not_not_intro g1)]
    obtain ⟨k1, k2, k3⟩ := h.2.2.2.2.2.1 k.toNat (by omega)
    rw [k2]
    by_cases g2 : A (179 + 11 * k.toNat) 2 = 0
    · rw [if_pos g2, if_pos g2]; exact ⟨rfl, h⟩
    · rw [if_neg g2, if_neg g2]
      refine ⟨rfl, ?_⟩
      dsimp only
      obtain ⟨hd16, m1, m2, m3, m4, m5⟩ := k3 (by omega)
      obtain ⟨p1, p2, p3, p4, p5, p6⟩ := h.2.2.2.2.1
      have eA : ∀ a j, a < 3 ∨ 13 ≤ a → a ≠ 17 → mS (stCp (twCp A 3 (179 + 11 * k.toNat + 1)) 9 (179 + 11 * k.toNat + 7)) 17 2 0 a j = A a j := fun a j z1 z2 => by rw [mS_ne (Or.inl z2), stCp_ne (by omega), twCp_ne (by omega)]
      have eA1 : mS (stCp (twCp A 3 (179 + 11 * k.toNat + 1)) 9 (179 + 11 * k.toNat + 7)) 17 2 0 17 1 = A 17 1 := by rw [mS_ne (Or.inr (by decide)), stCp_ne (by omega), twCp_ne (by omega)]
      have eB : ∀ a, a ≠ 201 → a ≠ 209 → a ≠ 210 → rngM (rngM (mS B 201 20 0) 209 0 (fun j => B 217 (32 * k + j).toNat) 32) 210 0 (fun j => B 218 (21 * k + j).toNat) 21 a = B a := fun a z1 z2 z3 => by funext j; rw [rng_ne z3, rng_ne z2, mS_ne (Or.inl z1)]
      have eB1 : ∀ j, j ≠ 20 → rngM (rngM (mS B 201 20 0) 209 0 (fun j => B 217 (32 * k + j).toNat) 32) 210 0 (fun j => B 218 (21 * k + j).toNat) 21 201 j = B 201 j := fun j z1 => by rw [rng_ne (by decide), rng_ne (by decide), mS_ne (Or.inr z1)]
      have etw : TA (twk A (180 + 11 * k.toNat)) (tw (mS (stCp (twCp A 3 (179 + 11 * k.toNat + 1)) 9 (179 + 11 * k.toNat + 7)) 17 2 0)) := by
        have z := TA_cp (M := A) (k := 3) (j := 180 + 11 * k.toNat) (by omega) m1
        rw [tw_twk, twk_eq (M := twCp A 3 (180 + 11 * k.toNat)) (k := 3) fun a j z1 z2 => by rw [mS_ne (Or.inl (by omega)), stCp_ne (by omega), show 179 + 11 * k.toNat + 1 = 180 + 11 * k.toNat by omega]]
        exact z
      have esv : SA (twk A (180 + 11 * k.toNat)) (sv (mS (stCp (twCp A 3 (179 + 11 * k.toNat + 1)) 9 (179 + 11 * k.toNat + 7)) 17 2 0) 9) (sv A (186 + 11 * k.toNat)) := by
        have z := SA_cp (M := twCp A 3 (179 + 11 * k.toNat + 1)) (k := 9) (j := 179 + 11 * k.toNat + 7) m1 (by omega)
        rw [show 179 + 11 * k.toNat + 7 = 186 + 11 * k.toNat by omega, sv_eq (M := A) (k := 186 + 11 * k.toNat) fun a j z1 z2 => twCp_ne (by omega)] at z
        rw [sv_mS (Or.inl (by decide)), show 179 + 11 * k.toNat + 7 = 186 + 11 * k.toNat by omega]
        exact z
      have b9 : ∀ j : Nat, j < 32 → rngM (rngM (mS B 201 20 0) 209 0 (fun j => B 217 (32 * k + j).toNat) 32) 210 0 (fun j => B 218 (21 * k + j).toNat) 21 209 j = B 217 (32 * k.toNat + j) := fun j hj => by
        rw [rng_ne (by decide), rng_in (by omega)]
        show B 217 (32 * k + ((j - (0 : Int).toNat : Nat) : Int)).toNat = _
        congr 1
        omega
      have b10 : ∀ j : Nat, j < 21 → rngM (rngM (mS B 201 20 0) 209 0 (fun j => B 217 (32 * k + j).toNat) 32) 210 0 (fun j => B 218 (21 * k + j).toNat) 21 210 j = B 218 (21 * k.toNat + j) := fun j hj => by
        rw [rng_in (by omega)]
        show B 218 (21 * k + ((j - (0 : Int).toNat : Nat) : Int)).toNat = _
        congr 1
        omega
      refine Rl.act h (fun a j z => eA a j (by omega) (by omega)) (fun a z1 z2 z3 z4 z5 => eB a (by omega) z2 z3) (fun j z1 z2 z3 => eB1 j z2) (fun z => (eB1 16 (by decide)).trans z) (Or.inr ⟨?_, ?_, ?_, ?_, ?_, ?_⟩) ⟨?_, ?_, ?_, ?_, ?_, ?_⟩
      · rw [eB1 16 (by decide)]; exact hd16
      · exact etw.TI m1
      · exact GI_ta etw esv.symm m2
      · exact etw.symm.trans (tg_eq m1 m3 b9)
      · exact SA_ta etw (esv.trans (m4.trans (sk_eq m1 fun j hj => (b10 j hj).symm)))
      · exact NN_eq m1 m3 b9 m5
      · rw [eA1]; exact p1
      · rw [mS_eq]; decide
      · rw [eA1, eB1 21 (by decide)]; exact p3
      · rw [mS_eq, rng_ne (by decide), rng_ne (by decide), mS_eq]
      · intro _; exact mS_eq
      · intro d hd
        rw [mS_eq] at hd
        omega
  · rw [if_pos g1, if_pos g1]; exact ⟨rfl, h⟩
end RLD2
