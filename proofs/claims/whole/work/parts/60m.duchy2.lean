section RDM
theorem TI_read {X Y : xMem} (hd : DRt X Y) (h6 : 1 ≤ X 151 6) (h7 : 1 ≤ X 151 7) : TI (twk X 151) := by
  obtain ⟨d1, d2, d3, d4, d5, d6, d7⟩ := hd
  refine ⟨⟨h6, d4.2.2⟩, ⟨h7, d5.2.2⟩, d1.2, fun i hi => ?_, fun s hs => ?_⟩
  · have hi' : 0 ≤ i ∧ i < X 151 6 := hi
    exact (d6 i.toNat (by omega)).1.2
  · have hs' : 0 ≤ s ∧ s < X 151 7 := hs
    obtain ⟨q1, q2, q3, q4⟩ := d7 s.toNat (by omega)
    refine ⟨q1.2, q2.2, q3.2, q4.2.1, ?_⟩
    have := q4.2.2.1
    show X 156 s.toNat ≤ s
    omega
theorem GI_read {X Y : xMem} (hd : DRt X Y) (h7 : 1 ≤ X 151 7) (hw : X 157 4 = 0) (hh : X 157 6 = 0) (hsd : X 157 8 = 0) (hb : ∀ i : Nat, i < 5 → X 159 i = 0) (hk : ∀ s : Nat, s < 6 → X 160 s = 0) : GI (twk X 151) (sv X 157) 999 := by
  obtain ⟨d1, d2, d3, d4, d5, d6, d7⟩ := hd
  have p6 := p2_b (n := X 151 7) (by omega)
  have p5 := p2_5 (n := X 151 6) (by omega)
  refine ⟨⟨?_, ?_, ?_, d3.2, ?_, fun i hi => ⟨?_, ?_⟩, fun s hs => ?_⟩, fun s hs => ?_, ?_, ?_⟩
  · rw [sv_at0, hw]; decide
  · rw [sv_at0, d2]; omega
  · rw [sv_at0, hh]; decide
  · rw [sv_at0, hsd]; decide
  · have hi' : 0 ≤ i ∧ i < X 151 6 := hi
    exact (d6 i.toNat (by omega)).2.2
  · have hi' : 0 ≤ i ∧ i < X 151 6 := hi
    show 0 ≤ X 159 i.toNat ∧ X 159 i.toNat ≤ 99
    rw [hb _ (by omega)]; decide
  · have hs' : 0 ≤ s ∧ s < X 151 7 := hs
    show 0 ≤ X 160 s.toNat ∧ X 160 s.toNat ≤ 31
    rw [hk _ (by omega)]; decide
  · have hs' : 0 ≤ s ∧ s < X 151 7 := hs
    show X 160 s.toNat < 2 ^ (X 151 6).toNat ∧ (_ → X 160 s.toNat = 0)
    rw [hk _ (by omega)]
    exact ⟨by omega, fun _ => rfl⟩
  · rw [sv_at0, hw]; decide
  · rw [sv_at0, hsd]
    show 0 < (2 : Int) ^ (X 151 7).toNat
    omega
theorem st_duchy {A B : xMem} (h : Rl A B) : (xDuchy A).1 = (yDuchy B).1 ∧ Rl (xDuchy A).2 (yDuchy B).2 := by
  obtain ⟨t1, t2, t3, t4, t5, t6, t7, t8, t9⟩ := h.2.2.1
  have hz : Zt (mS A 149 3 0) B (advM (mS (mS (mS (mS (mS A 149 6 (A 149 3)) 149 3 0) 149 7 0) 151 6 0) 151 7 0)) (ryM0 B) := by
    unfold ryM0
    refine Zp.adv ⟨⟨fun a j q1 q2 => ?_, ?_, ?_, ?_, ?_⟩, FY_mS (by decide) (FY_mS (by decide) (FY_mS (by decide) ⟨fun _ _ _ _ _ => rfl, fun _ _ _ _ _ _ _ => rfl⟩)), RI_0 t2 t4, ⟨?_, ?_, fun j hj => ?_⟩, ?_, ?_, fun j hj => ?_, ?_⟩
    · simp (disch := omega) only [mS_ne]
    · simp (disch := decide) only [mS_ne]
    · simp (disch := decide) only [mS_ne]
    · simp (disch := decide) only [mS_ne]
    · simp (disch := decide) only [mS_ne, mS_eq]
    · simp (disch := decide) only [mS_ne]; omega
    · simp (disch := decide) only [mS_ne, mS_eq]; omega
    · simp (disch := omega) only [mS_ne]; exact t5 j hj
    · simp (disch := decide) only [mS_ne, mS_eq]; exact t1
    · simp (disch := decide) only [mS_ne, mS_eq]
    · simp (disch := decide) only [mS_ne, mS_eq] at hj ⊢
      exact t6 j hj
    · simp (disch := decide) only [mS_ne]
  have hor := all_or hz ⟨by rw [adv_lo (by decide), mS_ne (by decide), mS_eq], by rw [adv_lo (by decide), mS_eq]⟩
  have er : rdTape A = rdAll (advM (mS (mS (mS (mS (mS A 149 6 (A 149 3)) 149 3 0) 149 7 0) 151 6 0) 151 7 0)) := rfl
  rw [← er] at hor
  obtain ⟨h1, h2, h3, h4, h5, h6, h7⟩ := h
  unfold xDuchy yDuchy
  rcases hor with ⟨k1, k2, k3⟩ | ⟨k1, k2, k3⟩
  · rw [if_pos k1, if_pos k2]
    generalize (rdTape A).2 = X at *
    generalize (ryAll B).2 = Y at *
    obtain ⟨z, hd, n6, n7⟩ := k3
    obtain ⟨⟨f1, f2, -, -, -, -, -, f8⟩, -⟩ := z
    obtain ⟨g1, g2, g3, g4, g5⟩ := f1
    have hx : ∀ a j, a ≠ 149 → (a < 151 ∨ 159 ≤ a) → X a j = A a j := fun a j q1 q2 => (g1 a j q1 q2).trans (mS_ne (Or.inl q1))
    have x4 : X 157 4 = 0 := (g2.trans (mS_ne (by decide))).trans t7.1
    have x6 : X 157 6 = 0 := (g3.trans (mS_ne (by decide))).trans t7.2.1
    have x8 : X 157 8 = 0 := (g4.trans (mS_ne (by decide))).trans t7.2.2
    have x59 : ∀ i : Nat, i < 5 → X 159 i = 0 := fun i hi => (hx 159 i (by decide) (by decide)).trans (t8 i hi)
    have x60 : ∀ i : Nat, i < 6 → X 160 i = 0 := fun i hi => (hx 160 i (by decide) (by decide)).trans (t9 i hi)
    have x3 : X 149 3 = 0 := g5.trans mS_eq
    have x44 : X 149 4 = A 149 4 := f8.trans (mS_ne (by decide))
    have hTI := TI_read hd n6 n7
    have hGI := GI_read hd n7 x4 x6 x8 x59 x60
    have eX : ∀ a j, (a < 3 ∨ 13 ≤ a) → a ≠ 17 → mS (stCp (twCp X 3 151) 9 157) 17 2 0 a j = X a j := fun a j q1 q2 => by rw [mS_ne (Or.inl q2), stCp_ne (by omega), twCp_ne (by omega)]
    have eX17 : mS (stCp (twCp X 3 151) 9 157) 17 2 0 17 1 = A 17 1 := by rw [mS_ne (by decide), stCp_ne (by decide), twCp_ne (by decide), hx 17 1 (by decide) (by decide)]
    have etw : TA (twk X 151) (tw (mS (stCp (twCp X 3 151) 9 157) 17 2 0)) := by
      have w := TA_cp (M := X) (k := 3) (j := 151) (by decide) hTI
      rw [tw_twk, twk_eq (M := twCp X 3 151) (k := 3) fun a j z1 z2 => by rw [mS_ne (Or.inl (by omega)), stCp_ne (by omega)]]
      exact w
    have esv : SA (twk X 151) (sv (mS (stCp (twCp X 3 151) 9 157) 17 2 0) 9) (sv X 157) := by
      have w := SA_cp (M := twCp X 3 151) (k := 9) (j := 157) hTI (by decide)
      rw [sv_eq (M := X) (k := 157) fun a j z1 z2 => twCp_ne (by omega)] at w
      rw [sv_mS (Or.inl (by decide))]
      exact w
    have eY : ∀ a, a ≠ 201 → a ≠ 209 → a ≠ 210 → yNew (mS Y 201 4 0) a = Y a := fun a q1 q2 q3 => by
      unfold yNew
      rw [mS_row q1]
      funext j
      rw [rng_ne q3, mS_ne (Or.inl q3), mS_ne (Or.inl q3), rng_ne q3, rng_ne q2, mS_ne (Or.inl q1), mS_ne (Or.inl q1)]
    have eY1 : ∀ j, j ≠ 4 → j ≠ 16 → j ≠ 20 → yNew (mS Y 201 4 0) 201 j = Y 201 j := fun j q1 q2 q3 => by
      unfold yNew
      rw [mS_ne (Or.inr q3), rng_ne (by decide), mS_ne (by omega), mS_ne (by omega), rng_ne (by decide), rng_ne (by decide), mS_ne (Or.inr q2), mS_ne (Or.inr q1)]
    have eY4 : yNew (mS Y 201 4 0) 201 4 = 0 := by
      unfold yNew
      rw [mS_ne (by decide), rng_ne (by decide), mS_ne (by decide), mS_ne (by decide), rng_ne (by decide), rng_ne (by decide), mS_ne (by decide), mS_eq]
    have eY16 : yNew (mS Y 201 4 0) 201 16 = 1 := by
      unfold yNew
      rw [mS_ne (by decide), rng_ne (by decide), mS_ne (by decide), mS_ne (by decide), rng_ne (by decide), rng_ne (by decide), mS_eq]
    have eY20 : yNew (mS Y 201 4 0) 201 20 = 0 := by
      unfold yNew
      rw [mS_eq]
    have e206 : mS Y 201 4 0 206 = Y 206 := mS_row (by decide)
    have e207 : mS Y 201 4 0 207 = Y 207 := mS_row (by decide)
    have e12 : mS Y 201 4 0 201 12 = Y 201 12 := mS_ne (by decide)
    have y9 : ∀ j : Nat, j < 32 → yNew (mS Y 201 4 0) 209 j = Y 206 j := fun j hj => by
      unfold yNew
      rw [mS_ne (by omega), rng_ne (by decide), mS_ne (by omega), mS_ne (by omega), rng_ne (by decide), rng_in (by omega), e206]
      rfl
    have y10 : ∀ j : Nat, j < 21 → yNew (mS Y 201 4 0) 210 j = if 5 ≤ (j : Int) ∧ (j : Int) < 5 + Y 206 0 then Y 207 (j - 5) else if j = 3 then Y 201 12 else if j = 1 then Y 206 2 else 0 := fun j hj => by
      unfold yNew
      rw [mS_ne (by omega), e206, e207, e12]
      by_cases c : 5 ≤ (j : Int) ∧ (j : Int) < 5 + Y 206 0
      · rw [if_pos c, rng_in c]
        rfl
      · rw [if_neg c, rng_out c]
        by_cases c3 : j = 3
        · subst c3; rw [mS_eq, if_pos rfl]
        · rw [mS_ne (Or.inr c3), if_neg c3]
          by_cases c1 : j = 1
          · subst c1; rw [mS_eq, if_pos rfl]
          · rw [mS_ne (Or.inr c1), if_neg c1, rng_in (by omega)]
    obtain ⟨d1, d2, d3, d4, d5, d6, d7⟩ := hd
    have hTAY : TA (twk X 151) (tg (yNew (mS Y 201 4 0) 209)) := by
      refine tg_eq (f := Y 206) hTI ⟨d1.1, d4.1, d5.1, fun i hi => ?_, fun s hs => ?_⟩ y9
      · have hi' : 0 ≤ i ∧ i < X 151 6 := hi
        exact (d6 i.toNat (by omega)).1.1
      · have hs' : 0 ≤ s ∧ s < X 151 7 := hs
        obtain ⟨q1, q2, q3, q4⟩ := d7 s.toNat (by omega)
        exact ⟨q1.1, q2.1, q3.1, q4.1⟩
    have hSAY : SA (twk X 151) (sv X 157) (sk (yNew (mS Y 201 4 0) 210)) := by
      have hn6 : 0 ≤ Y 206 0 ∧ Y 206 0 ≤ 5 := by omega
      refine ⟨⟨?_, ?_, ?_, ?_, ?_⟩, fun i hi => ⟨?_, ?_⟩, fun s hs => ?_⟩
      · show X 157 4 = yNew (mS Y 201 4 0) 210 0
        rw [y10 0 (by decide), if_neg (by omega), if_neg (by decide), if_neg (by decide)]; exact x4
      · show X 157 5 = yNew (mS Y 201 4 0) 210 1
        rw [y10 1 (by decide), if_neg (by omega), if_neg (by decide), if_pos rfl, d2]; exact d1.1
      · show X 157 6 = yNew (mS Y 201 4 0) 210 2
        rw [y10 2 (by decide), if_neg (by omega), if_neg (by decide), if_neg (by decide)]; exact x6
      · show X 157 7 = yNew (mS Y 201 4 0) 210 3
        rw [y10 3 (by decide), if_neg (by omega), if_pos rfl]; exact d3.1
      · show X 157 8 = yNew (mS Y 201 4 0) 210 4
        rw [y10 4 (by decide), if_neg (by omega), if_neg (by decide), if_neg (by decide)]; exact x8
      · have hi' : 0 ≤ i ∧ i < X 151 6 := hi
        show X 158 i.toNat = yNew (mS Y 201 4 0) 210 (5 + i.toNat)
        rw [y10 _ (by omega), if_pos (by omega), show 5 + i.toNat - 5 = i.toNat by omega]
        exact (d6 i.toNat (by omega)).2.1
      · have hi' : 0 ≤ i ∧ i < X 151 6 := hi
        show X 159 i.toNat = yNew (mS Y 201 4 0) 210 (10 + i.toNat)
        rw [y10 _ (by omega), if_neg (by omega), if_neg (by omega), if_neg (by omega)]
        exact x59 _ (by omega)
      · have hs' : 0 ≤ s ∧ s < X 151 7 := hs
        show X 160 s.toNat = yNew (mS Y 201 4 0) 210 (15 + s.toNat)
        rw [y10 _ (by omega), if_neg (by omega), if_neg (by omega), if_neg (by omega)]
        exact x60 _ (by omega)
    have hNN : NN (yNew (mS Y 201 4 0) 209) := fun s hs => by
      rw [y9 1 (by decide)] at hs
      rw [y9 _ (by omega)]
      have q := (d7 s.toNat (by omega)).2.2.2.2.2.2
      omega
    have ans : stCp (twCp X 3 151) 9 157 3 7 = X 151 7 := by
      rw [stCp_ne (by decide)]
      exact (twCp_at (M := X) (k := 3) (j := 151) (by decide)).1 7 (by decide) (by decide)
    refine ⟨by show stCp (twCp X 3 151) 9 157 3 7 = Y 206 1; rw [ans]; exact d5.1, ?_⟩
    dsimp only
    refine ⟨?_, ?_, ?_, Or.inr ⟨eY16, etw.TI hTI, GI_ta etw esv.symm hGI, etw.symm.trans hTAY, SA_ta etw (esv.trans hSAY), hNN⟩, ⟨?_, ?_, ?_, ?_, ?_, ?_⟩, ?_, ?_⟩
    · exact h1.cg (fun a j q1 q2 => (eX a j (by omega) (by omega)).trans (hx a j (by omega) (by omega))) (fun a j q1 q2 => by rw [eY a (by omega) (by omega) (by omega), f2.1 a (by omega) (by omega) (by omega) (by omega)])
    · unfold RlS
      rw [eX 0 10 (by decide) (by decide), hx 0 10 (by decide) (by decide), eY1 3 (by decide) (by decide) (by decide), f2.2 3 (by decide) (by decide) (by decide) (by decide) (by decide) (by decide)]
      exact h2
    · unfold RlT
      rw [eX 149 3 (by decide) (by decide), eX 149 4 (by decide) (by decide), eX 157 4 (by decide) (by decide), eX 157 6 (by decide) (by decide), eX 157 8 (by decide) (by decide), eY4, eY1 11 (by decide) (by decide) (by decide), f2.2 11 (by decide) (by decide) (by decide) (by decide) (by decide) (by decide), eY 205 (by decide) (by decide) (by decide), f2.1 205 (by decide) (by decide) (by decide) (by decide), x3, x44]
      refine ⟨rfl, by decide, t3, fun j hj => ?_, t5, fun j hj => absurd hj (by omega), ⟨x4, x6, x8⟩, fun i hi => ?_, fun i hi => ?_⟩
      · rw [eX 150 j (by decide) (by decide), hx 150 j (by decide) (by decide)]; exact t4 j hj
      · rw [eX 159 i (by decide) (by decide)]; exact x59 i hi
      · rw [eX 160 i (by decide) (by decide)]; exact x60 i hi
    · rw [eX17]; exact h5.1
    · rw [mS_eq]; decide
    · rw [eX17, eY1 21 (by decide) (by decide) (by decide), f2.2 21 (by decide) (by decide) (by decide) (by decide) (by decide) (by decide)]; exact h5.2.2.1
    · rw [mS_eq, eY20]
    · intro _; exact mS_eq
    · intro d hd
      rw [mS_eq] at hd
      omega
    · exact h6.cg (fun a j q1 q2 => (eX a j (by omega) (by omega)).trans (hx a j (by omega) (by omega))) (fun a q1 q2 => by rw [eY a (by omega) (by omega) (by omega), f2.1 a (by omega) (by omega) (by omega) (by omega)]) (fun _ => eY16)
    · exact h7.cg (fun a j q1 q2 => (eX a j (by omega) (by omega)).trans (hx a j (by omega) (by omega))) (by rw [eY1 29 (by decide) (by decide) (by decide), f2.2 29 (by decide) (by decide) (by decide) (by decide) (by decide) (by decide)]) (by rw [eY 219 (by decide) (by decide) (by decide), f2.1 219 (by decide) (by decide) (by decide) (by decide)])
  · rw [if_neg (by rw [k1]; decide), if_neg (by rw [k2]; decide)]
    generalize (rdTape A).2 = X at *
    generalize (ryAll B).2 = Y at *
    obtain ⟨⟨g1, g2, g3, g4, g5⟩, f2, f3, f4, f5⟩ := k3
    have hx : ∀ a j, a ≠ 149 → (a < 151 ∨ 159 ≤ a) → X a j = A a j := fun a j q1 q2 => (g1 a j q1 q2).trans (mS_ne (Or.inl q1))
    have hy : ∀ a, a ≠ 201 → a ≠ 206 → a ≠ 207 → a ≠ 208 → mS (mS Y 201 4 0) 201 11 (Y 201 10) a = B a := fun a q1 q2 q3 q4 => by rw [mS_row q1, mS_row q1]; exact f2.1 a q1 q2 q3 q4
    have hy1 : ∀ j, j ≠ 4 → j ≠ 11 → j ≠ 6 → j ≠ 7 → j ≠ 8 → j ≠ 9 → j ≠ 10 → j ≠ 12 → mS (mS Y 201 4 0) 201 11 (Y 201 10) 201 j = B 201 j := fun j q1 q2 q3 q4 q5 q6 q7 q8 => by rw [mS_ne (Or.inr q2), mS_ne (Or.inr q1)]; exact f2.2 j q3 q4 q5 q6 q7 q8
    refine ⟨?_, ?_⟩
    · show -1000100 - X 149 5 = -1000100 - (if Y 201 7 = -1 then Y 201 4 else Y 201 9)
      by_cases c : Y 201 7 = -1
      · rw [if_pos c, f4, f5 c]
      · rw [if_neg c, f4]
    · dsimp only
      refine ⟨?_, ?_, ?_, ?_, ?_, ?_, ?_⟩
      · exact h1.cg (fun a j q1 q2 => hx a j (by omega) (by omega)) (fun a j q1 q2 => by rw [hy a (by omega) (by omega) (by omega) (by omega)])
      · unfold RlS
        rw [hx 0 10 (by decide) (by decide), hy1 3 (by decide) (by decide) (by decide) (by decide) (by decide) (by decide) (by decide) (by decide)]
        exact h2
      · unfold RlT
        rw [g5, mS_eq, mS_ne (M := mS Y 201 4 0) (a := 201) (j := 4) (by decide), mS_eq, f3, mS_eq, g2, g3, g4, hy 205 (by decide) (by decide) (by decide) (by decide)]
        refine ⟨rfl, by decide, rfl, fun j hj => ?_, t5, fun j hj => absurd hj (by omega), ?_, fun i hi => ?_, fun i hi => ?_⟩
        · rw [hx 150 j (by decide) (by decide)]; exact t4 j hj
        · rw [mS_ne (by decide), mS_ne (by decide), mS_ne (by decide)]; exact t7
        · rw [hx 159 i (by decide) (by decide)]; exact t8 i hi
        · rw [hx 160 i (by decide) (by decide)]; exact t9 i hi
      · exact h4.cg (fun a j q1 q2 => hx a j (by omega) (by omega)) (hy1 16 (by decide) (by decide) (by decide) (by decide) (by decide) (by decide) (by decide) (by decide)) (hy 209 (by decide) (by decide) (by decide) (by decide)) (hy 210 (by decide) (by decide) (by decide) (by decide))
      · exact h5.cg (fun a j q1 q2 => hx a j (by omega) (by omega)) (fun a j q1 q2 => hx a j (by omega) (by omega)) (hy1 20 (by decide) (by decide) (by decide) (by decide) (by decide) (by decide) (by decide) (by decide)) (hy1 21 (by decide) (by decide) (by decide) (by decide) (by decide) (by decide) (by decide) (by decide)) (hy 212 (by decide) (by decide) (by decide) (by decide))
      · exact h6.cg (fun a j q1 q2 => hx a j (by omega) (by omega)) (fun a q1 q2 => hy a (by omega) (by omega) (by omega) (by omega)) (fun z => (hy1 16 (by decide) (by decide) (by decide) (by decide) (by decide) (by decide) (by decide) (by decide)).trans z)
      · exact h7.cg (fun a j q1 q2 => hx a j (by omega) (by omega)) (hy1 29 (by decide) (by decide) (by decide) (by decide) (by decide) (by decide) (by decide) (by decide)) (hy 219 (by decide) (by decide) (by decide) (by decide))
end RDM
