section RLB
/-! rows -/
theorem it_rg {r x : Nat} {i : Int} (h : i = 40 * (r : Int) + (x : Int)) : i.toNat = 40 * r + x := by omega
theorem RlR.upd {A B A' B' : xMem} {r : Nat} (h : RlR A B) (hr : r < 8) (hA : ∀ a j, 163 ≤ a → a < 179 → a ≠ 163 + 2 * r → a ≠ 163 + 2 * r + 1 → A' a j = A a j) (h2 : ∀ j, j ≠ r → B' 202 j = B 202 j) (h3 : ∀ j, j ≠ r → B' 203 j = B 203 j) (h4 : ∀ j, ¬ (40 * r ≤ j ∧ j < 40 * r + 40) → B' 204 j = B 204 j)
    (hk : (A' (163 + 2 * r) 1 = 0 ∨ A' (163 + 2 * r) 1 = 1) ∧ (0 ≤ A' (163 + 2 * r) 2 ∧ A' (163 + 2 * r) 2 ≤ 2) ∧ (0 ≤ A' (163 + 2 * r) 3 ∧ A' (163 + 2 * r) 3 ≤ 40) ∧ (0 ≤ B' 203 r ∧ B' 203 r ≤ 2) ∧ (A' (163 + 2 * r) 1 = 0 → B' 202 r = -1) ∧
      (A' (163 + 2 * r) 1 = 1 → B' 202 r = A' (163 + 2 * r) 3 ∧ B' 203 r = A' (163 + 2 * r) 2 ∧ ∀ x : Nat, (x : Int) < A' (163 + 2 * r) 3 → B' 204 (40 * r + x) = A' (163 + 2 * r + 1) x)) : RlR A' B' := by
  intro q hq
  by_cases e : q = r
  · subst e; exact hk
  · obtain ⟨k1, k2, k3, k4, k5, k6⟩ := h q hq
    rw [hA (163 + 2 * q) 1 (by omega) (by omega) (by omega) (by omega), hA (163 + 2 * q) 2 (by omega) (by omega) (by omega) (by omega), hA (163 + 2 * q) 3 (by omega) (by omega) (by omega) (by omega), h2 q e, h3 q e]
    exact ⟨k1, k2, k3, k4, k5, fun z => ⟨(k6 z).1, (k6 z).2.1, fun x hx => by
      rw [h4 _ (by omega), hA _ x (by omega) (by omega) (by omega) (by omega)]
      exact (k6 z).2.2 x hx⟩⟩
theorem st_row {A B : xMem} (h : Rl A B) (r l n : Int) : (xRow A r l n).1 = (yRow B r l n).1 ∧ Rl (xRow A r l n).2 (yRow B r l n).2 := by
  unfold xRow yRow
  by_cases g1 : ¬ (0 ≤ r ∧ r ≤ 7) ∨ ¬ (0 ≤ l ∧ l ≤ 2) ∨ 40 < n
  · rw [if_pos g1, if_pos g1]; exact ⟨rfl, h⟩
  · rw [if_neg g1, if_neg g1]
    by_cases g2 : n < 0
    · rw [if_pos g2, if_pos g2]; exact ⟨rfl, h.st 4⟩
    · rw [if_neg g2, if_neg g2]
      refine ⟨rfl, Rl.st (Rl.rws h ?_ ?_ ?_) 0⟩
      · intro a j ha
        unfold rowM
        rw [rng_ne (by omega)]
        simp (disch := omega) only [mS_ne]
      · intro a ha
        funext j
        rw [rng_ne (by omega)]
        simp (disch := omega) only [mS_ne]
      · refine RlR.upd (r := r.toNat) h.1 (by omega) ?_ ?_ ?_ ?_ ?_
        · intro a j q1 q2 q3 q4
          unfold rowM
          rw [rng_ne (by omega)]
          simp (disch := omega) only [mS_ne]
        · intro j hj
          rw [rng_ne (by decide)]
          simp (disch := omega) only [mS_ne]
        · intro j hj
          rw [rng_ne (by decide)]
          simp (disch := omega) only [mS_ne]
        · intro j hj
          rw [rng_out (by omega)]
          simp (disch := omega) only [mS_ne]
        · have e1 : rowM A (163 + 2 * r.toNat) l n (163 + 2 * r.toNat) 1 = 1 := by
            unfold rowM; rw [rng_ne (by omega), mS_ne (by omega), mS_ne (by omega), mS_eq]
          have e2 : rowM A (163 + 2 * r.toNat) l n (163 + 2 * r.toNat) 2 = l := by
            unfold rowM; rw [rng_ne (by omega), mS_ne (by omega), mS_eq]
          have e3 : rowM A (163 + 2 * r.toNat) l n (163 + 2 * r.toNat) 3 = n := by
            unfold rowM; rw [rng_ne (by omega), mS_eq]
          have f2 : rngM (mS (mS B 202 r.toNat n) 203 r.toNat l) 204 (40 * r) (fun _ => 0) n 202 r.toNat = n := by
            rw [rng_ne (by decide), mS_ne (by omega), mS_eq]
          have f3 : rngM (mS (mS B 202 r.toNat n) 203 r.toNat l) 204 (40 * r) (fun _ => 0) n 203 r.toNat = l := by
            rw [rng_ne (by decide), mS_eq]
          rw [e1, e2, e3, f2, f3]
          refine ⟨Or.inr rfl, by omega, by omega, by omega, fun q => absurd q (by decide), fun _ => ⟨rfl, rfl, fun x hx => ?_⟩⟩
          rw [rng_in (by omega)]
          unfold rowM
          rw [rng_in (by omega)]
theorem sf_eq {A B : xMem} (h : Rl A B) {r i n : Int} (hr : 0 ≤ r ∧ r ≤ 7) : (B 202 r.toNat < 0 ∧ sfT A r i n = 1) ∨ (¬ B 202 r.toNat < 0 ∧ ¬ prt B r i n ∧ sfT A r i n = 2) ∨ (¬ B 202 r.toNat < 0 ∧ prt B r i n ∧ sfT A r i n = 0 ∧ A (163 + 2 * r.toNat) 1 = 1) := by
  obtain ⟨k1, k2, k3, k4, k5, k6⟩ := h.1 r.toNat (by omega)
  unfold sfT prt
  rcases k1 with q | q
  · left
    rw [if_pos q, k5 q]
    exact ⟨by decide, rfl⟩
  · right
    have e := (k6 q).1
    rw [if_neg (by omega), e]
    by_cases g : 0 ≤ n ∧ 0 ≤ i ∧ i ≤ A (163 + 2 * r.toNat) 3 - n
    · right
      rw [if_pos g]
      exact ⟨by omega, g, rfl, q⟩
    · left
      rw [if_neg g]
      exact ⟨by omega, g, rfl⟩
theorem st_set {A B : xMem} (h : Rl A B) (r i v : Int) : (xSet A r i v).1 = (ySet B r i v).1 ∧ Rl (xSet A r i v).2 (ySet B r i v).2 := by
  unfold xSet ySet
  by_cases g1 : ¬ (0 ≤ r ∧ r ≤ 7)
  · rw [if_pos g1, if_pos g1]; exact ⟨rfl, h⟩
  · rw [if_neg g1, if_neg g1]
    have hr : 0 ≤ r ∧ r ≤ 7 := by omega
    obtain ⟨k1, k2, k3, k4, k5, k6⟩ := h.1 r.toNat (by omega)
    rcases sf_eq h (r := r) (i := i) (n := 1) hr with ⟨q1, q2⟩ | ⟨q1, q2, q3⟩ | ⟨q1, q2, q3, q4⟩
    · rw [q2, if_pos (by decide), if_pos q1]; exact ⟨rfl, h.st 1⟩
    · have q2' : ¬ (0 ≤ i ∧ i ≤ B 202 r.toNat - 1) := fun z => q2 (by unfold prt; omega)
      rw [q3, if_pos (by decide), if_neg q1, if_pos q2']; exact ⟨rfl, h.st 2⟩
    · obtain ⟨e2, e3, e4⟩ := k6 q4
      have q2' : ¬ ¬ (0 ≤ i ∧ i ≤ B 202 r.toNat - 1) := fun z => by unfold prt at q2; omega
      have q2i : 0 ≤ i ∧ i ≤ B 202 r.toNat - 1 := by unfold prt at q2; omega
      rw [q3, if_neg (by decide), if_neg q1, if_neg q2', e3]
      refine ⟨rfl, Rl.st (Rl.rws h ?_ ?_ ?_) 0⟩
      · intro a j ha
        exact mS_ne (by omega)
      · intro a ha
        exact mS_row (by omega)
      · have hit : (40 * r + i).toNat = 40 * r.toNat + i.toNat := by omega
        rw [hit]
        refine RlR.upd (r := r.toNat) h.1 (by omega) ?_ ?_ ?_ ?_ ?_
        · intro a j p1 p2 p3 p4
          exact mS_ne (by omega)
        · intro j hj
          exact mS_ne (by omega)
        · intro j hj
          exact mS_ne (by omega)
        · intro j hj
          exact mS_ne (by omega)
        · rw [mS_ne (by omega), mS_ne (by omega), mS_ne (by omega), mS_ne (by omega), mS_ne (by omega)]
          refine ⟨k1, k2, k3, k4, k5, fun z => ⟨e2, e3, fun x hx => ?_⟩⟩
          by_cases ex : x = i.toNat
          · subst ex
            rw [mS_eq, mS_eq]
          · rw [mS_ne (by omega), mS_ne (by omega)]
            exact e4 x hx
theorem st_copy {A B : xMem} (h : Rl A B) (a i b j n : Int) : (xCopy A a i b j n).1 = (yCopy B a i b j n).1 ∧ Rl (xCopy A a i b j n).2 (yCopy B a i b j n).2 := by
  unfold xCopy yCopy
  by_cases g1 : ¬ (0 ≤ a ∧ a ≤ 7) ∨ ¬ (0 ≤ b ∧ b ≤ 7)
  · rw [if_pos g1, if_pos g1]; exact ⟨rfl, h⟩
  · rw [if_neg g1, if_neg g1]
    obtain ⟨k1, k2, k3, k4, k5, k6⟩ := h.1 a.toNat (by omega)
    obtain ⟨l1, l2, l3, l4, l5, l6⟩ := h.1 b.toNat (by omega)
    by_cases g2 : A (163 + 2 * a.toNat) 1 = 0 ∨ A (163 + 2 * b.toNat) 1 = 0
    · have g2' : B 202 a.toNat < 0 ∨ B 202 b.toNat < 0 := by
        rcases g2 with q | q
        · left; rw [k5 q]; decide
        · right; rw [l5 q]; decide
      rw [if_pos g2, if_pos g2']; exact ⟨rfl, h.st 1⟩
    · obtain ⟨e2, e3, e4⟩ := k6 (by omega)
      obtain ⟨f2, f3, f4⟩ := l6 (by omega)
      rw [if_neg g2, if_neg (show ¬ (B 202 a.toNat < 0 ∨ B 202 b.toNat < 0) by omega), e3, f3]
      by_cases g3 : ¬ A (163 + 2 * a.toNat) 2 = A (163 + 2 * b.toNat) 2
      · rw [if_pos g3, if_pos g3]; exact ⟨rfl, h.st 5⟩
      · rw [if_neg g3, if_neg g3]
        unfold prt
        rw [e2, f2]
        by_cases g4 : ¬ (0 ≤ n ∧ 0 ≤ i ∧ i ≤ A (163 + 2 * a.toNat) 3 - n) ∨ ¬ (0 ≤ n ∧ 0 ≤ j ∧ j ≤ A (163 + 2 * b.toNat) 3 - n)
        · rw [if_pos g4, if_pos g4]; exact ⟨rfl, h.st 2⟩
        · rw [if_neg g4, if_neg g4]
          refine ⟨rfl, Rl.st (Rl.rws h ?_ ?_ ?_) 0⟩
          · intro c x hc
            unfold mCp
            exact if_neg (by omega)
          · intro c hc
            funext x
            unfold cpR
            exact if_neg (by omega)
          · refine RlR.upd (r := b.toNat) h.1 (by omega) ?_ ?_ ?_ ?_ ?_
            · intro c x p1 p2 p3 p4
              unfold mCp
              exact if_neg (by omega)
            · intro x hx
              unfold cpR
              exact if_neg (by omega)
            · intro x hx
              unfold cpR
              exact if_neg (by omega)
            · intro x hx
              unfold cpR
              exact if_neg (by omega)
            · have c1 : ∀ x, mCp A (163 + 2 * b.toNat + 1) (163 + 2 * a.toNat + 1) j.toNat i.toNat n.toNat (163 + 2 * b.toNat) x = A (163 + 2 * b.toNat) x := fun x => by unfold mCp; exact if_neg (by omega)
              have c2 : cpR B (40 * b + j) (40 * a + i) 0 n 202 b.toNat = B 202 b.toNat := by unfold cpR; exact if_neg (by omega)
              have c3 : cpR B (40 * b + j) (40 * a + i) 0 n 203 b.toNat = B 203 b.toNat := by unfold cpR; exact if_neg (by omega)
              rw [c1, c1, c1, c2, c3]
              refine ⟨l1, l2, l3, l4, l5, fun z => ⟨f2, f3, fun x hx => ?_⟩⟩
              unfold cpR mCp
              by_cases g5 : j ≤ (x : Int) ∧ (x : Int) < j + n
              · rw [if_pos (by omega), if_pos (by omega)]
                have hx2 := e4 (i.toNat + (x - j.toNat)) (by omega)
                rw [show (40 * a + i + (((40 * b.toNat + x : Nat) : Int) - (40 * b + j))).toNat = 40 * a.toNat + (i.toNat + (x - j.toNat)) by omega]
                exact hx2
              · rw [if_neg (by omega), if_neg (by omega)]
                exact f4 x hx
theorem st_drop {A B : xMem} (h : Rl A B) (r : Int) : (xDrop A r).1 = (yDrop B r).1 ∧ Rl (xDrop A r).2 (yDrop B r).2 := by
  unfold xDrop yDrop
  by_cases g1 : ¬ (0 ≤ r ∧ r ≤ 7)
  · rw [if_pos g1, if_pos g1]; exact ⟨rfl, h⟩
  · rw [if_neg g1, if_neg g1]
    obtain ⟨k1, k2, k3, k4, k5, k6⟩ := h.1 r.toNat (by omega)
    rcases k1 with q | q
    · rw [if_pos q, if_pos (by rw [k5 q]; decide)]; exact ⟨rfl, h.st 1⟩
    · obtain ⟨e2, e3, e4⟩ := k6 q
      rw [if_neg (by omega), if_neg (by omega)]
      refine ⟨e2.symm, Rl.st (Rl.rws h ?_ ?_ ?_) 0⟩
      · intro a j ha
        exact mS_ne (by omega)
      · intro a ha
        exact mS_row (by omega)
      · refine RlR.upd (r := r.toNat) h.1 (by omega) ?_ ?_ ?_ ?_ ?_
        · intro a j p1 p2 p3 p4
          exact mS_ne (by omega)
        · intro j hj
          exact mS_ne (by omega)
        · intro j hj
          exact mS_ne (by omega)
        · intro j hj
          exact mS_ne (by omega)
        · rw [mS_eq, mS_ne (by omega), mS_ne (by omega), mS_ne (by omega), mS_eq]
          exact ⟨Or.inl rfl, k2, k3, k4, fun _ => rfl, fun z => absurd z (by decide)⟩
theorem st_feed {A B : xMem} (h : Rl A B) (c : Int) : (xFeed A c).1 = (yFeed B c).1 ∧ Rl (xFeed A c).2 (yFeed B c).2 := by
  obtain ⟨t1, t2, t3, t4, t5, t6, t7, t8, t9⟩ := h.2.2.1
  unfold xFeed yFeed
  by_cases g1 : ¬ (0 ≤ c ∧ c ≤ 255)
  · rw [if_pos g1, if_pos g1]; exact ⟨rfl, h⟩
  · rw [if_neg g1, if_neg g1]
    by_cases g2 : A 149 3 < 120
    · rw [if_pos g2, if_neg (by omega), ← t1]
      refine ⟨rfl, ?_⟩
      dsimp only
      obtain ⟨h1, h2, h3, h4, h5, h6, h7⟩ := h
      have hx : ∀ a j, a ≠ 149 → a ≠ 150 → mS (mS A 150 (A 149 3).toNat c) 149 3 (A 149 3 + 1) a j = A a j := fun a j q1 q2 => by rw [mS_ne (Or.inl q1), mS_ne (Or.inl q2)]
      have hy : ∀ a, a ≠ 201 → a ≠ 205 → mS (mS B 205 (A 149 3).toNat c) 201 4 (A 149 3 + 1) a = B a := fun a q1 q2 => by rw [mS_row q1, mS_row q2]
      have hz : ∀ j, j ≠ 4 → mS (mS B 205 (A 149 3).toNat c) 201 4 (A 149 3 + 1) 201 j = B 201 j := fun j q => by rw [mS_ne (Or.inr q), mS_ne (Or.inl (by decide))]
      refine ⟨h1.cg (fun a j q1 q2 => hx a j (by omega) (by omega)) (fun a j q1 q2 => by rw [hy a (by omega) (by omega)]), ?_, ?_,
        h4.cg (fun a j q1 q2 => hx a j (by omega) (by omega)) (hz 16 (by decide)) (hy 209 (by decide) (by decide)) (hy 210 (by decide) (by decide)),
        h5.cg (fun a j q1 q2 => hx a j (by omega) (by omega)) (fun a j q1 q2 => hx a j (by omega) (by omega)) (hz 20 (by decide)) (hz 21 (by decide)) (hy 212 (by decide) (by decide)),
        h6.cg (fun a j q1 q2 => hx a j (by omega) (by omega)) (fun a q1 q2 => hy a (by omega) (by omega)) (fun z => (hz 16 (by decide)).trans z),
        h7.cg (fun a j q1 q2 => hx a j (by omega) (by omega)) (hz 29 (by decide)) (hy 219 (by decide) (by decide))⟩
      · unfold RlS
        rw [hx 0 10 (by decide) (by decide), hz 3 (by decide)]
        exact h2
      · unfold RlT
        rw [mS_eq, mS_eq, hz 11 (by decide), mS_ne (Or.inr (by decide)), mS_ne (Or.inl (by decide)), hx 157 4 (by decide) (by decide), hx 157 6 (by decide) (by decide), hx 157 8 (by decide) (by decide)]
        refine ⟨rfl, by omega, t3, fun j hj => ?_, fun j hj => ?_, fun j hj => ?_, t7, fun i hi => by rw [hx 159 i (by decide) (by decide)]; exact t8 i hi, fun i hi => by rw [hx 160 i (by decide) (by decide)]; exact t9 i hi⟩
        · rw [mS_ne (Or.inl (by decide))]
          by_cases e : j = (A 149 3).toNat
          · subst e; rw [mS_eq]; omega
          · rw [mS_ne (Or.inr e)]; exact t4 j hj
        · rw [mS_ne (Or.inl (by decide))]
          by_cases e : j = (A 149 3).toNat
          · subst e; rw [mS_eq]; omega
          · rw [mS_ne (Or.inr e)]; exact t5 j hj
        · by_cases e : j = (A 149 3).toNat
          · subst e; simp (disch := omega) only [mS_ne, mS_eq]
          · simp (disch := omega) only [mS_ne]; exact t6 j (by omega)
    · rw [if_neg g2, if_pos (by omega)]; exact ⟨rfl, h⟩
/-! what is asked without a change -/
theorem gSpeech_cg {T U S R : xMem} (hT : TI T) (ht : TA T U) (hs : SA T S R) {s w : Int} : gSpeech U R s w = gSpeech T S s w := by
  unfold gSpeech
  rw [← ht.2.2.1]
  by_cases h : 0 ≤ s ∧ s < T 0 7
  · obtain ⟨c1, c2, c3, c4⟩ := ht.2.2.2.2 s h
    rw [if_neg (not_not_intro h), if_neg (not_not_intro h), b2i_cg (can_cg hT ht hs h), ← c2, ← c3, ← c4, words_cg ht h, crn_cg hT ht hs h, ← hs.2.2 s h, underst_cg hT ht hs h, ← hs.1.2.2.2.2]
  · rw [if_pos h, if_pos h]
theorem gPerson_cg {T U S R : xMem} (hT : TI T) (ht : TA T U) (hs : SA T S R) {p w : Int} : gPerson U R p w = gPerson T S p w := by
  unfold gPerson
  rw [← ht.2.1]
  by_cases h : 0 ≤ p ∧ p < T 0 6
  · rw [if_neg (not_not_intro h), if_neg (not_not_intro h), ← (hs.2.1 p h).1, ← ht.2.2.2.1 p h, ← (hs.2.1 p h).2, knownTo_cg hT ht hs, undBy_cg hT ht hs]
  · rw [if_pos h, if_pos h]
theorem an_speech {A B : xMem} (h : Rl A B) (s w : Int) : xSpeech A s w = gSpeech (tg (B 209)) (sk (B 210)) s w := by
  have e : xSpeech A s w = gSpeech (tw A) (sv A 9) s w := rfl
  rcases h.cases with ⟨a1, a2, a3, a4, a5⟩ | ⟨d1, hT, hG, ht, hs, hNN, hn, hb1, hb2⟩
  · have e5 : tg (B 209) 0 7 = B 209 1 := rfl
    unfold xSpeech gSpeech
    rw [e5, a5, a2, if_pos (by omega), if_pos (by omega)]
  · rw [e, gSpeech_cg hT ht hs]
theorem an_person {A B : xMem} (h : Rl A B) (p w : Int) : xPerson A p w = gPerson (tg (B 209)) (sk (B 210)) p w := by
  have e : xPerson A p w = gPerson (tw A) (sv A 9) p w := rfl
  rcases h.cases with ⟨a1, a2, a3, a4, a5⟩ | ⟨d1, hT, hG, ht, hs, hNN, hn, hb1, hb2⟩
  · have e5 : tg (B 209) 0 6 = B 209 0 := rfl
    unfold xPerson gPerson
    rw [e5, a4, a1, if_pos (by omega), if_pos (by omega)]
  · rw [e, gPerson_cg hT ht hs]
theorem an_stand {A B : xMem} (h : Rl A B) (w : Int) : xStand A w = gStand B w := by
  unfold xStand gStand
  rcases h.cases with ⟨a1, a2, a3, a4, a5⟩ | ⟨d1, hT, hG, ht, hs, hNN, hn, hb1, hb2⟩
  · rw [if_pos a1, if_pos a3]
  · rw [if_neg (show ¬ A 3 6 = 0 by omega), if_neg (show ¬ B 201 16 = 0 by omega)]
    have e1 : A 9 5 = B 210 1 := hs.1.2.1
    have e2 : A 9 6 = B 210 2 := hs.1.2.2.1
    have e3 : A 9 7 = B 210 3 := hs.1.2.2.2.1
    have e4 : A 9 8 = B 210 4 := hs.1.2.2.2.2
    rw [e1, e2, e3, e4, hn.2.2]
theorem an_kind {A B : xMem} (h : Rl A B) (s : Int) : xKind A s = yKind B s := by
  unfold xKind yKind
  rcases h.cases with ⟨a1, a2, a3, a4, a5⟩ | ⟨d1, hT, hG, ht, hs, hNN, hn, hb1, hb2⟩
  · rw [if_neg (by omega), if_neg (by omega)]
  · rw [← hn.2.1]
    by_cases g : 0 ≤ s ∧ s < A 3 7
    · rw [if_pos g, if_pos g]
      exact (ht.2.2.2.2 s g).1
    · rw [if_neg g, if_neg g]
theorem an_clear {A B : xMem} (h : Rl A B) : xClear A = gClear B := by
  unfold xClear gClear
  rcases h.cases with ⟨a1, a2, a3, a4, a5⟩ | ⟨d1, hT, hG, ht, hs, hNN, hn, hb1, hb2⟩
  · rw [if_pos a1, if_pos a3]
  · rw [if_neg (show ¬ A 3 6 = 0 by omega), if_neg (show ¬ B 201 16 = 0 by omega), undBy_cg hT ht hs, hn.1]
theorem an_trace {A B : xMem} (h : Rl A B) (i : Int) : xTrace A i = yTrace B i := by
  obtain ⟨h1, h2, h3⟩ := h.2.2.2.2.2.2
  unfold xTrace yTrace
  rw [← h1]
  by_cases g : 0 ≤ i ∧ i < A 161 3
  · rw [if_pos g, if_pos g]
    exact h3 i.toNat (by omega)
  · rw [if_neg g, if_neg g]
theorem an_count {A B : xMem} (h : Rl A B) (w : Int) : xCount A w = yCount B w := by
  have e0 : xThere A = yThere B := by
    unfold xThere yThere
    refine foldI_cg (n := 8) 8 0 0 (by decide) (by decide) (fun x b h0 h1 => ?_)
    obtain ⟨k1, k2, k3, k4, k5, k6⟩ := h.1 x.toNat (by omega)
    rcases k1 with q | q
    · rw [if_pos q, if_neg (by rw [k5 q]; decide)]
    · rw [if_neg (by omega), if_pos (by rw [(k6 q).1]; omega)]
  have e6 := h.2.2.2.2.1.2.2.2.1
  have e7 := h.2.2.1.1
  unfold xCount yCount
  rw [e0, e6, e7]
  rcases h.2.2.2.1 with q | q
  · obtain ⟨q1, q2, q3, q4, q5, q6, q7⟩ := q
    rw [q1, q2, q4, q5, q6.1, q6.2.1, q6.2.2, q7.1, q7.2.1, q7.2.2]
  · obtain ⟨q1, q2, q3, q4, q5, q6⟩ := q
    have e1 : A 9 4 = B 210 0 := q5.1.1
    have e2 : A 9 5 = B 210 1 := q5.1.2.1
    have e3 : A 9 6 = B 210 2 := q5.1.2.2.1
    have e4 : A 3 6 = B 209 0 := q4.2.1
    have e5 : A 3 7 = B 209 1 := q4.2.2.1
    rw [e1, e2, e3, e4, e5]
theorem st_as {A B : xMem} (h : Rl A B) (s k : Int) : (xAs A s k).1 = (yAs B s k).1 ∧ Rl (xAs A s k).2 (yAs B s k).2 := by
  have key : ∀ a : Nat, a < 6 → 1 ≤ a → ∀ k : Nat, k < 6 → ikL (k : Int) 6 (a : Int) = decide ((k : Int) = 0 ∨ (k : Int) = (a : Int) ∨ ((k : Int) = 1 ∧ ((a : Int) = 2 ∨ (a : Int) = 3)) ∨ ((k : Int) = 4 ∧ (a : Int) = 5)) := by decide +kernel
  unfold xAs yAs
  rcases h.cases with ⟨a1, a2, a3, a4, a5⟩ | ⟨d1, hT, hG, ht, hs, hNN, hn, hb1, hb2⟩
  · rw [if_pos (by omega), if_pos (by omega)]; exact ⟨rfl, h⟩
  · rw [← hn.2.1]
    by_cases g : ¬ (0 ≤ s ∧ s < A 3 7) ∨ ¬ (0 ≤ k ∧ k ≤ 5)
    · rw [if_pos g, if_pos g]; exact ⟨rfl, h⟩
    · rw [if_neg g, if_neg g]
      have g' : 0 ≤ s ∧ s < tw A 0 7 := by show 0 ≤ s ∧ s < A 3 7; omega
      have c1 : A 5 s.toNat = tg (B 209) 2 s.toNat := (ht.2.2.2.2 s g').1
      have c2 : 1 ≤ A 5 s.toNat ∧ A 5 s.toNat ≤ 5 := (hT.2.2.2.2 s g').1
      have kk := key (A 5 s.toNat).toNat (by omega) (by omega) k.toNat (by omega)
      rw [show (((A 5 s.toNat).toNat : Nat) : Int) = A 5 s.toNat by omega, show ((k.toNat : Nat) : Int) = k by omega] at kk
      have kk : ikL k 6 (A 5 s.toNat) = true ↔ (k = 0 ∨ k = A 5 s.toNat ∨ (k = 1 ∧ (A 5 s.toNat = 2 ∨ A 5 s.toNat = 3)) ∨ (k = 4 ∧ A 5 s.toNat = 5)) := by rw [kk]; exact decide_eq_true_iff
      rw [← c1]
      by_cases g2 : ikL k 6 (A 5 s.toNat) = true
      · rw [if_pos g2, if_pos (kk.mp g2)]; exact ⟨rfl, h.st 0⟩
      · rw [if_neg g2, if_neg (fun z => g2 (kk.mpr z))]; exact ⟨rfl, h.st 3⟩
/-! asks -/
theorem lv_A {A B : xMem} (h : RlA A B) (b : Int) : RlA (lvM A b) (lvY B b) := by
  obtain ⟨h1, h2, h3⟩ := h
  unfold lvM lvY
  rw [← h1]
  by_cases g : A 161 3 < 16
  · rw [if_pos g, if_pos g]
    refine ⟨by rw [mS_eq, mS_eq], by rw [mS_eq]; omega, fun j hj => ?_⟩
    rw [mS_eq] at hj
    by_cases e : j = (A 161 3).toNat
    · subst e; simp (disch := omega) only [mS_ne, mS_eq]
    · simp (disch := omega) only [mS_ne]; exact h3 j (by omega)
  · rw [if_neg g, if_neg g]; exact ⟨h1, h2, h3⟩
theorem lvs_A : ∀ (l : List Int) {A B : xMem}, RlA A B → RlA (l.foldl lvM A) (l.foldl lvY B)
  | [], _, _, h => h
  | b :: l, _, _, h => lvs_A l (lv_A h b)
theorem lvM_o {M : xMem} {b : Int} {a j : Nat} (h : a ≠ 161 ∧ a ≠ 162) : lvM M b a j = M a j := by
  unfold lvM
  split
  · rw [mS_ne (Or.inl h.1), mS_ne (Or.inl h.2)]
  · rfl
theorem lvMs_o {a j : Nat} (h : a ≠ 161 ∧ a ≠ 162) : ∀ (l : List Int) (M : xMem), l.foldl lvM M a j = M a j
  | [], _ => rfl
  | b :: l, M => (lvMs_o h l (lvM M b)).trans (lvM_o h)
theorem lvY_o {M : xMem} {b : Int} {j : Nat} (h : j ≠ 29) : lvY M b 201 j = M 201 j := by
  unfold lvY
  split
  · rw [mS_ne (Or.inr h), mS_ne (Or.inl (by decide))]
  · rfl
theorem lvYs_o {j : Nat} (h : j ≠ 29) : ∀ (l : List Int) (M : xMem), l.foldl lvY M 201 j = M 201 j
  | [], _ => rfl
  | b :: l, M => (lvYs_o h l (lvY M b)).trans (lvY_o h)
theorem st_ask {A B : xMem} (h : Rl A B) (s w : Int) : (xAsk A s w).1 = (yAsk B s w).1 ∧ Rl (xAsk A s w).2 (yAsk B s w).2 := by
  unfold xAsk yAsk
  rcases h.cases with ⟨a1, a2, a3, a4, a5⟩ | ⟨d1, hT, hG, ht, hs, hNN, hn, hb1, hb2⟩
  · rw [if_pos (by omega), if_pos (by omega)]; exact ⟨rfl, h⟩
  · rw [← hn.2.1]
    by_cases g : ¬ (0 ≤ s ∧ s < A 3 7) ∨ ¬ (0 ≤ w ∧ w ≤ 1)
    · rw [if_pos g, if_pos g]; exact ⟨rfl, h⟩
    · rw [if_neg g, if_neg g]
      have g' : 0 ≤ s ∧ s < tw A 0 7 := by show 0 ≤ s ∧ s < A 3 7; omega
      have c1 : A 5 s.toNat = tg (B 209) 2 s.toNat := (ht.2.2.2.2 s g').1
      rw [siz_cg ht hs g', mrk_cg ht hs g', ← c1]
      refine ⟨rfl, ?_⟩
      dsimp only
      obtain ⟨h1, h2, h3, h4, h5, h6, h7⟩ := h
      generalize trc (A 5 s.toNat) w = l
      have hx : ∀ a j, a ≠ 161 → a ≠ 162 → l.foldl lvM (mS A 161 3 0) a j = A a j := fun a j q1 q2 => (lvMs_o ⟨q1, q2⟩ l _).trans (mS_ne (Or.inl q1))
      have hy : ∀ a, a ≠ 201 → a ≠ 219 → l.foldl lvY (mS B 201 29 0) a = B a := fun a q1 q2 => (lvL_row ⟨q1, q2⟩ l _).trans (mS_row q1)
      have hz : ∀ j, j ≠ 29 → l.foldl lvY (mS B 201 29 0) 201 j = B 201 j := fun j q => (lvYs_o q l _).trans (mS_ne (Or.inr q))
      refine ⟨h1.cg (fun a j q1 q2 => hx a j (by omega) (by omega)) (fun a j q1 q2 => by rw [hy a (by omega) (by omega)]), ?_,
        h3.cg (fun a j q1 q2 => hx a j (by omega) (by omega)) (hz 4 (by decide)) (hz 11 (by decide)) (fun j => by rw [hy 205 (by decide) (by decide)]),
        h4.cg (fun a j q1 q2 => hx a j (by omega) (by omega)) (hz 16 (by decide)) (hy 209 (by decide) (by decide)) (hy 210 (by decide) (by decide)),
        h5.cg (fun a j q1 q2 => hx a j (by omega) (by omega)) (fun a j q1 q2 => hx a j (by omega) (by omega)) (hz 20 (by decide)) (hz 21 (by decide)) (hy 212 (by decide) (by decide)),
        h6.cg (fun a j q1 q2 => hx a j (by omega) (by omega)) (fun a q1 q2 => hy a (by omega) (by omega)) (fun z => (hz 16 (by decide)).trans z), ?_⟩
      · unfold RlS
        rw [hx 0 10 (by decide) (by decide), hz 3 (by decide)]
        exact h2
      · exact lvs_A l ⟨by rw [mS_eq, mS_eq], by rw [mS_eq]; decide, fun j hj => by rw [mS_eq] at hj; omega⟩
end RLB
