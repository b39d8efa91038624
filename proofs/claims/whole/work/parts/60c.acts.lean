section RLC
theorem TA.symm {T U : xMem} (h : TA T U) : TA U T := ⟨h.1.symm, h.2.1.symm, h.2.2.1.symm, fun i hi => (h.2.2.2.1 i (by rw [h.2.1]; exact hi)).symm, fun s hs => by
  obtain ⟨c1, c2, c3, c4⟩ := h.2.2.2.2 s (by rw [h.2.2.1]; exact hs)
  exact ⟨c1.symm, c2.symm, c3.symm, c4.symm⟩⟩
/-! weeks one behind another -/
theorem onw_add2 {n kd a d v w : Int} (hn : 0 ≤ n ∧ n ≤ 5) (ha : 0 ≤ a ∧ a < 2 ^ n.toNat) (hd : 0 ≤ d ∧ d ≤ 31) (hv : 0 ≤ v) (hw : 0 ≤ w) : onwT n kd (onwT n kd a d v) d w = onwT n kd a d (v + w) := by
  have hb := hpw_b kd
  have hm : 0 ≤ w * hpw kd := Int.mul_nonneg hw hb.1
  have hm2 : 0 ≤ v * hpw kd := Int.mul_nonneg hv hb.1
  have e1 : (min 5 (w * hpw kd)).toNat = min 5 (w * hpw kd).toNat := by omega
  have e4 : (min 5 (v * hpw kd)).toNat = min 5 (v * hpw kd).toNat := by omega
  have e3 : (v + w) * hpw kd = v * hpw kd + w * hpw kd := Int.add_mul _ _ _
  have e2 : (min 5 ((v + w) * hpw kd)).toNat = min 5 ((v + w) * hpw kd).toNat := by omega
  unfold onwT
  rw [e1, e2, e4, hops_min hn (hops_n hn _ _ ha) hd, hops_min hn ha hd, hops_min hn ha hd, hops_add, e3]
  congr 1
  omega
theorem pas_at1 {T S : xMem} {w i : Int} (h : 0 ≤ i ∧ i < T 0 6) : pasS T S w 1 i.toNat = purT T S i w := by
  show (if (i.toNat : Int) < T 0 6 then purT T S (i.toNat : Int) w else S 1 i.toNat) = _
  rw [if_pos (by omega), show ((i.toNat : Nat) : Int) = i by omega]
theorem pas_at3 {T S : xMem} {w s : Int} (h : 0 ≤ s ∧ s < T 0 7) : pasS T S w 3 s.toNat = knwT T S s w := by
  show (if (s.toNat : Int) < T 0 7 then knwT T S (s.toNat : Int) w else S 3 s.toNat) = _
  rw [if_pos (by omega), show ((s.toNat : Nat) : Int) = s by omega]
theorem pas_0 {T S : xMem} (hS : SI T S) : SA T S (pasS T S 0) := by
  refine ⟨⟨?_, ?_, ?_, rfl, rfl⟩, fun i hi => ⟨?_, rfl⟩, fun s hs => ?_⟩
  · show S 0 4 = S 0 4 + 0
    omega
  · show S 0 5 = if (0 : Int) = 0 then S 0 5 else T 0 5
    rw [if_pos rfl]
  · show S 0 6 = hillT T S 0
    unfold hillT
    rw [if_pos rfl]
  · rw [pas_at1 hi]
    have := (hS.2.2.2.2.2.1 i hi).1
    unfold purT
    rw [Int.zero_mul]
    omega
  · rw [pas_at3 hs]
    unfold knwT
    rw [onw_0]
theorem pas_pas {T S : xMem} {v w : Int} (hT : TI T) (hS : SI T S) (hK : KI T S) (hv : 0 ≤ v) (hw : 0 ≤ w) : SA T (pasS T (pasS T S v) w) (pasS T S (v + w)) := by
  have hr := hT.2.2.1
  refine ⟨⟨?_, ?_, ?_, rfl, rfl⟩, fun i hi => ⟨?_, rfl⟩, fun s hs => ?_⟩
  · show S 0 4 + v + w = S 0 4 + (v + w)
    omega
  · show (if w = 0 then (if v = 0 then S 0 5 else T 0 5) else T 0 5) = if v + w = 0 then S 0 5 else T 0 5
    by_cases h1 : w = 0
    · by_cases h2 : v = 0
      · rw [if_pos h1, if_pos h2, if_pos (by omega)]
      · rw [if_pos h1, if_neg h2, if_neg (by omega)]
    · rw [if_neg h1, if_neg (by omega)]
  · show hillT T (pasS T S v) w = hillT T S (v + w)
    have e6 : pasS T S v 0 6 = hillT T S v := rfl
    have e5 : pasS T S v 0 5 = if v = 0 then S 0 5 else T 0 5 := rfl
    unfold hillT at e6 ⊢
    rw [e6, e5]
    by_cases h2 : v = 0
    · subst h2
      rw [if_pos rfl, if_pos rfl, Int.zero_add]
    · rw [if_neg h2, if_neg h2, if_neg (show ¬ v + w = 0 by omega)]
      by_cases h1 : w = 0
      · subst h1
        rw [if_pos rfl, Int.add_zero]
      · rw [if_neg h1]
        have p1 : 0 ≤ (w - 1) * T 0 5 := Int.mul_nonneg (by omega) (by omega)
        have p2 : (v + w - 1) * T 0 5 = (v - 1) * T 0 5 + T 0 5 + (w - 1) * T 0 5 := by
          rw [show v + w - 1 = (v - 1) + 1 + (w - 1) by omega, Int.add_mul, Int.add_mul, Int.one_mul]
        omega
  · rw [pas_at1 hi, pas_at1 hi]
    have ht := hT.2.2.2.1 i hi
    have p1 : 0 ≤ w * T 1 i.toNat := Int.mul_nonneg hw ht.1
    unfold purT
    rw [pas_at1 hi, Int.add_mul]
    unfold purT
    omega
  · rw [pas_at3 hs, pas_at3 hs]
    unfold knwT
    rw [pas_at3 hs]
    unfold knwT
    have hn := hT.1
    exact onw_add2 (by omega) ⟨(hS.2.2.2.2.2.2 s hs).1, (hK s hs).1⟩ (by decide) hv hw
/-- a week of the model, seen from the class's town -/
theorem ps_step {T S M : xMem} {n v : Int} {k : Nat} (hT : TI T) (ht : TA T (tg (M 209))) (g : GI T S v) (hs : SA T (pasS T S n) (sk (M k))) (hn : 0 ≤ n ∧ n ≤ 60) : SA T (pasS T S (n + 1)) (sk (psM M k k)) := by
  have hK : KI T (pasS T S n) := KI_pas hT g.1 g.2.1
  have hK2 : KI (tg (M 209)) (sk (M k)) := KI_ta ht hs hK
  have e1 := ps_SA (M := M) (k := k) (ht.TI hT) hK2
  have e2 : SA T (pasS T (pasS T S n) 1) (pasS (tg (M 209)) (sk (M k)) 1) := pas_cg ht hs
  exact (pas_pas hT g.1 g.2.1 hn.1 (by decide)).symm.trans (e2.trans (SA_ta ht.symm e1.symm))
theorem ah_ok {T S : xMem} (hT : TI T) (g : GI T S 999) : ∀ (k : Nat) (n : Int) (M : xMem), TA T (tg (M 209)) → SA T (pasS T S n) (sk (M 211)) → 0 ≤ n → n + k ≤ 61 → SA T (pasS T S (n + k)) (sk (ahM k M 211)) ∧ ∀ a, a ≠ 211 → ahM k M a = M a
  | 0, n, M, ht, hs, h0, h1 => ⟨by rw [show n + ((0 : Nat) : Int) = n by omega]; exact hs, fun _ _ => rfl⟩
  | k + 1, n, M, ht, hs, h0, h1 => by
    obtain ⟨q1, q2⟩ := ah_ok hT g k (n + 1) (psM M 211) (by rw [ps_lo (by decide)]; exact ht) (ps_step hT ht g hs (by omega)) (by omega) (by omega)
    rw [show n + ((k + 1 : Nat) : Int) = n + 1 + (k : Int) by omega]
    exact ⟨q1, fun a ha => (q2 a ha).trans (ps_lo ha)⟩
theorem Rl.b11 {A B B' : xMem} (h : Rl A B) (hB : ∀ a, a ≠ 211 → B' a = B a) : Rl A B' := h.cg (fun _ _ _ _ => rfl) (fun a _ q => hB a (fun z => q (by unfold scB; omega)))
theorem cn_sa {A B : xMem} (hT : TI (tw A)) (hG : GI (tw A) (sv A 9) 999) (hs : SA (tw A) (sv A 9) (sk (B 210))) : SA (tw A) (pasS (tw A) (sv A 9) 0) (sk (cnM B 211)) := (pas_0 hG.1).symm.trans (hs.trans (cn_SA hT).symm)
theorem st_purse {A B : xMem} (h : Rl A B) (p n : Int) : xPurse A p n = (yPurse B p n).1 ∧ Rl A (yPurse B p n).2 := by
  unfold xPurse yPurse
  rcases h.cases with ⟨a1, a2, a3, a4, a5⟩ | ⟨d1, hT, hG, ht, hs, hNN, hn, hb1, hb2⟩
  · rw [if_pos (by omega), if_pos (by omega)]; exact ⟨rfl, h⟩
  · rw [← hn.1]
    by_cases g : ¬ (0 ≤ p ∧ p < A 3 6) ∨ ¬ (0 ≤ n ∧ n ≤ 60)
    · rw [if_pos g, if_pos g]; exact ⟨rfl, h⟩
    · rw [if_neg g, if_neg g]
      obtain ⟨q1, q2⟩ := ah_ok hT hG n.toNat 0 (cnM B) (by rw [cn_row (by decide)]; exact ht) (cn_sa hT hG hs) (by decide) (by omega)
      rw [show (0 : Int) + (n.toNat : Int) = n by omega] at q1
      have g' : 0 ≤ p ∧ p < tw A 0 6 := by show 0 ≤ p ∧ p < A 3 6; omega
      refine ⟨?_, h.b11 fun a ha => (q2 a ha).trans (cn_row ha)⟩
      show _ = ahM n.toNat (cnM B) 211 (5 + p).toNat
      rw [iy5 (g := ahM n.toNat (cnM B) 211) (s := p) (by omega), ← (q1.2.1 p g').1, pas_at1 g']
theorem st_hill {A B : xMem} (h : Rl A B) (n : Int) : xHill A n = (yHill B n).1 ∧ Rl A (yHill B n).2 := by
  unfold xHill yHill
  rcases h.cases with ⟨a1, a2, a3, a4, a5⟩ | ⟨d1, hT, hG, ht, hs, hNN, hn, hb1, hb2⟩
  · rw [if_pos a1, if_pos a3]; exact ⟨rfl, h⟩
  · rw [if_neg (show ¬ A 3 6 = 0 by omega), if_neg (show ¬ B 201 16 = 0 by omega)]
    by_cases g : 0 ≤ n ∧ n ≤ 60
    · rw [if_pos g, if_neg (not_not_intro g)]
      obtain ⟨q1, q2⟩ := ah_ok hT hG n.toNat 0 (cnM B) (by rw [cn_row (by decide)]; exact ht) (cn_sa hT hG hs) (by decide) (by omega)
      rw [show (0 : Int) + (n.toNat : Int) = n by omega] at q1
      exact ⟨q1.1.2.2.1, h.b11 fun a ha => (q2 a ha).trans (cn_row ha)⟩
    · rw [if_neg g, if_pos g]; exact ⟨rfl, h⟩
theorem st_known {A B : xMem} (h : Rl A B) (s n : Int) : xKnown A s n = (yKnown B s n).1 ∧ Rl A (yKnown B s n).2 := by
  unfold xKnown yKnown
  rcases h.cases with ⟨a1, a2, a3, a4, a5⟩ | ⟨d1, hT, hG, ht, hs, hNN, hn, hb1, hb2⟩
  · rw [if_pos (by omega), if_pos (by omega)]; exact ⟨rfl, h⟩
  · rw [← hn.2.1]
    by_cases g : ¬ (0 ≤ s ∧ s < A 3 7) ∨ ¬ (0 ≤ n ∧ n ≤ 60)
    · rw [if_pos g, if_pos g]; exact ⟨rfl, h⟩
    · rw [if_neg g, if_neg g]
      obtain ⟨q1, q2⟩ := ah_ok hT hG n.toNat 0 (cnM B) (by rw [cn_row (by decide)]; exact ht) (cn_sa hT hG hs) (by decide) (by omega)
      rw [show (0 : Int) + (n.toNat : Int) = n by omega] at q1
      have g' : 0 ≤ s ∧ s < tw A 0 7 := by show 0 ≤ s ∧ s < A 3 7; omega
      refine ⟨?_, h.b11 fun a ha => (q2 a ha).trans (cn_row ha)⟩
      show _ = ahM n.toNat (cnM B) 211 (15 + s).toNat
      rw [iy15 (g := ahM n.toNat (cnM B) 211) (s := s) (by omega), ← q1.2.2 s g', pas_at3 g']
theorem ay_ok {T S : xMem} (hT : TI T) (g : GI T S 999) {s : Int} (hsp : 0 ≤ s ∧ s < T 0 7) : ∀ (k : Nat) (n : Int) (M : xMem), TA T (tg (M 209)) → SA T (pasS T S n) (sk (M 211)) → 0 ≤ n → n + k ≤ 61 → akL T S s k n = (ayL s k n M).1 ∧ ∀ a, a ≠ 211 → (ayL s k n M).2 a = M a
  | 0, n, M, ht, hs, h0, h1 => ⟨rfl, fun _ _ => rfl⟩
  | k + 1, n, M, ht, hs, h0, h1 => by
    have e1 : M 211 (15 + s).toNat = knwT T S s n := by rw [iy15 (g := M 211) (s := s) (by omega), ← hs.2.2 s hsp, pas_at3 hsp]
    have e2 : M 209 0 = T 0 6 := ht.2.1.symm
    unfold akL ayL
    rw [e1, e2]
    by_cases c : knwT T S s n = 2 ^ (T 0 6).toNat - 1
    · rw [if_pos c, if_pos c]; exact ⟨rfl, fun _ _ => rfl⟩
    · rw [if_neg c, if_neg c]
      obtain ⟨q1, q2⟩ := ay_ok hT g hsp k (n + 1) (psM M 211) (by rw [ps_lo (by decide)]; exact ht) (ps_step hT ht g hs (by omega)) (by omega) (by omega)
      exact ⟨q1, fun a ha => (q2 a ha).trans (ps_lo ha)⟩
theorem st_allKnow {A B : xMem} (h : Rl A B) (s : Int) : xAllKnow A s = (yAllKnow B s).1 ∧ Rl A (yAllKnow B s).2 := by
  unfold xAllKnow yAllKnow
  rcases h.cases with ⟨a1, a2, a3, a4, a5⟩ | ⟨d1, hT, hG, ht, hs, hNN, hn, hb1, hb2⟩
  · rw [if_pos (by omega), if_pos (by omega)]; exact ⟨rfl, h⟩
  · rw [← hn.2.1]
    by_cases g : 0 ≤ s ∧ s < A 3 7
    · rw [if_neg (not_not_intro g), if_neg (not_not_intro g)]
      obtain ⟨q1, q2⟩ := ay_ok hT hG (s := s) g 61 0 (cnM B) (by rw [cn_row (by decide)]; exact ht) (cn_sa hT hG hs) (by decide) (by decide)
      exact ⟨q1, h.b11 fun a ha => (q2 a ha).trans (cn_row ha)⟩
    · rw [if_pos g, if_pos g]; exact ⟨rfl, h⟩
/-! when it can be said -/
theorem till_min {T S : xMem} (hT : TI T) (hS : SI T S) {s mo n : Int} (hs : 0 ≤ s ∧ s < T 0 7) (hn : 0 ≤ n ∧ n ≤ mo) (hc : canT T (pasS T S n) s) : ¬ tillT T S s mo = -1000000 ∧ tillT T S s mo ≤ n := by
  have hq := hT.2.2.2.2 s hs
  have hin := hT.2.2.2.1 _ hq.2.1
  have hpu := (hS.2.2.2.2.2.1 _ hq.2.1).1
  have hcr := crn_b hT hS hs
  have e1 : wolT T (pasS T S n) s = wolT T S s := rfl
  have e2 : crnT T (pasS T S n) s = crnT T S s := rfl
  have e3 : pasS T S n 0 5 = if n = 0 then S 0 5 else T 0 5 := rfl
  have e4 : pasS T S n 1 (T 3 s.toNat).toNat = min 99 (S 1 (T 3 s.toNat).toNat + n * T 1 (T 3 s.toNat).toNat) := by
    rw [pas_at1 hq.2.1]
    rfl
  obtain ⟨-, c2, c3⟩ := hc
  rw [e1, e3] at c2
  rw [e2, e4] at c3
  have key : waitT T S s ≤ n ∧ 0 ≤ waitT T S s ∧ (waitT T S s = 0 ∨ wolT T S s ≤ T 0 5 ∧ crnT T S s ≤ 99) := by
    unfold waitT
    by_cases h0 : wolT T S s ≤ S 0 5 ∧ crnT T S s - S 1 (T 3 s.toNat).toNat ≤ 0
    · rw [if_pos h0]
      exact ⟨hn.1, Int.le_refl _, Or.inl rfl⟩
    · rw [if_neg h0]
      have hn1 : 1 ≤ n := by
        rcases (show n = 0 ∨ 1 ≤ n by omega) with h | h
        · subst h
          rw [if_pos rfl] at c2
          rw [Int.zero_mul] at c3
          exact absurd ⟨c2, by omega⟩ h0
        · exact h
      rw [if_neg (by omega)] at c2
      have hea : earnT T s (crnT T S s - S 1 (T 3 s.toNat).toNat) ≤ n := by
        unfold earnT
        split
        · omega
        · rename_i hl
          split
          · rename_i hp
            have h2 : (crnT T S s - S 1 (T 3 s.toNat).toNat + T 1 (T 3 s.toNat).toNat - 1) / T 1 (T 3 s.toNat).toNat < n + 1 := by
              rw [Int.ediv_lt_iff_lt_mul hp, Int.add_mul, Int.one_mul]
              omega
            omega
          · rename_i hp
            have : T 1 (T 3 s.toNat).toNat = 0 := by omega
            rw [this, Int.mul_zero] at c3
            omega
      exact ⟨by omega, by omega, Or.inr ⟨c2, by omega⟩⟩
  unfold tillT
  rw [if_pos ⟨key.2.2, by omega⟩]
  exact ⟨by omega, key.1⟩
theorem till_is {T S : xMem} (hT : TI T) (hS : SI T S) {s mo n : Int} (hs : 0 ≤ s ∧ s < T 0 7) (hsd : ¬ bitI (S 0 8) s = 1) (hn : 0 ≤ n ∧ n ≤ mo) (hmo : mo ≤ 60) (hc : canT T (pasS T S n) s) (hno : ∀ m : Int, 0 ≤ m → m < n → ¬ canT T (pasS T S m) s) : tillT T S s mo = n := by
  obtain ⟨q1, q2⟩ := till_min hT hS hs hn hc
  obtain ⟨q3, q4⟩ := till_can hT hS hs hsd hmo rfl q1
  rcases (show tillT T S s mo = n ∨ tillT T S s mo < n by omega) with h | h
  · exact h
  · exact absurd q4 (hno _ q3.1 h)
theorem till_no {T S : xMem} (hT : TI T) (hS : SI T S) {s mo : Int} (hs : 0 ≤ s ∧ s < T 0 7) (hsd : ¬ bitI (S 0 8) s = 1) (hmo : mo ≤ 60) (hno : ∀ m : Int, 0 ≤ m → m ≤ mo → ¬ canT T (pasS T S m) s) : tillT T S s mo = -1000000 := by
  by_cases h : tillT T S s mo = -1000000
  · exact h
  · obtain ⟨q3, q4⟩ := till_can hT hS hs hsd hmo rfl h
    exact absurd q4 (hno _ q3.1 q3.2)
theorem yw_ok {T S : xMem} (hT : TI T) (g : GI T S 999) {s : Int} (hsp : 0 ≤ s ∧ s < T 0 7) (hsd : ¬ bitI (S 0 8) s = 1) : ∀ (k : Nat) (n : Int) (M : xMem), TA T (tg (M 209)) → SA T (pasS T S n) (sk (M 211)) → 0 ≤ n → n + k = 61 → (∀ m : Int, 0 ≤ m → m < n → ¬ canT T (pasS T S m) s) → tillT T S s 60 = (ywL s k n M).1 ∧ ∀ a, a ≠ 211 → (ywL s k n M).2 a = M a
  | 0, n, M, ht, hs, h0, h1, hno => ⟨till_no hT g.1 hsp hsd (by decide) (fun m q1 q2 => hno m q1 (by omega)), fun _ _ => rfl⟩
  | k + 1, n, M, ht, hs, h0, h1, hno => by
    have e1 := can_cg hT ht hs hsp
    unfold ywL
    by_cases c : canT T (pasS T S n) s
    · rw [if_pos (e1.mpr c)]
      exact ⟨till_is hT g.1 hsp hsd (by omega) (by decide) c hno, fun _ _ => rfl⟩
    · rw [if_neg (fun z => c (e1.mp z))]
      obtain ⟨q1, q2⟩ := yw_ok hT g hsp hsd k (n + 1) (psM M 211) (by rw [ps_lo (by decide)]; exact ht) (ps_step hT ht g hs (by omega)) (by omega) (by omega) (fun m p1 p2 => by
        rcases (show m < n ∨ m = n by omega) with z | z
        · exact hno m p1 z
        · rw [z]; exact c)
      exact ⟨q1, fun a ha => (q2 a ha).trans (ps_lo ha)⟩
theorem st_when {A B : xMem} (h : Rl A B) (s : Int) : xWhen A s = (yWhen B s).1 ∧ Rl A (yWhen B s).2 := by
  unfold xWhen yWhen
  rcases h.cases with ⟨a1, a2, a3, a4, a5⟩ | ⟨d1, hT, hG, ht, hs, hNN, hn, hb1, hb2⟩
  · rw [if_pos (by omega), if_pos (by omega)]; exact ⟨rfl, h⟩
  · have e8 : A 9 8 = B 210 4 := hs.1.2.2.2.2
    rw [← hn.2.1, ← e8]
    by_cases g : 0 ≤ s ∧ s < A 3 7
    · rw [if_neg (not_not_intro g), if_neg (not_not_intro g)]
      by_cases g2 : bitI (A 9 8) s = 1
      · rw [if_pos g2, if_pos g2]; exact ⟨rfl, h⟩
      · rw [if_neg g2, if_neg g2]
        obtain ⟨q1, q2⟩ := yw_ok hT hG (s := s) g g2 61 0 (cnM B) (by rw [cn_row (by decide)]; exact ht) (cn_sa hT hG hs) (by decide) (by decide) (fun m p1 p2 => absurd p2 (by omega))
        exact ⟨q1, h.b11 fun a ha => (q2 a ha).trans (cn_row ha)⟩
    · rw [if_pos g, if_pos g]; exact ⟨rfl, h⟩
/-! what was done is kept -/
theorem sk_eq {f g : Nat → Int} {T : xMem} (hT : TI T) (h : ∀ j : Nat, j < 21 → f j = g j) : SA T (sk f) (sk g) := by
  have hn := hT.1
  have hN := hT.2.1
  exact ⟨⟨h 0 (by decide), h 1 (by decide), h 2 (by decide), h 3 (by decide), h 4 (by decide)⟩, fun i hi => ⟨h _ (by omega), h _ (by omega)⟩, fun s hs => h _ (by omega)⟩
theorem kp_P {A B : xMem} (hT : TI (tw A)) (hG : GI (tw A) (sv A 9) 999) (hs : SA (tw A) (sv A 9) (sk (B 210))) (hP : RlP A B) : RlP (kpM A) (reM B) := by
  obtain ⟨p1, p2, p3, p4, p5, p6⟩ := hP
  have a1 : kpM A 17 1 = if A 17 1 + 1 < 24 then A 17 1 + 1 else 0 := by unfold kpM; rw [mS_ne (Or.inr (by decide)), mS_eq]
  have a2 : kpM A 17 2 = min 24 (A 17 2 + 1) := by unfold kpM; rw [mS_eq]
  have b1 : reM B 201 21 = (B 201 21 + 1) % 24 := by unfold reM; rw [mS_ne (Or.inr (by decide)), mS_eq]
  have b2 : reM B 201 20 = if B 201 20 < 24 then B 201 20 + 1 else B 201 20 := by unfold reM; rw [mS_eq]
  have a3 : kpM A 3 6 = A 3 6 := kp_lo (by decide)
  have hb := kp_b p1 p2
  have n6 : 1 ≤ A 3 6 := hT.1.1
  have e1 : kpM A 17 1 = (A 17 1 + 1) % 24 := by
    rw [a1]
    split <;> omega
  refine ⟨hb.1, hb.2, by rw [e1, b1, p3], by rw [a2, b2, ← p4]; split <;> omega, fun q => by omega, fun d hd => ?_⟩
  rw [tw_kp, e1]
  rw [a2] at hd
  by_cases h1 : d = 1
  · subst h1
    have ei : ((A 17 1 + 1) % 24 - 1) % 24 = A 17 1 := by omega
    rw [ei]
    have c1 : SA (tw A) (sv (kpM A) (19 + 4 * (A 17 1).toNat)) (sv A 9) := by
      have e : sv (kpM A) (19 + 4 * (A 17 1).toNat) = sv (stCp A (19 + 4 * (A 17 1).toNat) 9) (19 + 4 * (A 17 1).toNat) := by
        unfold kpM
        rw [sv_mS (Or.inr (by omega)), sv_mS (Or.inr (by omega))]
      rw [e]
      exact SA_cp hT (by omega)
    refine ⟨GI_SA c1 hG, c1.trans (hs.trans (sk_eq hT fun j hj => ?_))⟩
    show B 210 j = reM B 212 (21 * A 17 1 + (j : Int)).toNat
    unfold reM
    rw [mS_ne (Or.inl (by decide)), mS_ne (Or.inl (by decide)), p3, rng_in (by omega), show (21 * B 201 21 + (j : Int)).toNat - (21 * B 201 21).toNat = j by omega]
  · have ei : ((A 17 1 + 1) % 24 - d) % 24 = (A 17 1 - (d - 1)) % 24 := by omega
    rw [ei]
    have q := p6 (d - 1) (by omega)
    have hne : (A 17 1 - (d - 1)) % 24 ≠ A 17 1 := by omega
    have hlt := Int.emod_nonneg (A 17 1 - (d - 1)) (show (24 : Int) ≠ 0 by decide)
    have hlt2 := Int.emod_lt_of_pos (A 17 1 - (d - 1)) (show (0 : Int) < 24 by decide)
    generalize (A 17 1 - (d - 1)) % 24 = x at *
    have e : sv (kpM A) (19 + 4 * x.toNat) = sv A (19 + 4 * x.toNat) := sv_eq fun a j q1 q2 => by
      unfold kpM
      rw [mS_ne (Or.inl (by omega)), mS_ne (Or.inl (by omega)), stCp_ne (by omega)]
    rw [e]
    refine ⟨q.1, q.2.trans (sk_eq hT fun j hj => ?_)⟩
    show B 212 (21 * x + (j : Int)).toNat = reM B 212 (21 * x + (j : Int)).toNat
    unfold reM
    rw [mS_ne (Or.inl (by decide)), mS_ne (Or.inl (by decide)), rng_out (by omega)]
/-- an act: what was is kept, then the stand changes -/
theorem Rl.did {A B A' B' : xMem} (h : Rl A B) (hT : TI (tw A)) (hG : GI (tw A) (sv A 9) 999) (ht : TA (tw A) (tg (B 209))) (hs : SA (tw A) (sv A 9) (sk (B 210))) (hNN : NN (B 209)) (h16 : B 201 16 = 1)
    (hA : ∀ a j, a < 9 ∨ 13 ≤ a → A' a j = kpM A a j) (hB : ∀ a, a ≠ 210 → B' a = reM B a) (g' : GI (tw A) (sv A' 9) 999) (s' : SA (tw A) (sv A' 9) (sk (B' 210))) : Rl A' B' := by
  have hP := kp_P hT hG hs h.2.2.2.2.1
  have r1 : ∀ j, j ≠ 20 → j ≠ 21 → reM B 201 j = B 201 j := fun j q1 q2 => by unfold reM; rw [mS_ne (Or.inr q1), mS_ne (Or.inr q2), rng_ne (by decide)]
  have etw : tw A' = tw A := (tw_eq fun a j q1 q2 => hA a j (by omega)).trans (tw_kp A)
  refine Rl.act h (fun a j q => ?_) (fun a q1 q2 q3 q4 q5 => by rw [hB a q3, re_row (by omega)]) (fun j q1 q2 q3 => by rw [hB 201 (by decide), r1 j q2 q3]) (fun z => by rw [hB 201 (by decide), r1 16 (by decide) (by decide)]; exact z) ?_ ?_
  · rw [hA a j (by omega)]
    unfold kpM
    rw [mS_ne (Or.inl (by omega)), mS_ne (Or.inl (by omega)), stCp_ne (by have := h.2.2.2.2.1.1; omega)]
  · refine Or.inr ⟨?_, ?_, ?_, ?_, ?_, ?_⟩
    · rw [hB 201 (by decide), r1 16 (by decide) (by decide)]; exact h16
    · rw [etw]; exact hT
    · rw [etw]; exact g'
    · rw [etw, hB 209 (by decide), re_row (by decide)]; exact ht
    · rw [etw]; exact s'
    · rw [hB 209 (by decide), re_row (by decide)]; exact hNN
  · exact hP.cg (fun a j q1 q2 => hA a j (by omega)) (fun a j q1 q2 => hA a j (by omega)) (by rw [hB 201 (by decide)]) (by rw [hB 201 (by decide)]) (hB 212 (by decide))
theorem st_say {A B : xMem} (h : Rl A B) (s : Int) : (xSay A s).1 = (ySay B s).1 ∧ Rl (xSay A s).2 (ySay B s).2 := by
  unfold xSay ySay
  rcases h.cases with ⟨a1, a2, a3, a4, a5⟩ | ⟨d1, hT, hG, ht, hs, hNN, hn, hb1, hb2⟩
  · rw [if_pos (by omega), if_pos (by omega)]; exact ⟨rfl, h⟩
  · rw [← hn.2.1]
    by_cases g : 0 ≤ s ∧ s < A 3 7
    · rw [if_neg (not_not_intro g), if_neg (not_not_intro g)]
      have g' : 0 ≤ s ∧ s < tw A 0 7 := g
      have ec := can_cg hT ht hs g'
      by_cases g2 : canT (tw A) (sv A 9) s
      · rw [if_neg (not_not_intro g2), if_neg (not_not_intro (ec.mpr g2))]
        have e9 : reM B 209 = B 209 := re_row (by decide)
        have e10 : reM B 210 = B 210 := re_row (by decide)
        have esv : sv (spkM (kpM A) 9 s) 9 = spkS (tw A) (sv A 9) s := by rw [sv_spk (by decide), tw_kp, sv_kp]
        have gs := GI_spk hT hG g' g2
        refine ⟨(wol_cg hT ht hs g').symm, Rl.did h hT hG ht hs hNN d1 (fun a j q => spk_lo (by omega)) (fun a q => sa_lo q) (by rw [esv]; exact gs) ?_⟩
        rw [esv]
        have e1 := sa_SA (M := reM B) (k := 210) (s := s) (by rw [e9]; exact ht.TI hT) (by rw [e9, ← hn.2.1]; exact g)
        rw [e9, e10] at e1
        exact (spk_cg hT ht hs g').trans (SA_ta ht.symm e1.symm)
      · rw [if_pos g2, if_pos (fun q => g2 (ec.mp q))]; exact ⟨rfl, h⟩
    · rw [if_pos g, if_pos g]; exact ⟨rfl, h⟩
theorem wk_ok : ∀ (k : Nat) {A B : xMem}, Rl A B → B 201 16 = 1 → A 9 4 + k ≤ 999 → Rl (wkM k A) (ywk k B) ∧ (ywk k B) 201 16 = 1
  | 0, A, B, h, h16, _ => ⟨h, h16⟩
  | k + 1, A, B, h, h16, hk => by
    rcases h.cases with ⟨a1, a2, a3, a4, a5⟩ | ⟨d1, hT, hG, ht, hs, hNN, hn, hb1, hb2⟩
    · omega
    · have e9 : reM B 209 = B 209 := re_row (by decide)
      have e10 : reM B 210 = B 210 := re_row (by decide)
      have esv : sv (pasM (kpM A) 9 1) 9 = pasS (tw A) (sv A 9) 1 := by rw [sv_pas (by decide), tw_kp, sv_kp]
      have e4 : pasS (tw A) (sv A 9) 1 0 4 = A 9 4 + 1 := rfl
      have gp : GI (tw A) (pasS (tw A) (sv A 9) 1) 999 := ⟨SI_pas hT hG.1 (by decide) (by show A 9 4 + 1 ≤ 100000; omega), KI_pas hT hG.1 hG.2.1, by rw [e4]; omega, hG.2.2.2⟩
      have e1 := ps_SA (M := reM B) (k := 210) (by rw [e9]; exact ht.TI hT) (by rw [e9, e10]; exact KI_ta ht hs hG.2.1)
      rw [e9, e10] at e1
      have hr : Rl (pasM (kpM A) 9 1) (psM (reM B) 210) := Rl.did h hT hG ht hs hNN d1 (fun a j q => pas_lo (by decide) (by omega)) (fun a q => ps_lo q) (by rw [esv]; exact gp) (by rw [esv]; exact (pas_cg ht hs).trans (SA_ta ht.symm e1.symm))
      refine wk_ok k hr ?_ ?_
      · rw [ps_lo (by decide)]
        unfold reM
        rw [mS_ne (Or.inr (by decide)), mS_ne (Or.inr (by decide)), rng_ne (by decide)]
        exact d1
      · have : pasM (kpM A) 9 1 9 4 = sv (pasM (kpM A) 9 1) 9 0 4 := rfl
        rw [this, esv, e4]
        omega
theorem st_weeks {A B : xMem} (h : Rl A B) (n : Int) : (xWeeks A n).1 = (yWeeks B n).1 ∧ Rl (xWeeks A n).2 (yWeeks B n).2 := by
  unfold xWeeks yWeeks
  rcases h.cases with ⟨a1, a2, a3, a4, a5⟩ | ⟨d1, hT, hG, ht, hs, hNN, hn, hb1, hb2⟩
  · rw [if_pos a1, if_pos a3]; exact ⟨rfl, h⟩
  · have e4 : A 9 4 = B 210 0 := hs.1.1
    rw [if_neg (show ¬ A 3 6 = 0 by omega), if_neg (show ¬ B 201 16 = 0 by omega), ← e4]
    by_cases g1 : 1 ≤ n ∧ n ≤ 24
    · rw [if_neg (not_not_intro g1), if_neg (not_not_intro g1)]
      by_cases g2 : 999 < A 9 4 + n
      · rw [if_pos g2, if_pos g2]; exact ⟨rfl, h⟩
      · rw [if_neg g2, if_neg g2]
        obtain ⟨q1, q2⟩ := wk_ok n.toNat h d1 (by omega)
        refine ⟨?_, q1⟩
        rcases q1.cases with ⟨a1, a2, a3, a4, a5⟩ | ⟨d1', hT', hG', ht', hs', -⟩
        · omega
        · exact hs'.1.2.2.1
    · rw [if_pos g1, if_pos g1]; exact ⟨rfl, h⟩
theorem sv_at0 (M : xMem) (k j : Nat) : sv M k 0 j = M k j := rfl
theorem st_buy {A B : xMem} (h : Rl A B) (p n : Int) : (xBuy A p n).1 = (yBuy B p n).1 ∧ Rl (xBuy A p n).2 (yBuy B p n).2 := by
  unfold xBuy yBuy
  rcases h.cases with ⟨a1, a2, a3, a4, a5⟩ | ⟨d1, hT, hG, ht, hs, hNN, hn, hb1, hb2⟩
  · rw [if_pos (by omega), if_pos (by omega)]; exact ⟨rfl, h⟩
  · rw [← hn.1]
    by_cases g : ¬ (0 ≤ p ∧ p < A 3 6) ∨ ¬ (1 ≤ n ∧ n ≤ 60)
    · rw [if_pos g, if_pos g]; exact ⟨rfl, h⟩
    · rw [if_neg g, if_neg g]
      have g' : 0 ≤ p ∧ p < tw A 0 6 := by show 0 ≤ p ∧ p < A 3 6; omega
      have f1 : A 10 p.toNat = B 210 (5 + p).toNat := by rw [iy5 (g := B 210) (s := p) (by omega)]; exact (hs.2.1 p g').1
      have f2 : A 11 p.toNat = B 210 (10 + p).toNat := by rw [iy10 (g := B 210) (s := p) (by omega)]; exact (hs.2.1 p g').2
      have f3 : A 9 5 = B 210 1 := hs.1.2.1
      have f4 : A 9 7 = B 210 3 := hs.1.2.2.2.1
      rw [← f1, ← f2, ← f3, ← f4]
      by_cases g2 : n ≤ A 9 5 ∧ n * A 9 7 ≤ A 10 p.toNat ∧ A 11 p.toNat + n ≤ 99
      · rw [if_neg (not_not_intro g2), if_neg (not_not_intro g2)]
        refine ⟨rfl, ?_⟩
        dsimp only
        have e10 : ∀ j, reM B 210 j = B 210 j := fun j => by rw [re_row (by decide)]
        obtain ⟨⟨w1, w2, w3, w4, w5⟩, w6, w7⟩ := hs
        obtain ⟨⟨s1, s2, s3, s4, s5, s6, s7⟩, hK, hw⟩ := hG
        have hl : 0 ≤ A 9 5 ∧ A 9 5 ≤ 99 := s2
        have hpr : 1 ≤ A 9 7 ∧ A 9 7 ≤ 9 := s4
        have hmul : 0 ≤ n * A 9 7 := Int.mul_nonneg (by omega) (by omega)
        have hpp : (0 ≤ A 10 p.toNat ∧ A 10 p.toNat ≤ 99) ∧ (0 ≤ A 11 p.toNat ∧ A 11 p.toNat ≤ 99) := s6 p g'
        have k9 : ∀ a j, a < 17 → kpM A a j = A a j := fun a j q => kp_lo q
        have c0 : ∀ j, bnkM (kpM A) 9 p n 9 j = if j = 5 then A 9 5 - n else A 9 j := fun j => by
          unfold bnkM
          rw [mS_ne (Or.inl (by decide)), mS_ne (Or.inl (by decide))]
          by_cases q : j = 5
          · subst q; rw [if_pos rfl, mS_eq, k9 9 5 (by decide)]
          · rw [if_neg q, mS_ne (Or.inr q), k9 9 j (by decide)]
        have c1 : ∀ j, bnkM (kpM A) 9 p n 10 j = if j = p.toNat then A 10 p.toNat - n * A 9 7 else A 10 j := fun j => by
          unfold bnkM
          rw [mS_ne (Or.inl (by decide))]
          by_cases q : j = p.toNat
          · subst q; rw [if_pos rfl, mS_eq, k9 _ _ (by decide), k9 _ _ (by decide)]
          · rw [if_neg q, mS_ne (Or.inr q), mS_ne (Or.inl (by decide)), k9 _ _ (by decide)]
        have c2 : ∀ j, bnkM (kpM A) 9 p n 11 j = if j = p.toNat then A 11 p.toNat + n else A 11 j := fun j => by
          unfold bnkM
          by_cases q : j = p.toNat
          · subst q; rw [if_pos rfl, mS_eq, k9 _ _ (by decide)]
          · rw [if_neg q, mS_ne (Or.inr q), mS_ne (Or.inl (by decide)), mS_ne (Or.inl (by decide)), k9 _ _ (by decide)]
        have c3 : ∀ j, bnkM (kpM A) 9 p n 12 j = A 12 j := fun j => by
          unfold bnkM
          rw [mS_ne (Or.inl (by decide)), mS_ne (Or.inl (by decide)), mS_ne (Or.inl (by decide)), k9 _ _ (by decide)]
        refine Rl.did h hT ⟨⟨s1, s2, s3, s4, s5, s6, s7⟩, hK, hw⟩ ht ⟨⟨w1, w2, w3, w4, w5⟩, w6, w7⟩ hNN d1 (fun a j q => ?_) (fun a q => ?_) ⟨⟨?_, ?_, ?_, ?_, ?_, fun i hi => ⟨?_, ?_⟩, fun s hs => ?_⟩, fun s hs => ?_, ?_⟩ ⟨⟨?_, ?_, ?_, ?_, ?_⟩, fun i hi => ⟨?_, ?_⟩, fun s hs => ?_⟩
        · unfold bnkM
          rw [mS_ne (Or.inl (by omega)), mS_ne (Or.inl (by omega)), mS_ne (Or.inl (by omega))]
        · unfold byM
          rw [mS_row q, mS_row q, mS_row q]
        · rw [sv_at0, c0, if_neg (by decide)]; exact s1
        · rw [sv_at0, c0, if_pos rfl]; omega
        · rw [sv_at0, c0, if_neg (by decide)]; exact s3
        · rw [sv_at0, c0, if_neg (by decide)]; exact s4
        · rw [sv_at0, c0, if_neg (by decide)]; exact s5
        · show 0 ≤ bnkM (kpM A) 9 p n 10 i.toNat ∧ bnkM (kpM A) 9 p n 10 i.toNat ≤ 99
          rw [c1]
          split
          · omega
          · exact (s6 i hi).1
        · show 0 ≤ bnkM (kpM A) 9 p n 11 i.toNat ∧ bnkM (kpM A) 9 p n 11 i.toNat ≤ 99
          rw [c2]
          split
          · omega
          · exact (s6 i hi).2
        · show 0 ≤ bnkM (kpM A) 9 p n 12 s.toNat ∧ bnkM (kpM A) 9 p n 12 s.toNat ≤ 31
          rw [c3]; exact s7 s hs
        · show bnkM (kpM A) 9 p n 12 s.toNat < _ ∧ (¬ bitI (bnkM (kpM A) 9 p n 9 8) s = 1 → bnkM (kpM A) 9 p n 12 s.toNat = 0)
          rw [c3, c0, if_neg (by decide)]; exact hK s hs
        · rw [sv_at0, c0, if_neg (by decide), sv_at0, c0, if_neg (by decide)]; exact hw
        · rw [sv_at0, c0, if_neg (by decide)]
          show A 9 4 = byM (reM B) p n 210 0
          unfold byM
          rw [mS_ne (Or.inr (by omega)), mS_ne (Or.inr (by omega)), mS_ne (Or.inr (by omega)), e10]; exact w1
        · rw [sv_at0, c0, if_pos rfl]
          show A 9 5 - n = byM (reM B) p n 210 1
          unfold byM
          rw [mS_ne (Or.inr (by omega)), mS_ne (Or.inr (by omega)), mS_eq, e10, f3]
        · rw [sv_at0, c0, if_neg (by decide)]
          show A 9 6 = byM (reM B) p n 210 2
          unfold byM
          rw [mS_ne (Or.inr (by omega)), mS_ne (Or.inr (by omega)), mS_ne (Or.inr (by omega)), e10]; exact w3
        · rw [sv_at0, c0, if_neg (by decide)]
          show A 9 7 = byM (reM B) p n 210 3
          unfold byM
          rw [mS_ne (Or.inr (by omega)), mS_ne (Or.inr (by omega)), mS_ne (Or.inr (by omega)), e10]; exact w4
        · rw [sv_at0, c0, if_neg (by decide)]
          show A 9 8 = byM (reM B) p n 210 4
          unfold byM
          rw [mS_ne (Or.inr (by omega)), mS_ne (Or.inr (by omega)), mS_ne (Or.inr (by omega)), e10]; exact w5
        · have hi' : 0 ≤ i ∧ i < A 3 6 := hi
          show bnkM (kpM A) 9 p n 10 i.toNat = byM (reM B) p n 210 (5 + i.toNat)
          rw [c1]
          unfold byM
          by_cases q : i.toNat = p.toNat
          · rw [if_pos q, show 5 + i.toNat = (5 + p).toNat by omega, mS_ne (Or.inr (by omega)), mS_eq, e10, e10, f1, f4]
          · rw [if_neg q, mS_ne (Or.inr (by omega)), mS_ne (Or.inr (by omega)), mS_ne (Or.inr (by omega)), e10]; exact (w6 i hi).1
        · have hi' : 0 ≤ i ∧ i < A 3 6 := hi
          show bnkM (kpM A) 9 p n 11 i.toNat = byM (reM B) p n 210 (10 + i.toNat)
          rw [c2]
          unfold byM
          by_cases q : i.toNat = p.toNat
          · rw [if_pos q, show 10 + i.toNat = (10 + p).toNat by omega, mS_eq, e10, f2]
          · rw [if_neg q, mS_ne (Or.inr (by omega)), mS_ne (Or.inr (by omega)), mS_ne (Or.inr (by omega)), e10]; exact (w6 i hi).2
        · have hs' : 0 ≤ s ∧ s < A 3 7 := hs
          show bnkM (kpM A) 9 p n 12 s.toNat = byM (reM B) p n 210 (15 + s.toNat)
          rw [c3]
          unfold byM
          rw [mS_ne (Or.inr (by omega)), mS_ne (Or.inr (by omega)), mS_ne (Or.inr (by omega)), e10]; exact w7 s hs
      · rw [if_pos g2, if_pos g2]; exact ⟨rfl, h⟩
end RLC
