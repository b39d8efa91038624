section RLG
/-! the most that is left in a purse -/
def okT (P : Nat → Int) (price c n : Int) : Prop := 0 ≤ P (c - n).toNat ∧ n * price ≤ P (c - n).toNat
def vT (P : Nat → Int) (price c n : Int) : Int := P (c - n).toNat - n * price
/-- the greatest of what a stretch of numbers gives -/
def isX (ok : Int → Prop) (v : Int → Int) (no e r : Int) : Prop := (r = no ∧ ∀ n, 0 ≤ n → n < e → ¬ ok n) ∨ ((∃ n, (0 ≤ n ∧ n < e) ∧ ok n ∧ r = v n) ∧ ∀ n, 0 ≤ n → n < e → ok n → v n ≤ r)
theorem isX_s {ok : Int → Prop} {v : Int → Int} {no i r : Int} (hi : 0 ≤ i) (h : isX ok v no i r) {r' : Int} (h1 : ok i → r' = if r = no then v i else max r (v i)) (h2 : ¬ ok i → r' = r) (hno : ∀ n, 0 ≤ n → n < i → ok n → v n ≠ no) : isX ok v no (i + 1) r' := by
  by_cases c : ok i
  · have e := h1 c
    right
    rcases h with ⟨a1, a2⟩ | ⟨⟨m, b1, b2, b3⟩, b4⟩
    · rw [if_pos a1] at e
      refine ⟨⟨i, by omega, c, e⟩, fun n q1 q2 q3 => ?_⟩
      rcases (show n = i ∨ n < i by omega) with z | z
      · subst z; omega
      · exact absurd q3 (a2 n q1 z)
    · rw [if_neg (by rw [b3]; exact hno m b1.1 b1.2 b2)] at e
      refine ⟨?_, fun n q1 q2 q3 => ?_⟩
      · rcases (show r' = r ∨ r' = v i by omega) with z | z
        · exact ⟨m, by omega, b2, by omega⟩
        · exact ⟨i, by omega, c, z⟩
      · rcases (show n = i ∨ n < i by omega) with z | z
        · subst z; omega
        · have := b4 n q1 z q3
          omega
  · have e := h2 c
    rcases h with ⟨a1, a2⟩ | ⟨⟨m, b1, b2, b3⟩, b4⟩
    · refine Or.inl ⟨by omega, fun n q1 q2 => ?_⟩
      rcases (show n = i ∨ n < i by omega) with z | z
      · subst z; exact c
      · exact a2 n q1 z
    · refine Or.inr ⟨⟨m, by omega, b2, by omega⟩, fun n q1 q2 q3 => ?_⟩
      rcases (show n = i ∨ n < i by omega) with z | z
      · subst z; exact absurd q3 c
      · have := b4 n q1 z q3
        omega
/-- arrays of both, as far as wanted -/
def FP (F P : Nat → Int) (w : Int) : Prop := ∀ j : Int, 0 ≤ j → j ≤ w → (P j.toNat = -1 ∧ F j.toNat = -1000000) ∨ ((0 ≤ P j.toNat ∧ P j.toNat ≤ 99) ∧ F j.toNat = P j.toNat)
theorem rst_is {F P : Nat → Int} {w c price ra : Int} (h : FP F P w) (hc : 0 ≤ c ∧ c ≤ w) (hp : 0 ≤ price) (hr : 0 ≤ ra) : isX (okT P price c) (vT P price c) (-1000000) (min ra c + 1) (rstT F price ra c) := by
  unfold rstT
  refine foldI_inv (f := rstF F price c) (fun i a => isX (okT P price c) (vT P price c) (-1000000) i a) (n := min ra c + 1) (fun i a h0 h1 q => ?_) (min ra c + 1).toNat 0 (-1000000) (by decide) (by omega) (Or.inl ⟨rfl, fun n q1 q2 => by omega⟩)
  have hf := h (c - i) (by omega) (by omega)
  have hm : 0 ≤ i * price := Int.mul_nonneg h0 hp
  refine isX_s h0 q (fun ok => ?_) (fun nok => ?_) (fun n q1 q2 q3 => ?_)
  · unfold okT at ok
    have e : F (c - i).toNat = P (c - i).toNat := by omega
    unfold rstF
    rw [if_pos (by omega), e]
    show max a (vT P price c i) = _
    by_cases z : a = -1000000
    · rw [if_pos z]
      unfold vT
      omega
    · rw [if_neg z]
  · unfold rstF
    rw [if_neg (fun z => nok (by unfold okT; omega))]
  · unfold vT
    unfold okT at q3
    omega
/-- the model's rows: what one week lays into a cell -/
theorem ti_at {P : Nat → Int} {price inc b : Int} {c : Nat} : ∀ (k : Nat) (i : Int) (M : xMem), 0 ≤ b → 0 ≤ i → foldI (tiF P price inc b) k i M 215 c = if b + i ≤ (c : Int) ∧ (c : Int) < b + i + k then max (M 215 c) (tvT P price inc b ((c : Int) - b)) else M 215 c
  | 0, i, M, hb, h0 => by
    rw [if_neg (by omega)]
    rfl
  | k + 1, i, M, hb, h0 => by
    show foldI (tiF P price inc b) k (i + 1) (tiF P price inc b i M) 215 c = _
    rw [ti_at k (i + 1) _ hb (by omega)]
    by_cases e : (c : Int) = b + i
    · rw [if_neg (by omega), if_pos (by omega)]
      unfold tiF
      rw [show (b + i).toNat = c by omega, mS_eq, show (c : Int) - b = i by omega]
      split <;> omega
    · have e2 : tiF P price inc b i M 215 c = M 215 c := by
        unfold tiF
        exact mS_ne (Or.inr (by omega))
      rw [e2]
      by_cases z : b + (i + 1) ≤ (c : Int) ∧ (c : Int) < b + (i + 1) + k
      · rw [if_pos z, if_pos (by omega)]
      · rw [if_neg z, if_neg (by omega)]
theorem to_at {P : Nat → Int} {price ra inc b : Int} {c : Nat} {M : xMem} (hb : 0 ≤ b ∧ b ≤ 60) (hr : 0 ≤ ra) (hc : c ≤ 60) : toF P price ra inc b M 215 c = if b ≤ (c : Int) ∧ (c : Int) - b ≤ ra then max (M 215 c) (tvT P price inc b ((c : Int) - b)) else M 215 c := by
  unfold toF
  rw [ti_at _ _ _ hb.1 (by decide)]
  by_cases z : b ≤ (c : Int) ∧ (c : Int) - b ≤ ra
  · rw [if_pos z, if_pos (by omega)]
  · rw [if_neg z, if_neg (by omega)]
def tcF (P : Nat → Int) (price ra inc : Int) (c : Nat) (b m : Int) : Int := if b ≤ (c : Int) ∧ (c : Int) - b ≤ ra then max m (tvT P price inc b ((c : Int) - b)) else m
theorem to_all {P : Nat → Int} {price ra inc : Int} {c : Nat} (hr : 0 ≤ ra) (hc : c ≤ 60) : ∀ (k : Nat) (i : Int) (M : xMem), 0 ≤ i → i + k ≤ 61 → foldI (toF P price ra inc) k i M 215 c = foldI (tcF P price ra inc c) k i (M 215 c)
  | 0, _, _, _, _ => rfl
  | k + 1, i, M, h0, h1 => by
    show foldI (toF P price ra inc) k (i + 1) (toF P price ra inc i M) 215 c = foldI (tcF P price ra inc c) k (i + 1) (tcF P price ra inc c i (M 215 c))
    rw [to_all hr hc k (i + 1) _ (by omega) (by omega), to_at (by omega) hr hc]
    rfl
/-- of the model, counted by what was bought before -/
theorem tc_is {P : Nat → Int} {price ra inc w : Int} {c : Nat} (hP : ∀ j : Int, 0 ≤ j → j ≤ w → -1 ≤ P j.toNat ∧ P j.toNat ≤ 99) (hc : (c : Int) ≤ w) (hp : 0 ≤ price) (hr : 0 ≤ ra) (hi : 0 ≤ inc) (hw : w ≤ 60) : isX (fun b => (b ≤ (c : Int) ∧ (c : Int) - b ≤ ra) ∧ okT P price c ((c : Int) - b)) (fun b => min 99 (vT P price c ((c : Int) - b) + inc)) (-1) 61 (foldI (tcF P price ra inc c) 61 0 (-1)) := by
  refine foldI_inv (f := tcF P price ra inc c) (fun i a => isX (fun b => (b ≤ (c : Int) ∧ (c : Int) - b ≤ ra) ∧ okT P price c ((c : Int) - b)) (fun b => min 99 (vT P price c ((c : Int) - b) + inc)) (-1) i a) (n := 61) (fun i a h0 h1 q => ?_) 61 0 (-1) (by decide) (by decide) (Or.inl ⟨rfl, fun n q1 q2 => by omega⟩)
  have hmul : ∀ x : Int, 0 ≤ x → 0 ≤ x * price := fun x hx => Int.mul_nonneg hx hp
  have hge : a = -1 ∨ 0 ≤ a := by
    rcases q with ⟨a1, a2⟩ | ⟨⟨m, b1, b2, b3⟩, b4⟩
    · exact Or.inl a1
    · right
      have := b2.2
      unfold okT at this
      dsimp only at b3
      unfold vT at b3
      omega
  refine isX_s h0 q (fun ok => ?_) (fun nok => ?_) (fun n q1 q2 q3 => ?_)
  · obtain ⟨o1, o2⟩ := ok
    unfold okT at o2
    rw [show ((c : Int) - ((c : Int) - i)).toNat = i.toNat by omega] at o2
    unfold tcF
    rw [if_pos o1]
    have e : tvT P price inc i ((c : Int) - i) = min 99 (P i.toNat - ((c : Int) - i) * price + inc) := by
      unfold tvT
      rw [if_neg (by omega)]
    have e2 : vT P price c ((c : Int) - i) = P i.toNat - ((c : Int) - i) * price := by
      unfold vT
      rw [show ((c : Int) - ((c : Int) - i)).toNat = i.toNat by omega]
    rw [e]
    try dsimp only
    rw [e2]
    split <;> omega
  · unfold tcF
    by_cases z : i ≤ (c : Int) ∧ (c : Int) - i ≤ ra
    · rw [if_pos z]
      have hno : ¬ okT P price c ((c : Int) - i) := fun y => nok ⟨z, y⟩
      unfold okT at hno
      rw [show ((c : Int) - ((c : Int) - i)).toNat = i.toNat by omega] at hno
      have e : tvT P price inc i ((c : Int) - i) = -1 := by
        unfold tvT
        rw [if_pos (by omega)]
      rw [e]
      omega
    · rw [if_neg z]
  · have z := q3.2
    unfold okT at z
    try dsimp only
    unfold vT
    omega
theorem th_one {F P : Nat → Int} {price ra inc w : Int} {c : Nat} (h : FP F P w) (hc : (c : Int) ≤ w) (hp : 0 ≤ price) (hr : 0 ≤ ra) (hi : 0 ≤ inc) (hw : w ≤ 60) : (foldI (tcF P price ra inc c) 61 0 (-1) = -1 ∧ nvT F price ra inc c = -1000000) ∨ ((0 ≤ foldI (tcF P price ra inc c) 61 0 (-1) ∧ foldI (tcF P price ra inc c) 61 0 (-1) ≤ 99) ∧ nvT F price ra inc c = foldI (tcF P price ra inc c) 61 0 (-1)) := by
  have x1 := rst_is h (c := (c : Int)) (price := price) (ra := ra) (by omega) hp hr
  have x2 := tc_is (P := P) (price := price) (ra := ra) (inc := inc) (w := w) (c := c) (fun j h0 h1 => by have := h j h0 h1; omega) hc hp hr hi hw
  generalize foldI (tcF P price ra inc c) 61 0 (-1) = m at *
  unfold nvT
  generalize rstT F price ra (c : Int) = r at *
  have hmul : ∀ x : Int, 0 ≤ x → 0 ≤ x * price := fun x hx => Int.mul_nonneg hx hp
  rcases x1 with ⟨a1, a2⟩ | ⟨⟨n, b1, b2, b3⟩, b4⟩
  · left
    rw [if_pos a1]
    refine ⟨?_, rfl⟩
    rcases x2 with ⟨c1, c2⟩ | ⟨⟨k, d1, d2, d3⟩, d4⟩
    · exact c1
    · exact absurd d2.2 (a2 _ (by omega) (by omega))
  · right
    have b2' := b2
    unfold okT at b2'
    have hv0 : 0 ≤ vT P price c n := by unfold vT; omega
    have hle : P ((c : Int) - n).toNat ≤ 99 := by have := h (c - n) (by omega) (by omega); omega
    have hv1 : vT P price c n ≤ 99 := by
      have := hmul n b1.1
      unfold vT; omega
    rw [if_neg (by omega)]
    rcases x2 with ⟨c1, c2⟩ | ⟨⟨k, d1, d2, d3⟩, d4⟩
    · exact absurd ⟨by omega, by rw [show (c : Int) - ((c : Int) - n) = n by omega]; exact b2⟩ (c2 ((c : Int) - n) (by omega) (by omega))
    · have e1 := b4 ((c : Int) - k) (by omega) (by omega) d2.2
      have e2 := d4 ((c : Int) - n) (by omega) (by omega) ⟨by omega, by rw [show (c : Int) - ((c : Int) - n) = n by omega]; exact b2⟩
      dsimp only at d3 e2
      rw [show (c : Int) - ((c : Int) - n) = n by omega] at e2
      have d2' := d2.2
      unfold okT at d2'
      have hk0 : 0 ≤ vT P price c ((c : Int) - k) := by unfold vT; omega
      omega
theorem wk_at {M : xMem} {p price : Int} {c : Nat} (hr : 0 ≤ M 209 2) (hc : c ≤ 60) : wkY M p price 214 c = foldI (tcF (M 214) price (M 209 2) (M 209 (3 + p).toNat) c) 61 0 (-1) := by
  unfold wkY
  rw [rng_in (by omega), show c - (0 : Int).toNat = c by omega, to_all hr hc 61 0 _ (by decide) (by decide), rng_in (by omega)]
theorem thL_row {g : Nat → Int} {ra inc : Int} {a j : Nat} (h : a ≠ 148) : ∀ (k : Nat) (i : Int) (M : xMem), thL g ra inc k i M a j = M a j
  | 0, _, _ => rfl
  | k + 1, i, M => (thL_row h k (i + 1) _).trans (if_neg (fun q => h q.1))
theorem tyL_row {p r i : Int} {a : Nat} (h1 : a ≠ 214) (h2 : a ≠ 215) : ∀ (k : Nat) (j : Int) (M : xMem), tyL p r i k j M a = M a
  | 0, _, _ => rfl
  | k + 1, j, M => (tyL_row h1 h2 k (j + 1) _).trans (wk_row h1 h2)
theorem th_ok {g : Nat → Int} {ra inc p r i w : Int} (hr : 0 ≤ ra) (hi : 0 ≤ inc) (hw : 0 ≤ w ∧ w ≤ 60) : ∀ (k : Nat) (j : Int) (Mc Mm : xMem), Mc 147 1 = w → Mm 209 2 = ra → Mm 209 (3 + p).toNat = inc → (∀ x : Int, j ≤ x → x < j + k → g (i + x).toNat = Mm 204 (40 * r + (i + x)).toNat ∧ 0 ≤ g (i + x).toNat) → FP (Mc 148) (Mm 214) w → FP (thL g ra inc k (i + j) Mc 148) (tyL p r i k j Mm 214) w
  | 0, j, Mc, Mm, e1, e2, e3, hg, h => h
  | k + 1, j, Mc, Mm, e1, e2, e3, hg, h => by
    show FP (thL g ra inc k (i + j + 1) (thW Mc (g (i + j).toNat) ra inc (-1)) 148) (tyL p r i k (j + 1) (wkY Mm p (Mm 204 (40 * r + (i + j)).toNat)) 214) w
    rw [show i + j + 1 = i + (j + 1) by omega]
    have hj := hg j (by omega) (by omega)
    have e9 : wkY Mm p (Mm 204 (40 * r + (i + j)).toNat) 209 = Mm 209 := wk_row (by decide) (by decide)
    have e4 : wkY Mm p (Mm 204 (40 * r + (i + j)).toNat) 204 = Mm 204 := wk_row (by decide) (by decide)
    refine th_ok hr hi hw k (j + 1) _ _ ?_ (by rw [e9]; exact e2) (by rw [e9]; exact e3) (fun x h1 h2 => by rw [e4]; exact hg x (by omega) (by omega)) ?_
    · exact (if_neg (fun q => absurd q.1 (by decide))).trans e1
    · intro c h0 h1
      have z := th_one (F := Mc 148) (P := Mm 214) (price := g (i + j).toNat) (ra := ra) (inc := inc) (w := w) (c := c.toNat) h (by omega) hj.2 hr hi hw.2
      have f1 : thW Mc (g (i + j).toNat) ra inc (-1) 148 c.toNat = nvT (Mc 148) (g (i + j).toNat) ra inc ((c.toNat : Nat) : Int) := if_pos ⟨rfl, by omega, by omega⟩
      have f2 := wk_at (M := Mm) (p := p) (price := Mm 204 (40 * r + (i + j)).toNat) (c := c.toNat) (by omega) (by omega)
      rw [f1, f2, e2, e3, ← hj.1]
      exact z
theorem st_thrift {A B : xMem} (h : Rl A B) (p w r i n : Int) : (xThrift A p w r i n).1 = (yThrift B p w r i n).1 ∧ Rl (xThrift A p w r i n).2 (yThrift B p w r i n).2 := by
  unfold xThrift yThrift
  rcases h.cases with ⟨a1, a2, a3, a4, a5⟩ | ⟨d1, hT, hG, ht, hs, hNN, hn, hb1, hb2⟩
  · rw [if_pos (by omega), if_pos (by omega)]; exact ⟨rfl, h⟩
  · rw [← hn.1]
    by_cases g : ¬ (0 ≤ p ∧ p < A 3 6) ∨ ¬ (0 ≤ w ∧ w ≤ 60) ∨ ¬ (0 ≤ r ∧ r ≤ 7) ∨ ¬ (1 ≤ n ∧ n ≤ 12)
    · rw [if_pos g, if_pos g]; exact ⟨rfl, h⟩
    · rw [if_neg g, if_neg g]
      rcases sf_eq h (r := r) (i := i) (n := n) (by omega) with ⟨q1, q2⟩ | ⟨q1, q2, q3⟩ | ⟨q1, q2, q3, q4⟩
      · rw [q2, if_pos (by decide), if_pos q1]; exact ⟨rfl, h.st 1⟩
      · rw [q3, if_pos (by decide), if_neg q1, if_pos q2]; exact ⟨rfl, h.st 2⟩
      · rw [q3, if_neg (by decide), if_neg q1, if_neg (not_not_intro q2)]
        have hra := row_at h (r := r) (i := i) (n := n) (by omega) q2 q4
        rw [allW_cg (f := A (163 + 2 * r.toNat + 1)) (g := itG B r) _ _ (fun x h1 h2 => hra x h1 (by omega))]
        by_cases g2 : allW (itG B r) 1 9 n.toNat i = true
        · rw [if_neg (not_not_intro g2), if_neg (not_not_intro g2)]
          have gp : 0 ≤ p ∧ p < tw A 0 6 := by show 0 ≤ p ∧ p < A 3 6; omega
          have hpu : 0 ≤ A 10 p.toNat ∧ A 10 p.toNat ≤ 99 := (hG.1.2.2.2.2.2.1 p gp).1
          have f1 : A 10 p.toNat = B 210 (5 + p).toNat := by rw [iy5 (g := B 210) (s := p) (by omega)]; exact (hs.2.1 p gp).1
          have f2 : A 4 p.toNat = B 209 (3 + p).toNat := by rw [ix3 (g := B 209) (s := p) (by omega)]; exact ht.2.2.2.1 p gp
          have hinc : 0 ≤ A 4 p.toNat ∧ A 4 p.toNat ≤ 20 := hT.2.2.2.1 p gp
          have hra1 : 1 ≤ A 3 5 ∧ A 3 5 ≤ 60 := hT.2.2.1
          have hpr := allW_at n.toNat i g2
          unfold prt at q2
          have key : FP (thL (A (163 + 2 * r.toNat + 1)) (A 3 5) (A 4 p.toNat) n.toNat (i + 0) (thB A (A 10 p.toNat) w) 148) (tyL p r i n.toNat 0 (rngM B 214 0 (fun b => if b = 0 then B 210 (5 + p).toNat else -1) 61) 214) w := by
            refine th_ok (by omega) (by omega) (by omega) n.toNat 0 (thB A (A 10 p.toNat) w) _ thB_w ?_ ?_ (fun x h1 h2 => ?_) (fun j h0 h1 => ?_)
            · rw [rng_ne (by decide)]; exact hn.2.2.symm
            · rw [rng_ne (by decide)]; exact f2.symm
            · rw [rng_ne (by decide)]
              have z := hra (i + x) (by omega) (by omega)
              have z2 := hpr (i + x) (by omega) (by omega)
              rw [← z] at z2
              refine ⟨?_, by omega⟩
              rw [z]
              unfold itG
              rw [show (((i + x).toNat : Nat) : Int) = i + x by omega]
            · rw [rng_in (by omega), ← f1]
              unfold thB
              by_cases c : j = 0
              · subst c
                right
                exact ⟨hpu, mS_eq⟩
              · left
                refine ⟨if_neg (by omega), ?_⟩
                rw [mS_ne (Or.inr (by omega))]
                exact if_pos ⟨rfl, by omega, by omega⟩
          rw [Int.add_zero] at key
          have z := key w (by omega) (Int.le_refl _)
          refine ⟨?_, Rl.st (h.cg (fun a j z1 z2 => ?_) (fun a z1 z2 => ?_)) 0⟩
          · show thL _ _ _ _ _ _ 148 w.toNat = if tyL p r i n.toNat 0 _ 214 w.toNat < 0 then -1000000 else tyL p r i n.toNat 0 _ 214 w.toNat
            rcases z with ⟨z1, z2⟩ | ⟨z1, z2⟩
            · rw [z2, if_pos (by omega)]
            · rw [z2, if_neg (by omega)]
          · unfold scA at z2
            rw [thL_row (by omega), thB_lo (by omega) (by omega)]
          · unfold scB at z2
            rw [tyL_row (by omega) (by omega)]
            funext j
            exact rng_ne (by omega)
        · rw [if_pos g2, if_pos g2]; exact ⟨rfl, h.st 3⟩
end RLG
