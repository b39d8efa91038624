section RDK
/-! ===== class and model read the tape alike ===== -/
theorem fig_fy {g h : Nat → Int} {L : Int} (hg : ∀ j : Nat, (j : Int) < L → h j = g j) : ∀ (k : Nat) (i c n m : Int), 0 ≤ i → 0 ≤ c → (c ≤ 2 → n = m) → (c = 0 → m = 0) → (c = 1 → 0 ≤ m ∧ m ≤ 9) → (c = 2 → 0 ≤ m ∧ m ≤ 99) →
    (figL g L k i c n).1 = (fyL h L k i m).1 ∧ (figL g L k i c n).2.1 = c + ((figL g L k i c n).1 - i) ∧ i ≤ (figL g L k i c n).1 ∧ ((figL g L k i c n).2.1 ≤ 2 → (figL g L k i c n).2.2 = (fyL h L k i m).2)
  | 0, i, c, n, m, h0, hc, h1, h2, h3, h4 => ⟨rfl, by show c = c + (i - i); omega, Int.le_refl _, h1⟩
  | k + 1, i, c, n, m, h0, hc, h1, h2, h3, h4 => by
    by_cases q : i < L ∧ figB (g i.toNat)
    · have e : h i.toNat = g i.toNat := hg i.toNat (by omega)
      have hf : 48 ≤ g i.toNat ∧ g i.toNat ≤ 57 := q.2
      have e1 : figL g L (k + 1) i c n = figL g L k (i + 1) (c + 1) (if 2 < c + 1 then 0 else n * 10 + g i.toNat - 48) := if_pos q
      have e2 : fyL h L (k + 1) i m = fyL h L k (i + 1) (if 99 < m then m else 10 * m + g i.toNat - 48) := by
        show (if i < L ∧ figB (h i.toNat) then _ else _) = _
        rw [e, if_pos q]
      rw [e1, e2]
      have z := fig_fy hg k (i + 1) (c + 1) (if 2 < c + 1 then 0 else n * 10 + g i.toNat - 48) (if 99 < m then m else 10 * m + g i.toNat - 48) (by omega) (by omega) (fun y => by
        rw [if_neg (by omega), if_neg (by omega)]
        have := h1 (by omega)
        omega) (fun y => by omega) (fun y => by rw [if_neg (by omega)]; omega) (fun y => by rw [if_neg (by omega)]; omega)
      exact ⟨z.1, by omega, by omega, z.2.2.2⟩
    · have e1 : figL g L (k + 1) i c n = (i, c, n) := if_neg q
      have e2 : fyL h L (k + 1) i m = (i, m) := fyL_out (fun y => q (by rw [hg i.toNat (by omega)] at y; exact y)) _
      rw [e1, e2]
      exact ⟨rfl, by show c = c + (i - i); omega, Int.le_refl _, h1⟩
def tkC (t : Int) : Int := if t = -2 then 0 else if t = -3 then 48 else t
theorem tk_ok {g h : Nat → Int} {L i o o' : Int} (hg : ∀ j : Nat, (j : Int) < L → h j = g j) (hi : 0 ≤ i) : nxY h L i = nxP g L i ∧ tkY h L i = tkC (tkT g L i) ∧ (tkT g L i = -3 → nuT g L i o = nuY h L i o') ∧ (tkT g L i ≠ 48 ∧ tkT g L i ≠ 0) ∧ (tkY h L i = -1 → L ≤ i) := by
  unfold nxY nxP tkY tkT nuT nuY
  by_cases c1 : L ≤ i
  · simp only [if_pos c1]
    refine ⟨trivial, by decide, fun z => absurd z (by decide), ⟨by decide, by decide⟩, fun _ => c1⟩
  · simp only [if_neg c1]
    have e : h i.toNat = g i.toNat := hg i.toNat (by omega)
    rw [e]
    by_cases c2 : figB (g i.toNat)
    · simp only [if_pos c2]
      have z := fig_fy hg (L - i).toNat i 0 0 0 hi (by decide) (fun _ => rfl) (fun _ => rfl) (fun y => absurd y (by decide)) (fun y => absurd y (by decide))
      have z1 : (fgT g L i).1 = (fyT h L i).1 := z.1
      have z2 : (fgT g L i).2.1 = 0 + ((fgT g L i).1 - i) := z.2.1
      have z4 : (fgT g L i).2.1 ≤ 2 → (fgT g L i).2.2 = (fyT h L i).2 := z.2.2.2
      refine ⟨z1.symm, ?_, ?_, ?_, ?_⟩
      · unfold tkC
        by_cases c3 : 2 < (fgT g L i).2.1
        · rw [if_pos c3, if_pos (by omega), if_pos rfl]
        · rw [if_neg c3, if_neg (by omega), if_neg (by decide), if_pos rfl]
      · intro y
        by_cases c3 : 2 < (fgT g L i).2.1
        · rw [if_pos c3] at y; exact absurd y (by decide)
        · exact z4 (by omega)
      · split <;> exact ⟨by decide, by decide⟩
      · intro y
        split at y <;> exact absurd y (by decide)
    · simp only [if_neg c2]
      refine ⟨trivial, ?_, ?_, ?_, ?_⟩
      · unfold tkC
        by_cases c3 : (97 ≤ g i.toNat ∧ g i.toNat ≤ 122) ∨ g i.toNat = 44 ∨ g i.toNat = 59
        · rw [if_pos c3, if_pos c3, if_neg (by omega), if_neg (by omega)]
        · rw [if_neg c3, if_neg c3, if_pos rfl]
      · intro y
        split at y <;> omega
      · split <;> omega
      · intro y
        split at y <;> omega
/-! what reading leaves alone -/
def FX (A X : xMem) : Prop := (∀ a j, a ≠ 149 → (a < 151 ∨ 159 ≤ a) → X a j = A a j) ∧ X 157 4 = A 157 4 ∧ X 157 6 = A 157 6 ∧ X 157 8 = A 157 8 ∧ X 149 3 = A 149 3
def FY (B Y : xMem) : Prop := (∀ a, a ≠ 201 → a ≠ 206 → a ≠ 207 → a ≠ 208 → Y a = B a) ∧ ∀ j, j ≠ 6 → j ≠ 7 → j ≠ 8 → j ≠ 9 → j ≠ 10 → j ≠ 12 → Y 201 j = B 201 j
theorem FX_adv {A X : xMem} (h : FX A X) : FX A (advM X) := by
  obtain ⟨h1, h2, h3, h4, h5⟩ := h
  exact ⟨fun a j q1 q2 => (adv_lo q1).trans (h1 a j q1 q2), (adv_lo (by decide)).trans h2, (adv_lo (by decide)).trans h3, (adv_lo (by decide)).trans h4, (adv_o (by decide)).trans h5⟩
theorem FX_mS {A X : xMem} {k f : Nat} {v : Int} (hk : (k = 149 ∧ f ≠ 3) ∨ (151 ≤ k ∧ k < 159 ∧ (k = 157 → f = 5 ∨ f = 7))) (h : FX A X) : FX A (mS X k f v) := by
  obtain ⟨h1, h2, h3, h4, h5⟩ := h
  exact ⟨fun a j q1 q2 => (mS_ne (by omega)).trans (h1 a j q1 q2), (mS_ne (by omega)).trans h2, (mS_ne (by omega)).trans h3, (mS_ne (by omega)).trans h4, (mS_ne (by omega)).trans h5⟩
theorem FY_rs {B Y : xMem} (h : FY B Y) : FY B (rsM Y) := ⟨fun a q1 q2 q3 q4 => (rs_row q1).trans (h.1 a q1 q2 q3 q4), fun j q1 q2 q3 q4 q5 q6 => (rs_o ⟨q1, q2, q3, q4⟩).trans (h.2 j q1 q2 q3 q4 q5 q6)⟩
theorem FY_mS {B Y : xMem} {k f : Nat} {v : Int} (hk : (k = 201 ∧ (f = 6 ∨ f = 7 ∨ f = 8 ∨ f = 9 ∨ f = 10 ∨ f = 12)) ∨ k = 206 ∨ k = 207 ∨ k = 208) (h : FY B Y) : FY B (mS Y k f v) := ⟨fun a q1 q2 q3 q4 => (mS_row (by omega)).trans (h.1 a q1 q2 q3 q4), fun j q1 q2 q3 q4 q5 q6 => (mS_ne (by omega)).trans (h.2 j q1 q2 q3 q4 q5 q6)⟩
/-- ahead of a token -/
def Zp (A B X Y : xMem) : Prop := FX A X ∧ FY B Y ∧ RI X ∧ RY Y ∧ X 149 6 = Y 201 4 ∧ X 149 7 = Y 201 6 ∧ (∀ j : Nat, (j : Int) < X 149 6 → Y 205 j = X 150 j) ∧ X 149 4 = A 149 4
/-- behind it -/
def Zt (A B X Y : xMem) : Prop := Zp A B X Y ∧ X 149 5 = Y 201 9 ∧ Y 201 7 = tkC (X 149 8) ∧ (X 149 8 = -3 → X 149 9 = Y 201 8) ∧ (X 149 8 ≠ 48 ∧ X 149 8 ≠ 0) ∧ (Y 201 7 = -1 → Y 201 9 = Y 201 4)
theorem Zp.adv {A B X Y : xMem} (h : Zp A B X Y) : Zt A B (advM X) (rsM Y) := by
  obtain ⟨h1, h2, h3, h4, h5, h6, h7, h8⟩ := h
  have hk := tk_ok (g := X 150) (h := Y 205) (L := X 149 6) (i := X 149 7) (o := X 149 9) (o' := Y 201 8) h7 h3.2.1.1
  refine ⟨⟨FX_adv h1, FY_rs h2, RI_adv h3, RY_rs h4, ?_, ?_, ?_, (adv_o (by decide)).trans h8⟩, ?_, ?_, ?_, ?_, ?_⟩
  · rw [adv_o (by decide), rs_o (by decide)]; exact h5
  · rw [adv_7, rs_6, ← h5, ← h6]; exact hk.1.symm
  · intro j hj
    rw [adv_o (by decide)] at hj
    rw [rs_lo (by decide), adv_lo (by decide)]
    exact h7 j hj
  · rw [adv_5, rs_9]; exact h6
  · rw [rs_7, adv_8, ← h5, ← h6]; exact hk.2.1
  · rw [adv_8, adv_9, rs_8, ← h5, ← h6]; exact hk.2.2.1
  · rw [adv_8]; exact hk.2.2.2.1
  · rw [rs_7, rs_9, rs_o (by decide), ← h5, ← h6]
    intro y
    have := hk.2.2.2.2 y
    have := h3.2.1.2
    omega
theorem Zp.dx {A B X Y : xMem} {k f : Nat} {v : Int} (hk : (k = 149 ∧ f = 10) ∨ (151 ≤ k ∧ k < 159 ∧ (k = 157 → f = 5 ∨ f = 7))) (h : Zp A B X Y) : Zp A B (mS X k f v) Y := by
  obtain ⟨h1, h2, h3, h4, h5, h6, h7, h8⟩ := h
  refine ⟨FX_mS (by omega) h1, h2, RI_mS (by omega) h3, h4, by rw [mS_ne (by omega)]; exact h5, by rw [mS_ne (by omega)]; exact h6, fun j hj => ?_, (mS_ne (by omega)).trans h8⟩
  rw [mS_ne (by omega)] at hj
  rw [mS_ne (by omega)]
  exact h7 j hj
theorem Zp.dy {A B X Y : xMem} {k f : Nat} {v : Int} (hk : k = 206 ∨ k = 207 ∨ k = 208 ∨ (k = 201 ∧ (f = 12 ∨ f = 10))) (h : Zp A B X Y) : Zp A B X (mS Y k f v) := by
  obtain ⟨h1, h2, h3, h4, h5, h6, h7, h8⟩ := h
  exact ⟨h1, FY_mS (by omega) h2, h3, RY_mS (by omega) h4, by rw [mS_ne (by omega)]; exact h5, by rw [mS_ne (by omega)]; exact h6, fun j hj => by rw [mS_ne (by omega)]; exact h7 j hj, h8⟩
theorem Zt.dx {A B X Y : xMem} {k f : Nat} {v : Int} (hk : 151 ≤ k ∧ k < 159 ∧ (k = 157 → f = 5 ∨ f = 7)) (h : Zt A B X Y) : Zt A B (mS X k f v) Y := by
  obtain ⟨h0, h1, h2, h3, h4, h5⟩ := h
  unfold Zt
  rw [mS_ne (by omega), mS_ne (by omega), mS_ne (by omega)]
  exact ⟨h0.dx (Or.inr hk), h1, h2, h3, h4, h5⟩
theorem Zt.dy {A B X Y : xMem} {k f : Nat} {v : Int} (hk : k = 206 ∨ k = 207 ∨ k = 208 ∨ (k = 201 ∧ f = 12)) (h : Zt A B X Y) : Zt A B X (mS Y k f v) := by
  obtain ⟨h0, h1, h2, h3, h4, h5⟩ := h
  unfold Zt
  rw [mS_ne (by omega), mS_ne (by omega), mS_ne (by omega), mS_ne (by omega)]
  exact ⟨h0.dy (by omega), h1, h2, h3, h4, h5⟩
/-- reading from where the model's next token would be: a data cell doesn't matter -/
theorem Zn.dy {A B X Y : xMem} {k f : Nat} {v : Int} (hk : k = 206 ∨ k = 207 ∨ k = 208 ∨ (k = 201 ∧ f = 12)) (h : Zt A B X (rsM Y)) : Zt A B X (rsM (mS Y k f v)) := by
  have e5 : mS Y k f v 205 = Y 205 := mS_row (by omega)
  have e4 : mS Y k f v 201 4 = Y 201 4 := mS_ne (by omega)
  have e6 : mS Y k f v 201 6 = Y 201 6 := mS_ne (by omega)
  have e8 : mS Y k f v 201 8 = Y 201 8 := mS_ne (by omega)
  have hc : rsM (mS Y k f v) = mS (rsM Y) k f v := by
    unfold rsM
    rw [e5, e4, e6, e8, mS_cm (M := Y) (by omega), mS_cm (M := mS Y 201 9 (Y 201 6)) (by omega), mS_cm (M := mS (mS Y 201 9 (Y 201 6)) 201 8 _) (by omega), mS_cm (M := mS (mS (mS Y 201 9 (Y 201 6)) 201 8 _) 201 6 _) (by omega)]
  rw [hc]
  exact h.dy hk
/-- both fail alike -/
def FR (A B X Y : xMem) : Prop := FX A X ∧ FY B Y ∧ X 149 4 = Y 201 10 ∧ X 149 5 = Y 201 9 ∧ (Y 201 7 = -1 → Y 201 9 = Y 201 4)
def OR2 (A B : xMem) (D : xMem → xMem → Prop) (r s : Bool × xMem) : Prop := (r.1 = true ∧ s.1 = true ∧ D r.2 s.2) ∨ (r.1 = false ∧ s.1 = false ∧ FR A B r.2 s.2)
theorem Zt.fail {A B X Y : xMem} (h : Zt A B X Y) (f : Int) : FR A B (mS X 149 4 f) (mS Y 201 10 f) := by
  obtain ⟨h0, h1, h2, h3, h4, h5⟩ := h
  refine ⟨FX_mS (by decide) h0.1, FY_mS (by decide) h0.2.1, by rw [mS_eq, mS_eq], by rw [mS_ne (by decide), mS_ne (by decide)]; exact h1, ?_⟩
  rw [mS_ne (by decide), mS_ne (by decide), mS_ne (by decide)]
  exact h5
theorem Zt.sg {A B X Y : xMem} (h : Zt A B X Y) {x : Int} (hx : x ≠ 0 ∧ x ≠ 48 ∧ x ≠ -2 ∧ x ≠ -3) : Y 201 7 = x ↔ X 149 8 = x := by
  have h2 := h.2.2.1
  rw [h2]
  unfold tkC
  split
  · omega
  · split <;> omega
theorem Zt.nu {A B X Y : xMem} (h : Zt A B X Y) : Y 201 7 = 48 ↔ X 149 8 = -3 := by
  have h2 := h.2.2.1
  have h4 := h.2.2.2.2.1
  rw [h2]
  unfold tkC
  split
  · omega
  · split <;> omega
theorem Zt.so {A B X Y : xMem} (h : Zt A B X Y) : sortT (Y 201 7) = sortT (X 149 8) := by
  have h2 := h.2.2.1
  rw [h2]
  unfold tkC
  by_cases c : X 149 8 = -2
  · rw [if_pos c, c]; decide
  · rw [if_neg c]
    by_cases c2 : X 149 8 = -3
    · rw [if_pos c2, c2]; decide
    · rw [if_neg c2]
theorem or_S {A B X Y : xMem} {D : xMem → xMem → Prop} {x : Int} {k l : xMem → Bool × xMem} (h : Zt A B X (rsM Y)) (hx : x ≠ 0 ∧ x ≠ 48 ∧ x ≠ -2 ∧ x ≠ -3) (hk : Zt A B (advM X) (rsM (rsM Y)) → OR2 A B D (k (advM X)) (l (rsM Y))) : OR2 A B D (exS X x k) (eyS Y x l) := by
  have hs := h.sg hx
  by_cases c : X 149 8 = x
  · rw [exS_t c, eyS_t (hs.mpr c), sign_t (hs.mpr c)]
    exact hk h.1.adv
  · have c' : ¬ rsM Y 201 7 = x := fun z => c (hs.mp z)
    rw [exS_f c, eyS_f c']
    refine Or.inr ⟨rfl, rfl, ?_⟩
    unfold signM
    rw [if_neg c']
    exact h.fail 1
theorem or_N {A B X Y : xMem} {D : xMem → xMem → Prop} {lo hi : Int} {a j : Nat} {k : Int → xMem → Bool × xMem} {l : xMem → Bool × xMem} (h : Zt A B X (rsM Y)) (ha : a = 206 ∨ a = 207 ∨ a = 208) (hk : ∀ v, lo ≤ v → v ≤ hi → Zt A B (advM (mS X 149 10 v)) (rsM (mS (rsM Y) a j v)) → OR2 A B D (k v (advM (mS X 149 10 v))) (l (mS (rsM Y) a j v))) : OR2 A B D (exN X lo hi k) (eyN Y a j lo hi l) := by
  have hn := h.nu
  by_cases c : X 149 8 = -3
  · have e := h.2.2.2.1 c
    by_cases c2 : lo ≤ X 149 9 ∧ X 149 9 ≤ hi
    · have t : toldB Y lo hi := ⟨hn.mpr c, by rw [← e]; exact c2⟩
      rw [exN_t ⟨c, c2⟩, eyN_t t, told_t t, ← e]
      exact hk _ c2.1 c2.2 (Zn.dy (by omega) (by
        have z := (h.1.dx (k := 149) (f := 10) (v := X 149 9) (Or.inl ⟨rfl, rfl⟩)).adv
        exact z))
    · have t : ¬ toldB Y lo hi := fun z => c2 (by rw [e]; exact z.2)
      rw [exN_f (fun z => c2 z.2), eyN_f t]
      refine Or.inr ⟨rfl, rfl, ?_⟩
      unfold nF toldM
      rw [if_pos c, if_pos (hn.mpr c), if_neg (by rw [← e]; exact c2)]
      exact (h.dy (by omega)).fail 2
  · have t : ¬ toldB Y lo hi := fun z => c (hn.mp z.1)
    rw [exN_f (fun z => c z.1), eyN_f t]
    refine Or.inr ⟨rfl, rfl, ?_⟩
    unfold nF toldM
    rw [if_neg c, if_neg (fun z => c (hn.mp z))]
    exact h.fail 1
end RDK
