/-! ===== thrift and orders, the model's way: what stays, how far it goes ===== -/
theorem foldI_go2 {α β : Type} {f : Int → α → α} (G : α → β) {n i : Int} {a b : α} {t : β} (h : i < n) (hi : G (foldI f (n - i).toNat i a) = t) (e : f i a = b) : G (foldI f (n - (i + 1)).toNat (i + 1) b) = t := by
  rw [foldI_step h, e] at hi
  exact hi
theorem foldI_pr {α : Type} {f : Int → α → α} {n : Int} (Q : α → Prop) (h : ∀ i a, 0 ≤ i → i < n → Q a → Q (f i a)) : ∀ (k : Nat) (i : Int) (a : α), 0 ≤ i → i + k ≤ n → Q a → Q (foldI f k i a)
  | 0, _, _, _, _, q => q
  | k + 1, i, a, h0, h1, q => foldI_pr Q h k (i + 1) (f i a) (by omega) (by omega) (h i a h0 (by omega) q)
theorem foldI_row {f : Int → xMem → xMem} {a : Nat} (h : ∀ i M, f i M a = M a) : ∀ (k : Nat) (i : Int) (M : xMem), foldI f k i M a = M a
  | 0, _, _ => rfl
  | k + 1, i, M => (foldI_row h k (i + 1) (f i M)).trans (h i M)
theorem ti_row {P : Nat → Int} {price inc b i : Int} {M : xMem} {a : Nat} (h : a ≠ 215) : tiF P price inc b i M a = M a := mS_row h
theorem to_row {P : Nat → Int} {price ra inc b : Int} {M : xMem} {a : Nat} (h : a ≠ 215) : toF P price ra inc b M a = M a := foldI_row (fun _ _ => ti_row h) _ _ _
theorem wk_row {M : xMem} {p price : Int} {a : Nat} (h1 : a ≠ 214) (h2 : a ≠ 215) : wkY M p price a = M a := by
  unfold wkY
  funext j
  rw [rng_ne h1, foldI_row (fun _ _ => to_row h2)]
  exact rng_ne h2
def PB (g : Nat → Int) : Prop := ∀ j : Nat, j < 61 → -1 ≤ g j ∧ g j ≤ 99
theorem tv_b {P : Nat → Int} {price inc b more : Int} (hi : 0 ≤ inc) : -1 ≤ tvT P price inc b more ∧ tvT P price inc b more ≤ 99 := by
  unfold tvT
  split <;> omega
theorem PB_mS {M : xMem} {k : Nat} {v : Int} (hv : -1 ≤ v ∧ v ≤ 99) (h : PB (M 215)) : PB (mS M 215 k v 215) := by
  intro j hj
  by_cases q : j = k
  · subst q
    rw [mS_eq]
    exact hv
  · rw [mS_ne (Or.inr q)]
    exact h j hj
theorem ti_b {P : Nat → Int} {price inc b i : Int} {M : xMem} (hi : 0 ≤ inc) (hb : 0 ≤ b + i ∧ b + i ≤ 60) (h : PB (M 215)) : PB (tiF P price inc b i M 215) := by
  have ht := tv_b (P := P) (price := price) (inc := inc) (b := b) (more := i) hi
  have hq := h (b + i).toNat (by omega)
  unfold tiF
  refine PB_mS ?_ h
  split <;> omega
theorem wk_b {M : xMem} {p price : Int} (hinc : 0 ≤ M 209 (3 + p).toNat) : PB (wkY M p price 214) := by
  have h0 : PB (rngM M 215 0 (fun _ => -1) 61 215) := fun j hj => by
    rw [rng_in (by omega)]
    exact ⟨by decide, by decide⟩
  have h1 := foldI_pr (f := toF (M 214) price (M 209 2) (M 209 (3 + p).toNat)) (n := 61) (fun X => PB (X 215)) (fun i a h0 h1 q =>
    foldI_pr (f := tiF (M 214) price (M 209 (3 + p).toNat) i) (n := max 0 (min (M 209 2) (60 - i) + 1)) (fun X => PB (X 215)) (fun _ _ _ _ q => ti_b hinc (by omega) q) _ 0 a (by omega) (by omega) q) 61 0 _ (by omega) (by omega) h0
  intro j hj
  unfold wkY
  rw [rng_in (by omega)]
  exact h1 _ (by omega)
theorem PB_0 {M : xMem} {v : Int} (h : 0 ≤ v ∧ v ≤ 99) : PB (rngM M 214 0 (fun b => if b = 0 then v else -1) 61 214) := by
  intro j hj
  rw [rng_in (by omega)]
  show -1 ≤ (if j - (0 : Int).toNat = 0 then v else -1) ∧ (if j - (0 : Int).toNat = 0 then v else -1) ≤ 99
  split <;> omega
theorem dg_row {N : Int} {a : Nat} (h : a ≠ 213) : ∀ (k : Nat) (l u : Int) (g : Bool) (M : xMem), (dgL N k l u g M).2 a = M a
  | 0, _, _, _, _ => rfl
  | k + 1, l, u, g, M => (dg_row h k _ _ _ _).trans (mS_row h)
theorem dg_b {N : Int} (hN : 1 ≤ N) : ∀ (k : Nat) (l u : Int) (g : Bool) (M : xMem) (n : Nat), (∀ j : Nat, k ≤ j → j < n → 0 ≤ M 213 j ∧ M 213 j < N) → ∀ j : Nat, j < n → 0 ≤ (dgL N k l u g M).2 213 j ∧ (dgL N k l u g M).2 213 j < N
  | 0, _, _, _, M, n, h, j, hj => h j (Nat.zero_le _) hj
  | k + 1, l, u, g, M, n, h, j, hj => dg_b hN k _ _ _ _ n (fun i h1 h2 => by
      by_cases q : i = k
      · subst q
        rw [mS_eq]
        exact ⟨Int.emod_nonneg _ (by omega), Int.emod_lt_of_pos _ (by omega)⟩
      · rw [mS_ne (Or.inr q)]
        exact h i (by omega) h2) j hj
theorem ww_ok {T : xMem} (hT : TI T) {s : Int} : ∀ (f : Nat) (w : Int) (M : xMem), tg (M 209) = T → GI T (sk (M 211)) (999 + w) → (0 ≤ w ∧ w ≤ 61) → f = (62 - w).toNat →
    (w ≤ (wwL s f w M).1 ∧ (wwL s f w M).1 ≤ 61) ∧ GI T (sk ((wwL s f w M).2 211)) (999 + (wwL s f w M).1) ∧ (∀ b, b ≠ 211 → (wwL s f w M).2 b = M b) ∧ ((wwL s f w M).1 ≤ 60 → canT T (sk ((wwL s f w M).2 211)) s)
  | 0, w, M, htg, hG, hw, hf => absurd hf (by omega)
  | f + 1, w, M, htg, hG, hw, hf => by
    unfold wwL
    split
    · rename_i hc
      rw [htg] at hc
      exact ⟨⟨Int.le_refl _, hw.2⟩, hG, fun _ _ => rfl, fun h => hc.resolve_right (by have : w ≤ 60 := h; omega)⟩
    · rename_i hc
      have hc2 : ¬ 60 < w := fun q => hc (Or.inr q)
      have hg := ps_GI (M := M) (k := 211) (w := 999 + w) (by rw [htg]; exact hT) (by omega) (by rw [htg]; exact hG)
      rw [htg, show (999 + w + 1 : Int) = 999 + (w + 1) by omega] at hg
      obtain ⟨q1, q2, q3, q4⟩ := ww_ok hT (s := s) f (w + 1) (psM M 211) (by rw [ps_lo (by decide)]; exact htg) hg (by omega) (by omega)
      exact ⟨⟨by omega, q1.2⟩, q2, fun b hb => (q3 b hb).trans (ps_lo hb), q4⟩
theorem wo_ok {T : xMem} (hT : TI T) {many : Int} : ∀ (f : Nat) (k w : Int) (M : xMem), tg (M 209) = T → GI T (sk (M 211)) (999 + w) → (0 ≤ w ∧ w ≤ 60) → (0 ≤ k ∧ k + f = many) → (∀ j : Nat, (j : Int) < many → 0 ≤ M 213 j ∧ M 213 j < T 0 7) →
    ((woL f k w M).1 = -1 ∨ (0 ≤ (woL f k w M).1 ∧ (woL f k w M).1 ≤ 60)) ∧ (∀ b, b ≠ 211 → (woL f k w M).2 b = M b)
  | 0, k, w, M, htg, hG, hw, hk, ho => ⟨Or.inr hw, fun _ _ => rfl⟩
  | f + 1, k, w, M, htg, hG, hw, hk, ho => by
    obtain ⟨q1, q2, q3, q4⟩ := ww_ok hT (s := M 213 k.toNat) (62 - w).toNat w M htg hG (by omega) rfl
    have hs := ho k.toNat (by omega)
    unfold woL
    split
    · rename_i h60
      have hc := q4 h60
      have e9 := q3 209 (by decide)
      have htg2 : tg ((wwL (M 213 k.toNat) (62 - w).toNat w M).2 209) = T := by rw [e9]; exact htg
      have h37 : T 0 7 = (wwL (M 213 k.toNat) (62 - w).toNat w M).2 209 1 := by rw [← htg2]; rfl
      have hg := sa_GI (M := (wwL (M 213 k.toNat) (62 - w).toNat w M).2) (k := 211) (w := 999 + (wwL (M 213 k.toNat) (62 - w).toNat w M).1) (s := M 213 k.toNat) (by rw [htg2]; exact hT) (by rw [htg2]; exact q2) (by rw [← h37]; exact hs) (by rw [htg2]; exact hc)
      rw [htg2] at hg
      obtain ⟨p1, p2⟩ := wo_ok hT (many := many) f (k + 1) (wwL (M 213 k.toNat) (62 - w).toNat w M).1 (saM (wwL (M 213 k.toNat) (62 - w).toNat w M).2 211 (M 213 k.toNat)) (by rw [sa_lo (by decide)]; exact htg2) hg (by omega) (by omega) (fun j hj => by rw [sa_lo (by decide), q3 213 (by decide)]; exact ho j hj)
      exact ⟨p1, fun b hb => (p2 b hb).trans ((sa_lo hb).trans (q3 b hb))⟩
    · exact ⟨Or.inl rfl, q3⟩
theorem woT_ok {M : xMem} (hT : TI (tg (M 209))) (hG : GI (tg (M 209)) (sk (M 210)) 999) (code many : Int) :
    ((woT M code many).1 = -1 ∨ (0 ≤ (woT M code many).1 ∧ (woT M code many).1 ≤ 60)) ∧ (∀ b, b ≠ 211 → b ≠ 213 → (woT M code many).2 b = M b) ∧ (∀ j : Nat, (j : Int) < many → 0 ≤ (woT M code many).2 213 j ∧ (woT M code many).2 213 j < M 209 1) := by
  have hN : 1 ≤ M 209 1 ∧ M 209 1 ≤ 6 := hT.2.1
  have e9 := dg_row (N := M 209 1) (a := 209) (by decide) many.toNat code (M 210 4) true M
  have e10 := dg_row (N := M 209 1) (a := 210) (by decide) many.toNat code (M 210 4) true M
  have hb := dg_b (N := M 209 1) hN.1 many.toNat code (M 210 4) true M many.toNat (fun i h1 h2 => absurd h2 (by omega))
  have hrow : ∀ b, b ≠ 213 → (dgL (M 209 1) many.toNat code (M 210 4) true M).2 b = M b := fun b hb => dg_row hb _ _ _ _ _
  unfold woT
  generalize (dgL (M 209 1) many.toNat code (M 210 4) true M) = D at *
  have hc9 : cnM D.2 209 = M 209 := (cn_row (by decide)).trans e9
  have hgc : GI (tg (M 209)) (sk (cnM D.2 211)) 999 := GI_SA (cn_SA hT) (by rw [e10]; exact hG)
  split
  · rcases (show many ≤ 0 ∨ 0 < many by omega) with hm | hm
    · rw [show many.toNat = 0 by omega]
      exact ⟨Or.inr ⟨show (0 : Int) ≤ 0 by decide, show (0 : Int) ≤ 60 by decide⟩, fun b h1 h2 => (cn_row h1).trans (hrow b h2), fun j hj => absurd hj (by omega)⟩
    · obtain ⟨p1, p2⟩ := wo_ok hT (many := many) many.toNat 0 0 (cnM D.2) (by rw [hc9]) (by rw [Int.add_zero]; exact hgc) (by decide) (by omega) (fun j hj => by rw [cn_row (by decide)]; exact hb j (by omega))
      exact ⟨p1, fun b h1 h2 => (p2 b h1).trans ((cn_row h1).trans (hrow b h2)), fun j hj => by rw [p2 213 (by decide), cn_row (by decide)]; exact hb j (by omega)⟩
  · exact ⟨Or.inl rfl, fun b h1 h2 => (cn_row h1).trans (hrow b h2), fun j hj => by
      show 0 ≤ cnM D.2 213 j ∧ cnM D.2 213 j < M 209 1
      rw [cn_row (by decide)]; exact hb j (by omega)⟩
theorem pw_b {N : Int} (hN : 1 ≤ N ∧ N ≤ 6) {k : Nat} (hk : k ≤ 6) : 1 ≤ N ^ k ∧ N ^ k ≤ 46656 := by
  have key : ∀ n : Nat, n < 7 → 1 ≤ n → ∀ k : Nat, k < 7 → 1 ≤ (n : Int) ^ k ∧ (n : Int) ^ k ≤ 46656 := by decide +kernel
  have := key N.toNat (by omega) (by omega) k (by omega)
  rw [show ((N.toNat : Nat) : Int) = N by omega] at this
  exact this
