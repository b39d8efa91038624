section RLI2
/-- what an order's search leaves alone in the model -/
def LoC (B Y : xMem) : Prop := ∀ b, b ≠ 211 → b ≠ 213 → Y b = B b
theorem yo_vF {T S B : xMem} (hT : TI T) (g : GI T S 999) (ht : TA T (tg (B 209))) (hs : SA T S (sk (B 210))) {m : Nat} (hm : m ≤ 6) : ∀ (k : Nat) (i : Int) (q : Int × Int × xMem), LoC B q.2.2 →
    ((foldI (yoF m) k i q).1, (foldI (yoF m) k i q).2.1) = foldI (vF (fun code => VL T (dg (T 0 7) m code) m 0 S 0)) k i (q.1, q.2.1) ∧ LoC B (foldI (yoF m) k i q).2.2
  | 0, i, q, h => ⟨rfl, h⟩
  | k + 1, i, q, h => by
    have e9 := h 209 (by decide) (by decide)
    have e10 := h 210 (by decide) (by decide)
    obtain ⟨v1, v2, v3⟩ := wo_val hT g (Q := q.2.2) (by rw [e9]; exact ht) (by rw [e10]; exact hs) (code := i) hm
    have hl : LoC B (yoF m i q).2.2 := fun b h1 h2 => by
      unfold yoF
      split
      · exact (v3 b h1 h2).trans (h b h1 h2)
      · exact (v3 b h1 h2).trans (h b h1 h2)
    have z := yo_vF hT g ht hs hm k (i + 1) (yoF m i q) hl
    rw [show foldI (yoF m) (k + 1) i q = foldI (yoF m) k (i + 1) (yoF m i q) from rfl]
    refine ⟨z.1.trans ?_, z.2⟩
    show foldI _ k (i + 1) _ = foldI _ k (i + 1) (vF _ i (q.1, q.2.1))
    congr 1
    unfold yoF vF
    rw [v1]
    by_cases c : 0 ≤ VL T (dg (T 0 7) m i) m 0 S 0 ∧ VL T (dg (T 0 7) m i) m 0 S 0 < q.2.1
    · rw [if_pos c, if_pos c]
    · rw [if_neg c, if_neg c]
theorem yo_srch {T S B : xMem} (hT : TI T) (g : GI T S 999) (ht : TA T (tg (B 209))) (hs : SA T S (sk (B 210))) {m : Nat} (hm : m ≤ 6) : ((foldI (yoF m) (T 0 7 ^ m).toNat 0 (-1000000, 61, B)).1, (foldI (yoF m) (T 0 7 ^ m).toNat 0 (-1000000, 61, B)).2.1) = srch T m S 0 0 (-1000000, 61) ∧ LoC B (foldI (yoF m) (T 0 7 ^ m).toNat 0 (-1000000, 61, B)).2.2 := by
  have z := yo_vF hT g ht hs hm (T 0 7 ^ m).toNat 0 (-1000000, 61, B) (fun _ _ _ => rfl)
  have y := mo_srch hT (m := m) (v := fun code => VL T (dg (T 0 7) m code) m 0 S 0) m S 0 0 0 (-1000000, 61) (by omega) (by decide) (by rw [Int.add_zero]; exact g) (by decide) (fun code _ _ => rfl)
  rw [Int.zero_mul] at y
  exact ⟨z.1.trans y, z.2⟩
/-! the class's search -/
def BR (T M : xMem) (m : Nat) (q : Int × Int) : Prop := (q = (-1000000, 61) ∧ M 115 5 = -1000000 ∧ M 115 4 = 0) ∨ ((0 ≤ q.2 ∧ q.2 ≤ 60) ∧ 0 ≤ q.1 ∧ M 115 5 = q.2 ∧ M 115 4 = m ∧ ∀ j : Nat, j < m → M 118 j = dg (T 0 7) m q.1 j)
theorem BR.cg {T M N : xMem} {m : Nat} {q : Int × Int} (h : BR T M m q) (h5 : ∀ j, N 115 j = M 115 j) (h8 : ∀ j, N 118 j = M 118 j) : BR T N m q := by
  rcases h with ⟨a1, a2, a3⟩ | ⟨a1, a2, a3, a4, a5⟩
  · exact Or.inl ⟨a1, by rw [h5]; exact a2, by rw [h5]; exact a3⟩
  · exact Or.inr ⟨a1, a2, by rw [h5]; exact a3, by rw [h5]; exact a4, fun j hj => by rw [h8]; exact a5 j hj⟩
theorem BR.mw {T M : xMem} {m : Nat} {q : Int × Int} (h : BR T M m q) : mwT M = q.2 - 1 ∧ 0 ≤ q.2 ∧ q.2 ≤ 61 := by
  unfold mwT
  rcases h with ⟨a1, a2, a3⟩ | ⟨a1, a2, a3, a4, a5⟩
  · rw [if_pos a2, a1]
    exact ⟨by decide, by decide, by decide⟩
  · rw [if_neg (by omega), a3]
    exact ⟨rfl, by omega⟩
theorem kp_BR {T M : xMem} {m : Nat} {q : Int × Int} {w c : Int} (h : BR T M m q) (hw : 0 ≤ w ∧ w ≤ 60) (hc : 0 ≤ c) (ht : ∀ j : Nat, j < m → M 117 j = dg (T 0 7) m c j) : BR T (kpT M m w) m (if w < q.2 then (c, w) else q) := by
  obtain ⟨e1, e2, e3⟩ := h.mw
  unfold kpT
  rw [e1]
  by_cases z : w < q.2
  · rw [if_neg (by omega), if_pos z]
    refine Or.inr ⟨hw, hc, ?_, ?_, fun j hj => ?_⟩
    · unfold mCp
      rw [if_neg (by omega), mS_ne (Or.inr (by decide)), mS_eq]
    · unfold mCp
      rw [if_neg (by omega), mS_eq]
    · unfold mCp
      rw [if_pos (by omega), show 0 + (j - 0) = j by omega, mS_ne (Or.inl (by decide)), mS_ne (Or.inl (by decide))]
      exact ht j hj
  · rw [if_pos (by omega), if_neg z]
    exact h
theorem till_mo {T S : xMem} {s m1 m2 : Int} (h : m1 ≤ m2) : tillT T S s m1 = tillT T S s m2 ∨ (tillT T S s m1 = -1000000 ∧ m1 < tillT T S s m2) := by
  unfold tillT
  by_cases c : waitT T S s = 0 ∨ wolT T S s ≤ T 0 5 ∧ crnT T S s ≤ 99
  · by_cases c1 : waitT T S s ≤ m1
    · left
      rw [if_pos ⟨c, c1⟩, if_pos ⟨c, by omega⟩]
    · by_cases c2 : waitT T S s ≤ m2
      · right
        rw [if_neg (fun z => c1 z.2), if_pos ⟨c, c2⟩]
        exact ⟨rfl, by omega⟩
      · left
        rw [if_neg (fun z => c1 z.2), if_neg (fun z => c2 z.2)]
  · left
    rw [if_neg (fun z => c z.1), if_neg (fun z => c z.1)]
/-- digits of an order as far as it is tried -/
theorem dg_next {N c s : Int} {d j : Nat} (hN : 1 ≤ N ∧ N ≤ 6) (hs : 0 ≤ s ∧ s < N) : (j < d → dg N (d + 1) (c * N + s) j = dg N d c j) ∧ dg N (d + 1) (c * N + s) d = s := by
  obtain ⟨m1, m2⟩ := mod_N (c := c) hN hs
  constructor
  · intro hj
    unfold dg
    rw [show d + 1 - 1 - j = (d - 1 - j) + 1 by omega, Int.pow_succ, Int.mul_comm (N ^ (d - 1 - j)), ← Int.ediv_ediv_of_nonneg (by omega), m2]
  · unfold dg
    rw [show d + 1 - 1 - d = 0 by omega, Int.pow_zero, Int.ediv_one]
    exact m1
theorem goM_17 : ∀ (f : Nat) (dep : Int) (M : xMem) (j : Nat), 0 ≤ dep → (j : Int) < dep → goM f dep M 117 j = M 117 j
  | 0, dep, M, j, h0, hj => by
    unfold goM
    split
    · exact kpT_lo (by decide) (by decide)
    · rfl
  | f + 1, dep, M, j, h0, hj => by
    unfold goM
    split
    · exact kpT_lo (by decide) (by decide)
    · have key : ∀ (k : Nat) (i : Int) (N : xMem), foldI (goF (goM f) dep) k i N 117 j = N 117 j := by
        intro k
        induction k with
        | zero => intro i N; rfl
        | succ k ih =>
          intro i N
          show foldI (goF (goM f) dep) k (i + 1) (goF (goM f) dep i N) 117 j = N 117 j
          rw [ih]
          unfold goF
          split
          · rfl
          · rw [goM_17 f (dep + 1) _ j (by omega) (by omega)]
            unfold nxT
            rw [mS_ne (Or.inr (by omega)), spk_lo (by omega), pas_lo (by omega) (by omega), stCp_ne (by omega)]
      exact key _ _ _
theorem nx_SA {T S M : xMem} {w s : Int} {lv lw : Nat} {dep : Int} (hT : TI T) (htw : tw M = T) (hL : SA T (sv M lv) (mS S 0 4 w)) (hl : 119 ≤ lv) (hlw : lw = lv + 4) (hs : 0 ≤ s ∧ s < T 0 7) {t : Int} (ht : wtT M lv s = t) : SA T (sv (nxT M lv lw dep s) lw) (mS (spkS T (pasS T S t) s) 0 4 (w + t)) := by
  subst hlw
  have hcp : SA T (sv (stCp M (lv + 4) lv) (lv + 4)) (sv M lv) := SA_cp hT (by omega)
  have htc : tw (stCp M (lv + 4) lv) = T := (tw_cp (by omega)).trans htw
  have esv : sv (nxT M lv (lv + 4) dep s) (lv + 4) = spkS T (pasS T (sv (stCp M (lv + 4) lv) (lv + 4)) t) s := by
    unfold nxT
    rw [sv_mS (Or.inr (by omega)), sv_spk (by omega), tw_pas (by omega), sv_pas (by omega), htc, ht]
  rw [esv]
  have z := spk_cg hT (TA.rf T) (pas_cg (TA.rf T) (hcp.trans hL) (w := t)) hs
  refine z.trans ⟨⟨?_, rfl, rfl, rfl, rfl⟩, fun i hi => ⟨rfl, rfl⟩, fun x hx => rfl⟩
  show w + t = mS _ 0 4 (w + t) 0 4
  rw [mS_eq]
theorem till_w {T S : xMem} {s w m : Int} : tillT T (mS S 0 4 w) s m = tillT T S s m := rfl
theorem go_ok {T : xMem} (hT : TI T) {m : Nat} (hm : m ≤ 6) : ∀ (f : Nat) (dep : Int) (gn : Nat) (M S : xMem) (w c : Int) (q : Int × Int), (0 ≤ dep ∧ dep + f = 6) → tw M = T → SA T (sv M (119 + 4 * dep.toNat)) (mS S 0 4 w) → GI T S (999 + w) → (0 ≤ w ∧ w ≤ 60) → pcT (S 0 8) + gn = T 0 7 → dep + gn = m → 0 ≤ c → BR T M m q → (∀ j : Nat, (j : Int) < dep → M 117 j = dg (T 0 7) dep.toNat c j) →
    BR T (goM f dep M) m (srch T gn S w c q) := by
  intro f
  induction f with
  | zero =>
    intro dep gn M S w c q hd htw hL g hw hg hdm hc hB hTr
    have hN := hT.2.1
    have g0 : gn = 0 := by omega
    subst g0
    have e8 : M (119 + 4 * dep.toNat) 8 = S 0 8 := hL.1.2.2.2.2
    have e4 : M (119 + 4 * dep.toNat) 4 = w := hL.1.1.trans mS_eq
    have e7 : M 3 7 = T 0 7 := by rw [← htw]; rfl
    have hf := (pc_full hN ⟨g.1.2.2.2.2.1.1, g.2.2.2⟩).mp (by omega)
    unfold goM
    rw [e8, e7, if_pos hf, e4, show dep = (m : Int) by omega]
    exact kp_BR hB hw hc (fun j hj => by have z := hTr j (by omega); rw [show dep.toNat = m by omega] at z; exact z)
  | succ f ihf =>
    intro dep gn M S w c q hd htw hL g hw hg hdm hc hB hTr
    have hN := hT.2.1
    have e8 : M (119 + 4 * dep.toNat) 8 = S 0 8 := hL.1.2.2.2.2
    have e4 : M (119 + 4 * dep.toNat) 4 = w := hL.1.1.trans mS_eq
    have e7 : M 3 7 = T 0 7 := by rw [← htw]; rfl
    have hfull := pc_full hN ⟨g.1.2.2.2.2.1.1, g.2.2.2⟩
    unfold goM
    rw [e8, e7]
    cases gn with
    | zero =>
      have hf := hfull.mp (by omega)
      rw [if_pos hf, e4, show dep = (m : Int) by omega]
      exact kp_BR hB hw hc (fun j hj => by have z := hTr j (by omega); rw [show dep.toNat = m by omega] at z; exact z)
    | succ gn =>
      rw [if_neg (fun z => by have := hfull.mpr z; omega)]
      show BR T (foldI (goF (goM f) dep) (T 0 7).toNat 0 M) m (foldI (srF T S w c (srch T gn)) (T 0 7).toNat 0 q)
      have key : ∀ (k : Nat) (i : Int) (X : xMem) (q : Int × Int), 0 ≤ i → i + k ≤ T 0 7 → (∀ b j, gK dep b → X b j = M b j) → (∀ j : Nat, (j : Int) < dep → X 117 j = M 117 j) → BR T X m q → BR T (foldI (goF (goM f) dep) k i X) m (foldI (srF T S w c (srch T gn)) k i q) := by
        intro k
        induction k with
        | zero => intro i X q _ _ _ _ hb; exact hb
        | succ k ih =>
          intro i X q h0 h1 hlo h17 hb
          show BR T (foldI (goF (goM f) dep) k (i + 1) (goF (goM f) dep i X)) m (foldI (srF T S w c (srch T gn)) k (i + 1) (srF T S w c (srch T gn) i q))
          have hi : 0 ≤ i ∧ i < T 0 7 := by omega
          have xtw : tw X = T := (tw_eq fun a j q1 q2 => hlo a j (by unfold gK; omega)).trans htw
          have esv : sv X (119 + 4 * dep.toNat) = sv M (119 + 4 * dep.toNat) := sv_eq fun a j q1 q2 => hlo a j (by unfold gK; omega)
          have xL : SA T (sv X (119 + 4 * dep.toNat)) (mS S 0 4 w) := by rw [esv]; exact hL
          have x8 : X (119 + 4 * dep.toNat) 8 = S 0 8 := xL.1.2.2.2.2
          have x4 : X (119 + 4 * dep.toNat) 4 = w := xL.1.1.trans mS_eq
          obtain ⟨b1, b2, b3⟩ := hb.mw
          have ew : wtT X (119 + 4 * dep.toNat) i = if bitI (S 0 8) i = 1 then -1000000 else tillT T S i (q.2 - 1 - w) := by
            unfold wtT
            rw [x8, x4, b1, xtw, till_cg hT (TA.rf T) xL.symm hi, till_w]
          have tm := till_mo (T := T) (S := S) (s := i) (m1 := q.2 - 1 - w) (m2 := 60 - w) (by omega)
          have skip : wtT X (119 + 4 * dep.toNat) i = -1000000 → goF (goM f) dep i X = X := fun z => if_pos z
          by_cases bad : badS T S w i
          · have hw1 : wtT X (119 + 4 * dep.toNat) i = -1000000 := by
              rw [ew]
              rcases bad with z | z
              · rw [if_pos z]
              · by_cases y : bitI (S 0 8) i = 1
                · rw [if_pos y]
                · rw [if_neg y]
                  rcases tm with t1 | t1
                  · rw [t1]; exact z
                  · exact t1.1
            have e2 : srF T S w c (srch T gn) i q = q := if_pos bad
            rw [skip hw1, e2]
            exact ih (i + 1) X q (by omega) (by omega) hlo h17 hb
          · obtain ⟨n1, n2, n3, n4, n5⟩ := nx_ok hT g hw hi bad
            have nsd : ¬ bitI (S 0 8) i = 1 := fun z => bad (Or.inl z)
            have e2 : srF T S w c (srch T gn) i q = srch T gn (nxS T S w i) (w + tillT T S i (60 - w)) (c * T 0 7 + i) q := if_neg bad
            rw [if_neg nsd] at ew
            rcases tm with t1 | t1
            · have hne : ¬ wtT X (119 + 4 * dep.toNat) i = -1000000 := by rw [ew, t1]; omega
              have ewt : wtT X (119 + 4 * dep.toNat) i = tillT T S i (60 - w) := ew.trans t1
              have e1 : goF (goM f) dep i X = goM f (dep + 1) (nxT X (119 + 4 * dep.toNat) (119 + 4 * (dep + 1).toNat) dep i) := if_neg hne
              have lo2 : ∀ b j, gK dep b → goF (goM f) dep i X b j = M b j := fun b j hb2 => by
                rw [e1, goM_lo f (dep + 1) _ (by omega) (by unfold gK at hb2 ⊢; omega), nxT_lo (by omega) (by unfold gK at hb2; omega) (by unfold gK at hb2; omega)]
                exact hlo b j hb2
              have h172 : ∀ j : Nat, (j : Int) < dep → goF (goM f) dep i X 117 j = M 117 j := fun j hj => by
                rw [e1, goM_17 f (dep + 1) _ j (by omega) (by omega)]
                unfold nxT
                rw [mS_ne (Or.inr (by omega)), spk_lo (by omega), pas_lo (by omega) (by omega), stCp_ne (by omega)]
                exact h17 j hj
              refine ih (i + 1) _ _ (by omega) (by omega) lo2 h172 ?_
              rw [e1, e2]
              refine ihf (dep + 1) gn _ (nxS T S w i) (w + tillT T S i (60 - w)) (c * T 0 7 + i) q (by omega) ?_ ?_ n3 (by omega) (by omega) (by omega) (by have := Int.mul_nonneg hc (show 0 ≤ T 0 7 by omega); omega) (hb.cg (fun j => nxT_lo (by omega) (by decide) (by omega)) (fun j => nxT_lo (by omega) (by decide) (by omega))) ?_
              · rw [tw_nx (by omega)]; exact xtw
              · exact nx_SA hT xtw xL (by omega) (by omega) hi ewt
              · intro j hj
                have dn := dg_next (N := T 0 7) (c := c) (s := i) (d := dep.toNat) (j := j) hN hi
                rw [show (dep + 1).toNat = dep.toNat + 1 by omega]
                unfold nxT
                rcases (show j = dep.toNat ∨ j < dep.toNat by omega) with y | y
                · subst y
                  rw [mS_eq]
                  exact dn.2.symm
                · rw [mS_ne (Or.inr (by omega)), spk_lo (by omega), pas_lo (by omega) (by omega), stCp_ne (by omega), h17 j (by omega), hTr j (by omega)]
                  exact (dn.1 y).symm
            · rw [skip (ew.trans t1.1), e2, sr_le hT gn _ _ _ q n3 (by omega) (by omega)]
              exact ih (i + 1) X q (by omega) (by omega) hlo h17 hb
      exact key _ 0 M q (by decide) (by omega) (fun _ _ _ => rfl) (fun _ _ => rfl) hB
theorem ff_BR {A : xMem} (hT : TI (tw A)) (hG : GI (tw A) (sv A 9) 999) {m : Nat} (hm : pcT (A 9 8) + m = A 3 7) : BR (tw A) (ffM A) m (srch (tw A) m (sv A 9) 0 0 (-1000000, 61)) ∧ ∀ a j, a < 201 → ¬ scA a → ffM A a j = A a j := by
  have hN : 1 ≤ A 3 7 ∧ A 3 7 ≤ 6 := hT.2.1
  have hpc := pcT_b (A 9 8)
  constructor
  · unfold ffM
    refine go_ok hT (m := m) (by omega) 6 0 m _ (sv A 9) 0 0 (-1000000, 61) (by decide) ?_ ?_ (by rw [Int.add_zero]; exact hG) (by decide) hm (by omega) (by decide) (Or.inl ⟨rfl, ?_, ?_⟩) (fun j hj => by omega)
    · rw [tw_mS (Or.inl (by decide)), tw_cp (by decide), tw_mS (Or.inl (by decide)), tw_mS (Or.inl (by decide))]
    · have z := SA_cp (M := mS (mS A 115 5 (-1000000)) 115 4 0) (k := 119) (j := 9) hT (by decide)
      rw [sv_mS (a := 9) (Or.inl (by decide)), sv_mS (a := 9) (Or.inl (by decide))] at z
      refine ⟨⟨?_, ?_, ?_, ?_, ?_⟩, fun i hi => ⟨?_, ?_⟩, fun s hs => ?_⟩
      · show mS _ 119 4 0 119 4 = mS _ 0 4 0 0 4
        rw [mS_eq, mS_eq]
      · show mS _ 119 4 0 119 5 = mS (sv A 9) 0 4 0 0 5
        rw [mS_ne (Or.inr (by decide)), mS_ne (Or.inr (by decide))]; exact z.1.2.1
      · show mS _ 119 4 0 119 6 = mS (sv A 9) 0 4 0 0 6
        rw [mS_ne (Or.inr (by decide)), mS_ne (Or.inr (by decide))]; exact z.1.2.2.1
      · show mS _ 119 4 0 119 7 = mS (sv A 9) 0 4 0 0 7
        rw [mS_ne (Or.inr (by decide)), mS_ne (Or.inr (by decide))]; exact z.1.2.2.2.1
      · show mS _ 119 4 0 119 8 = mS (sv A 9) 0 4 0 0 8
        rw [mS_ne (Or.inr (by decide)), mS_ne (Or.inr (by decide))]; exact z.1.2.2.2.2
      · show mS _ 119 4 0 120 i.toNat = mS (sv A 9) 0 4 0 1 i.toNat
        rw [mS_ne (Or.inl (by decide)), mS_ne (Or.inl (by decide))]; exact (z.2.1 i hi).1
      · show mS _ 119 4 0 121 i.toNat = mS (sv A 9) 0 4 0 2 i.toNat
        rw [mS_ne (Or.inl (by decide)), mS_ne (Or.inl (by decide))]; exact (z.2.1 i hi).2
      · show mS _ 119 4 0 122 s.toNat = mS (sv A 9) 0 4 0 3 s.toNat
        rw [mS_ne (Or.inl (by decide)), mS_ne (Or.inl (by decide))]; exact z.2.2 s hs
    · rw [mS_ne (Or.inl (by decide)), stCp_ne (by decide), mS_ne (Or.inr (by decide)), mS_eq]
    · rw [mS_ne (Or.inl (by decide)), stCp_ne (by decide), mS_eq]
  · intro a j h1 h2
    unfold scA at h2
    unfold ffM
    rw [goM_lo 6 0 _ (by decide) (by unfold gK; omega), mS_ne (Or.inl (by omega)), stCp_ne (by omega), mS_ne (Or.inl (by omega)), mS_ne (Or.inl (by omega))]
theorem st_order {A B : xMem} (h : Rl A B) (k : Int) : (xOrder A k).1 = (yOrder B k).1 ∧ Rl (xOrder A k).2 (yOrder B k).2 := by
  unfold xOrder yOrder
  rcases h.cases with ⟨a1, a2, a3, a4, a5⟩ | ⟨d1, hT, hG, ht, hs, hNN, hn, hb1, hb2⟩
  · rw [if_pos a1, if_pos a3]; exact ⟨rfl, h⟩
  · rw [if_neg (show ¬ A 3 6 = 0 by omega), if_neg (show ¬ B 201 16 = 0 by omega)]
    by_cases g1 : k < -1
    · rw [if_pos g1, if_pos (show ¬ (-1 ≤ k) by omega)]; exact ⟨rfl, h⟩
    · rw [if_neg g1, if_neg (show ¬ ¬ (-1 ≤ k) by omega)]
      have e8 : A 9 8 = B 210 4 := hs.1.2.2.2.2
      have hpl := pc_le (a := A 9 8) (n := A 3 7) hb2 ⟨hG.1.2.2.2.2.1.1, hG.2.2.2⟩
      have hpb := pcT_b (A 9 8)
      obtain ⟨m, hm⟩ := Int.eq_ofNat_of_zero_le (show 0 ≤ A 3 7 - pcT (A 9 8) by omega)
      have emy : mnY B = (m : Int) := by
        unfold mnY
        rw [← e8, ← hn.2.1]
        omega
      obtain ⟨r1, r2⟩ := ff_BR hT hG (m := m) (by omega)
      have hyo := yo_srch hT hG ht hs (m := m) (by omega)
      have eyo : yoT B = foldI (yoF m) (tw A 0 7 ^ m).toNat 0 (-1000000, 61, B) := by
        unfold yoT
        rw [emy, Int.toNat_natCast, ← hn.2.1]
        rfl
      rw [← eyo] at hyo
      obtain ⟨y1, y2⟩ := hyo
      rw [emy]
      have hx1 : (yoT B).1 = (srch (tw A) m (sv A 9) 0 0 (-1000000, 61)).1 := congrArg Prod.fst y1
      have hx2 : (yoT B).2.1 = (srch (tw A) m (sv A 9) 0 0 (-1000000, 61)).2 := congrArg Prod.snd y1
      have e9 := y2 209 (by decide) (by decide)
      have e10 := y2 210 (by decide) (by decide)
      obtain ⟨v1, v2, v3⟩ := wo_val hT hG (Q := (yoT B).2.2) (by rw [e9]; exact ht) (by rw [e10]; exact hs) (code := (yoT B).1) (m := m) (by omega)
      have hk : ∀ Y, LoC B Y → Rl (ffM A) Y := fun Y z => h.cg r2 (fun a q1 q2 => z a (fun y => q2 (by unfold scB; omega)) (fun y => q2 (by unfold scB; omega)))
      have hv3 : LoC B (woT (yoT B).2.2 (yoT B).1 m).2 := fun b h1 h2 => (v3 b h1 h2).trans (y2 b h1 h2)
      rw [hx1] at v2
      rw [hx1, hx2]
      rw [hx1] at hv3
      generalize srch (tw A) m (sv A 9) 0 0 (-1000000, 61) = q at *
      rcases r1 with ⟨b1, b2, b3⟩ | ⟨b1, b2, b3, b4, b5⟩
      · have bq : q.1 = -1000000 := by rw [b1]
        rw [if_pos (Or.inl bq)]
        refine ⟨?_, hk _ y2⟩
        show (if k = -1 then ffM A 115 5 else baT (ffM A) k) = -1000000
        unfold baT
        rw [b2, b3, if_neg (show ¬ (0 ≤ k ∧ k < 0) by omega)]
        split <;> rfl
      · by_cases c : (m : Int) ≤ k
        · rw [if_pos (Or.inr c)]
          refine ⟨?_, hk _ y2⟩
          show (if k = -1 then ffM A 115 5 else baT (ffM A) k) = -1000000
          unfold baT
          rw [b4, if_neg (show ¬ k = -1 by omega), if_neg (by omega)]
        · rw [if_neg (show ¬ (q.1 = -1000000 ∨ (m : Int) ≤ k) by omega)]
          refine ⟨?_, hk _ hv3⟩
          show (if k = -1 then ffM A 115 5 else baT (ffM A) k) = if k < 0 then q.2 else _
          by_cases c2 : k = -1
          · rw [if_pos c2, if_pos (by omega), b3]
          · rw [if_neg c2, if_neg (by omega), v2 k.toNat (by omega)]
            unfold baT
            rw [b4, if_pos (by omega), b5 k.toNat (by omega)]
end RLI2
