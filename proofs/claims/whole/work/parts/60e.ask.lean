section RLE
/-! the most that can be said -/
theorem bit01 (x s : Int) : bitI x s = 0 ∨ bitI x s = 1 := by have := bitI_b (x := x) (s := s); omega
theorem try_sa {T : xMem} (hT : TI T) {set w : Int} : ∀ (k : Nat) (s a : Int) (Mc Mm : xMem), tw Mc = T → TA T (tg (Mm 209)) → GI T (sv Mc 13) w → SA T (sv Mc 13) (sk (Mm 211)) → 0 ≤ s → s + k = T 0 7 → 0 ≤ a →
    ((tryL set k s a Mc).1 = (if (saL set k s a Mm).1 < 0 then -1000000 else (saL set k s a Mm).1) ∧ ((saL set k s a Mm).1 = -1 ∨ 0 ≤ (saL set k s a Mm).1)) ∧ SA T (sv (tryL set k s a Mc).2 13) (sk ((saL set k s a Mm).2 211)) ∧ GI T (sv (tryL set k s a Mc).2 13) w ∧ (∀ b j, b < 13 ∨ 17 ≤ b → (tryL set k s a Mc).2 b j = Mc b j) ∧ ∀ b, b ≠ 211 → (saL set k s a Mm).2 b = Mm b
  | 0, s, a, Mc, Mm, htw, ht, hG, hs, h0, h1, ha => by
    refine ⟨⟨?_, Or.inr ha⟩, hs, hG, fun _ _ _ => rfl, fun _ _ => rfl⟩
    show a = if a < 0 then -1000000 else a
    rw [if_neg (by omega)]
  | k + 1, s, a, Mc, Mm, htw, ht, hG, hs, h0, h1, ha => by
    have hsp : 0 ≤ s ∧ s < T 0 7 := by omega
    have ec := can_cg hT ht hs hsp
    have ew := wol_cg hT ht hs hsp
    unfold tryL saL
    rcases bit01 set s with hb | hb
    · rw [if_pos hb, if_neg (show ¬ bitI set s = 1 by omega)]
      exact try_sa hT k (s + 1) a Mc Mm htw ht hG hs (by omega) (by omega) ha
    · rw [if_neg (show ¬ bitI set s = 0 by omega), if_pos hb, htw]
      by_cases hc : canT T (sv Mc 13) s
      · rw [if_pos hc, if_pos (ec.mpr hc), ew]
        have hw := wol_b hT hG.1 hsp
        have e1 := sa_SA (M := Mm) (k := 211) (s := s) (ht.TI hT) (by show 0 ≤ s ∧ s < tg (Mm 209) 0 7; rw [← ht.2.2.1]; exact hsp)
        have esv : sv (spkM Mc 13 s) 13 = spkS T (sv Mc 13) s := by rw [sv_spk (by decide), htw]
        obtain ⟨q1, q2, q3, q4, q5⟩ := try_sa hT (set := set) (w := w) k (s + 1) (a + wolT T (sv Mc 13) s) (spkM Mc 13 s) (saM Mm 211 s) ((tw_spk (by decide)).trans htw) (by rw [sa_lo (by decide)]; exact ht) (by rw [esv]; exact GI_spk hT hG hsp hc) (by rw [esv]; exact (spk_cg hT ht hs hsp).trans (SA_ta ht.symm e1.symm)) (by omega) (by omega) (by omega)
        exact ⟨q1, q2, q3, fun b j hb => (q4 b j hb).trans (spk_lo (by omega)), fun b hb => (q5 b hb).trans (sa_lo hb)⟩
      · rw [if_neg hc, if_neg (fun z => hc (ec.mp z))]
        exact ⟨⟨by show (-1000000 : Int) = if (-1 : Int) < 0 then -1000000 else -1; rw [if_pos (by decide)], Or.inl rfl⟩, hs, hG, fun _ _ _ => rfl, fun _ _ => rfl⟩
/-- both memories as they were but for what is tried -/
def LoA (A X : xMem) : Prop := ∀ b j, b < 13 ∨ 17 ≤ b → X b j = A b j
def LoB (B Y : xMem) : Prop := ∀ b, b ≠ 211 → Y b = B b
theorem tryT_sa {A B X Y : xMem} (hT : TI (tw A)) (hG : GI (tw A) (sv A 9) 999) (ht : TA (tw A) (tg (B 209))) (hs : SA (tw A) (sv A 9) (sk (B 210))) (hX : LoA A X) (hY : LoB B Y) (set : Int) :
    ((tryT X set).1 = (if (saT Y set).1 < 0 then -1000000 else (saT Y set).1) ∧ ((saT Y set).1 = -1 ∨ 0 ≤ (saT Y set).1)) ∧ SA (tw A) (sv (tryT X set).2 13) (sk ((saT Y set).2 211)) ∧ GI (tw A) (sv (tryT X set).2 13) 999 ∧ LoA A (tryT X set).2 ∧ LoB B (saT Y set).2 := by
  have e9 := hY 209 (by decide)
  have e10 := hY 210 (by decide)
  have etw : tw X = tw A := tw_lo hX
  have esv : sv X 9 = sv A 9 := sv_lo hX
  have hN := hT.2.1
  have e1 : SA (tw A) (sv (stCp X 13 9) 13) (sv A 9) := by
    have z := SA_cp (M := X) (k := 13) (j := 9) hT (by decide)
    rw [esv] at z
    exact z
  have n1 : X 3 7 = tw A 0 7 := hX 3 7 (by decide)
  have n2 : Y 209 1 = tw A 0 7 := by rw [e9]; exact ht.2.2.1.symm
  obtain ⟨q1, q2, q3, q4, q5⟩ := try_sa hT (set := set) (w := 999) (tw A 0 7).toNat 0 0 (stCp X 13 9) (cnM Y) ((tw_cp (by decide)).trans etw) (by rw [cn_row (by decide), e9]; exact ht) (GI_SA e1 hG) (e1.trans (hs.trans (by have z := (cn_SA (M := Y) hT).symm; rw [e10] at z; exact z))) (by decide) (by omega) (by decide)
  unfold tryT saT
  rw [n1, n2]
  exact ⟨q1, q2, q3, fun b j hb => (q4 b j hb).trans ((stCp_ne (by omega)).trans (hX b j hb)), fun b hb => (q5 b hb).trans ((cn_row hb).trans (hY b hb))⟩
theorem my_lg {A B : xMem} (hT : TI (tw A)) (hG : GI (tw A) (sv A 9) 999) (ht : TA (tw A) (tg (B 209))) (hs : SA (tw A) (sv A 9) (sk (B 210))) : ∀ (k : Nat) (i : Int) (q p : Int × Int × xMem), LoA A q.2.2 → LoB B p.2.2 → q.1 = p.1 → q.2.1 = p.2.1 → 0 ≤ q.2.1 → q.2.1 = (tryT A q.1).1 →
    LoA A (foldI lgF k i q).2.2 ∧ LoB B (foldI myF k i p).2.2 ∧ (foldI lgF k i q).1 = (foldI myF k i p).1 ∧ (foldI lgF k i q).2.1 = (foldI myF k i p).2.1 ∧ (foldI lgF k i q).2.1 = (tryT A (foldI lgF k i q).1).1
  | 0, i, q, p, hX, hY, e1, e2, h0, hv => ⟨hX, hY, e1, e2, hv⟩
  | k + 1, i, q, p, hX, hY, e1, e2, h0, hv => by
    obtain ⟨⟨v1, v2⟩, -, -, v4, v5⟩ := tryT_sa hT hG ht hs hX hY i
    obtain ⟨⟨u1, u2⟩, -, -, u4, u5⟩ := tryT_sa hT hG ht hs (X := A) (fun _ _ _ => rfl) hY i
    have ev : (tryT q.2.2 i).1 = (tryT A i).1 := v1.trans u1.symm
    rw [show foldI lgF (k + 1) i q = foldI lgF k (i + 1) (lgF i q) from rfl, show foldI myF (k + 1) i p = foldI myF k (i + 1) (myF i p) from rfl]
    have ep : myF i p = if 0 ≤ (saT p.2.2 i).1 ∧ (pcT p.1 < pcT i ∨ (pcT i = pcT p.1 ∧ (saT p.2.2 i).1 < p.2.1)) then (i, (saT p.2.2 i).1, (saT p.2.2 i).2) else (p.1, p.2.1, (saT p.2.2 i).2) := rfl
    have eq : lgF i q = if pcT i < pcT q.1 then q else if (tryT q.2.2 i).1 = -1000000 then (q.1, q.2.1, (tryT q.2.2 i).2) else if pcT q.1 < pcT i ∨ (tryT q.2.2 i).1 < q.2.1 then (i, (tryT q.2.2 i).1, (tryT q.2.2 i).2) else (q.1, q.2.1, (tryT q.2.2 i).2) := rfl
    rw [← e1, ← e2] at ep
    by_cases c1 : pcT i < pcT q.1
    · rw [if_pos c1] at eq
      rw [if_neg (by omega)] at ep
      rw [eq, ep]
      exact my_lg hT hG ht hs k (i + 1) q (q.1, q.2.1, (saT p.2.2 i).2) hX v5 rfl rfl h0 hv
    · rw [if_neg c1] at eq
      rcases v2 with c2 | c2
      · rw [if_pos (by rw [v1, if_pos (by omega)])] at eq
        rw [if_neg (by omega)] at ep
        rw [eq, ep]
        exact my_lg hT hG ht hs k (i + 1) (q.1, q.2.1, (tryT q.2.2 i).2) (q.1, q.2.1, (saT p.2.2 i).2) v4 v5 rfl rfl h0 hv
      · rw [if_neg (show ¬ (saT p.2.2 i).1 < 0 by omega)] at v1
        rw [if_neg (by rw [v1]; omega), v1] at eq
        by_cases c3 : pcT q.1 < pcT i ∨ (saT p.2.2 i).1 < q.2.1
        · rw [if_pos c3] at eq
          rw [if_pos ⟨c2, by omega⟩] at ep
          rw [eq, ep]
          exact my_lg hT hG ht hs k (i + 1) (i, (saT p.2.2 i).1, (tryT q.2.2 i).2) (i, (saT p.2.2 i).1, (saT p.2.2 i).2) v4 v5 rfl rfl c2 (by show (saT p.2.2 i).1 = (tryT A i).1; rw [← ev, v1])
        · rw [if_neg c3] at eq
          rw [if_neg (by omega)] at ep
          rw [eq, ep]
          exact my_lg hT hG ht hs k (i + 1) (q.1, q.2.1, (tryT q.2.2 i).2) (q.1, q.2.1, (saT p.2.2 i).2) v4 v5 rfl rfl h0 hv
theorem try_0 : ∀ (k : Nat) (s a : Int) (M : xMem), (tryL 0 k s a M).1 = a
  | 0, _, _, _ => rfl
  | k + 1, s, a, M => by
    have hb : bitI 0 s = 0 := by
      unfold bitI xand
      simp
    unfold tryL
    rw [if_pos hb]
    exact try_0 k (s + 1) a M
theorem st_most {A B : xMem} (h : Rl A B) (w : Int) : (xMost A w).1 = (yMost B w).1 ∧ Rl (xMost A w).2 (yMost B w).2 := by
  unfold xMost yMost
  rcases h.cases with ⟨a1, a2, a3, a4, a5⟩ | ⟨d1, hT, hG, ht, hs, hNN, hn, hb1, hb2⟩
  · rw [if_pos a1, if_pos a3]; exact ⟨rfl, h⟩
  · rw [if_neg (show ¬ A 3 6 = 0 by omega), if_neg (show ¬ B 201 16 = 0 by omega)]
    by_cases g1 : 0 ≤ w ∧ w ≤ 2
    · rw [if_neg (not_not_intro g1), if_neg (not_not_intro g1)]
      obtain ⟨r1, r2, r3, r4, r5⟩ := my_lg hT hG ht hs (2 ^ (A 3 7).toNat - 1 : Int).toNat 1 (0, 0, A) (0, 0, B) (fun _ _ _ => rfl) (fun _ _ => rfl) rfl rfl (show (0 : Int) ≤ 0 by decide) (by show (0 : Int) = (tryT A 0).1; exact (try_0 _ _ _ _).symm)
      have el : lgT A = foldI lgF (2 ^ (A 3 7).toNat - 1 : Int).toNat 1 (0, 0, A) := rfl
      have em : myT B = foldI myF (2 ^ (A 3 7).toNat - 1 : Int).toNat 1 (0, 0, B) := by unfold myT; rw [hn.2.1]
      rw [← el, ← em] at r3 r4
      rw [← el] at r1 r5
      rw [← em] at r2
      obtain ⟨⟨v1, v2⟩, v3, v4, v5, v6⟩ := tryT_sa hT hG ht hs r1 r2 (lgT A).1
      obtain ⟨⟨u1, u2⟩, u3, u4, u5, u6⟩ := tryT_sa hT hG ht hs (X := A) (fun _ _ _ => rfl) r2 (lgT A).1
      have hk : ∀ X Y, LoA A X → LoB B Y → Rl X Y := fun X Y z1 z2 => h.cg (fun a j q1 q2 => z1 a j (by unfold scA at q2; omega)) (fun a q1 q2 => z2 a (fun z => q2 (by unfold scB; omega)))
      rw [← r3, ← r4]
      by_cases g2 : w = 0
      · rw [if_pos g2, if_pos g2]
        exact ⟨rfl, hk _ _ r1 v6⟩
      · rw [if_neg g2, if_neg g2]
        by_cases g3 : w = 1
        · rw [if_pos g3, if_pos g3]
          exact ⟨by show (tryT (lgT A).2.2 (lgT A).1).1 = (lgT A).2.1; rw [r5, v1, u1], hk _ _ v5 v6⟩
        · rw [if_neg g3, if_neg g3]
          refine ⟨?_, hk _ _ v5 v6⟩
          show pcT _ = pcT _
          rw [tw_lo v5, undAll_cg hT ht v3]
    · rw [if_pos g1, if_pos g1]; exact ⟨rfl, h⟩
/-! terms by draws -/
theorem dr_ok {T : xMem} (hT : TI T) : ∀ (k : Nat) (x w : Int) (Mc Mm : xMem), tw Mc = T → TA T (tg (Mm 209)) → GI T (sv Mc 13) w → SA T (sv Mc 13) (sk (Mm 211)) → w + k ≤ 90000 → 0 ≤ x →
    SA T (sv (dtL k x Mc) 13) (sk (dyL k x Mm 211)) ∧ LoA Mc (dtL k x Mc) ∧ LoB Mm (dyL k x Mm)
  | 0, x, w, Mc, Mm, htw, ht, hG, hs, hw, hx => ⟨hs, fun _ _ _ => rfl, fun _ _ => rfl⟩
  | k + 1, x, w, Mc, Mm, htw, ht, hG, hs, hw, hx => by
    have hN := hT.2.1
    have n1 : Mc 3 7 = T 0 7 := by rw [← htw]; rfl
    have n2 : Mm 209 1 = T 0 7 := ht.2.2.1.symm
    have hx1 := Int.emod_nonneg (x * 16807) (show (2147483647 : Int) ≠ 0 by decide)
    have hs1 := Int.emod_nonneg (x * 16807 % 2147483647) (show T 0 7 ≠ 0 by omega)
    have hs2 := Int.emod_lt_of_pos (x * 16807 % 2147483647) (show 0 < T 0 7 by omega)
    unfold dtL dyL
    rw [n1, n2, htw]
    generalize x * 16807 % 2147483647 = y at *
    generalize hss : y % T 0 7 = s at *
    have hsp : 0 ≤ s ∧ s < T 0 7 := ⟨hs1, hs2⟩
    have ec := can_cg hT ht hs hsp
    have key : ∀ (X Y : xMem), tw X = T → TA T (tg (Y 209)) → GI T (sv X 13) w → SA T (sv X 13) (sk (Y 211)) → LoA Mc X → LoB Mm Y →
        SA T (sv (dtL k y (pasM X 13 1)) 13) (sk (dyL k y (psM Y 211) 211)) ∧ LoA Mc (dtL k y (pasM X 13 1)) ∧ LoB Mm (dyL k y (psM Y 211)) := by
      intro X Y e1 e2 e3 e4 e5 e6
      have esv : sv (pasM X 13 1) 13 = pasS T (sv X 13) 1 := by rw [sv_pas (by decide), e1]
      have f1 := ps_SA (M := Y) (k := 211) (e2.TI hT) (KI_ta e2 e4 e3.2.1)
      obtain ⟨q1, q2, q3⟩ := dr_ok hT k y (w + 1) (pasM X 13 1) (psM Y 211) ((tw_pas (by decide)).trans e1) (by rw [ps_lo (by decide)]; exact e2) (by rw [esv]; exact GI_pas hT (by omega) e3) (by rw [esv]; exact (pas_cg e2 e4).trans (SA_ta e2.symm f1.symm)) (by omega) hx1
      exact ⟨q1, fun b j hb => (q2 b j hb).trans ((pas_lo (by decide) (by omega)).trans (e5 b j hb)), fun b hb => (q3 b hb).trans ((ps_lo hb).trans (e6 b hb))⟩
    by_cases hc : canT T (sv Mc 13) s
    · rw [if_pos hc, if_pos (ec.mpr hc)]
      have e1 := sa_SA (M := Mm) (k := 211) (s := s) (ht.TI hT) (by show 0 ≤ s ∧ s < tg (Mm 209) 0 7; rw [← ht.2.2.1]; exact hsp)
      have esv : sv (spkM Mc 13 s) 13 = spkS T (sv Mc 13) s := by rw [sv_spk (by decide), htw]
      exact key (spkM Mc 13 s) (saM Mm 211 s) ((tw_spk (by decide)).trans htw) (by rw [sa_lo (by decide)]; exact ht) (by rw [esv]; exact GI_spk hT hG hsp hc) (by rw [esv]; exact (spk_cg hT ht hs hsp).trans (SA_ta ht.symm e1.symm)) (fun b j hb => spk_lo (by omega)) (fun b hb => sa_lo hb)
    · rw [if_neg hc, if_neg (fun z => hc (ec.mp z))]
      exact key Mc Mm htw ht hG hs (fun _ _ _ => rfl) (fun _ _ => rfl)
theorem st_drawn {A B : xMem} (h : Rl A B) (n x w : Int) : (xDrawn A n x w).1 = (yDrawn B n x w).1 ∧ Rl (xDrawn A n x w).2 (yDrawn B n x w).2 := by
  unfold xDrawn yDrawn
  rcases h.cases with ⟨a1, a2, a3, a4, a5⟩ | ⟨d1, hT, hG, ht, hs, hNN, hn, hb1, hb2⟩
  · rw [if_pos a1, if_pos a3]; exact ⟨rfl, h⟩
  · rw [if_neg (show ¬ A 3 6 = 0 by omega), if_neg (show ¬ B 201 16 = 0 by omega)]
    by_cases g1 : ¬ (0 ≤ n ∧ n ≤ 60) ∨ ¬ (1 ≤ x ∧ x ≤ 999999) ∨ ¬ (0 ≤ w ∧ w ≤ 1)
    · rw [if_pos g1, if_pos g1]; exact ⟨rfl, h⟩
    · rw [if_neg g1, if_neg g1]
      have e1 : SA (tw A) (sv (stCp A 13 9) 13) (sv A 9) := SA_cp hT (by decide)
      obtain ⟨q1, q2, q3⟩ := dr_ok hT n.toNat x 999 (stCp A 13 9) (cnM B) (tw_cp (by decide)) (by rw [cn_row (by decide)]; exact ht) (GI_SA e1 hG) (e1.trans (hs.trans (cn_SA hT).symm)) (by omega) (by omega)
      refine ⟨?_, h.cg (fun a j z1 z2 => by unfold scA at z2; exact (q2 a j (by omega)).trans (stCp_ne (by omega))) (fun a z1 z2 => by unfold scB at z2; exact (q3 a (by omega)).trans (cn_row (by omega)))⟩
      have e8 : dtL n.toNat x (stCp A 13 9) 13 8 = dyL n.toNat x (cnM B) 211 4 := q1.1.2.2.2.2
      have e6 : dtL n.toNat x (stCp A 13 9) 13 6 = dyL n.toNat x (cnM B) 211 2 := q1.1.2.2.1
      show (if w = 0 then _ else _) = if w = 0 then _ else _
      rw [e8, e6]
/-! shares -/
theorem ov_eq {T S : xMem} {p w : Int} : ∀ (k : Nat) (i a b : Int), (foldI (ovrF T S p w) k i (a, b)).1 = foldI (fun k a => a - w * claimT T S k / clsT T S) k i a
  | 0, _, _, _ => rfl
  | k + 1, i, a, b => ov_eq k (i + 1) _ _
theorem cl_cnt {T S : xMem} {p w : Int} : ∀ (k : Nat) (i a b : Int), p ≤ i → (foldI (ovrF T S p w) k i (a, b)).2 = b
  | 0, _, _, _, _ => rfl
  | k + 1, i, a, b, h => by
    show (foldI (ovrF T S p w) k (i + 1) (ovrF T S p w i (a, b))).2 = b
    have e : ovrF T S p w i (a, b) = (a - w * claimT T S i / clsT T S, b) := by
      unfold ovrF
      rw [if_neg (by omega)]
    rw [e]
    exact cl_cnt k (i + 1) _ _ (by omega)
/-- those ahead who claim -/
def cntL (T S : xMem) : Nat → Int → Int → Int
  | 0, _, b => b
  | k + 1, i, b => cntL T S k (i + 1) (if 0 < claimT T S i then b + 1 else b)
theorem cl_cnt2 {T S : xMem} {p w : Int} : ∀ (k : Nat) (i a b : Int), i ≤ p → p < i + k → (foldI (ovrF T S p w) k i (a, b)).2 = cntL T S (p - i).toNat i b
  | 0, i, a, b, h1, h2 => absurd h2 (by omega)
  | k + 1, i, a, b, h1, h2 => by
    show (foldI (ovrF T S p w) k (i + 1) (ovrF T S p w i (a, b))).2 = _
    rcases (show i = p ∨ i < p by omega) with h | h
    · subst h
      rw [show (i - i).toNat = 0 by omega]
      have e : ovrF T S i w i (a, b) = (a - w * claimT T S i / clsT T S, b) := by
        unfold ovrF
        rw [if_neg (by omega)]
      rw [e]
      exact cl_cnt k (i + 1) _ _ (by omega)
    · rw [show (p - i).toNat = (p - (i + 1)).toNat + 1 by omega]
      have e : ovrF T S p w i (a, b) = (a - w * claimT T S i / clsT T S, if 0 < claimT T S i then b + 1 else b) := by
        unfold ovrF
        by_cases c : 0 < claimT T S i
        · rw [if_pos ⟨h, c⟩, if_pos c]
        · rw [if_neg (fun q => c q.2), if_neg c]
      rw [e]
      exact cl_cnt2 k (i + 1) _ _ (by omega) (by omega)
theorem cnt_b {T S : xMem} : ∀ (k : Nat) (i b : Int), 0 ≤ b → 0 ≤ cntL T S k i b
  | 0, _, _, h => h
  | k + 1, i, b, h => cnt_b k (i + 1) _ (by split <;> omega)
theorem sh_one {T S : xMem} {n i m o b : Int} (hb : 0 ≤ b) : shF T S n i (m, max (min o 0) (o - b)) = (n * claimT T S i / clsT T S + (if 0 < claimT T S i ∧ 0 < o - b then 1 else 0), max (min o 0) (o - (if 0 < claimT T S i then b + 1 else b))) := by
  have e1 : (0 < claimT T S i ∧ 0 < max (min o 0) (o - b)) ↔ (0 < claimT T S i ∧ 0 < o - b) := by
    constructor <;> intro q <;> exact ⟨q.1, by omega⟩
  refine Prod.ext ?_ ?_
  · show _ + (if 0 < claimT T S i ∧ 0 < max (min o 0) (o - b) then (1 : Int) else 0) = _ + (if 0 < claimT T S i ∧ 0 < o - b then (1 : Int) else 0)
    by_cases z : 0 < claimT T S i ∧ 0 < o - b
    · rw [if_pos (e1.mpr z), if_pos z]
    · rw [if_neg (fun q => z (e1.mp q)), if_neg z]
  · show max (min o 0) (o - b) - (if 0 < claimT T S i ∧ 0 < max (min o 0) (o - b) then (1 : Int) else 0) = max (min o 0) (o - (if 0 < claimT T S i then b + 1 else b))
    split <;> split <;> omega
theorem sh_step {T S : xMem} {n : Int} : ∀ (k : Nat) (i m o b : Int), 0 ≤ b → (foldI (shF T S n) (k + 1) i (m, max (min o 0) (o - b))).1 = n * claimT T S (i + k) / clsT T S + (if 0 < claimT T S (i + k) ∧ 0 < o - cntL T S k i b then 1 else 0)
  | 0, i, m, o, b, hb => by
    show (shF T S n i (m, max (min o 0) (o - b))).1 = _
    rw [sh_one hb, show i + ((0 : Nat) : Int) = i by omega]
    rfl
  | k + 1, i, m, o, b, hb => by
    show (foldI (shF T S n) (k + 1) (i + 1) (shF T S n i (m, max (min o 0) (o - b)))).1 = _
    rw [sh_one hb, sh_step k (i + 1) _ o _ (by split <;> omega), show i + 1 + (k : Int) = i + ((k + 1 : Nat) : Int) by omega]
    rfl
theorem an_share {A B : xMem} (h : Rl A B) (p n : Int) : xShare A p n = yShare B p n := by
  unfold xShare yShare
  rcases h.cases with ⟨a1, a2, a3, a4, a5⟩ | ⟨d1, hT, hG, ht, hs, hNN, hn, hb1, hb2⟩
  · rw [if_pos (by omega), if_pos (by omega)]
  · rw [← hn.1]
    by_cases g : ¬ (0 ≤ p ∧ p < A 3 6) ∨ ¬ (0 ≤ n ∧ n ≤ 99)
    · rw [if_pos g, if_pos g]
    · rw [if_neg g, if_neg g, cls_cg hT ht hs]
      have g' : 0 ≤ p ∧ p < tw A 0 6 := by show 0 ≤ p ∧ p < A 3 6; omega
      have hn6 := hT.1
      have eo : ovY (tg (B 209)) (sk (B 210)) n = ovY (tw A) (sv A 9) n := by
        unfold ovY
        rw [← ht.2.1, cls_cg hT ht hs]
        exact foldI_cg (n := tw A 0 6) _ _ _ (by omega) (by omega) (fun x b h0 h1 => by rw [claim_cg hT ht hs ⟨h0, h1⟩])
      have ef : ∀ q, foldI (shF (tg (B 209)) (sk (B 210)) n) (p + 1).toNat 0 q = foldI (shF (tw A) (sv A 9) n) (p + 1).toNat 0 q := fun q =>
        foldI_cg (n := tw A 0 6) _ _ _ (by omega) (by omega) (fun x b h0 h1 => by unfold shF; rw [claim_cg hT ht hs ⟨h0, h1⟩, cls_cg hT ht hs])
      rw [eo, ef]
      unfold shareT
      by_cases g2 : clsT (tw A) (sv A 9) = 0
      · rw [if_pos (Or.inl g2), if_pos g2]
      · rw [if_neg g2]
        have hcl := fun q hq => claim_b hT hG.1 (p := q) hq
        have ho : (ovrT (tw A) (sv A 9) p n).1 = ovY (tw A) (sv A 9) n := ov_eq _ _ _ _
        have hc : (ovrT (tw A) (sv A 9) p n).2 = cntL (tw A) (sv A 9) p.toNat 0 0 := by
          have z := cl_cnt2 (T := tw A) (S := sv A 9) (p := p) (w := n) (tw A 0 6).toNat 0 n 0 (by omega) (by omega)
          rw [Int.sub_zero] at z
          exact z
        have hmax : ∀ x : Int, x = max (min x 0) (x - 0) := fun x => by omega
        have hpp := hcl p g'
        have hst : (foldI (shF (tw A) (sv A 9) n) (p + 1).toNat 0 (0, ovY (tw A) (sv A 9) n)).1 = n * claimT (tw A) (sv A 9) p / clsT (tw A) (sv A 9) + (if 0 < claimT (tw A) (sv A 9) p ∧ 0 < ovY (tw A) (sv A 9) n - cntL (tw A) (sv A 9) p.toNat 0 0 then 1 else 0) := by
          have z := sh_step (T := tw A) (S := sv A 9) (n := n) p.toNat 0 0 (ovY (tw A) (sv A 9) n) 0 (by decide)
          rw [← hmax, show (0 : Int) + (p.toNat : Int) = p by omega] at z
          rw [show (p + 1).toNat = p.toNat + 1 by omega]
          exact z
        rw [hst, ho, hc]
        by_cases g3 : claimT (tw A) (sv A 9) p = 0
        · rw [if_pos (Or.inr g3), g3, Int.mul_zero, Int.zero_ediv, if_neg (by omega)]
          rfl
        · rw [if_neg (show ¬ (clsT (tw A) (sv A 9) = 0 ∨ claimT (tw A) (sv A 9) p = 0) by omega)]
          by_cases g4 : cntL (tw A) (sv A 9) p.toNat 0 0 < ovY (tw A) (sv A 9) n
          · rw [if_pos g4, if_pos (by omega)]
          · rw [if_neg g4, if_neg (by omega)]
end RLE
