/-! orders -/
def mwT (M : xMem) : Int := if M 115 5 = -1000000 then 60 else M 115 5 - 1
def kpT (M : xMem) (size w : Int) : xMem := if mwT M < w then M else mCp (mS (mS M 115 5 w) 115 4 size) 118 117 0 0 size.toNat
def wtT (M : xMem) (lv : Nat) (s : Int) : Int := if bitI (M lv 8) s = 1 then -1000000 else tillT (tw M) (sv M lv) s (mwT M - M lv 4)
def nxT (M : xMem) (lv lw : Nat) (dep s : Int) : xMem := mS (spkM (pasM (stCp M lw lv) lw (wtT M lv s)) lw s) 117 dep.toNat s
def goF (g : Int → xMem → xMem) (dep s : Int) (M : xMem) : xMem := if wtT M (119 + 4 * dep.toNat) s = -1000000 then M else g (dep + 1) (nxT M (119 + 4 * dep.toNat) (119 + 4 * (dep + 1).toNat) dep s)
def goM : Nat → Int → xMem → xMem
  | 0, dep, M => if M (119 + 4 * dep.toNat) 8 = 1 * 2 ^ (M 3 7).toNat - 1 then kpT M dep (M (119 + 4 * dep.toNat) 4) else M
  | f + 1, dep, M => if M (119 + 4 * dep.toNat) 8 = 1 * 2 ^ (M 3 7).toNat - 1 then kpT M dep (M (119 + 4 * dep.toNat) 4) else foldI (goF (goM f) dep) (M 3 7).toNat 0 M
def ffM (M : xMem) : xMem := goM 6 0 (mS (stCp (mS (mS M 115 5 (-1000000)) 115 4 0) 119 9) 119 4 0)
def baT (M : xMem) (k : Int) : Int := if 0 ≤ k ∧ k < M 115 4 then M 118 k.toNat else -1000000
def xOrder (M : xMem) (k : Int) : Int × xMem := if M 3 6 = 0 then (-1000002, M) else if k < -1 then (-1000001, M) else (if k = -1 then ffM M 115 5 else baT (ffM M) k, ffM M)
/-- what holds of the search's own cells -/
def OI (M : xMem) : Prop := (M 115 5 = -1000000 ∨ (0 ≤ M 115 5 ∧ M 115 5 ≤ 60)) ∧ (0 ≤ M 115 4 ∧ M 115 4 ≤ 6)
theorem mw_b {M : xMem} (h : OI M) : -1 ≤ mwT M ∧ mwT M ≤ 60 := by
  have := h.1
  unfold mwT
  split <;> omega
theorem till_can {T S : xMem} (hT : TI T) (hS : SI T S) {s mo w : Int} (hs : 0 ≤ s ∧ s < T 0 7) (hsd : ¬ bitI (S 0 8) s = 1) (hmo : mo ≤ 60) (hw : tillT T S s mo = w) (hn : w ≠ -1000000) : (0 ≤ w ∧ w ≤ mo) ∧ canT T (pasS T S w) s := by
  have hq := hT.2.2.2.2 s hs
  have hin := hT.2.2.2.1 _ hq.2.1
  have hpu := (hS.2.2.2.2.2.1 _ hq.2.1).1
  have hl := hS.2.1
  have hcr := crn_b hT hS hs
  unfold tillT at hw
  split at hw
  · rename_i hc
    obtain ⟨hc1, hc2⟩ := hc
    rw [hw] at hc1 hc2
    have e1 : wolT T (pasS T S w) s = wolT T S s := rfl
    have e2 : crnT T (pasS T S w) s = crnT T S s := rfl
    have e3 : pasS T S w 0 5 = if w = 0 then S 0 5 else T 0 5 := rfl
    have e4 : pasS T S w 1 (T 3 s.toNat).toNat = min 99 (S 1 (T 3 s.toNat).toNat + w * T 1 (T 3 s.toNat).toNat) := by
      show (if ((T 3 s.toNat).toNat : Int) < T 0 6 then purT T S ((T 3 s.toNat).toNat : Int) w else _) = _
      rw [if_pos (by omega), show (((T 3 s.toNat).toNat : Nat) : Int) = T 3 s.toNat by omega]
      rfl
    have hw0 : waitT T S s = w := hw
    unfold waitT at hw0
    split at hw0
    · rename_i h0
      have hwz : w = 0 := by omega
      refine ⟨by omega, hsd, ?_, ?_⟩
      · rw [e1, e3, if_pos hwz]; exact h0.1
      · rw [e2, e4, hwz, Int.zero_mul]; omega
    · rename_i h0
      have hea : earnT T s (crnT T S s - S 1 (T 3 s.toNat).toNat) ≤ w := by omega
      have hw1 : 1 ≤ w := by omega
      have hg : crnT T S s ≤ S 1 (T 3 s.toNat).toNat + w * T 1 (T 3 s.toNat).toNat := by
        unfold earnT at hea
        split at hea
        · have := Int.mul_nonneg (show 0 ≤ w by omega) hin.1
          omega
        · split at hea
          · rename_i hp
            have h1 : (crnT T S s - S 1 (T 3 s.toNat).toNat + T 1 (T 3 s.toNat).toNat - 1) < (w + 1) * T 1 (T 3 s.toNat).toNat := by
              rw [← Int.ediv_lt_iff_lt_mul hp]
              omega
            rw [Int.add_mul, Int.one_mul] at h1
            omega
          · omega
      refine ⟨by omega, hsd, ?_, ?_⟩
      · rw [e1, e3, if_neg (by omega)]
        rcases hc1 with h | h
        · omega
        · exact h.1
      · rw [e2, e4]
        rcases hc1 with h | h
        · omega
        · omega
  · exact absurd hw.symm hn
theorem till_b {T S : xMem} {s mo : Int} (hT : TI T) (hS : SI T S) (hs : 0 ≤ s ∧ s < T 0 7) : tillT T S s mo = -1000000 ∨ (0 ≤ tillT T S s mo ∧ tillT T S s mo ≤ mo) := by
  have hcr := crn_b hT hS hs
  have hq := hT.2.2.2.2 s hs
  have hpu := (hS.2.2.2.2.2.1 _ hq.2.1).1
  have hea := earn_b hT (lack := crnT T S s - S 1 (T 3 s.toNat).toNat) hs (by omega)
  have hwa : 0 ≤ waitT T S s := by unfold waitT; split <;> omega
  unfold tillT
  split
  · rename_i h
    exact Or.inr ⟨hwa, h.2⟩
  · exact Or.inl rfl
/-- cells that the search at a depth leaves as they are -/
def gK (dep : Int) (a : Nat) : Prop := a < 115 ∨ a = 116 ∨ (119 ≤ a ∧ a < 119 + 4 * (dep + 1).toNat) ∨ 147 ≤ a
theorem kpT_lo {M : xMem} {size w : Int} {a j : Nat} (h1 : a ≠ 115) (h2 : a ≠ 118) : kpT M size w a j = M a j := by
  unfold kpT
  split
  · rfl
  · unfold mCp
    rw [if_neg (fun q => h2 q.1), mS_ne (Or.inl h1), mS_ne (Or.inl h1)]
theorem kpT_OI {M : xMem} {size w : Int} (h : OI M) (hs : 0 ≤ size ∧ size ≤ 6) (hw : 0 ≤ w ∧ w ≤ 60) : OI (kpT M size w) := by
  unfold kpT
  split
  · exact h
  · refine ⟨Or.inr ?_, ?_⟩
    · rw [show mCp (mS (mS M 115 5 w) 115 4 size) 118 117 0 0 size.toNat 115 5 = w from by unfold mCp; rw [if_neg (by omega), mS_ne (Or.inr (by omega)), mS_eq]]
      exact hw
    · rw [show mCp (mS (mS M 115 5 w) 115 4 size) 118 117 0 0 size.toNat 115 4 = size from by unfold mCp; rw [if_neg (by omega), mS_eq]]
      exact hs
theorem nxT_lo {M : xMem} {lv lw : Nat} {dep s : Int} {a j : Nat} (hl : 119 ≤ lw) (h1 : a ≠ 117) (h2 : a < lw ∨ lw + 4 ≤ a) : nxT M lv lw dep s a j = M a j := by
  unfold nxT
  rw [mS_ne (Or.inl h1), spk_lo h2, pas_lo (by omega) h2, stCp_ne h2]
/-- a level's stand as it can be, its weeks few -/
def LI (M : xMem) (lv : Nat) : Prop := SI (tw M) (sv M lv) ∧ M lv 4 ≤ 60
theorem tw_nx {M : xMem} {lv lw : Nat} {dep s : Int} (hl : 119 ≤ lw) : tw (nxT M lv lw dep s) = tw M := tw_st fun a j h => nxT_lo hl (by omega) (by omega)
theorem nx_LI {M : xMem} {lv : Nat} {dep s : Int} (hT : TI (tw M)) (hL : LI M lv) (hO : OI M) (hl : 119 ≤ lv) (hs : 0 ≤ s ∧ s < M 3 7) (hw : ¬ wtT M lv s = -1000000) : LI (nxT M lv (lv + 4) dep s) (lv + 4) := by
  obtain ⟨hS, hk⟩ := hL
  have hmw := mw_b hO
  have hwk : 0 ≤ M lv 4 ∧ M lv 4 ≤ 100000 := hS.1
  have hns : ¬ bitI (M lv 8) s = 1 := by
    intro q
    unfold wtT at hw
    rw [if_pos q] at hw
    exact hw rfl
  have ew : wtT M lv s = tillT (tw M) (sv M lv) s (mwT M - M lv 4) := if_neg hns
  obtain ⟨hwb, hc⟩ := till_can hT hS (s := s) (mo := mwT M - M lv 4) (w := wtT M lv s) hs hns (by omega) ew.symm hw
  have hcp : SA (tw M) (sv M lv) (sv (stCp M (lv + 4) lv) (lv + 4)) := (SA_cp hT (by omega)).symm
  have htc : tw (stCp M (lv + 4) lv) = tw M := tw_cp (by omega)
  have hSc : SI (tw M) (sv (stCp M (lv + 4) lv) (lv + 4)) := hcp.SI (TA.rf _) hS
  have hwk2 : sv (stCp M (lv + 4) lv) (lv + 4) 0 4 = M lv 4 := hcp.1.1.symm
  have hSp : SI (tw M) (pasS (tw M) (sv (stCp M (lv + 4) lv) (lv + 4)) (wtT M lv s)) := SI_pas hT hSc (by omega) (by omega)
  have hcc : canT (tw M) (pasS (tw M) (sv (stCp M (lv + 4) lv) (lv + 4)) (wtT M lv s)) s := (can_cg hT (TA.rf _) (pas_cg (TA.rf _) hcp) hs).mpr hc
  have esv : sv (nxT M lv (lv + 4) dep s) (lv + 4) = spkS (tw M) (pasS (tw M) (sv (stCp M (lv + 4) lv) (lv + 4)) (wtT M lv s)) s := by
    unfold nxT
    rw [sv_mS (Or.inr (by omega)), sv_spk (by omega), tw_pas (by omega), sv_pas (by omega), htc]
  refine ⟨?_, ?_⟩
  · rw [tw_nx (by omega), esv]
    exact SI_spk hT hSp hs hcc
  · have : nxT M lv (lv + 4) dep s (lv + 4) 4 = sv (nxT M lv (lv + 4) dep s) (lv + 4) 0 4 := rfl
    rw [this, esv]
    show sv (stCp M (lv + 4) lv) (lv + 4) 0 4 + wtT M lv s ≤ 60
    rw [hwk2]
    omega
theorem goM_lo : ∀ (f : Nat) (dep : Int) (M : xMem) {a j : Nat}, (0 ≤ dep ∧ dep + f ≤ 6) → gK dep a → goM f dep M a j = M a j
  | 0, dep, M, a, j, h0, h => by
    unfold gK at h
    unfold goM
    split
    · exact kpT_lo (by omega) (by omega)
    · rfl
  | f + 1, dep, M, a, j, h0, h => by
    unfold goM
    split
    · unfold gK at h
      exact kpT_lo (by omega) (by omega)
    · have key : ∀ (k : Nat) (i : Int) (N : xMem), foldI (goF (goM f) dep) k i N a j = N a j := by
        intro k
        induction k with
        | zero => intro i N; rfl
        | succ k ih =>
          intro i N
          show foldI (goF (goM f) dep) k (i + 1) (goF (goM f) dep i N) a j = N a j
          rw [ih]
          unfold goF
          split
          · rfl
          · rw [goM_lo f (dep + 1) _ (by omega) (by unfold gK at h ⊢; omega)]
            unfold gK at h
            exact nxT_lo (by omega) (by omega) (by omega)
      exact key _ _ _
theorem goM_OI : ∀ (f : Nat) (dep : Int) (M : xMem), (0 ≤ dep ∧ dep + f ≤ 6) → TI (tw M) → LI M (119 + 4 * dep.toNat) → OI M → OI (goM f dep M)
  | 0, dep, M, hd, hT, hL, hO => by
    unfold goM
    split
    · exact kpT_OI hO (by omega) ⟨(hL.1.1).1, hL.2⟩
    · exact hO
  | f + 1, dep, M, hd, hT, hL, hO => by
    unfold goM
    split
    · exact kpT_OI hO (by omega) ⟨(hL.1.1).1, hL.2⟩
    · have hN : 1 ≤ M 3 7 ∧ M 3 7 ≤ 6 := hT.2.1
      have key : ∀ (k : Nat) (i : Int) (N : xMem), 0 ≤ i → i + k ≤ M 3 7 → (∀ b j, gK dep b → N b j = M b j) → OI N → OI (foldI (goF (goM f) dep) k i N) := by
        intro k
        induction k with
        | zero => intro i N _ _ _ h; exact h
        | succ k ih =>
          intro i N h0 h1 hlo h
          have htw : tw N = tw M := tw_st fun b j hb => hlo b j (by unfold gK; omega)
          have hLN : LI N (119 + 4 * dep.toNat) := by
            have esv : sv N (119 + 4 * dep.toNat) = sv M (119 + 4 * dep.toNat) := by
              funext o j
              unfold sv
              split <;> first | rfl | exact hlo _ _ (by unfold gK; omega)
            refine ⟨by rw [htw, esv]; exact hL.1, ?_⟩
            rw [hlo _ _ (by unfold gK; omega)]
            exact hL.2
          have e37 : N 3 7 = M 3 7 := hlo 3 7 (by unfold gK; omega)
          show OI (foldI (goF (goM f) dep) k (i + 1) (goF (goM f) dep i N))
          by_cases hw : wtT N (119 + 4 * dep.toNat) i = -1000000
          · have e : goF (goM f) dep i N = N := if_pos hw
            rw [e]
            exact ih (i + 1) N (by omega) (by omega) hlo h
          · have e : goF (goM f) dep i N = goM f (dep + 1) (nxT N (119 + 4 * dep.toNat) (119 + 4 * (dep + 1).toNat) dep i) := if_neg hw
            have el : 119 + 4 * (dep + 1).toNat = 119 + 4 * dep.toNat + 4 := by omega
            have hTN : TI (tw N) := by rw [htw]; exact hT
            have hnx := nx_LI (dep := dep) (s := i) hTN hLN h (by omega) (by omega) hw
            have hlo2 : ∀ b j, gK dep b → goF (goM f) dep i N b j = M b j := by
              intro b j hb
              rw [e, goM_lo f (dep + 1) _ (by omega) (by unfold gK at hb ⊢; omega), nxT_lo (by omega) (by unfold gK at hb; omega) (by unfold gK at hb; omega)]
              exact hlo b j hb
            refine ih (i + 1) _ (by omega) (by omega) hlo2 ?_
            rw [e]
            refine goM_OI f (dep + 1) _ (by omega) ?_ ?_ ?_
            · rw [tw_nx (by omega)]; exact hTN
            · rw [el]; exact hnx
            · refine ⟨?_, ?_⟩
              · rw [nxT_lo (by omega) (by decide) (by omega)]; exact h.1
              · rw [nxT_lo (by omega) (by decide) (by omega)]; exact h.2
      exact key _ 0 M (by decide) (by omega) (fun _ _ _ => rfl) hO
theorem ff_LI {M : xMem} {N : xMem} (htA : tw (mS N 119 4 0) = tw M) (hsA : SI (tw M) (sv N 119)) : LI (mS N 119 4 0) 119 := by
  obtain ⟨s1, s2, s3, s4, s5, s6, s7⟩ := hsA
  refine ⟨?_, by rw [mS_eq]; decide⟩
  rw [htA]
  refine ⟨?_, ?_, ?_, ?_, ?_, fun i hi => ⟨?_, ?_⟩, fun s hs => ?_⟩
  · show 0 ≤ mS N 119 4 0 119 4 ∧ mS N 119 4 0 119 4 ≤ 100000
    rw [mS_eq]; decide
  · show 0 ≤ mS N 119 4 0 119 5 ∧ mS N 119 4 0 119 5 ≤ 99
    rw [mS_ne (Or.inr (by decide))]; exact s2
  · show 0 ≤ mS N 119 4 0 119 6 ∧ mS N 119 4 0 119 6 ≤ 999
    rw [mS_ne (Or.inr (by decide))]; exact s3
  · show 1 ≤ mS N 119 4 0 119 7 ∧ mS N 119 4 0 119 7 ≤ 9
    rw [mS_ne (Or.inr (by decide))]; exact s4
  · show 0 ≤ mS N 119 4 0 119 8 ∧ mS N 119 4 0 119 8 ≤ 63
    rw [mS_ne (Or.inr (by decide))]; exact s5
  · show 0 ≤ mS N 119 4 0 120 i.toNat ∧ mS N 119 4 0 120 i.toNat ≤ 99
    rw [mS_ne (Or.inl (by decide))]; exact (s6 i hi).1
  · show 0 ≤ mS N 119 4 0 121 i.toNat ∧ mS N 119 4 0 121 i.toNat ≤ 99
    rw [mS_ne (Or.inl (by decide))]; exact (s6 i hi).2
  · show 0 ≤ mS N 119 4 0 122 s.toNat ∧ mS N 119 4 0 122 s.toNat ≤ 31
    rw [mS_ne (Or.inl (by decide))]; exact s7 s hs
theorem ff_OI {M : xMem} : OI (mS (stCp (mS (mS M 115 5 (-1000000)) 115 4 0) 119 9) 119 4 0) := by
  refine ⟨Or.inl ?_, ?_⟩
  · rw [mS_ne (Or.inl (by decide)), stCp_ne (by decide), mS_ne (Or.inr (by decide)), mS_eq]
  · rw [mS_ne (Or.inl (by decide)), stCp_ne (by decide), mS_eq]; decide
theorem ff_b {M : xMem} (hT : TI (tw M)) (hS : SI (tw M) (sv M 9)) : OI (ffM M) := by
  have htA : tw (mS (stCp (mS (mS M 115 5 (-1000000)) 115 4 0) 119 9) 119 4 0) = tw M := by rw [tw_mS (Or.inl (by decide)), tw_cp (by decide), tw_mS (Or.inl (by decide)), tw_mS (Or.inl (by decide))]
  have hsA : SI (tw M) (sv (stCp (mS (mS M 115 5 (-1000000)) 115 4 0) 119 9) 119) := SI_cp hT (by rw [sv_mS (Or.inl (by decide)), sv_mS (Or.inl (by decide))]; exact hS) (by decide)
  exact goM_OI 6 0 _ (by decide) (by rw [htA]; exact hT) (ff_LI htA hsA) ff_OI
