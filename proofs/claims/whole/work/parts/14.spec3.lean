/-! stands as they change -/
def pasS (T S : xMem) (w : Int) : xMem
  | 0, j => if j = 4 then S 0 4 + w else if j = 5 then (if w = 0 then S 0 5 else T 0 5) else if j = 6 then hillT T S w else S 0 j
  | 1, j => if (j : Int) < T 0 6 then purT T S j w else S 1 j
  | 2, j => S 2 j
  | 3, j => if (j : Int) < T 0 7 then knwT T S j w else S 3 j
  | _, _ => 0
def spkS (T S : xMem) (s : Int) : xMem
  | 0, j => if j = 8 then xor2 (S 0 8) (1 * 2 ^ s.toNat) else if j = 5 then S 0 5 - wolT T S s else S 0 j
  | 1, j => if j = (T 3 s.toNat).toNat then S 1 (T 3 s.toNat).toNat - crnT T S s else S 1 j
  | 2, j => if j = (T 3 s.toNat).toNat then S 2 (T 3 s.toNat).toNat - (wordsT T s - wolT T S s) else S 2 j
  | 3, j => if j = s.toNat then reachT (T 0 6) (T 2 s.toNat) (T 3 s.toNat) 0 else S 3 j
  | _, _ => 0
theorem tw_st {M N : xMem} (h : ∀ a j, a < 9 → N a j = M a j) : tw N = tw M := by
  funext o j
  unfold tw
  split <;> first | rfl | exact h _ _ (by omega)
theorem pas_lo {M : xMem} {k : Nat} {w : Int} (hk : 9 ≤ k) {a j : Nat} (h : a < k ∨ k + 4 ≤ a) : pasM M k w a j = M a j := by
  unfold pasM pw2 pw1
  simp (disch := omega) only [mS_ne]
  rw [if_neg (by omega), if_neg (by omega)]
theorem spk_lo {M : xMem} {k : Nat} {s : Int} {a j : Nat} (h : a < k ∨ k + 4 ≤ a) : spkM M k s a j = M a j := by
  unfold spkM
  simp (disch := omega) only [mS_ne]
theorem tw_pas {M : xMem} {k : Nat} {w : Int} (hk : 9 ≤ k) : tw (pasM M k w) = tw M := tw_st fun a j h => pas_lo hk (by omega)
theorem tw_spk {M : xMem} {k : Nat} {s : Int} (hk : 9 ≤ k) : tw (spkM M k s) = tw M := tw_st fun a j h => spk_lo (by omega)
theorem sv_pas {M : xMem} {k : Nat} {w : Int} (hk : 9 ≤ k) : sv (pasM M k w) k = pasS (tw M) (sv M k) w := by
  funext o j
  match o with
  | 0 =>
    show pasM M k w k j = if j = 4 then M k 4 + w else if j = 5 then (if w = 0 then M k 5 else M 3 5) else if j = 6 then hillT (tw M) (sv M k) w else M k j
    unfold pasM
    by_cases h4 : j = 4
    · subst h4; rw [mS_eq, if_pos rfl]
    · rw [mS_ne (Or.inr h4), if_neg h4]
      by_cases h5 : j = 5
      · subst h5; rw [mS_eq, if_pos rfl]
      · rw [mS_ne (Or.inr h5), if_neg h5]
        by_cases h6 : j = 6
        · subst h6; rw [mS_eq, if_pos rfl]
        · rw [mS_ne (Or.inr h6), if_neg h6]
          unfold pw2 pw1
          rw [if_neg (by omega), if_neg (by omega)]
  | 1 =>
    show pasM M k w (k + 1) j = if (j : Int) < M 3 6 then purT (tw M) (sv M k) j w else M (k + 1) j
    unfold pasM
    simp (disch := omega) only [mS_ne]
    unfold pw2
    by_cases h : (j : Int) < M 3 6
    · rw [if_pos ⟨rfl, h⟩, if_pos h]
    · rw [if_neg (fun q => h q.2), if_neg h]
      exact if_neg (by omega)
  | 2 =>
    show pasM M k w (k + 2) j = M (k + 2) j
    unfold pasM pw2 pw1
    simp (disch := omega) only [mS_ne]
    rw [if_neg (by omega), if_neg (by omega)]
  | 3 =>
    show pasM M k w (k + 3) j = if (j : Int) < M 3 7 then knwT (tw M) (sv M k) j w else M (k + 3) j
    unfold pasM
    simp (disch := omega) only [mS_ne]
    unfold pw2
    rw [if_neg (by omega)]
    unfold pw1
    by_cases h : (j : Int) < M 3 7
    · rw [if_pos ⟨rfl, h⟩, if_pos h]
    · rw [if_neg (fun q => h q.2), if_neg h]
  | _ + 4 => rfl
theorem sv_spk {M : xMem} {k : Nat} {s : Int} (hk : 9 ≤ k) : sv (spkM M k s) k = spkS (tw M) (sv M k) s := by
  funext o j
  match o with
  | 0 =>
    show spkM M k s k j = if j = 8 then xor2 (M k 8) (1 * 2 ^ s.toNat) else if j = 5 then M k 5 - wolT (tw M) (sv M k) s else M k j
    unfold spkM
    rw [mS_ne (Or.inl (by omega))]
    by_cases h8 : j = 8
    · subst h8; rw [mS_eq, if_pos rfl]
    · rw [mS_ne (Or.inr h8), if_neg h8]
      by_cases h5 : j = 5
      · subst h5; rw [mS_eq, if_pos rfl]
      · rw [mS_ne (Or.inr h5), if_neg h5]
        simp (disch := omega) only [mS_ne]
  | 1 =>
    show spkM M k s (k + 1) j = if j = (M 6 s.toNat).toNat then M (k + 1) (M 6 s.toNat).toNat - crnT (tw M) (sv M k) s else M (k + 1) j
    unfold spkM
    rw [mS_ne (Or.inl (by omega)), mS_ne (Or.inl (by omega)), mS_ne (Or.inl (by omega)), mS_ne (Or.inl (by omega))]
    by_cases h : j = (M 6 s.toNat).toNat
    · rw [if_pos h, h, mS_eq]
    · rw [if_neg h, mS_ne (Or.inr h)]
  | 2 =>
    show spkM M k s (k + 2) j = if j = (M 6 s.toNat).toNat then M (k + 2) (M 6 s.toNat).toNat - (wordsT (tw M) s - wolT (tw M) (sv M k) s) else M (k + 2) j
    unfold spkM
    rw [mS_ne (Or.inl (by omega)), mS_ne (Or.inl (by omega)), mS_ne (Or.inl (by omega))]
    by_cases h : j = (M 6 s.toNat).toNat
    · rw [if_pos h, h, mS_eq]
    · rw [if_neg h, mS_ne (Or.inr h), mS_ne (Or.inl (by omega))]
  | 3 =>
    show spkM M k s (k + 3) j = if j = s.toNat then reachT (M 3 6) (M 5 s.toNat) (M 6 s.toNat) 0 else M (k + 3) j
    unfold spkM
    by_cases h : j = s.toNat
    · rw [if_pos h, h, mS_eq]
    · rw [if_neg h, mS_ne (Or.inr h)]
      simp (disch := omega) only [mS_ne]
  | _ + 4 => rfl
theorem SI_pas {T S : xMem} (hT : TI T) (hS : SI T S) {w : Int} (hw : 0 ≤ w ∧ w ≤ 100) (hk : S 0 4 + w ≤ 100000) : SI T (pasS T S w) := by
  obtain ⟨s1, s2, s3, s4, s5, s6, s7⟩ := hS
  have hr := hT.2.2.1
  refine ⟨?_, ?_, ?_, ?_, ?_, fun i hi => ⟨?_, ?_⟩, fun s hs => ?_⟩
  · show 0 ≤ S 0 4 + w ∧ S 0 4 + w ≤ 100000
    omega
  · show 0 ≤ (if w = 0 then S 0 5 else T 0 5) ∧ (if w = 0 then S 0 5 else T 0 5) ≤ 99
    split <;> omega
  · show 0 ≤ hillT T S w ∧ hillT T S w ≤ 999
    unfold hillT
    split
    · exact s3
    · have := Int.mul_nonneg (show 0 ≤ w - 1 by omega) (show 0 ≤ T 0 5 by omega)
      omega
  · exact s4
  · exact s5
  · show 0 ≤ (if (i.toNat : Int) < T 0 6 then purT T S (i.toNat : Int) w else S 1 i.toNat) ∧ (if (i.toNat : Int) < T 0 6 then purT T S (i.toNat : Int) w else S 1 i.toNat) ≤ 99
    rw [if_pos (by omega), show ((i.toNat : Nat) : Int) = i by omega]
    have h1 := hT.2.2.2.1 i hi
    have h2 := (s6 i hi).1
    have := Int.mul_nonneg (show 0 ≤ w by omega) h1.1
    unfold purT
    omega
  · exact (s6 i hi).2
  · show 0 ≤ (if (s.toNat : Int) < T 0 7 then knwT T S (s.toNat : Int) w else S 3 s.toNat) ∧ (if (s.toNat : Int) < T 0 7 then knwT T S (s.toNat : Int) w else S 3 s.toNat) ≤ 31
    rw [if_pos (by omega), show ((s.toNat : Nat) : Int) = s by omega]
    exact onwT_b (by have := hT.1; omega) (s7 s hs)
theorem SI_spk {T S : xMem} (hT : TI T) (hS : SI T S) {s : Int} (hs : 0 ≤ s ∧ s < T 0 7) (hc : canT T S s) : SI T (spkS T S s) := by
  have hwd := words_b hT hs
  have hwo := wol_b hT hS hs
  have hcr := crn_b hT hS hs
  have hq := hT.2.2.2.2 s hs
  have hN := hT.2.1
  have hn := hT.1
  have hpu := hS.2.2.2.2.2.1 _ hq.2.1
  have hwl : wolT T S s = max 0 (wordsT T s - S 2 (T 3 s.toNat).toNat) := rfl
  obtain ⟨s1, s2, s3, s4, s5, s6, s7⟩ := hS
  obtain ⟨-, c2, c3⟩ := hc
  refine ⟨s1, ?_, s3, s4, ?_, fun i hi => ⟨?_, ?_⟩, fun t ht => ?_⟩
  · show 0 ≤ S 0 5 - wolT T S s ∧ S 0 5 - wolT T S s ≤ 99
    omega
  · show 0 ≤ xor2 (S 0 8) (1 * 2 ^ s.toNat) ∧ xor2 (S 0 8) (1 * 2 ^ s.toNat) ≤ 63
    exact xor2_63 s5 (by have := p2_5 (n := s) (by omega); omega)
  · show 0 ≤ (if i.toNat = (T 3 s.toNat).toNat then S 1 (T 3 s.toNat).toNat - crnT T S s else S 1 i.toNat) ∧ (if i.toNat = (T 3 s.toNat).toNat then S 1 (T 3 s.toNat).toNat - crnT T S s else S 1 i.toNat) ≤ 99
    split
    · omega
    · exact (s6 i hi).1
  · show 0 ≤ (if i.toNat = (T 3 s.toNat).toNat then S 2 (T 3 s.toNat).toNat - (wordsT T s - wolT T S s) else S 2 i.toNat) ∧ (if i.toNat = (T 3 s.toNat).toNat then S 2 (T 3 s.toNat).toNat - (wordsT T s - wolT T S s) else S 2 i.toNat) ≤ 99
    split
    · omega
    · exact (s6 i hi).2
  · show 0 ≤ (if t.toNat = s.toNat then reachT (T 0 6) (T 2 s.toNat) (T 3 s.toNat) 0 else S 3 t.toNat) ∧ (if t.toNat = s.toNat then reachT (T 0 6) (T 2 s.toNat) (T 3 s.toNat) 0 else S 3 t.toNat) ≤ 31
    split
    · exact reachT_b (by omega) (by omega)
    · exact s7 t ht
theorem kp_lo {M : xMem} {a j : Nat} (h : a < 17) : kpM M a j = M a j := by
  unfold kpM
  rw [mS_ne (Or.inl (by omega)), mS_ne (Or.inl (by omega)), stCp_ne (by omega)]
theorem tw_kp (M : xMem) : tw (kpM M) = tw M := tw_st fun a j h => kp_lo (by omega)
theorem sv_kp (M : xMem) : sv (kpM M) 9 = sv M 9 := by
  funext o j
  unfold sv
  split <;> first | rfl | exact kp_lo (by omega)
theorem kp_b {M : xMem} (h1 : 0 ≤ M 17 1 ∧ M 17 1 < 24) (h2 : 0 ≤ M 17 2 ∧ M 17 2 ≤ 24) : (0 ≤ kpM M 17 1 ∧ kpM M 17 1 < 24) ∧ (0 ≤ kpM M 17 2 ∧ kpM M 17 2 ≤ 24) := by
  unfold kpM
  rw [mS_ne (Or.inr (by omega)), mS_eq, mS_eq]
  constructor
  · split <;> omega
  · omega
theorem Ct_eq {E : xE} {y : xM} {nL d : Nat} {av : List Value} {M : xMem} {r r' : Option Value} {M1 M1' : xMem} (h : Ct E y nL d av M r M1) (e1 : r = r') (e2 : M1 = M1') : Ct E y nL d av M r' M1' := by
  subst e1; subst e2; exact h
