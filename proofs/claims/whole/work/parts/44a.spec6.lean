theorem stCp_3 {M : xMem} {k j i : Nat} (h : j + 4 ≤ k ∨ k + 4 ≤ j) (hi : i < 6) : stCp M k j (k + 3) i = M (j + 3) i := by
  unfold stCp
  rw [show ∀ N : xMem, mCp N (k + 3) (j + 3) 0 0 6 (k + 3) i = N (j + 3) i from fun N => by unfold mCp; rw [if_pos ⟨rfl, by omega, by omega⟩, show 0 + (i - 0) = i by omega]]
  unfold mCp
  rw [if_neg (by omega), if_neg (by omega)]
  simp (disch := omega) only [mS_ne]
theorem stCp_2 {M : xMem} {k j i : Nat} (h : j + 4 ≤ k ∨ k + 4 ≤ j) (hi : i < 5) : stCp M k j (k + 2) i = M (j + 2) i := by
  unfold stCp
  rw [show ∀ N : xMem, mCp N (k + 3) (j + 3) 0 0 6 (k + 2) i = N (k + 2) i from fun N => by unfold mCp; rw [if_neg (by omega)]]
  rw [show ∀ N : xMem, mCp N (k + 2) (j + 2) 0 0 5 (k + 2) i = N (j + 2) i from fun N => by unfold mCp; rw [if_pos ⟨rfl, by omega, by omega⟩, show 0 + (i - 0) = i by omega]]
  unfold mCp
  rw [if_neg (by omega)]
  simp (disch := omega) only [mS_ne]
theorem stCp_1 {M : xMem} {k j i : Nat} (h : j + 4 ≤ k ∨ k + 4 ≤ j) (hi : i < 5) : stCp M k j (k + 1) i = M (j + 1) i := by
  unfold stCp
  rw [show ∀ N : xMem, mCp N (k + 3) (j + 3) 0 0 6 (k + 1) i = N (k + 1) i from fun N => by unfold mCp; rw [if_neg (by omega)]]
  rw [show ∀ N : xMem, mCp N (k + 2) (j + 2) 0 0 5 (k + 1) i = N (k + 1) i from fun N => by unfold mCp; rw [if_neg (by omega)]]
  rw [show ∀ N : xMem, mCp N (k + 1) (j + 1) 0 0 5 (k + 1) i = N (j + 1) i from fun N => by unfold mCp; rw [if_pos ⟨rfl, by omega, by omega⟩, show 0 + (i - 0) = i by omega]]
  simp (disch := omega) only [mS_ne]
theorem stCp_0 {M : xMem} {k j f : Nat} (h : j + 4 ≤ k ∨ k + 4 ≤ j) (hf : 4 ≤ f ∧ f ≤ 8) : stCp M k j k f = M j f := by
  unfold stCp mCp
  rw [if_neg (by omega), if_neg (by omega), if_neg (by omega)]
  rcases (show f = 4 ∨ f = 5 ∨ f = 6 ∨ f = 7 ∨ f = 8 by omega) with rfl | rfl | rfl | rfl | rfl <;> simp (disch := omega) only [mS_ne, mS_eq]
theorem tw_cp {M : xMem} {k j : Nat} (h : 9 ≤ k) : tw (stCp M k j) = tw M := tw_st fun a i ha => stCp_ne (by omega)
theorem SI_cp {T M : xMem} {k j : Nat} (hT : TI T) (hS : SI T (sv M j)) (h : j + 4 ≤ k ∨ k + 4 ≤ j) : SI T (sv (stCp M k j) k) := by
  have hn := hT.1
  have hN := hT.2.1
  obtain ⟨s1, s2, s3, s4, s5, s6, s7⟩ := hS
  refine ⟨?_, ?_, ?_, ?_, ?_, fun i hi => ⟨?_, ?_⟩, fun s hs => ?_⟩
  · show 0 ≤ stCp M k j k 4 ∧ stCp M k j k 4 ≤ 100000
    rw [stCp_0 h (by omega)]; exact s1
  · show 0 ≤ stCp M k j k 5 ∧ stCp M k j k 5 ≤ 99
    rw [stCp_0 h (by omega)]; exact s2
  · show 0 ≤ stCp M k j k 6 ∧ stCp M k j k 6 ≤ 999
    rw [stCp_0 h (by omega)]; exact s3
  · show 1 ≤ stCp M k j k 7 ∧ stCp M k j k 7 ≤ 9
    rw [stCp_0 h (by omega)]; exact s4
  · show 0 ≤ stCp M k j k 8 ∧ stCp M k j k 8 ≤ 63
    rw [stCp_0 h (by omega)]; exact s5
  · show 0 ≤ stCp M k j (k + 1) i.toNat ∧ stCp M k j (k + 1) i.toNat ≤ 99
    rw [stCp_1 h (by omega)]; exact (s6 i hi).1
  · show 0 ≤ stCp M k j (k + 2) i.toNat ∧ stCp M k j (k + 2) i.toNat ≤ 99
    rw [stCp_2 h (by omega)]; exact (s6 i hi).2
  · show 0 ≤ stCp M k j (k + 3) s.toNat ∧ stCp M k j (k + 3) s.toNat ≤ 31
    rw [stCp_3 h (by omega)]; exact s7 s hs
theorem tryL_b {T : xMem} (hT : TI T) {set : Int} : ∀ (k : Nat) (s a : Int) (M : xMem), tw M = T → SI T (sv M 13) → 0 ≤ s → s + k = T 0 7 → (0 ≤ a ∧ a ≤ 100 * s) →
    ((tryL set k s a M).1 = -1000000 ∨ (0 ≤ (tryL set k s a M).1 ∧ (tryL set k s a M).1 ≤ 600)) ∧ tw (tryL set k s a M).2 = T ∧ SI T (sv (tryL set k s a M).2 13) ∧ ∀ b j, b < 13 ∨ 17 ≤ b → (tryL set k s a M).2 b j = M b j
  | 0, s, a, M, htw, hS, h0, h1, ha => by
    have hN := hT.2.1
    refine ⟨Or.inr ?_, htw, hS, fun _ _ _ => rfl⟩
    show 0 ≤ a ∧ a ≤ 600
    omega
  | k + 1, s, a, M, htw, hS, h0, h1, ha => by
    unfold tryL
    split
    · exact tryL_b hT k (s + 1) a M htw hS (by omega) (by omega) (by omega)
    · split
      · rename_i hc
        have hs : 0 ≤ s ∧ s < T 0 7 := by omega
        rw [htw] at hc
        have hw := wol_b hT hS hs
        have hwd := words_b hT hs
        obtain ⟨q1, q2, q3, q4⟩ := tryL_b hT (set := set) k (s + 1) (a + wolT (tw M) (sv M 13) s) (spkM M 13 s) ((tw_spk (by decide)).trans htw) (by rw [sv_spk (by decide), htw]; exact SI_spk hT hS hs hc) (by omega) (by omega) (by rw [htw]; omega)
        exact ⟨q1, q2, q3, fun b j hb => (q4 b j hb).trans (spk_lo (by omega))⟩
      · exact ⟨Or.inl rfl, htw, hS, fun _ _ _ => rfl⟩
theorem try_b {M : xMem} (hT : TI (tw M)) (hS : SI (tw M) (sv M 9)) (set : Int) :
    ((tryT M set).1 = -1000000 ∨ (0 ≤ (tryT M set).1 ∧ (tryT M set).1 ≤ 600)) ∧ tw (tryT M set).2 = tw M ∧ SI (tw M) (sv (tryT M set).2 13) ∧ ∀ b j, b < 13 ∨ 17 ≤ b → (tryT M set).2 b j = M b j := by
  have hN : 1 ≤ M 3 7 ∧ M 3 7 ≤ 6 := hT.2.1
  obtain ⟨q1, q2, q3, q4⟩ := tryL_b hT (set := set) (M 3 7).toNat 0 0 (stCp M 13 9) (tw_cp (by decide)) (SI_cp hT hS (by decide)) (by omega) (by show (0 : Int) + ((M 3 7).toNat : Int) = M 3 7; omega) (by omega)
  exact ⟨q1, q2, q3, fun b j hb => (q4 b j hb).trans (stCp_ne (by omega))⟩
theorem sv_lo {M N : xMem} (h : ∀ b j, b < 13 ∨ 17 ≤ b → N b j = M b j) : sv N 9 = sv M 9 := by
  funext o j
  unfold sv
  split <;> first | rfl | exact h _ _ (by omega)
theorem tw_lo {M N : xMem} (h : ∀ b j, b < 13 ∨ 17 ≤ b → N b j = M b j) : tw N = tw M := tw_st fun a j ha => h a j (by omega)
theorem pass_b {T S : xMem} (hT : TI T) (hS : SI T S) {s d w : Int} (hs : 0 ≤ s ∧ s < T 0 7) : 0 ≤ passT T S s d w ∧ passT T S s d w ≤ 31 := by
  have hn := hT.1
  have hq := hT.2.2.2.2 s hs
  refine onwT_b (by omega) ?_
  split
  · exact hS.2.2.2.2.2.2 s hs
  · exact reachT_b (by omega) (by omega)
theorem lgT_lo {M : xMem} (hT : TI (tw M)) (hS : SI (tw M) (sv M 9)) : ∀ (k : Nat) (i : Int) (q : Int × Int × xMem), (∀ b j, b < 13 ∨ 17 ≤ b → q.2.2 b j = M b j) → (0 ≤ q.1 ∧ q.1 ≤ 63) → 1 ≤ i → i + k ≤ 64 →
    (∀ b j, b < 13 ∨ 17 ≤ b → (foldI lgF k i q).2.2 b j = M b j) ∧ (0 ≤ (foldI lgF k i q).1 ∧ (foldI lgF k i q).1 ≤ 63)
  | 0, i, q, h, hb, _, _ => ⟨h, hb⟩
  | k + 1, i, q, h, hb, h1, h2 => by
    have hT' : TI (tw q.2.2) := by rw [tw_lo h]; exact hT
    have hS' : SI (tw q.2.2) (sv q.2.2 9) := by rw [tw_lo h, sv_lo h]; exact hS
    have ht := (try_b hT' hS' i).2.2.2
    have hlo : ∀ b j, b < 13 ∨ 17 ≤ b → (lgF i q).2.2 b j = M b j := by
      intro b j hbj
      unfold lgF
      split
      · exact h b j hbj
      · split
        · exact (ht b j hbj).trans (h b j hbj)
        · split
          · exact (ht b j hbj).trans (h b j hbj)
          · exact (ht b j hbj).trans (h b j hbj)
    have hbb : 0 ≤ (lgF i q).1 ∧ (lgF i q).1 ≤ 63 := by
      unfold lgF
      split
      · exact hb
      · split
        · exact hb
        · split
          · show 0 ≤ i ∧ i ≤ 63
            omega
          · exact hb
    exact lgT_lo hT hS k (i + 1) (lgF i q) hlo hbb (by omega) (by omega)
theorem lg_b {M : xMem} (hT : TI (tw M)) (hS : SI (tw M) (sv M 9)) : (∀ b j, b < 13 ∨ 17 ≤ b → (lgT M).2.2 b j = M b j) ∧ (0 ≤ (lgT M).1 ∧ (lgT M).1 ≤ 63) := by
  have hN : 1 ≤ M 3 7 ∧ M 3 7 ≤ 6 := hT.2.1
  have hp := p2_b (n := M 3 7) (by omega)
  exact lgT_lo hT hS _ 1 (0, 0, M) (fun _ _ _ => rfl) (by show (0 : Int) ≤ 0 ∧ (0 : Int) ≤ 63; decide) (by decide) (by omega)
theorem undAll_b {T S : xMem} (hT : TI T) (hS : SI T S) {set : Int} : 0 ≤ undAllT T S set ∧ undAllT T S set ≤ 31 := by
  have hn := hT.1
  have hN := hT.2.1
  have h5 := p2_5 (n := T 0 6) (by omega)
  exact foldI_inv (f := fun s a => if bitI set s = 1 then xand a (understT T S s) else a) (fun _ a => 0 ≤ a ∧ a ≤ 31) (n := T 0 7) (fun i a _ _ q => by
    split
    · exact xand_bl q
    · exact q) (T 0 7).toNat 0 _ (by omega) (by omega) (by omega)
theorem fd_b {T S : xMem} {s p n ap : Int} : ∀ (k : Nat) (i b : Int), 0 ≤ i → i + k ≤ 32 → (b = -1000000 ∨ (0 ≤ b ∧ b ≤ 31)) → (foldI (fdF T S s p n ap) k i b = -1000000 ∨ (0 ≤ foldI (fdF T S s p n ap) k i b ∧ foldI (fdF T S s p n ap) k i b ≤ 31))
  | 0, i, b, _, _, h => h
  | k + 1, i, b, h0, h1, h => fd_b k (i + 1) _ (by omega) (by omega) (by unfold fdF; split <;> omega)
theorem ten_b {k : Nat} (h : k ≤ 6) : (10 : Int) ^ k ≤ 1000000 := by
  have key : ∀ k : Nat, k < 7 → (10 : Int) ^ k ≤ 1000000 := by decide +kernel
  exact key k (by omega)
theorem hc_b {T S : xMem} (hT : TI T) {s p n pr : Int} (hpr : 0 ≤ pr ∧ pr ≤ 10) : ∀ (k : Nat) (i a : Int), 0 ≤ i → i + k ≤ 32 → (0 ≤ a ∧ a ≤ 1000000000000 * i) → 0 ≤ foldI (hcF T S s p n pr) k i a ∧ foldI (hcF T S s p n pr) k i a ≤ 32000000000000
  | 0, i, a, _, h1, h => by
    show 0 ≤ a ∧ a ≤ 32000000000000
    omega
  | k + 1, i, a, h0, h1, h => hc_b hT hpr k (i + 1) _ (by omega) (by omega) (by
    have hn := hT.1
    have hk := pcT_b i
    have h2 := pow_b hpr (pcT i).toNat
    have h3 := pow_b (b := 10 - pr) (by omega) (T 0 6 - 1 - pcT i).toNat
    have h4 := ten_b (k := (pcT i).toNat) (by omega)
    have h5 := ten_b (k := (T 0 6 - 1 - pcT i).toNat) (by omega)
    have hb := mul_b (a := pr ^ (pcT i).toNat) (A := 1000000) (b := (10 - pr) ^ (T 0 6 - 1 - pcT i).toNat) (B := 1000000) (by omega) (by omega)
    unfold hcF
    split <;> omega)
theorem sf_in {M : xMem} {r i n : Int} (h : sfT M r i n = 0) : (¬ M (163 + 2 * r.toNat) 1 = 0) ∧ 0 ≤ n ∧ 0 ≤ i ∧ i ≤ M (163 + 2 * r.toNat) 3 - n := by
  unfold sfT at h
  split at h
  · omega
  · split at h
    · omega
    · omega
theorem pc_who {n w set : Int} (hn : 1 ≤ n ∧ n ≤ 5) (hw : 0 ≤ w ∧ w < n) (hs : 0 ≤ set ∧ set < 2 ^ n.toNat) (h : xand set (1 * 2 ^ w.toNat) = 0) : pcT set ≤ n - 1 := by
  have key : ∀ n : Nat, n < 6 → ∀ w : Nat, w < n → ∀ s : Nat, s < 2 ^ n → (s &&& 2 ^ w) = 0 → (s % 2 + s / 2 % 2 + s / 4 % 2 + s / 8 % 2 + s / 16 % 2 + s / 32 % 2) + 1 ≤ n := by decide +kernel
  have h2 : ((2 ^ n.toNat : Nat) : Int) = 2 ^ n.toNat := by rw [Int.natCast_pow]; rfl
  have h3 : ((2 ^ w.toNat : Nat) : Int) = 2 ^ w.toNat := by rw [Int.natCast_pow]; rfl
  have h4 : (1 * (2 : Int) ^ w.toNat).toNat = 2 ^ w.toNat := by rw [Int.one_mul, ← h3, Int.toNat_natCast]
  unfold xand at h
  rw [h4] at h
  have := key n.toNat (by omega) w.toNat (by omega) set.toNat (by omega) (by omega)
  unfold pcT
  omega
theorem thB_lo {M : xMem} {pu w : Int} {a b : Nat} (h1 : a ≠ 148) (h2 : a ≠ 147) : thB M pu w a b = M a b := by
  unfold thB
  rw [mS_ne (Or.inl h1), rng_ne h1, mS_ne (Or.inl h2)]
theorem thB_w {M : xMem} {pu w : Int} : thB M pu w 147 1 = w := by
  unfold thB
  rw [mS_ne (Or.inl (by decide)), rng_ne (by decide), mS_eq]
theorem thB_FI {M : xMem} {pu w : Int} (h : 0 ≤ pu ∧ pu ≤ 99) : FI (thB M pu w 148) := by
  intro j hj
  unfold thB
  by_cases h0 : j = 0
  · subst h0
    rw [mS_eq]
    exact Or.inr h
  · rw [mS_ne (Or.inr h0)]
    left
    exact if_pos ⟨rfl, by omega, by omega⟩
theorem thW_FI {M : xMem} {pr ra inc b : Int} (hF : FI (M 148)) (hp : 1 ≤ pr ∧ pr ≤ 9) (hr : 1 ≤ ra) (hi : 0 ≤ inc) (hw : 0 ≤ M 147 1 ∧ M 147 1 ≤ 60) : FI (thW M pr ra inc b 148) := by
  intro j hj
  unfold thW
  by_cases h : b < (j : Int) ∧ (j : Int) ≤ M 147 1
  · rw [if_pos ⟨rfl, h⟩]
    have hr2 := rst_b hF (price := pr) (ration := ra) (b := (j : Int)) hp (by omega) (by omega)
    unfold nvT
    split
    · exact Or.inl rfl
    · right
      omega
  · rw [if_neg (fun q => h q.2)]
    exact hF j hj
