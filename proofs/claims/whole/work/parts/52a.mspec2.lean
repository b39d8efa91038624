/-! ===== acts of the model are acts of the class ===== -/
theorem rng_in {M : xMem} {c j : Nat} {off n : Int} {v : Nat → Int} (h : off ≤ (j : Int) ∧ (j : Int) < off + n) : rngM M c off v n c j = v (j - off.toNat) := if_pos ⟨rfl, h⟩
theorem rng_out {M : xMem} {c j : Nat} {off n : Int} {v : Nat → Int} (h : ¬ (off ≤ (j : Int) ∧ (j : Int) < off + n)) : rngM M c off v n c j = M c j := if_neg (fun q => h q.2)
theorem KI_SA {T S R : xMem} (h : SA T S R) (k : KI T R) : KI T S := fun s hs => by
  rw [h.2.2 s hs, h.1.2.2.2.2]
  exact k s hs
theorem hop_0 {n d : Int} : hopT n 0 d = 0 := by
  have hw : wbT n 0 = 0 := by
    unfold wbT xand xor2
    simp
  unfold hopT
  rw [hw]
  unfold xor2 xbnd
  simp
theorem hops_0 {n d : Int} : ∀ k : Nat, hopsT n d k 0 = 0
  | 0 => rfl
  | k + 1 => by
    show hopsT n d k (hopT n 0 d) = 0
    rw [hop_0]
    exact hops_0 k
theorem bit_or {a s t : Int} (ha : 0 ≤ a ∧ a ≤ 63) (hs : 0 ≤ s ∧ s ≤ 5) (ht : 0 ≤ t ∧ t ≤ 5) : bitI (xor2 a (1 * 2 ^ s.toNat)) t = if t = s then 1 else bitI a t := by
  have key : ∀ a : Nat, a < 64 → ∀ s : Nat, s < 6 → ∀ t : Nat, t < 6 → bitI (xor2 (a : Int) (1 * 2 ^ s)) (t : Int) = if (t : Int) = (s : Int) then 1 else bitI (a : Int) (t : Int) := by decide +kernel
  have := key a.toNat (by omega) s.toNat (by omega) t.toNat (by omega)
  rw [show ((a.toNat : Nat) : Int) = a by omega, show ((s.toNat : Nat) : Int) = s by omega, show ((t.toNat : Nat) : Int) = t by omega] at this
  exact this
theorem KI_pas {T S : xMem} (hT : TI T) (hS : SI T S) (hK : KI T S) {w : Int} : KI T (pasS T S w) := fun s hs => by
  have hn := hT.1
  have hN := hT.2.1
  have e : pasS T S w 3 s.toNat = knwT T S s w := by
    show (if (s.toNat : Int) < T 0 7 then knwT T S (s.toNat : Int) w else S 3 s.toNat) = _
    rw [if_pos (by omega), show ((s.toNat : Nat) : Int) = s by omega]
  rw [e]
  have hk := hK s hs
  have hs7 := hS.2.2.2.2.2.2 s hs
  refine ⟨(onw_n (by omega) ⟨hs7.1, hk.1⟩).2, fun hb => ?_⟩
  have h0 := hk.2 hb
  unfold knwT onwT
  rw [h0]
  exact hops_0 _
theorem KI_spk {T S : xMem} (hT : TI T) (hS : SI T S) (hK : KI T S) {s : Int} (hs : 0 ≤ s ∧ s < T 0 7) : KI T (spkS T S s) := fun t ht => by
  have hn := hT.1
  have hN := hT.2.1
  have hq := (hT.2.2.2.2 s hs).2.1
  have hsd := hS.2.2.2.2.1
  have hk := hK t ht
  have e3 : spkS T S s 3 t.toNat = if t.toNat = s.toNat then reachT (T 0 6) (T 2 s.toNat) (T 3 s.toNat) 0 else S 3 t.toNat := rfl
  have e8 : spkS T S s 0 8 = xor2 (S 0 8) (1 * 2 ^ s.toNat) := rfl
  rw [e3, e8, bit_or hsd (by omega) (by omega)]
  by_cases h : t = s
  · subst h
    rw [if_pos rfl, if_pos rfl]
    exact ⟨(reach_n (by omega) hq).2, fun q => absurd rfl q⟩
  · rw [if_neg (by omega), if_neg h]
    exact hk
theorem sa_lo {M : xMem} {k : Nat} {s : Int} {a : Nat} (h : a ≠ k) : saM M k s a = M a := by
  unfold saM
  rw [mS_row h, mS_row h, mS_row h, mS_row h, mS_row h]
theorem ps_lo {M : xMem} {k a : Nat} (h : a ≠ k) : psM M k a = M a := by
  unfold psM
  rw [mS_row h]
  funext j
  rw [rng_ne h, mS_row h, mS_row h, rng_ne h]
theorem sa_SA {M : xMem} {k : Nat} {s : Int} (hT : TI (tg (M 209))) (hs : 0 ≤ s ∧ s < M 209 1) : SA (tg (M 209)) (sk (saM M k s k)) (spkS (tg (M 209)) (sk (M k)) s) := by
  have hn : 1 ≤ M 209 0 ∧ M 209 0 ≤ 5 := hT.1
  have hN : 1 ≤ M 209 1 ∧ M 209 1 ≤ 6 := hT.2.1
  have hq : 0 ≤ tg (M 209) 3 s.toNat ∧ tg (M 209) 3 s.toNat < M 209 0 := (hT.2.2.2.2 s hs).2.1
  refine ⟨⟨?_, ?_, ?_, ?_, ?_⟩, fun i hi => ⟨?_, ?_⟩, fun t ht => ?_⟩
  · show saM M k s k 0 = M k 0
    unfold saM
    simp (disch := omega) only [mS_ne]
  · show saM M k s k 1 = M k 1 - wolT (tg (M 209)) (sk (M k)) s
    unfold saM
    simp (disch := omega) only [mS_ne, mS_eq]
  · show saM M k s k 2 = M k 2
    unfold saM
    simp (disch := omega) only [mS_ne]
  · show saM M k s k 3 = M k 3
    unfold saM
    simp (disch := omega) only [mS_ne]
  · show saM M k s k 4 = xor2 (M k 4) (1 * 2 ^ s.toNat)
    unfold saM
    simp (disch := omega) only [mS_ne, mS_eq]
  · have hi' : 0 ≤ i ∧ i < M 209 0 := hi
    show saM M k s k (5 + i.toNat) = if i.toNat = (tg (M 209) 3 s.toNat).toNat then sk (M k) 1 (tg (M 209) 3 s.toNat).toNat - crnT (tg (M 209)) (sk (M k)) s else M k (5 + i.toNat)
    unfold saM
    by_cases h : i.toNat = (tg (M 209) 3 s.toNat).toNat
    · rw [if_pos h, show 5 + i.toNat = (5 + tg (M 209) 3 s.toNat).toNat by omega]
      simp (disch := omega) only [mS_ne, mS_eq]
    · rw [if_neg h]
      simp (disch := omega) only [mS_ne]
  · have hi' : 0 ≤ i ∧ i < M 209 0 := hi
    show saM M k s k (10 + i.toNat) = if i.toNat = (tg (M 209) 3 s.toNat).toNat then sk (M k) 2 (tg (M 209) 3 s.toNat).toNat - (wordsT (tg (M 209)) s - wolT (tg (M 209)) (sk (M k)) s) else M k (10 + i.toNat)
    unfold saM
    by_cases h : i.toNat = (tg (M 209) 3 s.toNat).toNat
    · rw [if_pos h, show 10 + i.toNat = (10 + tg (M 209) 3 s.toNat).toNat by omega]
      simp (disch := omega) only [mS_ne, mS_eq]
    · rw [if_neg h]
      simp (disch := omega) only [mS_ne]
  · have ht' : 0 ≤ t ∧ t < M 209 1 := ht
    show saM M k s k (15 + t.toNat) = if t.toNat = s.toNat then reachT (M 209 0) (tg (M 209) 2 s.toNat) (tg (M 209) 3 s.toNat) 0 else M k (15 + t.toNat)
    unfold saM
    by_cases h : t.toNat = s.toNat
    · rw [if_pos h, show 15 + t.toNat = (15 + s).toNat by omega, mS_eq]
    · rw [if_neg h]
      simp (disch := omega) only [mS_ne]
theorem ps_SA {M : xMem} {k : Nat} (hT : TI (tg (M 209))) (hK : KI (tg (M 209)) (sk (M k))) : SA (tg (M 209)) (sk (psM M k k)) (pasS (tg (M 209)) (sk (M k)) 1) := by
  have hn : 1 ≤ M 209 0 ∧ M 209 0 ≤ 5 := hT.1
  have hN : 1 ≤ M 209 1 ∧ M 209 1 ≤ 6 := hT.2.1
  refine ⟨⟨?_, ?_, ?_, ?_, ?_⟩, fun i hi => ⟨?_, ?_⟩, fun t ht => ?_⟩
  · show psM M k k 0 = M k 0 + 1
    unfold psM
    rw [mS_eq]
  · show psM M k k 1 = M 209 2
    unfold psM
    rw [mS_ne (Or.inr (by decide)), rng_out (by omega), mS_eq]
  · show psM M k k 2 = hillT (tg (M 209)) (sk (M k)) 1
    unfold psM
    rw [mS_ne (Or.inr (by decide)), rng_out (by omega), mS_ne (Or.inr (by decide)), mS_eq]
    unfold hillT
    rw [if_neg (by decide)]
    show min 999 (M k 2 + M k 1) = min 999 (M k 2 + M k 1 + (1 - 1) * M 209 2)
    rw [show ((1 : Int) - 1) = 0 by decide, Int.zero_mul, Int.add_zero]
  · show psM M k k 3 = M k 3
    unfold psM
    rw [mS_ne (Or.inr (by decide)), rng_out (by omega), mS_ne (Or.inr (by decide)), mS_ne (Or.inr (by decide)), rng_out (by omega)]
  · show psM M k k 4 = M k 4
    unfold psM
    rw [mS_ne (Or.inr (by decide)), rng_out (by omega), mS_ne (Or.inr (by decide)), mS_ne (Or.inr (by decide)), rng_out (by omega)]
  · have hi' : 0 ≤ i ∧ i < M 209 0 := hi
    show psM M k k (5 + i.toNat) = if (i.toNat : Int) < M 209 0 then purT (tg (M 209)) (sk (M k)) (i.toNat : Int) 1 else M k (5 + i.toNat)
    rw [if_pos (by omega)]
    unfold psM
    rw [mS_ne (Or.inr (by omega)), rng_in (by omega), show 5 + i.toNat - (5 : Int).toNat = i.toNat by omega]
    unfold pv2 purT
    rw [show ((i.toNat : Nat) : Int).toNat = i.toNat by omega, Int.one_mul]
    rfl
  · have hi' : 0 ≤ i ∧ i < M 209 0 := hi
    show psM M k k (10 + i.toNat) = M k (10 + i.toNat)
    unfold psM
    rw [mS_ne (Or.inr (by omega)), rng_out (by omega), mS_ne (Or.inr (by omega)), mS_ne (Or.inr (by omega)), rng_out (by omega)]
  · have ht' : 0 ≤ t ∧ t < M 209 1 := ht
    show psM M k k (15 + t.toNat) = if (t.toNat : Int) < M 209 1 then knwT (tg (M 209)) (sk (M k)) (t.toNat : Int) 1 else M k (15 + t.toNat)
    rw [if_pos (by omega)]
    unfold psM
    rw [mS_ne (Or.inr (by omega)), rng_out (by omega), mS_ne (Or.inr (by omega)), mS_ne (Or.inr (by omega)), rng_in (by omega), show 15 + t.toNat - (15 : Int).toNat = t.toNat by omega]
    unfold pv1 knwT
    rw [show ((t.toNat : Nat) : Int).toNat = t.toNat by omega, show ((t.toNat : Nat) : Int) = t by omega]
    by_cases hb : bitI (M k 4) t = 1
    · rw [if_pos hb]
      rfl
    · rw [if_neg hb]
      have h0 : M k (15 + t.toNat) = 0 := (hK t ht).2 hb
      show M k (15 + t.toNat) = onwT _ _ (M k (15 + t.toNat)) _ _
      rw [h0]
      exact (hops_0 _).symm
/-- a stand that is good, with its week -/
def GI (T S : xMem) (w : Int) : Prop := SI T S ∧ KI T S ∧ (S 0 4 ≤ w ∧ S 0 8 < 2 ^ (T 0 7).toNat)
theorem GI_SA {T S R : xMem} {w : Int} (h : SA T S R) (g : GI T R w) : GI T S w := ⟨SA.SI (TA.rf T) h.symm g.1, KI_SA h g.2.1, by rw [h.1.1, h.1.2.2.2.2]; exact g.2.2⟩
theorem GI_pas {T S : xMem} {w : Int} (hT : TI T) (hw : w ≤ 90000) (g : GI T S w) : GI T (pasS T S 1) (w + 1) := ⟨SI_pas hT g.1 (by decide) (by have := g.2.2; omega), KI_pas hT g.1 g.2.1, by show S 0 4 + 1 ≤ w + 1; have := g.2.2.1; omega, g.2.2.2⟩
theorem GI_spk {T S : xMem} {w s : Int} (hT : TI T) (g : GI T S w) (hs : 0 ≤ s ∧ s < T 0 7) (hc : canT T S s) : GI T (spkS T S s) w := ⟨SI_spk hT g.1 hs hc, KI_spk hT g.1 g.2.1 hs, g.2.2.1, by
  have hm : (2 : Int) ^ (s + 1).toNat ≤ 2 ^ (T 0 7).toNat := p2_mono (by omega)
  have h4 := p2_5 (n := s) (by have := hT.2.1; omega)
  rw [show (s + 1).toNat = s.toNat + 1 by omega, Int.pow_succ] at hm
  exact (or_n ⟨g.1.2.2.2.2.1.1, g.2.2.2⟩ (by omega)).2⟩
theorem ps_GI {M : xMem} {k : Nat} {w : Int} (hT : TI (tg (M 209))) (hw : w ≤ 90000) (g : GI (tg (M 209)) (sk (M k)) w) : GI (tg (M 209)) (sk (psM M k k)) (w + 1) := GI_SA (ps_SA hT g.2.1) (GI_pas hT hw g)
theorem sa_GI {M : xMem} {k : Nat} {w s : Int} (hT : TI (tg (M 209))) (g : GI (tg (M 209)) (sk (M k)) w) (hs : 0 ≤ s ∧ s < M 209 1) (hc : canT (tg (M 209)) (sk (M k)) s) : GI (tg (M 209)) (sk (saM M k s k)) w := GI_SA (sa_SA hT hs) (GI_spk hT g hs hc)
