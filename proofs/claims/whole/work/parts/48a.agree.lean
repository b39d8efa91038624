/-! ===== towns and stands that agree where it counts ===== -/
def TA (T U : xMem) : Prop := T 0 5 = U 0 5 ∧ T 0 6 = U 0 6 ∧ T 0 7 = U 0 7 ∧ (∀ i : Int, 0 ≤ i ∧ i < T 0 6 → T 1 i.toNat = U 1 i.toNat) ∧ (∀ s : Int, 0 ≤ s ∧ s < T 0 7 → T 2 s.toNat = U 2 s.toNat ∧ T 3 s.toNat = U 3 s.toNat ∧ T 4 s.toNat = U 4 s.toNat ∧ T 5 s.toNat = U 5 s.toNat)
def SA (T S R : xMem) : Prop := (S 0 4 = R 0 4 ∧ S 0 5 = R 0 5 ∧ S 0 6 = R 0 6 ∧ S 0 7 = R 0 7 ∧ S 0 8 = R 0 8) ∧ (∀ i : Int, 0 ≤ i ∧ i < T 0 6 → S 1 i.toNat = R 1 i.toNat ∧ S 2 i.toNat = R 2 i.toNat) ∧ (∀ s : Int, 0 ≤ s ∧ s < T 0 7 → S 3 s.toNat = R 3 s.toNat)
theorem TA.rf (T : xMem) : TA T T := ⟨rfl, rfl, rfl, fun _ _ => rfl, fun _ _ => ⟨rfl, rfl, rfl, rfl⟩⟩
theorem SA.rf (T S : xMem) : SA T S S := ⟨⟨rfl, rfl, rfl, rfl, rfl⟩, fun _ _ => ⟨rfl, rfl⟩, fun _ _ => rfl⟩
theorem SA.symm {T S R : xMem} (h : SA T S R) : SA T R S := ⟨⟨h.1.1.symm, h.1.2.1.symm, h.1.2.2.1.symm, h.1.2.2.2.1.symm, h.1.2.2.2.2.symm⟩, fun i hi => ⟨(h.2.1 i hi).1.symm, (h.2.1 i hi).2.symm⟩, fun s hs => (h.2.2 s hs).symm⟩
theorem SA.trans {T S R Q : xMem} (h : SA T S R) (k : SA T R Q) : SA T S Q := ⟨⟨h.1.1.trans k.1.1, h.1.2.1.trans k.1.2.1, h.1.2.2.1.trans k.1.2.2.1, h.1.2.2.2.1.trans k.1.2.2.2.1, h.1.2.2.2.2.trans k.1.2.2.2.2⟩, fun i hi => ⟨(h.2.1 i hi).1.trans (k.2.1 i hi).1, (h.2.1 i hi).2.trans (k.2.1 i hi).2⟩, fun s hs => (h.2.2 s hs).trans (k.2.2 s hs)⟩
theorem TA.TI {T U : xMem} (h : TA T U) (hT : TI T) : Jvm.Pilot.@@N@@.TI U := by
  obtain ⟨a1, a2, a3, a4, a5⟩ := h
  obtain ⟨b1, b2, b3, b4, b5⟩ := hT
  refine ⟨by rw [← a2]; exact b1, by rw [← a3]; exact b2, by rw [← a1]; exact b3, fun i hi => ?_, fun s hs => ?_⟩
  · rw [← a2] at hi
    rw [← a4 i hi]
    exact b4 i hi
  · rw [← a3] at hs
    obtain ⟨c1, c2, c3, c4⟩ := a5 s hs
    rw [← c1, ← c2, ← c3, ← c4, ← a2]
    exact b5 s hs
theorem SA.SI {T U S R : xMem} (ht : TA T U) (h : SA T S R) (hS : SI T S) : Jvm.Pilot.@@N@@.SI U R := by
  obtain ⟨⟨a1, a2, a3, a4, a5⟩, a6, a7⟩ := h
  obtain ⟨b1, b2, b3, b4, b5, b6, b7⟩ := hS
  refine ⟨by rw [← a1]; exact b1, by rw [← a2]; exact b2, by rw [← a3]; exact b3, by rw [← a4]; exact b4, by rw [← a5]; exact b5, fun i hi => ?_, fun s hs => ?_⟩
  · rw [← ht.2.1] at hi
    rw [← (a6 i hi).1, ← (a6 i hi).2]
    exact b6 i hi
  · rw [← ht.2.2.1] at hs
    rw [← a7 s hs]
    exact b7 s hs
section AG
variable {T U S R : xMem} (hT : TI T) (ht : TA T U) (hs : SA T S R)
theorem words_cg (ht : TA T U) {s : Int} (h : 0 ≤ s ∧ s < T 0 7) : wordsT U s = wordsT T s := by
  obtain ⟨c1, c2, c3, c4⟩ := ht.2.2.2.2 s h
  unfold wordsT
  rw [← c1, ← c3]
theorem wol_cg (hT : TI T) (ht : TA T U) (hs : SA T S R) {s : Int} (h : 0 ≤ s ∧ s < T 0 7) : wolT U R s = wolT T S s := by
  obtain ⟨c1, c2, c3, c4⟩ := ht.2.2.2.2 s h
  have hq := (hT.2.2.2.2 s h).2.1
  unfold wolT
  rw [words_cg ht h, ← c2, (hs.2.1 _ hq).2]
theorem crn_cg (hT : TI T) (ht : TA T U) (hs : SA T S R) {s : Int} (h : 0 ≤ s ∧ s < T 0 7) : crnT U R s = crnT T S s := by
  obtain ⟨c1, c2, c3, c4⟩ := ht.2.2.2.2 s h
  unfold crnT
  rw [wol_cg hT ht hs h, ← c1, ← c3, hs.1.2.2.2.1]
theorem can_cg (hT : TI T) (ht : TA T U) (hs : SA T S R) {s : Int} (h : 0 ≤ s ∧ s < T 0 7) : canT U R s ↔ canT T S s := by
  obtain ⟨c1, c2, c3, c4⟩ := ht.2.2.2.2 s h
  have hq := (hT.2.2.2.2 s h).2.1
  unfold canT
  rw [wol_cg hT ht hs h, crn_cg hT ht hs h, ← c2, (hs.2.1 _ hq).1, hs.1.2.1, hs.1.2.2.2.2]
theorem knw_cg (ht : TA T U) (hs : SA T S R) {s w : Int} (h : 0 ≤ s ∧ s < T 0 7) : knwT U R s w = knwT T S s w := by
  unfold knwT
  rw [← ht.2.1, ← (ht.2.2.2.2 s h).1, hs.2.2 s h]
theorem pur_cg (ht : TA T U) (hs : SA T S R) {p w : Int} (h : 0 ≤ p ∧ p < T 0 6) : purT U R p w = purT T S p w := by
  unfold purT
  rw [← ht.2.2.2.1 p h, (hs.2.1 p h).1]
theorem hill_cg (ht : TA T U) (hs : SA T S R) {w : Int} : hillT U R w = hillT T S w := by
  unfold hillT
  rw [← ht.1, hs.1.2.1, hs.1.2.2.1]
theorem pas_cg (ht : TA T U) (hs : SA T S R) {w : Int} : SA T (pasS T S w) (pasS U R w) := by
  refine ⟨⟨?_, ?_, ?_, ?_, ?_⟩, fun i hi => ⟨?_, ?_⟩, fun s h => ?_⟩
  · show S 0 4 + w = R 0 4 + w
    rw [hs.1.1]
  · show (if w = 0 then S 0 5 else T 0 5) = if w = 0 then R 0 5 else U 0 5
    rw [hs.1.2.1, ht.1]
  · show hillT T S w = hillT U R w
    exact (hill_cg ht hs).symm
  · exact hs.1.2.2.2.1
  · exact hs.1.2.2.2.2
  · show (if (i.toNat : Int) < T 0 6 then purT T S (i.toNat : Int) w else S 1 i.toNat) = if (i.toNat : Int) < U 0 6 then purT U R (i.toNat : Int) w else R 1 i.toNat
    rw [← ht.2.1, if_pos (by omega), if_pos (by omega), pur_cg ht hs (by omega)]
  · exact (hs.2.1 i hi).2
  · show (if (s.toNat : Int) < T 0 7 then knwT T S (s.toNat : Int) w else S 3 s.toNat) = if (s.toNat : Int) < U 0 7 then knwT U R (s.toNat : Int) w else R 3 s.toNat
    rw [← ht.2.2.1, if_pos (by omega), if_pos (by omega), knw_cg ht hs (by omega)]
theorem spk_cg (hT : TI T) (ht : TA T U) (hs : SA T S R) {s : Int} (h : 0 ≤ s ∧ s < T 0 7) : SA T (spkS T S s) (spkS U R s) := by
  obtain ⟨c1, c2, c3, c4⟩ := ht.2.2.2.2 s h
  have hq := (hT.2.2.2.2 s h).2.1
  refine ⟨⟨hs.1.1, ?_, hs.1.2.2.1, hs.1.2.2.2.1, ?_⟩, fun i hi => ⟨?_, ?_⟩, fun t htt => ?_⟩
  · show S 0 5 - wolT T S s = R 0 5 - wolT U R s
    rw [wol_cg hT ht hs h, hs.1.2.1]
  · show xor2 (S 0 8) _ = xor2 (R 0 8) _
    rw [hs.1.2.2.2.2]
  · show (if i.toNat = (T 3 s.toNat).toNat then S 1 (T 3 s.toNat).toNat - crnT T S s else S 1 i.toNat) = if i.toNat = (U 3 s.toNat).toNat then R 1 (U 3 s.toNat).toNat - crnT U R s else R 1 i.toNat
    rw [← c2, crn_cg hT ht hs h, (hs.2.1 _ hq).1, (hs.2.1 i hi).1]
  · show (if i.toNat = (T 3 s.toNat).toNat then S 2 (T 3 s.toNat).toNat - (wordsT T s - wolT T S s) else S 2 i.toNat) = if i.toNat = (U 3 s.toNat).toNat then R 2 (U 3 s.toNat).toNat - (wordsT U s - wolT U R s) else R 2 i.toNat
    rw [← c2, wol_cg hT ht hs h, words_cg ht h, (hs.2.1 _ hq).2, (hs.2.1 i hi).2]
  · show (if t.toNat = s.toNat then reachT (T 0 6) (T 2 s.toNat) (T 3 s.toNat) 0 else S 3 t.toNat) = if t.toNat = s.toNat then reachT (U 0 6) (U 2 s.toNat) (U 3 s.toNat) 0 else R 3 t.toNat
    rw [← ht.2.1, ← c1, ← c2, hs.2.2 t htt]
theorem underst_cg (hT : TI T) (ht : TA T U) (hs : SA T S R) {s : Int} (h : 0 ≤ s ∧ s < T 0 7) : understT U R s = understT T S s := by
  obtain ⟨c1, c2, c3, c4⟩ := ht.2.2.2.2 s h
  have hq := (hT.2.2.2.2 s h).2.2.2
  unfold understT
  rw [← c4, hs.2.2 s h, hs.2.2 (T 5 s.toNat) (by omega)]
theorem pass_cg (ht : TA T U) (hs : SA T S R) {s d w : Int} (h : 0 ≤ s ∧ s < T 0 7) : passT U R s d w = passT T S s d w := by
  obtain ⟨c1, c2, c3, c4⟩ := ht.2.2.2.2 s h
  unfold passT
  rw [← ht.2.1, ← c1, ← c2, hs.2.2 s h, hs.1.2.2.2.2]
theorem earn_cg (hT : TI T) (ht : TA T U) {s x : Int} (h : 0 ≤ s ∧ s < T 0 7) : earnT U s x = earnT T s x := by
  obtain ⟨c1, c2, c3, c4⟩ := ht.2.2.2.2 s h
  have hq := (hT.2.2.2.2 s h).2.1
  unfold earnT
  rw [← c2, ht.2.2.2.1 _ hq]
theorem wait_cg (hT : TI T) (ht : TA T U) (hs : SA T S R) {s : Int} (h : 0 ≤ s ∧ s < T 0 7) : waitT U R s = waitT T S s := by
  obtain ⟨c1, c2, c3, c4⟩ := ht.2.2.2.2 s h
  have hq := (hT.2.2.2.2 s h).2.1
  unfold waitT
  rw [wol_cg hT ht hs h, crn_cg hT ht hs h, ← c2, (hs.2.1 _ hq).1, earn_cg hT ht h, hs.1.2.1]
theorem till_cg (hT : TI T) (ht : TA T U) (hs : SA T S R) {s m : Int} (h : 0 ≤ s ∧ s < T 0 7) : tillT U R s m = tillT T S s m := by
  unfold tillT
  rw [wait_cg hT ht hs h, wol_cg hT ht hs h, crn_cg hT ht hs h, ← ht.1]
end AG
theorem SA_cp {T M : xMem} {k j : Nat} (hT : TI T) (h : j + 4 ≤ k ∨ k + 4 ≤ j) : SA T (sv (stCp M k j) k) (sv M j) := by
  have hn := hT.1
  have hN := hT.2.1
  exact ⟨⟨stCp_0 h (by decide), stCp_0 h (by decide), stCp_0 h (by decide), stCp_0 h (by decide), stCp_0 h (by decide)⟩, fun i hi => ⟨stCp_1 h (by omega), stCp_2 h (by omega)⟩, fun s hs => stCp_3 h (by omega)⟩
theorem foldI_cg {α : Type} {f g : Int → α → α} {n : Int} : ∀ (k : Nat) (i : Int) (a : α), 0 ≤ i → i + k ≤ n → (∀ x b, 0 ≤ x → x < n → f x b = g x b) → foldI f k i a = foldI g k i a
  | 0, _, _, _, _, _ => rfl
  | k + 1, i, a, h0, h1, h => by
    show foldI f k (i + 1) (f i a) = foldI g k (i + 1) (g i a)
    rw [h i a h0 (by omega)]
    exact foldI_cg k (i + 1) _ (by omega) (by omega) h
