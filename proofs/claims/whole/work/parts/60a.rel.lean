/-! ===== class and model side by side ===== -/
section RL
theorem knownTo_cg {T U S R : xMem} (hT : TI T) (ht : TA T U) (hs : SA T S R) {p : Int} : knownToT U R p = knownToT T S p := by
  have hN := hT.2.1
  unfold knownToT
  rw [← ht.2.2.1]
  exact foldI_cg (n := T 0 7) _ _ _ (by omega) (by omega) (fun x b h0 h1 => by rw [hs.2.2 x ⟨h0, h1⟩])
theorem undBy_cg {T U S R : xMem} (hT : TI T) (ht : TA T U) (hs : SA T S R) {set : Int} : undByT U R set = undByT T S set := by
  have hN := hT.2.1
  unfold undByT
  rw [← ht.2.2.1]
  exact foldI_cg (n := T 0 7) _ _ _ (by omega) (by omega) (fun x b h0 h1 => by rw [underst_cg hT ht hs ⟨h0, h1⟩])
theorem undAll_cg {T U S R : xMem} (hT : TI T) (ht : TA T U) (hs : SA T S R) {set : Int} : undAllT U R set = undAllT T S set := by
  have hN := hT.2.1
  unfold undAllT
  rw [← ht.2.2.1, ← ht.2.1]
  exact foldI_cg (n := T 0 7) _ _ _ (by omega) (by omega) (fun x b h0 h1 => by rw [underst_cg hT ht hs ⟨h0, h1⟩])
theorem claim_cg {T U S R : xMem} (hT : TI T) (ht : TA T U) (hs : SA T S R) {p : Int} (hp : 0 ≤ p ∧ p < T 0 6) : claimT U R p = claimT T S p := by
  have hN := hT.2.1
  have e : foldI (fun s a => if U 3 s.toNat = p ∧ ¬ bitI (R 0 8) s = 1 then a + wordsT U s else a) (T 0 7).toNat 0 0 = foldI (fun s a => if T 3 s.toNat = p ∧ ¬ bitI (S 0 8) s = 1 then a + wordsT T s else a) (T 0 7).toNat 0 0 :=
    foldI_cg (n := T 0 7) _ _ _ (by omega) (by omega) (fun x b h0 h1 => by rw [words_cg ht ⟨h0, h1⟩, ← (ht.2.2.2.2 x ⟨h0, h1⟩).2.1, ← hs.1.2.2.2.2])
  unfold claimT
  rw [← ht.2.2.1, e, ← (hs.2.1 p hp).2]
theorem cls_cg {T U S R : xMem} (hT : TI T) (ht : TA T U) (hs : SA T S R) : clsT U R = clsT T S := by
  have hn := hT.1
  unfold clsT
  rw [← ht.2.1]
  exact foldI_cg (n := T 0 6) _ _ _ (by omega) (by omega) (fun x b h0 h1 => by rw [claim_cg hT ht hs ⟨h0, h1⟩])
theorem szw_cg {T U : xMem} (ht : TA T U) {s : Int} (h : 0 ≤ s ∧ s < T 0 7) : szwT U s = szwT T s := by
  obtain ⟨c1, c2, c3, c4⟩ := ht.2.2.2.2 s h
  unfold szwT
  rw [← c1, ← c3]
theorem mrk_cg {T U S R : xMem} (ht : TA T U) (hs : SA T S R) {s : Int} (h : 0 ≤ s ∧ s < T 0 7) : mrkT U R s = mrkT T S s := by
  obtain ⟨c1, c2, c3, c4⟩ := ht.2.2.2.2 s h
  unfold mrkT
  rw [szw_cg ht h, ← c1, ← hs.1.2.2.2.1]
theorem siz_cg {T U S R : xMem} (ht : TA T U) (hs : SA T S R) {s : Int} (h : 0 ≤ s ∧ s < T 0 7) : sizT U R s = sizT T S s := by
  obtain ⟨c1, c2, c3, c4⟩ := ht.2.2.2.2 s h
  unfold sizT
  rw [mrk_cg ht hs h, szw_cg ht h, ← c1, ← c3]
theorem KI_ta {T U S R : xMem} (ht : TA T U) (hs : SA T S R) (hK : KI T S) : KI U R := fun s h => by
  rw [← ht.2.2.1] at h
  rw [← ht.2.1, ← hs.2.2 s h, ← hs.1.2.2.2.2]
  exact hK s h
theorem GI_ta {T U S R : xMem} {w : Int} (ht : TA T U) (hs : SA T S R) (g : GI T S w) : GI U R w := ⟨SA.SI ht hs g.1, KI_ta ht hs g.2.1, by rw [← hs.1.1, ← hs.1.2.2.2.2, ← ht.2.2.1]; exact g.2.2⟩
theorem SA_ta {T U S R : xMem} (ht : TA T U) (h : SA T S R) : SA U S R := ⟨h.1, fun i hi => h.2.1 i (by rw [ht.2.1]; exact hi), fun s hs => h.2.2 s (by rw [ht.2.2.1]; exact hs)⟩
/-! views of a town anywhere -/
def twk (M : xMem) (k : Nat) : xMem
  | 0, j => M k j
  | 1, j => M (k + 1) j
  | 2, j => M (k + 2) j
  | 3, j => M (k + 3) j
  | 4, j => M (k + 4) j
  | 5, j => M (k + 5) j
  | _, _ => 0
theorem tw_twk (M : xMem) : tw M = twk M 3 := by
  funext o j
  match o with
  | 0 => rfl
  | 1 => rfl
  | 2 => rfl
  | 3 => rfl
  | 4 => rfl
  | 5 => rfl
  | _ + 6 => rfl
theorem twk_eq {M N : xMem} {k : Nat} (h : ∀ a j, k ≤ a → a < k + 6 → N a j = M a j) : twk N k = twk M k := by
  funext o j
  match o with
  | 0 => exact h _ _ (by omega) (by omega)
  | 1 => exact h _ _ (by omega) (by omega)
  | 2 => exact h _ _ (by omega) (by omega)
  | 3 => exact h _ _ (by omega) (by omega)
  | 4 => exact h _ _ (by omega) (by omega)
  | 5 => exact h _ _ (by omega) (by omega)
  | _ + 6 => rfl
theorem tw_eq {M N : xMem} (h : ∀ a j, 3 ≤ a → a < 9 → N a j = M a j) : tw N = tw M := by
  rw [tw_twk, tw_twk]
  exact twk_eq h
theorem sv_eq {M N : xMem} {k : Nat} (h : ∀ a j, k ≤ a → a < k + 4 → N a j = M a j) : sv N k = sv M k := by
  funext o j
  match o with
  | 0 => exact h _ _ (by omega) (by omega)
  | 1 => exact h _ _ (by omega) (by omega)
  | 2 => exact h _ _ (by omega) (by omega)
  | 3 => exact h _ _ (by omega) (by omega)
  | _ + 4 => rfl
/-! the relation -/
def RlR (A B : xMem) : Prop := ∀ r : Nat, r < 8 → (A (163 + 2 * r) 1 = 0 ∨ A (163 + 2 * r) 1 = 1) ∧ (0 ≤ A (163 + 2 * r) 2 ∧ A (163 + 2 * r) 2 ≤ 2) ∧ (0 ≤ A (163 + 2 * r) 3 ∧ A (163 + 2 * r) 3 ≤ 40) ∧ (0 ≤ B 203 r ∧ B 203 r ≤ 2) ∧ (A (163 + 2 * r) 1 = 0 → B 202 r = -1) ∧
  (A (163 + 2 * r) 1 = 1 → B 202 r = A (163 + 2 * r) 3 ∧ B 203 r = A (163 + 2 * r) 2 ∧ ∀ x : Nat, (x : Int) < A (163 + 2 * r) 3 → B 204 (40 * r + x) = A (163 + 2 * r + 1) x)
def RlS (A B : xMem) : Prop := A 0 10 = B 201 3
def RlT (A B : xMem) : Prop := A 149 3 = B 201 4 ∧ (0 ≤ A 149 3 ∧ A 149 3 ≤ 120) ∧ A 149 4 = B 201 11 ∧ (∀ j : Nat, j < 120 → 0 ≤ A 150 j ∧ A 150 j ≤ 255) ∧ (∀ j : Nat, j < 120 → 0 ≤ B 205 j ∧ B 205 j ≤ 255) ∧ (∀ j : Nat, (j : Int) < A 149 3 → B 205 j = A 150 j) ∧ (A 157 4 = 0 ∧ A 157 6 = 0 ∧ A 157 8 = 0) ∧ (∀ i : Nat, i < 5 → A 159 i = 0) ∧ (∀ s : Nat, s < 6 → A 160 s = 0)
def RlD (A B : xMem) : Prop := (A 3 6 = 0 ∧ A 3 7 = 0 ∧ B 201 16 = 0 ∧ B 209 0 = 0 ∧ B 209 1 = 0 ∧ (A 9 4 = 0 ∧ A 9 5 = 0 ∧ A 9 6 = 0) ∧ (B 210 0 = 0 ∧ B 210 1 = 0 ∧ B 210 2 = 0)) ∨
  (B 201 16 = 1 ∧ TI (tw A) ∧ GI (tw A) (sv A 9) 999 ∧ TA (tw A) (tg (B 209)) ∧ SA (tw A) (sv A 9) (sk (B 210)) ∧ NN (B 209))
def RlP (A B : xMem) : Prop := (0 ≤ A 17 1 ∧ A 17 1 < 24) ∧ (0 ≤ A 17 2 ∧ A 17 2 ≤ 24) ∧ A 17 1 = B 201 21 ∧ A 17 2 = B 201 20 ∧ (A 3 6 = 0 → A 17 2 = 0) ∧
  ∀ d : Int, 1 ≤ d ∧ d ≤ A 17 2 → GI (tw A) (sv A (19 + 4 * ((A 17 1 - d) % 24).toNat)) 999 ∧ SA (tw A) (sv A (19 + 4 * ((A 17 1 - d) % 24).toNat)) (sk (fun j => B 212 (21 * ((A 17 1 - d) % 24) + j).toNat))
def RlI (A B : xMem) : Prop := ∀ k : Nat, k < 2 → (A (179 + 11 * k) 2 = 0 ∨ A (179 + 11 * k) 2 = 1) ∧ B 216 k = A (179 + 11 * k) 2 ∧ (A (179 + 11 * k) 2 = 1 → B 201 16 = 1 ∧ TI (twk A (180 + 11 * k)) ∧ GI (twk A (180 + 11 * k)) (sv A (186 + 11 * k)) 999 ∧ TA (twk A (180 + 11 * k)) (tg (fun j => B 217 (32 * k + j))) ∧ SA (twk A (180 + 11 * k)) (sv A (186 + 11 * k)) (sk (fun j => B 218 (21 * k + j))) ∧ NN (fun j => B 217 (32 * k + j)))
def RlA (A B : xMem) : Prop := A 161 3 = B 201 29 ∧ (0 ≤ A 161 3 ∧ A 161 3 ≤ 16) ∧ ∀ j : Nat, (j : Int) < A 161 3 → A 162 j = B 219 j
def Rl (A B : xMem) : Prop := RlR A B ∧ RlS A B ∧ RlT A B ∧ RlD A B ∧ RlP A B ∧ RlI A B ∧ RlA A B
theorem RlR.cg {A B A' B' : xMem} (h : RlR A B) (hA : ∀ a j, 163 ≤ a → a < 179 → A' a j = A a j) (hB : ∀ a j, 202 ≤ a → a < 205 → B' a j = B a j) : RlR A' B' := by
  intro r hr
  obtain ⟨h1, h2, h3, h4, h5, h6⟩ := h r hr
  have a1 := hA (163 + 2 * r) 1 (by omega) (by omega)
  have a2 := hA (163 + 2 * r) 2 (by omega) (by omega)
  have a3 := hA (163 + 2 * r) 3 (by omega) (by omega)
  have b2 := hB 202 r (by decide) (by decide)
  have b3 := hB 203 r (by decide) (by decide)
  rw [a1, a2, a3, b2, b3]
  exact ⟨h1, h2, h3, h4, h5, fun q => ⟨(h6 q).1, (h6 q).2.1, fun x hx => by rw [hB 204 _ (by decide) (by decide), hA _ x (by omega) (by omega)]; exact (h6 q).2.2 x hx⟩⟩
theorem RlT.cg {A B A' B' : xMem} (h : RlT A B) (hA : ∀ a j, 149 ≤ a → a < 161 → A' a j = A a j) (h4 : B' 201 4 = B 201 4) (h11 : B' 201 11 = B 201 11) (h5 : ∀ j, B' 205 j = B 205 j) : RlT A' B' := by
  obtain ⟨t1, t2, t3, t4, t5, t6, t7, t8, t9⟩ := h
  unfold RlT
  rw [hA 149 3 (by decide) (by decide), hA 149 4 (by decide) (by decide), hA 157 4 (by decide) (by decide), hA 157 6 (by decide) (by decide), hA 157 8 (by decide) (by decide), h4, h11]
  exact ⟨t1, t2, t3, fun j hj => by rw [hA 150 j (by decide) (by decide)]; exact t4 j hj, fun j hj => by rw [h5]; exact t5 j hj, fun j hj => by rw [h5, hA 150 j (by decide) (by decide)]; exact t6 j hj, t7, fun i hi => by rw [hA 159 i (by decide) (by decide)]; exact t8 i hi, fun i hi => by rw [hA 160 i (by decide) (by decide)]; exact t9 i hi⟩
theorem RlD.cg {A B A' B' : xMem} (h : RlD A B) (hA : ∀ a j, 3 ≤ a → a < 13 → A' a j = A a j) (h16 : B' 201 16 = B 201 16) (h9 : B' 209 = B 209) (h10 : B' 210 = B 210) : RlD A' B' := by
  have e1 : tw A' = tw A := tw_eq fun a j q1 q2 => hA a j q1 (by omega)
  have e2 : sv A' 9 = sv A 9 := sv_eq fun a j q1 q2 => hA a j (by omega) (by omega)
  unfold RlD
  rw [e1, e2, h16, h9, h10, hA 3 6 (by decide) (by decide), hA 3 7 (by decide) (by decide), hA 9 4 (by decide) (by decide), hA 9 5 (by decide) (by decide), hA 9 6 (by decide) (by decide)]
  exact h
theorem RlP.cg {A B A' B' : xMem} (h : RlP A B) (hA : ∀ a j, 3 ≤ a → a < 9 → A' a j = A a j) (hA2 : ∀ a j, 17 ≤ a → a < 115 → A' a j = A a j) (h20 : B' 201 20 = B 201 20) (h21 : B' 201 21 = B 201 21) (h12 : B' 212 = B 212) : RlP A' B' := by
  have e1 : tw A' = tw A := tw_eq fun a j q1 q2 => hA a j q1 q2
  obtain ⟨p1, p2, p3, p4, p5, p6⟩ := h
  unfold RlP
  rw [e1, h20, h21, h12, hA2 17 1 (by decide) (by decide), hA2 17 2 (by decide) (by decide), hA 3 6 (by decide) (by decide)]
  exact ⟨p1, p2, p3, p4, p5, fun d hd => by
    rw [sv_eq (M := A) (N := A') (k := 19 + 4 * ((A 17 1 - d) % 24).toNat) fun a j q1 q2 => hA2 a j (by omega) (by omega)]
    exact p6 d hd⟩
theorem RlI.cg {A B A' B' : xMem} (h : RlI A B) (hA : ∀ a j, 179 ≤ a → a < 201 → A' a j = A a j) (hB : ∀ a, 216 ≤ a → a < 219 → B' a = B a) (h16 : B 201 16 = 1 → B' 201 16 = 1) : RlI A' B' := by
  intro k hk
  obtain ⟨h1, h2, h3⟩ := h k hk
  rw [hA (179 + 11 * k) 2 (by omega) (by omega), hB 216 (by decide) (by decide), hB 217 (by decide) (by decide), hB 218 (by decide) (by decide), twk_eq (M := A) (N := A') (k := 180 + 11 * k) fun a j q1 q2 => hA a j (by omega) (by omega), sv_eq (M := A) (N := A') (k := 186 + 11 * k) fun a j q1 q2 => hA a j (by omega) (by omega)]
  exact ⟨h1, h2, fun z => ⟨h16 (h3 z).1, (h3 z).2⟩⟩
theorem RlA.cg {A B A' B' : xMem} (h : RlA A B) (hA : ∀ a j, 161 ≤ a → a < 163 → A' a j = A a j) (h29 : B' 201 29 = B 201 29) (h19 : B' 219 = B 219) : RlA A' B' := by
  unfold RlA
  rw [hA 161 3 (by decide) (by decide), h29, h19]
  exact ⟨h.1, h.2.1, fun j hj => by rw [hA 162 j (by decide) (by decide)]; exact h.2.2 j hj⟩
/-- what a call may write without touching what counts -/
def scA (a : Nat) : Prop := (13 ≤ a ∧ a < 17) ∨ (115 ≤ a ∧ a < 149)
def scB (a : Nat) : Prop := a = 211 ∨ a = 213 ∨ a = 214 ∨ a = 215
theorem Rl.cg {A B A' B' : xMem} (h : Rl A B) (hA : ∀ a j, a < 201 → ¬ scA a → A' a j = A a j) (hB : ∀ a, 201 ≤ a → ¬ scB a → B' a = B a) : Rl A' B' := by
  obtain ⟨h1, h2, h3, h4, h5, h6, h7⟩ := h
  have k1 := hB 201 (by decide) (by unfold scB; decide)
  refine ⟨h1.cg (fun a j q1 q2 => hA a j (by omega) (by unfold scA; omega)) (fun a j q1 q2 => by rw [hB a (by omega) (by unfold scB; omega)]), ?_, h3.cg (fun a j q1 q2 => hA a j (by omega) (by unfold scA; omega)) (by rw [k1]) (by rw [k1]) (fun j => by rw [hB 205 (by decide) (by unfold scB; decide)]),
    h4.cg (fun a j q1 q2 => hA a j (by omega) (by unfold scA; omega)) (by rw [k1]) (hB 209 (by decide) (by unfold scB; decide)) (hB 210 (by decide) (by unfold scB; decide)),
    h5.cg (fun a j q1 q2 => hA a j (by omega) (by unfold scA; omega)) (fun a j q1 q2 => hA a j (by omega) (by unfold scA; omega)) (by rw [k1]) (by rw [k1]) (hB 212 (by decide) (by unfold scB; decide)),
    h6.cg (fun a j q1 q2 => hA a j (by omega) (by unfold scA; omega)) (fun a q1 q2 => hB a (by omega) (by unfold scB; omega)) (fun z => by rw [k1]; exact z),
    h7.cg (fun a j q1 q2 => hA a j (by omega) (by unfold scA; omega)) (by rw [k1]) (hB 219 (by decide) (by unfold scB; decide))⟩
  unfold RlS
  rw [hA 0 10 (by decide) (by unfold scA; omega), k1]
  exact h2
theorem Rl.full {A B A' B' : xMem} (h : Rl A B) (hA : ∀ a j, a < 201 → A' a j = A a j) (hB : ∀ a j, 201 ≤ a → B' a j = B a j) : Rl A' B' :=
  h.cg (fun a j q _ => hA a j q) (fun a q _ => funext fun j => hB a j q)
/-- the row's finding -/
theorem Rl.st {A B : xMem} (h : Rl A B) (f : Int) : Rl (mS A 0 10 f) (mS B 201 3 f) := by
  obtain ⟨h1, h2, h3, h4, h5, h6, h7⟩ := h
  have hr : ∀ a, 202 ≤ a → mS B 201 3 f a = B a := fun a q => mS_row (by omega)
  have hx : ∀ a j, 1 ≤ a → mS A 0 10 f a j = A a j := fun a j q => mS_ne (Or.inl (by omega))
  exact ⟨h1.cg (fun a j q1 q2 => hx a j (by omega)) (fun a j q1 q2 => by rw [hr a (by omega)]), by unfold RlS; rw [mS_eq, mS_eq],
    h3.cg (fun a j q1 q2 => hx a j (by omega)) (mS_ne (Or.inr (by decide))) (mS_ne (Or.inr (by decide))) (fun j => by rw [hr 205 (by decide)]),
    h4.cg (fun a j q1 q2 => hx a j (by omega)) (mS_ne (Or.inr (by decide))) (hr 209 (by decide)) (hr 210 (by decide)),
    h5.cg (fun a j q1 q2 => hx a j (by omega)) (fun a j q1 q2 => hx a j (by omega)) (mS_ne (Or.inr (by decide))) (mS_ne (Or.inr (by decide))) (hr 212 (by decide)),
    h6.cg (fun a j q1 q2 => hx a j (by omega)) (fun a q1 q2 => hr a (by omega)) (fun z => (mS_ne (Or.inr (by decide))).trans z),
    h7.cg (fun a j q1 q2 => hx a j (by omega)) (mS_ne (Or.inr (by decide))) (hr 219 (by decide))⟩
theorem Rl.rws {A B A' B' : xMem} (h : Rl A B) (hA : ∀ a j, a < 163 ∨ 179 ≤ a → A' a j = A a j) (hB : ∀ a, a < 202 ∨ 205 ≤ a → B' a = B a) (hr : RlR A' B') : Rl A' B' := by
  obtain ⟨h1, h2, h3, h4, h5, h6, h7⟩ := h
  have k1 := hB 201 (by decide)
  exact ⟨hr, by unfold RlS; rw [hA 0 10 (by decide), k1]; exact h2,
    h3.cg (fun a j q1 q2 => hA a j (by omega)) (by rw [k1]) (by rw [k1]) (fun j => by rw [hB 205 (by decide)]),
    h4.cg (fun a j q1 q2 => hA a j (by omega)) (by rw [k1]) (hB 209 (by decide)) (hB 210 (by decide)),
    h5.cg (fun a j q1 q2 => hA a j (by omega)) (fun a j q1 q2 => hA a j (by omega)) (by rw [k1]) (by rw [k1]) (hB 212 (by decide)),
    h6.cg (fun a j q1 q2 => hA a j (by omega)) (fun a q1 q2 => hB a (by omega)) (fun z => by rw [k1]; exact z),
    h7.cg (fun a j q1 q2 => hA a j (by omega)) (by rw [k1]) (hB 219 (by decide))⟩
/-- what acts change: the stand, what was done -/
theorem Rl.act {A B A' B' : xMem} (h : Rl A B) (hA : ∀ a j, a < 3 ∨ 149 ≤ a → A' a j = A a j) (hB : ∀ a, 201 < a → a ≠ 209 → a ≠ 210 → a ≠ 212 → a ≠ 211 → B' a = B a) (hB1 : ∀ j, j ≠ 16 → j ≠ 20 → j ≠ 21 → B' 201 j = B 201 j) (h16 : B 201 16 = 1 → B' 201 16 = 1) (hd : RlD A' B') (hp : RlP A' B') : Rl A' B' := by
  obtain ⟨h1, h2, h3, h4, h5, h6, h7⟩ := h
  exact ⟨h1.cg (fun a j q1 q2 => hA a j (by omega)) (fun a j q1 q2 => by rw [hB a (by omega) (by omega) (by omega) (by omega) (by omega)]), by unfold RlS; rw [hA 0 10 (by decide), hB1 3 (by decide) (by decide) (by decide)]; exact h2,
    h3.cg (fun a j q1 q2 => hA a j (by omega)) (hB1 4 (by decide) (by decide) (by decide)) (hB1 11 (by decide) (by decide) (by decide)) (fun j => by rw [hB 205 (by decide) (by decide) (by decide) (by decide) (by decide)]),
    hd, hp,
    h6.cg (fun a j q1 q2 => hA a j (by omega)) (fun a q1 q2 => hB a (by omega) (by omega) (by omega) (by omega) (by omega)) h16,
    h7.cg (fun a j q1 q2 => hA a j (by omega)) (hB1 29 (by decide) (by decide) (by decide)) (hB 219 (by decide) (by decide) (by decide) (by decide) (by decide))⟩
/-! what the contracts want -/
theorem Rl.hD {A B : xMem} (h : Rl A B) : (A 3 6 = 0 ∧ A 3 7 = 0) ∨ (TI (tw A) ∧ SI (tw A) (sv A 9)) := by
  rcases h.2.2.2.1 with q | q
  · exact Or.inl ⟨q.1, q.2.1⟩
  · exact Or.inr ⟨q.2.1, q.2.2.1.1⟩
theorem Rl.MD {A B : xMem} (h : Rl A B) : Jvm.Pilot.@@N@@.MD B := by
  rcases h.2.2.2.1 with q | q
  · exact Or.inl ⟨q.2.2.1, q.2.2.2.1, q.2.2.2.2.1⟩
  · exact Or.inr ⟨q.1, q.2.2.2.1.TI q.2.1, GI_ta q.2.2.2.1 q.2.2.2.2.1 q.2.2.1, q.2.2.2.2.2⟩
theorem Rl.w9 {A B : xMem} (h : Rl A B) : A 9 4 ≤ 999 := by
  rcases h.2.2.2.1 with q | q
  · have := q.2.2.2.2.2.1.1
    omega
  · exact q.2.2.1.2.2.1
theorem Rl.hrx {A B : xMem} (h : Rl A B) : ∀ i : Nat, i < 8 → (A (163 + 2 * i) 1 = 0 ∨ A (163 + 2 * i) 1 = 1) ∧ (0 ≤ A (163 + 2 * i) 2 ∧ A (163 + 2 * i) 2 ≤ 2) ∧ (0 ≤ A (163 + 2 * i) 3 ∧ A (163 + 2 * i) 3 ≤ 40) := fun i hi => ⟨(h.1 i hi).1, (h.1 i hi).2.1, (h.1 i hi).2.2.1⟩
theorem Rl.hry {A B : xMem} (h : Rl A B) : ∀ i : Nat, i < 8 → (-1 ≤ B 202 i ∧ B 202 i ≤ 40) ∧ (0 ≤ B 203 i ∧ B 203 i ≤ 2) := fun i hi => by
  obtain ⟨h1, h2, h3, h4, h5, h6⟩ := h.1 i hi
  refine ⟨?_, h4⟩
  rcases h1 with q | q
  · rw [h5 q]; decide
  · rw [(h6 q).1]; omega
theorem Rl.himg {A B : xMem} (h : Rl A B) : ∀ i : Nat, i < 2 → A (179 + 11 * i) 2 = 0 ∨ A (179 + 11 * i) 2 = 1 := fun i hi => (h.2.2.2.2.2.1 i hi).1
theorem Rl.hki {A B : xMem} (h : Rl A B) : ∀ i : Nat, i < 2 → B 216 i = 0 ∨ B 216 i = 1 := fun i hi => by
  rw [(h.2.2.2.2.2.1 i hi).2.1]
  exact (h.2.2.2.2.2.1 i hi).1
/-- with a duchy or without -/
theorem Rl.cases {A B : xMem} (h : Rl A B) : (A 3 6 = 0 ∧ A 3 7 = 0 ∧ B 201 16 = 0 ∧ B 209 0 = 0 ∧ B 209 1 = 0) ∨ (B 201 16 = 1 ∧ TI (tw A) ∧ GI (tw A) (sv A 9) 999 ∧ TA (tw A) (tg (B 209)) ∧ SA (tw A) (sv A 9) (sk (B 210)) ∧ NN (B 209) ∧ (A 3 6 = B 209 0 ∧ A 3 7 = B 209 1 ∧ A 3 5 = B 209 2) ∧ (1 ≤ A 3 6 ∧ A 3 6 ≤ 5) ∧ (1 ≤ A 3 7 ∧ A 3 7 ≤ 6)) := by
  rcases h.2.2.2.1 with q | q
  · exact Or.inl ⟨q.1, q.2.1, q.2.2.1, q.2.2.2.1, q.2.2.2.2.1⟩
  · exact Or.inr ⟨q.1, q.2.1, q.2.2.1, q.2.2.2.1, q.2.2.2.2.1, q.2.2.2.2.2, ⟨q.2.2.2.1.2.1, q.2.2.2.1.2.2.1, q.2.2.2.1.1⟩, q.2.1.1, q.2.1.2.1⟩
end RL
