/-! ===== the model's searches ===== -/
def saL (set : Int) : Nat → Int → Int → xMem → Int × xMem
  | 0, _, a, M => (a, M)
  | k + 1, s, a, M => if bitI set s = 1 then (if canT (tg (M 209)) (sk (M 211)) s then saL set k (s + 1) (a + wolT (tg (M 209)) (sk (M 211)) s) (saM M 211 s) else (-1, M)) else saL set k (s + 1) a M
def saT (M : xMem) (set : Int) : Int × xMem := saL set (M 209 1).toNat 0 0 (cnM M)
def myF (set : Int) (q : Int × Int × xMem) : Int × Int × xMem := if 0 ≤ (saT q.2.2 set).1 ∧ (pcT q.1 < pcT set ∨ (pcT set = pcT q.1 ∧ (saT q.2.2 set).1 < q.2.1)) then (set, (saT q.2.2 set).1, (saT q.2.2 set).2) else (q.1, q.2.1, (saT q.2.2 set).2)
def myT (M : xMem) : Int × Int × xMem := foldI myF (2 ^ (M 209 1).toNat - 1 : Int).toNat 1 (0, 0, M)
def yMost (M : xMem) (w : Int) : Int × xMem := if M 201 16 = 0 then (-1000002, M) else if ¬ (0 ≤ w ∧ w ≤ 2) then (-1000001, M) else
  (if w = 0 then (myT M).1 else if w = 1 then (myT M).2.1 else pcT (undAllT (tg (M 209)) (sk ((saT (myT M).2.2 (myT M).1).2 211)) (myT M).1), (saT (myT M).2.2 (myT M).1).2)
/-- what a walk through speeches leaves alone, and how good it stays -/
theorem saL_ok {T : xMem} (hT : TI T) {set w : Int} : ∀ (k : Nat) (s a : Int) (M : xMem), tg (M 209) = T → GI T (sk (M 211)) w → 0 ≤ s → s + k = T 0 7 → (0 ≤ a ∧ a ≤ 100 * s) →
    ((saL set k s a M).1 = -1 ∨ (0 ≤ (saL set k s a M).1 ∧ (saL set k s a M).1 ≤ 600)) ∧ GI T (sk ((saL set k s a M).2 211)) w ∧ ∀ b, b ≠ 211 → (saL set k s a M).2 b = M b
  | 0, s, a, M, htg, hG, h0, h1, ha => by
    have hN := hT.2.1
    refine ⟨Or.inr ?_, hG, fun _ _ => rfl⟩
    show 0 ≤ a ∧ a ≤ 600
    omega
  | k + 1, s, a, M, htg, hG, h0, h1, ha => by
    have hs : 0 ≤ s ∧ s < T 0 7 := by omega
    unfold saL
    split
    · split
      · rename_i hb hc
        rw [htg] at hc
        have hw := wol_b hT hG.1 hs
        have hwd := words_b hT hs
        have hg' : GI T (sk (saM M 211 s 211)) w := by
          have hs' : 0 ≤ s ∧ s < M 209 1 := by rw [← htg] at hs; exact hs
          have := sa_GI (M := M) (k := 211) (w := w) (s := s) (by rw [htg]; exact hT) (by rw [htg]; exact hG) hs' (by rw [htg]; exact hc)
          rw [htg] at this
          exact this
        obtain ⟨q1, q2, q3⟩ := saL_ok hT (set := set) k (s + 1) (a + wolT (tg (M 209)) (sk (M 211)) s) (saM M 211 s) (by rw [sa_lo (by decide)]; exact htg) hg' (by omega) (by omega) (by rw [htg]; omega)
        exact ⟨q1, q2, fun b hb => (q3 b hb).trans (sa_lo hb)⟩
      · exact ⟨Or.inl rfl, hG, fun _ _ => rfl⟩
    · exact saL_ok hT k (s + 1) a M htg hG (by omega) (by omega) (by omega)
theorem saT_ok {M : xMem} (hT : TI (tg (M 209))) (hG : GI (tg (M 209)) (sk (M 210)) 999) (set : Int) :
    ((saT M set).1 = -1 ∨ (0 ≤ (saT M set).1 ∧ (saT M set).1 ≤ 600)) ∧ GI (tg (M 209)) (sk ((saT M set).2 211)) 999 ∧ ∀ b, b ≠ 211 → (saT M set).2 b = M b := by
  have hN : 1 ≤ M 209 1 ∧ M 209 1 ≤ 6 := hT.2.1
  obtain ⟨q1, q2, q3⟩ := saL_ok hT (set := set) (w := 999) (M 209 1).toNat 0 0 (cnM M) (by rw [cn_row (by decide)]) (GI_SA (cn_SA hT) hG) (by omega) (by show (0 : Int) + ((M 209 1).toNat : Int) = M 209 1; omega) (by omega)
  exact ⟨q1, q2, fun b hb => (q3 b hb).trans (cn_row hb)⟩
theorem my_ok {M : xMem} (hT : TI (tg (M 209))) (hG : GI (tg (M 209)) (sk (M 210)) 999) : ∀ (k : Nat) (i : Int) (q : Int × Int × xMem), (∀ b, b ≠ 211 → q.2.2 b = M b) → (0 ≤ q.1 ∧ q.1 ≤ 63) → (0 ≤ q.2.1 ∧ q.2.1 ≤ 600) → 1 ≤ i → i + k ≤ 64 →
    (∀ b, b ≠ 211 → (foldI myF k i q).2.2 b = M b) ∧ (0 ≤ (foldI myF k i q).1 ∧ (foldI myF k i q).1 ≤ 63) ∧ (0 ≤ (foldI myF k i q).2.1 ∧ (foldI myF k i q).2.1 ≤ 600)
  | 0, i, q, h, hb, hl, _, _ => ⟨h, hb, hl⟩
  | k + 1, i, q, h, hb, hl, h1, h2 => by
    have e9 := h 209 (by decide)
    have e10 := h 210 (by decide)
    have ht := saT_ok (M := q.2.2) (by rw [e9]; exact hT) (by rw [e9, e10]; exact hG) i
    refine my_ok hT hG k (i + 1) (myF i q) ?_ ?_ ?_ (by omega) (by omega)
    · intro b hbb
      unfold myF
      split
      · exact (ht.2.2 b hbb).trans (h b hbb)
      · exact (ht.2.2 b hbb).trans (h b hbb)
    · unfold myF
      split
      · show 0 ≤ i ∧ i ≤ 63
        omega
      · exact hb
    · unfold myF
      split
      · show 0 ≤ (saT q.2.2 i).1 ∧ (saT q.2.2 i).1 ≤ 600
        omega
      · exact hl
theorem and_alln {x n : Int} (hn : 0 ≤ n ∧ n ≤ 5) (hx : 0 ≤ x ∧ x < 2 ^ n.toNat) : xand x (2 ^ n.toNat - 1) = x := by
  have key : ∀ n : Nat, n < 6 → ∀ x : Nat, x < 2 ^ n → xand (x : Int) (2 ^ n - 1) = (x : Int) := by decide +kernel
  have h2 := p2n (n := n)
  have := key n.toNat (by omega) x.toNat (by omega)
  rw [show ((x.toNat : Nat) : Int) = x by omega] at this
  exact this
/-! orders, the model's way -/
def dgL (N : Int) : Nat → Int → Int → Bool → xMem → Bool × xMem
  | 0, _, _, g, M => (g, M)
  | k + 1, l, u, g, M => dgL N k (l / N) (xor2 u (1 * 2 ^ (l % N).toNat)) (g && !decide (bitI u (l % N) = 1)) (mS M 213 k (l % N))
def wwL (s : Int) : Nat → Int → xMem → Int × xMem
  | 0, w, M => (w, M)
  | f + 1, w, M => if canT (tg (M 209)) (sk (M 211)) s ∨ 60 < w then (w, M) else wwL s f (w + 1) (psM M 211)
def woL : Nat → Int → Int → xMem → Int × xMem
  | 0, _, w, M => (w, M)
  | f + 1, k, w, M => if (wwL (M 213 k.toNat) (62 - w).toNat w M).1 ≤ 60 then woL f (k + 1) (wwL (M 213 k.toNat) (62 - w).toNat w M).1 (saM (wwL (M 213 k.toNat) (62 - w).toNat w M).2 211 (M 213 k.toNat)) else (-1, (wwL (M 213 k.toNat) (62 - w).toNat w M).2)
def woT (M : xMem) (code many : Int) : Int × xMem := if (dgL (M 209 1) many.toNat code (M 210 4) true M).1 = true then woL many.toNat 0 0 (cnM (dgL (M 209 1) many.toNat code (M 210 4) true M).2) else (-1, cnM (dgL (M 209 1) many.toNat code (M 210 4) true M).2)
def yoF (many : Int) (code : Int) (q : Int × Int × xMem) : Int × Int × xMem := if 0 ≤ (woT q.2.2 code many).1 ∧ (woT q.2.2 code many).1 < q.2.1 then (code, (woT q.2.2 code many).1, (woT q.2.2 code many).2) else (q.1, q.2.1, (woT q.2.2 code many).2)
def mnY (M : xMem) : Int := M 209 1 - pcT (M 210 4)
def yoT (M : xMem) : Int × Int × xMem := foldI (yoF (mnY M)) (M 209 1 ^ (mnY M).toNat).toNat 0 (-1000000, 61, M)
def yOrder (M : xMem) (k : Int) : Int × xMem := if M 201 16 = 0 then (-1000002, M) else if ¬ (-1 ≤ k) then (-1000001, M) else if (yoT M).1 = -1000000 ∨ mnY M ≤ k then (-1000000, (yoT M).2.2) else
  (if k < 0 then (yoT M).2.1 else (woT (yoT M).2.2 (yoT M).1 (mnY M)).2 213 k.toNat, (woT (yoT M).2.2 (yoT M).1 (mnY M)).2)
/-! whispers -/
theorem hops_add {n d : Int} : ∀ (j k : Nat) (a : Int), hopsT n d k (hopsT n d j a) = hopsT n d (j + k) a
  | 0, k, a => by rw [Nat.zero_add]; rfl
  | j + 1, k, a => by
    rw [show j + 1 + k = (j + k) + 1 by omega]
    exact hops_add j k (hopT n a d)
theorem sat_all : ∀ n : Nat, n < 6 → ∀ a : Nat, a < 2 ^ n → ∀ d : Nat, d < 32 → hopT (n : Int) (hopsT (n : Int) (d : Int) 5 (a : Int)) (d : Int) = hopsT (n : Int) (d : Int) 5 (a : Int) := by decide +kernel
theorem sat {n a d : Int} (hn : 0 ≤ n ∧ n ≤ 5) (ha : 0 ≤ a ∧ a < 2 ^ n.toNat) (hd : 0 ≤ d ∧ d ≤ 31) : ∀ k : Nat, hopsT n d (5 + k) a = hopsT n d 5 a
  | 0 => rfl
  | k + 1 => by
    have h2 := p2n (n := n)
    have := sat_all n.toNat (by omega) a.toNat (by omega) d.toNat (by omega)
    rw [show ((a.toNat : Nat) : Int) = a by omega, show ((n.toNat : Nat) : Int) = n by omega, show ((d.toNat : Nat) : Int) = d by omega] at this
    rw [show 5 + (k + 1) = 5 + k + 1 by omega, ← hops_add (5 + k) 1 a, sat hn ha hd k]
    exact this
theorem hops_min {n a d : Int} (hn : 0 ≤ n ∧ n ≤ 5) (ha : 0 ≤ a ∧ a < 2 ^ n.toNat) (hd : 0 ≤ d ∧ d ≤ 31) (k : Nat) : hopsT n d (min 5 k) a = hopsT n d k a := by
  by_cases h : k ≤ 5
  · rw [Nat.min_eq_right h]
  · rw [Nat.min_eq_left (by omega), show k = 5 + (k - 5) by omega, sat hn ha hd]
theorem onw_add {n kd a d w : Int} (hn : 0 ≤ n ∧ n ≤ 5) (ha : 0 ≤ a ∧ a < 2 ^ n.toNat) (hd : 0 ≤ d ∧ d ≤ 31) (hw : 0 ≤ w) : onwT n kd (onwT n kd a d 1) d w = onwT n kd a d (w + 1) := by
  have hb := hpw_b kd
  have hm : 0 ≤ w * hpw kd := Int.mul_nonneg hw hb.1
  have e1 : (min 5 (w * hpw kd)).toNat = min 5 (w * hpw kd).toNat := by omega
  have e2 : (min 5 ((w + 1) * hpw kd)).toNat = min 5 ((w + 1) * hpw kd).toNat := by
    have : 0 ≤ (w + 1) * hpw kd := Int.mul_nonneg (by omega) hb.1
    omega
  have e3 : (w + 1) * hpw kd = w * hpw kd + hpw kd := by rw [Int.add_mul, Int.one_mul]
  have e4 : (min 5 (1 * hpw kd)).toNat = (hpw kd).toNat := by omega
  unfold onwT
  rw [e1, e2, e4, hops_min hn (hops_n hn _ _ ha) hd, hops_min hn ha hd, hops_add, e3]
  congr 1
  omega
theorem onw_0 {n kd a d : Int} : onwT n kd a d 0 = a := by
  unfold onwT
  rw [Int.zero_mul]
  rfl
def pasY (T S : xMem) (s d w : Int) : Int := onwT (T 0 6) (T 2 s.toNat) (if bitI (S 0 8) s = 1 then S 3 s.toNat else reachT (T 0 6) (T 2 s.toNat) (T 3 s.toNat) d) d w
def dyF (T S : xMem) (s p n : Int) (i b : Int) : Int := if (¬ bitI (2 ^ (T 0 6).toNat - 1 - i) p = 1 ∧ ¬ bitI (2 ^ (T 0 6).toNat - 1 - i) (T 3 s.toNat) = 1 ∧ ¬ bitI (pasY T S s (2 ^ (T 0 6).toNat - 1 - i) n) p = 1) ∧ (b = -1000000 ∨ pcT (2 ^ (T 0 6).toNat - 1 - i) ≤ pcT b) then 2 ^ (T 0 6).toNat - 1 - i else b
def dyT (T S : xMem) (s p n : Int) : Int := foldI (dyF T S s p n) (2 ^ (T 0 6).toNat : Int).toNat 0 (-1000000)
def yDeaf (M : xMem) (s p n w : Int) : Int := if ¬ (0 ≤ s ∧ s < M 209 1) ∨ ¬ (0 ≤ p ∧ p < M 209 0) ∨ ¬ (0 ≤ n ∧ n ≤ 30) ∨ ¬ (0 ≤ w ∧ w ≤ 1) then -1000001 else
  if dyT (tg (M 209)) (sk (M 210)) s p n = -1000000 then -1000000 else if w = 0 then pcT (dyT (tg (M 209)) (sk (M 210)) s p n) else dyT (tg (M 209)) (sk (M 210)) s p n
/-! shares -/
def shF (T S : xMem) (n : Int) (k : Int) (q : Int × Int) : Int × Int := (n * claimT T S k / clsT T S + (if 0 < claimT T S k ∧ 0 < q.2 then 1 else 0), q.2 - (if 0 < claimT T S k ∧ 0 < q.2 then 1 else 0))
def ovY (T S : xMem) (n : Int) : Int := foldI (fun k a => a - n * claimT T S k / clsT T S) (T 0 6).toNat 0 n
def yShare (M : xMem) (p n : Int) : Int := if ¬ (0 ≤ p ∧ p < M 209 0) ∨ ¬ (0 ≤ n ∧ n ≤ 99) then -1000001 else if clsT (tg (M 209)) (sk (M 210)) = 0 then 0 else (foldI (shF (tg (M 209)) (sk (M 210)) n) (p + 1).toNat 0 (0, ovY (tg (M 209)) (sk (M 210)) n)).1
/-! thrift -/
def tvT (P : Nat → Int) (price inc b more : Int) : Int := if P b.toNat < 0 ∨ P b.toNat - more * price < 0 then -1 else min 99 (P b.toNat - more * price + inc)
def tiF (P : Nat → Int) (price inc b : Int) (more : Int) (M : xMem) : xMem := mS M 215 (b + more).toNat (if M 215 (b + more).toNat < tvT P price inc b more then tvT P price inc b more else M 215 (b + more).toNat)
def toF (P : Nat → Int) (price ra inc : Int) (b : Int) (M : xMem) : xMem := foldI (tiF P price inc b) (min ra (60 - b) + 1).toNat 0 M
def wkY (M : xMem) (p price : Int) : xMem := rngM (foldI (toF (M 214) price (M 209 2) (M 209 (3 + p).toNat)) 61 0 (rngM M 215 0 (fun _ => -1) 61)) 214 0 (foldI (toF (M 214) price (M 209 2) (M 209 (3 + p).toNat)) 61 0 (rngM M 215 0 (fun _ => -1) 61) 215) 61
def tyL (p r i : Int) : Nat → Int → xMem → xMem
  | 0, _, M => M
  | k + 1, j, M => tyL p r i k (j + 1) (wkY M p (M 204 (40 * r + (i + j)).toNat))
def itG (M : xMem) (r : Int) (x : Nat) : Int := M 204 (40 * r + x).toNat
def yThrift (M : xMem) (p w r i n : Int) : Int × xMem := if ¬ (0 ≤ p ∧ p < M 209 0) ∨ ¬ (0 ≤ w ∧ w ≤ 60) ∨ ¬ (0 ≤ r ∧ r ≤ 7) ∨ ¬ (1 ≤ n ∧ n ≤ 12) then (-1000001, M) else if M 202 r.toNat < 0 then mfn M 1 else if ¬ prt M r i n then mfn M 2 else
  if ¬ allW (itG M r) 1 9 n.toNat i = true then mfn M 3 else
  mfi (tyL p r i n.toNat 0 (rngM M 214 0 (fun b => if b = 0 then M 210 (5 + p).toNat else -1) 61)) (if tyL p r i n.toNat 0 (rngM M 214 0 (fun b => if b = 0 then M 210 (5 + p).toNat else -1) 61) 214 w.toNat < 0 then -1000000 else tyL p r i n.toNat 0 (rngM M 214 0 (fun b => if b = 0 then M 210 (5 + p).toNat else -1) 61) 214 w.toNat)
/-! rows asked -/
def fitY (M : xMem) (kind sp r i n : Int) : Bool := fcL (M 209 0) kind (itG M r) n.toNat i (reachT (M 209 0) kind sp 0)
def wyF (M : xMem) (s w r i n : Int) (k a : Int) : Int := xor2 a (if (w = 0 ∧ 0 < k ∧ fitY M k (tg (M 209) 3 s.toNat) r i n = true) ∨ (¬ w = 0 ∧ (0 ≤ k ∧ k < M 209 0) ∧ fitY M (tg (M 209) 2 s.toNat) k r i n = true) then 1 * 2 ^ k.toNat else 0)
def yWho (M : xMem) (s w r i n : Int) : Int × xMem := if ¬ (0 ≤ s ∧ s < M 209 1) ∨ ¬ (0 ≤ w ∧ w ≤ 1) ∨ ¬ (0 ≤ r ∧ r ≤ 7) ∨ ¬ (1 ≤ n ∧ n ≤ 12) then (-1000001, M) else if M 202 r.toNat < 0 then mfn M 1 else if ¬ prt M r i n then mfn M 2 else mfi M (foldI (wyF M s w r i n) 6 0 0)
def yPriced (M : xMem) (r i q j n : Int) : Int × xMem := if ¬ (0 ≤ r ∧ r ≤ 7) ∨ ¬ (0 ≤ q ∧ q ≤ 7) ∨ ¬ (1 ≤ n ∧ n ≤ 12) then (-1000001, M) else if M 202 r.toNat < 0 then mfn M 1 else if ¬ prt M r i n then mfn M 2 else if M 202 q.toNat < 0 then mfn M 1 else if ¬ prt M q j n then mfn M 2 else
  if ¬ (allW (itG M r) 0 999 n.toNat i = true ∧ allW (itG M q) 1 9 n.toNat j = true) then mfn M 3 else mfi M (foldI (prcF (itG M r) (itG M q) i j) n.toNat 0 0)
/-! heard -/
def byF (who set pr : Int) (k a : Int) : Int := a * (if k = who then 1 else if bitI set k = 1 then pr else 10 - pr)
def hyF (T S : xMem) (s p n pr : Int) (set a : Int) : Int := if ¬ bitI set (T 3 s.toNat) = 1 ∧ bitI (pasY T S s set n) p = 1 then a + foldI (byF (T 3 s.toNat) set pr) (T 0 6).toNat 0 1 else a
def hyT (T S : xMem) (s p n pr : Int) : Int := foldI (hyF T S s p n pr) (2 ^ (T 0 6).toNat : Int).toNat 0 0
def yHeard (M : xMem) (s p n pr w : Int) : Int := if ¬ (0 ≤ s ∧ s < M 209 1) ∨ ¬ (0 ≤ p ∧ p < M 209 0) ∨ ¬ (0 ≤ n ∧ n ≤ 30) ∨ ¬ (0 ≤ pr ∧ pr ≤ 10) ∨ ¬ (0 ≤ w ∧ w ≤ 1) then -1000001 else
  if w = 0 then hyT (tg (M 209)) (sk (M 210)) s p n pr / cdL 100 (hyT (tg (M 209)) (sk (M 210)) s p n pr) (10 ^ (M 209 0 - 1).toNat) else 10 ^ (M 209 0 - 1).toNat / cdL 100 (hyT (tg (M 209)) (sk (M 210)) s p n pr) (10 ^ (M 209 0 - 1).toNat)
/-! terms -/
def dyL : Nat → Int → xMem → xMem
  | 0, _, M => M
  | k + 1, x, M => dyL k (x * 16807 % 2147483647) (psM (if canT (tg (M 209)) (sk (M 211)) (x * 16807 % 2147483647 % M 209 1) then saM M 211 (x * 16807 % 2147483647 % M 209 1) else M) 211)
def yDrawn (M : xMem) (n x w : Int) : Int × xMem := if M 201 16 = 0 then (-1000002, M) else if ¬ (0 ≤ n ∧ n ≤ 60) ∨ ¬ (1 ≤ x ∧ x ≤ 999999) ∨ ¬ (0 ≤ w ∧ w ≤ 1) then (-1000001, M) else
  (if w = 0 then dyL n.toNat x (cnM M) 211 4 else dyL n.toNat x (cnM M) 211 2, dyL n.toNat x (cnM M))
