def pcT (a : Int) : Int := ((a.toNat % 2 + a.toNat / 2 % 2 + a.toNat / 4 % 2 + a.toNat / 8 % 2 + a.toNat / 16 % 2 + a.toNat / 32 % 2 : Nat) : Int)
theorem pcT_b (a : Int) : 0 ≤ pcT a ∧ pcT a ≤ 6 := by unfold pcT; omega
theorem pcT_5 {a : Int} (h : 0 ≤ a ∧ a ≤ 31) : 0 ≤ pcT a ∧ pcT a ≤ 5 := by unfold pcT; omega
def usr (a b : Int32) : Int32 := (a.toUInt32 >>> (b.toUInt32 &&& Int32.toUInt32 31)).toInt32
def bcW (x0 : Int32) : Int32 :=
  let x1 := x0 - (usr x0 (xI 1) &&& xI 1431655765)
  let x2 := (x1 &&& xI 858993459) + (usr x1 (xI 2) &&& xI 858993459)
  let x3 := (x2 + usr x2 (xI 4)) &&& xI 252645135
  let x4 := x3 + usr x3 (xI 8)
  let x5 := x4 + usr x4 (xI 16)
  x5 &&& xI 63
theorem bcW_ok : ∀ n : Nat, n < 64 → bcW (xI (n : Int)) = xI (pcT (n : Int)) := by decide +kernel
theorem bcW_eq {a : Int} (h : 0 ≤ a ∧ a ≤ 63) : bcW (xI a) = xI (pcT a) := by
  have := bcW_ok a.toNat (by omega)
  rw [show ((a.toNat : Nat) : Int) = a by omega] at this
  exact this
theorem s_iretw {E : xE} {y : xM} {d : Nat} {M M' : xMem} {pc : Nat} {ls : List (Option Value)} {x : Int32} {b : Int} (hM : InR M) (hrt : y.2.2 = some .int) (hd : decode y.2.1 pc = .ok (.ireturn, 1)) (e : x = xI b) (eM : M = M') : VS E y d (some (xi b)) M' pc ls [.int x] M := by
  subst e
  exact s_iret hM hrt hd rfl eM
def cdL : Nat → Int → Int → Int
  | 0, x, _ => x
  | n + 1, x, y => if y = 0 then x else cdL n y (x % y)
theorem cdL_b {A : Int} : ∀ (n : Nat) (x y : Int), (0 ≤ x ∧ x ≤ A) → (0 ≤ y ∧ y ≤ A) → 0 ≤ cdL n x y ∧ cdL n x y ≤ A
  | 0, x, y, hx, _ => hx
  | n + 1, x, y, hx, hy => by
    unfold cdL
    split
    · exact hx
    · have h1 := Int.emod_nonneg x (show y ≠ 0 by omega)
      have h2 := Int.emod_lt_of_pos x (show 0 < y by omega)
      exact cdL_b n _ _ hy (by omega)
/-! sets said, one behind another -/
def tryL (set : Int) : Nat → Int → Int → xMem → Int × xMem
  | 0, _, a, M => (a, M)
  | k + 1, s, a, M => if bitI set s = 0 then tryL set k (s + 1) a M else if canT (tw M) (sv M 13) s then tryL set k (s + 1) (a + wolT (tw M) (sv M 13) s) (spkM M 13 s) else (-1000000, M)
def tryT (M : xMem) (set : Int) : Int × xMem := tryL set (M 3 7).toNat 0 0 (stCp M 13 9)
def lgF (set : Int) (q : Int × Int × xMem) : Int × Int × xMem := if pcT set < pcT q.1 then q else
  if (tryT q.2.2 set).1 = -1000000 then (q.1, q.2.1, (tryT q.2.2 set).2) else if pcT q.1 < pcT set ∨ (tryT q.2.2 set).1 < q.2.1 then (set, (tryT q.2.2 set).1, (tryT q.2.2 set).2) else (q.1, q.2.1, (tryT q.2.2 set).2)
def lgT (M : xMem) : Int × Int × xMem := foldI lgF (2 ^ (M 3 7).toNat - 1 : Int).toNat 1 (0, 0, M)
def xMost (M : xMem) (w : Int) : Int × xMem := if M 3 6 = 0 then (-1000002, M) else if ¬ (0 ≤ w ∧ w ≤ 2) then (-1000001, M) else
  if w = 0 then ((lgT M).1, (lgT M).2.2) else if w = 1 then ((tryT (lgT M).2.2 (lgT M).1).1, (tryT (lgT M).2.2 (lgT M).1).2) else
  (pcT (undAllT (tw (tryT (lgT M).2.2 (lgT M).1).2) (sv (tryT (lgT M).2.2 (lgT M).1).2 13) (lgT M).1), (tryT (lgT M).2.2 (lgT M).1).2)
/-! deaf -/
def fdF (T S : xMem) (s p n ap : Int) (set b : Int) : Int := if xand set ap = 0 ∧ (b = -1000000 ∨ pcT set < pcT b) ∧ bitI (passT T S s set n) p = 0 then set else b
def fdT (T S : xMem) (s p n : Int) : Int := foldI (fdF T S s p n (xor2 (1 * 2 ^ p.toNat) (1 * 2 ^ (T 3 s.toNat).toNat))) (2 ^ (T 0 6).toNat : Int).toNat 0 (-1000000)
def xDeaf (M : xMem) (s p n w : Int) : Int := if ¬ (0 ≤ s ∧ s < M 3 7) ∨ ¬ (0 ≤ p ∧ p < M 3 6) ∨ ¬ (0 ≤ n ∧ n ≤ 30) ∨ ¬ (0 ≤ w ∧ w ≤ 1) then -1000001 else
  if fdT (tw M) (sv M 9) s p n = -1000000 ∨ w = 1 then fdT (tw M) (sv M 9) s p n else pcT (fdT (tw M) (sv M 9) s p n)
/-! heard -/
def hcF (T S : xMem) (s p n pr : Int) (set a : Int) : Int := if xand set (1 * 2 ^ (T 3 s.toNat).toNat) = 0 ∧ bitI (passT T S s set n) p = 1 then a + pr ^ (pcT set).toNat * (10 - pr) ^ (T 0 6 - 1 - pcT set).toNat else a
def hcT (T S : xMem) (s p n pr : Int) : Int := foldI (hcF T S s p n pr) (2 ^ (T 0 6).toNat : Int).toNat 0 0
def xHeard (M : xMem) (s p n pr w : Int) : Int := if ¬ (0 ≤ s ∧ s < M 3 7) ∨ ¬ (0 ≤ p ∧ p < M 3 6) ∨ ¬ (0 ≤ n ∧ n ≤ 30) ∨ ¬ (0 ≤ pr ∧ pr ≤ 10) ∨ ¬ (0 ≤ w ∧ w ≤ 1) then -1000001 else
  if cdL 100 (hcT (tw M) (sv M 9) s p n pr) (10 ^ (M 3 6 - 1).toNat) ≤ 0 then -1000001 else if w = 0 then hcT (tw M) (sv M 9) s p n pr / cdL 100 (hcT (tw M) (sv M 9) s p n pr) (10 ^ (M 3 6 - 1).toNat) else 10 ^ (M 3 6 - 1).toNat / cdL 100 (hcT (tw M) (sv M 9) s p n pr) (10 ^ (M 3 6 - 1).toNat)
theorem pow_b {b : Int} (hb : 0 ≤ b ∧ b ≤ 10) : ∀ k : Nat, 0 ≤ b ^ k ∧ b ^ k ≤ 10 ^ k
  | 0 => by simp
  | k + 1 => by
    have := pow_b hb k
    rw [Int.pow_succ, Int.pow_succ]
    exact mul_b this hb
/-! terms by draws -/
def dtL : Nat → Int → xMem → xMem
  | 0, _, M => M
  | k + 1, x, M => dtL k (x * 16807 % 2147483647) (pasM (if canT (tw M) (sv M 13) (x * 16807 % 2147483647 % M 3 7) then spkM M 13 (x * 16807 % 2147483647 % M 3 7) else M) 13 1)
def xDrawn (M : xMem) (n x w : Int) : Int × xMem := if M 3 6 = 0 then (-1000002, M) else if ¬ (0 ≤ n ∧ n ≤ 60) ∨ ¬ (1 ≤ x ∧ x ≤ 999999) ∨ ¬ (0 ≤ w ∧ w ≤ 1) then (-1000001, M) else
  (if w = 0 then dtL n.toNat x (stCp M 13 9) 13 8 else dtL n.toNat x (stCp M 13 9) 13 6, dtL n.toNat x (stCp M 13 9))
/-! rows asked -/
def fcL (n kind : Int) (g : Nat → Int) : Nat → Int → Int → Bool
  | 0, _, _ => true
  | k + 1, i, a => if pcT (onwT n kind a 0 1) = g i.toNat then fcL n kind g k (i + 1) (onwT n kind a 0 1) else false
def fitT (M : xMem) (kind sp : Int) (g : Nat → Int) (i n : Int) : Bool := fcL (M 3 6) kind g n.toNat i (reachT (M 3 6) kind sp 0)
def whoP (M : xMem) (w r i n kind : Int) (p a : Int) : Int := if fitT M kind p (M (163 + 2 * r.toNat + 1)) i n = true then xor2 a (1 * 2 ^ (if w = 0 then kind else p).toNat) else a
def whoT (M : xMem) (w r i n : Int) : Int := foldI (fun kind a => foldI (whoP M w r i n kind) (M 3 6).toNat 0 a) 5 1 0
def xWho (M : xMem) (s w r i n : Int) : Int × xMem := if ¬ (0 ≤ s ∧ s < M 3 7) ∨ ¬ (0 ≤ w ∧ w ≤ 1) ∨ ¬ (0 ≤ r ∧ r ≤ 7) ∨ ¬ (1 ≤ n ∧ n ≤ 12) then (-1000001, M) else if ¬ sfT M r i n = 0 then fndX M (sfT M r i n) else finX M (whoT M w r i n)
def thL (g : Nat → Int) (ra inc : Int) : Nat → Int → xMem → xMem
  | 0, _, M => M
  | k + 1, i, M => thL g ra inc k (i + 1) (thW M (g i.toNat) ra inc (-1))
def xThrift (M : xMem) (p w r i n : Int) : Int × xMem := if ¬ (0 ≤ p ∧ p < M 3 6) ∨ ¬ (0 ≤ w ∧ w ≤ 60) ∨ ¬ (0 ≤ r ∧ r ≤ 7) ∨ ¬ (1 ≤ n ∧ n ≤ 12) then (-1000001, M) else if ¬ sfT M r i n = 0 then fndX M (sfT M r i n) else
  if ¬ allW (M (163 + 2 * r.toNat + 1)) 1 9 n.toNat i = true then fndX M 3 else finX (thL (M (163 + 2 * r.toNat + 1)) (M 3 5) (M 4 p.toNat) n.toNat i (thB M (M 10 p.toNat) w)) (thL (M (163 + 2 * r.toNat + 1)) (M 3 5) (M 4 p.toNat) n.toNat i (thB M (M 10 p.toNat) w) 148 w.toNat)
def prcF (f g : Nat → Int) (i j : Int) (k a : Int) : Int := a + f (i + k).toNat * g (j + k).toNat
def xPriced (M : xMem) (r i q j n : Int) : Int × xMem := if ¬ (0 ≤ r ∧ r ≤ 7) ∨ ¬ (0 ≤ q ∧ q ≤ 7) ∨ ¬ (1 ≤ n ∧ n ≤ 12) then (-1000001, M) else if ¬ sfT M r i n = 0 then fndX M (sfT M r i n) else if ¬ sfT M q j n = 0 then fndX M (sfT M q j n) else
  if ¬ (allW (M (163 + 2 * r.toNat + 1)) 0 999 n.toNat i = true ∧ allW (M (163 + 2 * q.toNat + 1)) 1 9 n.toNat j = true) then fndX M 3 else finX M (foldI (prcF (M (163 + 2 * r.toNat + 1)) (M (163 + 2 * q.toNat + 1)) i j) n.toNat 0 0)
theorem allW_at {g : Nat → Int} {lo hi : Int} : ∀ (k : Nat) (i : Int), allW g lo hi k i = true → ∀ x : Int, i ≤ x → x < i + k → lo ≤ g x.toNat ∧ g x.toNat ≤ hi
  | 0, i, _, x, h1, h2 => absurd h2 (by omega)
  | k + 1, i, h, x, h1, h2 => by
    unfold allW at h
    rw [Bool.and_eq_true] at h
    by_cases hx : x = i
    · subst hx
      exact of_decide_eq_true h.1
    · exact allW_at k (i + 1) h.2 x (by omega) (by omega)
