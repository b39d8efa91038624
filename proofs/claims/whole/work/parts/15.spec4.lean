/-! the class's calls: answer and memory behind -/
def fndX (M : xMem) (f : Int) : Int × xMem := (-1000010 - f, mS M 0 10 f)
def finX (M : xMem) (v : Int) : Int × xMem := (v, mS M 0 10 0)
def rowA (r : Int) : Nat := 163 + 2 * r.toNat
def xRow (M : xMem) (r l n : Int) : Int × xMem := if ¬ (0 ≤ r ∧ r ≤ 7) ∨ ¬ (0 ≤ l ∧ l ≤ 2) ∨ 40 < n then (-1000001, M) else if n < 0 then fndX M 4 else finX (rowM M (163 + 2 * r.toNat) l n) n
def sfT (M : xMem) (r i n : Int) : Int := if M (163 + 2 * r.toNat) 1 = 0 then 1 else if 0 ≤ n ∧ 0 ≤ i ∧ i ≤ M (163 + 2 * r.toNat) 3 - n then 0 else 2
def xSet (M : xMem) (r i v : Int) : Int × xMem := if ¬ (0 ≤ r ∧ r ≤ 7) then (-1000001, M) else if ¬ sfT M r i 1 = 0 then fndX M (sfT M r i 1) else
  finX (mS M (163 + 2 * r.toNat + 1) i.toNat (laneV (M (163 + 2 * r.toNat) 2) v)) (laneV (M (163 + 2 * r.toNat) 2) v)
def xCopy (M : xMem) (a i b j n : Int) : Int × xMem := if ¬ (0 ≤ a ∧ a ≤ 7) ∨ ¬ (0 ≤ b ∧ b ≤ 7) then (-1000001, M) else if M (163 + 2 * a.toNat) 1 = 0 ∨ M (163 + 2 * b.toNat) 1 = 0 then fndX M 1 else
  if ¬ M (163 + 2 * a.toNat) 2 = M (163 + 2 * b.toNat) 2 then fndX M 5 else if ¬ (0 ≤ n ∧ 0 ≤ i ∧ i ≤ M (163 + 2 * a.toNat) 3 - n) ∨ ¬ (0 ≤ n ∧ 0 ≤ j ∧ j ≤ M (163 + 2 * b.toNat) 3 - n) then fndX M 2 else
  finX (mCp M (163 + 2 * b.toNat + 1) (163 + 2 * a.toNat + 1) j.toNat i.toNat n.toNat) n
def xDrop (M : xMem) (r : Int) : Int × xMem := if ¬ (0 ≤ r ∧ r ≤ 7) then (-1000001, M) else if M (163 + 2 * r.toNat) 1 = 0 then fndX M 1 else finX (mS M (163 + 2 * r.toNat) 1 0) (M (163 + 2 * r.toNat) 3)
def xFeed (M : xMem) (c : Int) : Int × xMem := if ¬ (0 ≤ c ∧ c ≤ 255) then (-1000001, M) else if M 149 3 < 120 then (M 149 3 + 1, mS (mS M 150 (M 149 3).toNat c) 149 3 (M 149 3 + 1)) else (-1000003, M)
def xUndo (M : xMem) : Int × xMem := if M 17 2 = 0 then (-1000002, M) else (M 17 2 - 1, gbM M)
def xSay (M : xMem) (s : Int) : Int × xMem := if ¬ (0 ≤ s ∧ s < M 3 7) then (-1000001, M) else if ¬ canT (tw M) (sv M 9) s then (-1000002, M) else (wolT (tw M) (sv M 9) s, spkM (kpM M) 9 s)
def xBuy (M : xMem) (p n : Int) : Int × xMem := if ¬ (0 ≤ p ∧ p < M 3 6) ∨ ¬ (1 ≤ n ∧ n ≤ 60) then (-1000001, M) else if ¬ (n ≤ M 9 5 ∧ n * M 9 7 ≤ M 10 p.toNat ∧ M 11 p.toNat + n ≤ 99) then (-1000002, M) else (M 11 p.toNat + n, bnkM (kpM M) 9 p n)
def xLet (M : xMem) (n : Int) : Int × xMem := if M 3 6 = 0 then (-1000002, M) else if ¬ (1 ≤ n ∧ n ≤ 99) then (-1000001, M) else if M 9 6 < n ∨ 99 < M 9 5 + n then (-1000002, M) else (M 9 5 + n, mS (mS (kpM M) 9 6 (M 9 6 - n)) 9 5 (M 9 5 + n))
def xPrice (M : xMem) (v : Int) : Int × xMem := if M 3 6 = 0 then (-1000002, M) else if ¬ (1 ≤ v ∧ v ≤ 9) then (-1000001, M) else (M 9 7, mS (kpM M) 9 7 v)
def xSpeech (M : xMem) (s w : Int) : Int := if ¬ (0 ≤ s ∧ s < M 3 7) then -1000001 else if w = 0 then M 6 s.toNat else if w = 1 then M 7 s.toNat else if w = 2 then (if M 8 s.toNat = s then -1000000 else M 8 s.toNat) else if w = 3 then wordsT (tw M) s else
  if w = 4 then crnT (tw M) (sv M 9) s else if w = 5 then b2i (canT (tw M) (sv M 9) s) else if w = 6 then M 12 s.toNat else if w = 7 then understT (tw M) (sv M 9) s else if w = 8 then b2i (bitI (M 9 8) s = 1) else -1000001
def xPerson (M : xMem) (p w : Int) : Int := if ¬ (0 ≤ p ∧ p < M 3 6) then -1000001 else if w = 0 then M 10 p.toNat else if w = 1 then M 4 p.toNat else if w = 2 then M 11 p.toNat else if w = 3 then knownToT (tw M) (sv M 9) p else if w = 4 then undByT (tw M) (sv M 9) (1 * 2 ^ p.toNat) else -1000001
def xStand (M : xMem) (w : Int) : Int := if M 3 6 = 0 then -1000002 else if w = 0 then M 9 5 else if w = 1 then M 9 6 else if w = 2 then M 9 7 else if w = 3 then M 3 5 else if w = 4 then M 9 8 else -1000001
def xPurse (M : xMem) (p n : Int) : Int := if ¬ (0 ≤ p ∧ p < M 3 6) ∨ ¬ (0 ≤ n ∧ n ≤ 60) then -1000001 else purT (tw M) (sv M 9) p n
def xHill (M : xMem) (n : Int) : Int := if M 3 6 = 0 then -1000002 else if 0 ≤ n ∧ n ≤ 60 then hillT (tw M) (sv M 9) n else -1000001
def xKnown (M : xMem) (s n : Int) : Int := if ¬ (0 ≤ s ∧ s < M 3 7) ∨ ¬ (0 ≤ n ∧ n ≤ 60) then -1000001 else knwT (tw M) (sv M 9) s n
def akL (T S : xMem) (s : Int) : Nat → Int → Int
  | 0, _ => -1000000
  | k + 1, w => if knwT T S s w = 2 ^ (T 0 6).toNat - 1 then w else akL T S s k (w + 1)
def xAllKnow (M : xMem) (s : Int) : Int := if ¬ (0 ≤ s ∧ s < M 3 7) then -1000001 else akL (tw M) (sv M 9) s 61 0
def xWhen (M : xMem) (s : Int) : Int := if ¬ (0 ≤ s ∧ s < M 3 7) then -1000001 else if bitI (M 9 8) s = 1 then -1000002 else tillT (tw M) (sv M 9) s 60
def xShare (M : xMem) (p n : Int) : Int := if ¬ (0 ≤ p ∧ p < M 3 6) ∨ ¬ (0 ≤ n ∧ n ≤ 99) then -1000001 else shareT (tw M) (sv M 9) p n
def xKind (M : xMem) (s : Int) : Int := if 0 ≤ s ∧ s < M 3 7 then M 5 s.toNat else -1000001
def ikL (q : Int) : Nat → Int → Bool
  | 0, _ => false
  | n + 1, k => if 0 ≤ k ∧ k < 6 then (if k = q then true else ikL q n ((xtab 0).getD k.toNat 0)) else false
def xAs (M : xMem) (s k : Int) : Int × xMem := if ¬ (0 ≤ s ∧ s < M 3 7) ∨ ¬ (0 ≤ k ∧ k ≤ 5) then (-1000001, M) else if ikL k 6 (M 5 s.toNat) = true then finX M s else fndX M 3
def xAsk (M : xMem) (s w : Int) : Int × xMem := if ¬ (0 ≤ s ∧ s < M 3 7) ∨ ¬ (0 ≤ w ∧ w ≤ 1) then (-1000001, M) else (if w = 0 then sizT (tw M) (sv M 9) s else mrkT (tw M) (sv M 9) s, (trc (M 5 s.toNat) w).foldl lvM (mS M 161 3 0))
def xTrace (M : xMem) (i : Int) : Int := if 0 ≤ i ∧ i < M 161 3 then M 162 i.toNat else -1000000
def xClear (M : xMem) : Int := if M 3 6 = 0 then -1000002 else undByT (tw M) (sv M 9) (2 ^ (M 3 6).toNat - 1)
def xThere (M : xMem) : Int := foldI (fun i a => if M (163 + 2 * i.toNat) 1 = 0 then a else a + 1) 8 0 0
def xCount (M : xMem) (w : Int) : Int := if w = 0 then xThere M else if w = 1 then M 3 6 else if w = 2 then M 3 7 else if w = 3 then M 9 4 else if w = 4 then M 9 5 else if w = 5 then M 9 6 else if w = 6 then M 17 2 else if w = 7 then M 149 3 else -1000001
def imgA (k : Int) : Nat := 179 + 11 * k.toNat
def xImage (M : xMem) (k : Int) : Int × xMem := if ¬ (0 ≤ k ∧ k ≤ 1) then (-1000001, M) else if M 3 6 = 0 then (-1000002, M) else (1, mS (stCp (twCp M (179 + 11 * k.toNat + 1) 3) (179 + 11 * k.toNat + 7) 9) (179 + 11 * k.toNat) 2 1)
def xRestore (M : xMem) (k : Int) : Int × xMem := if ¬ (0 ≤ k ∧ k ≤ 1) then (-1000001, M) else if M (179 + 11 * k.toNat) 2 = 0 then (-1000002, M) else (1, mS (stCp (twCp M 3 (179 + 11 * k.toNat + 1)) 9 (179 + 11 * k.toNat + 7)) 17 2 0)
def wkM : Nat → xMem → xMem
  | 0, M => M
  | k + 1, M => wkM k (pasM (kpM M) 9 1)
def xWeeks (M : xMem) (n : Int) : Int × xMem := if M 3 6 = 0 then (-1000002, M) else if ¬ (1 ≤ n ∧ n ≤ 24) then (-1000001, M) else if 999 < M 9 4 + n then (-1000003, M) else (wkM n.toNat M 9 6, wkM n.toNat M)
theorem ikL_out {q k : Int} (h : ¬ (0 ≤ k ∧ k < 6)) : ∀ n, ikL q n k = false
  | 0 => rfl
  | n + 1 => if_neg h
