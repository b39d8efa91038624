/-! ===== the standing heap: a memory of numbers over a fixed shape ===== -/
abbrev xMem : Type := Nat → Nat → Int
def xflds (E : xE) (M : xMem) (k : Nat) : Nat → List (Option Nat) → List Value
  | _, [] => []
  | j, none :: t => xi (M k j) :: xflds E M k (j + 1) t
  | j, some p :: t => xr E p :: xflds E M k (j + 1) t
def xcell (E : xE) (M : xMem) (k : Nat) (s : xS) : va_E := match s with
  | (0, ci, l) => .inr (ci, xflds E M k 0 l)
  | (1, n, _) => .inl (E.2.2.2 0, n, .inl (fun j => xI (M k j)))
  | (2, n, _) => .inl (E.2.2.2 1, n, .inl (fun j => xI (M k j)))
  | (t + 3, n, l) => .inl (E.2.2.2 (t + 2), n, .inr (.inr (.inr (.inr (fun j => (l.getD j none).map (fun p => E.2.1 + p))))))
def xC (E : xE) (M : xMem) : Nat → va_E := fun k => xcell E M k (shp k)
def InR (M : xMem) : Prop := ∀ a j, -2147483648 ≤ M a j ∧ M a j < 2147483648
def mS (M : xMem) (k f : Nat) (v : Int) : xMem := fun a j => if a = k ∧ j = f then v else M a j
def mCp (M : xMem) (k1 k0 dp sp n : Nat) : xMem := fun a j => if a = k1 ∧ dp ≤ j ∧ j < dp + n then M k0 (sp + (j - dp)) else M a j
theorem InR.mS {M : xMem} (h : InR M) {k f : Nat} {v : Int} (hv : -2147483648 ≤ v ∧ v < 2147483648) : InR (mS M k f v) := by
  intro a j
  unfold Jvm.Pilot.@@N@@.mS
  split
  · exact hv
  · exact h a j
theorem InR.mCp {M : xMem} (h : InR M) {k1 k0 dp sp n : Nat} : InR (mCp M k1 k0 dp sp n) := by
  intro a j
  unfold Jvm.Pilot.@@N@@.mCp
  split
  · exact h _ _
  · exact h a j
theorem xflds_at (E : xE) (M : xMem) (k : Nat) : ∀ (l : List (Option Nat)) (j f : Nat), (xflds E M k j l)[f]? = (l[f]?).map (fun o => match o with | none => xi (M k (j + f)) | some p => xr E p)
  | [], j, f => by simp [xflds]
  | none :: t, j, 0 => by simp [xflds]
  | some p :: t, j, 0 => by simp [xflds]
  | none :: t, j, f + 1 => by
    have := xflds_at E M k t (j + 1) f
    simp only [xflds, List.getElem?_cons_succ]
    rw [this, show j + 1 + f = j + (f + 1) by omega]
  | some p :: t, j, f + 1 => by
    have := xflds_at E M k t (j + 1) f
    simp only [xflds, List.getElem?_cons_succ]
    rw [this, show j + 1 + f = j + (f + 1) by omega]
theorem xflds_len (E : xE) (M : xMem) (k : Nat) : ∀ (l : List (Option Nat)) (j : Nat), (xflds E M k j l).length = l.length
  | [], j => rfl
  | none :: t, j => by simp [xflds, xflds_len E M k t]
  | some p :: t, j => by simp [xflds, xflds_len E M k t]
theorem xflds_set (E : xE) (M : xMem) (k f : Nat) (v : Int) (l : List (Option Nat)) (hf : l[f]? = some none) : (xflds E M k 0 l).set f (xi v) = xflds E (mS M k f v) k 0 l := by
  apply List.ext_getElem?
  intro i
  have hlt : f < l.length := (List.getElem?_eq_some_iff.mp hf).1
  rw [List.getElem?_set, xflds_at, xflds_at, xflds_len]
  by_cases hi : f = i
  · subst hi
    rw [if_pos rfl, if_pos hlt, hf]
    simp [mS]
  · rw [if_neg hi]
    congr 1
    funext o
    cases o with
    | none => simp [mS, Ne.symm hi]
    | some p => rfl
theorem xcell_other {E : xE} {M : xMem} {k f : Nat} {v : Int} {a : Nat} (h : a ≠ k) (s : xS) : xcell E (mS M k f v) a s = xcell E M a s := by
  have e : ∀ j, mS M k f v a j = M a j := fun j => by simp [mS, h]
  have e2 : ∀ l j, xflds E (mS M k f v) a j l = xflds E M a j l := by
    intro l
    induction l with
    | nil => intro j; rfl
    | cons o t ih =>
      intro j
      cases o with
      | none => simp only [xflds, e, ih]
      | some p => simp only [xflds, ih]
  obtain ⟨c, n, l⟩ := s
  match c with
  | 0 => simp only [xcell, e2]
  | 1 => simp only [xcell, e]
  | 2 => simp only [xcell, e]
  | t + 3 => rfl
theorem xC_put {E : xE} {M : xMem} {k f ci : Nat} {v : Int} {l : List (Option Nat)} (hs : shp k = (0, ci, l)) (hf : l[f]? = some none) : va_up (xC E M) k (.inr (ci, (xflds E M k 0 l).set f (xi v))) = xC E (mS M k f v) := by
  funext a
  unfold va_up
  by_cases h : a = k
  · subst h
    rw [if_pos rfl]
    unfold xC
    rw [hs, xflds_set E M a f v l hf]
    rfl
  · rw [if_neg h]
    exact (xcell_other h _).symm
theorem xC_ast {E : xE} {M : xMem} {k n i : Nat} {v : Int} {l : List (Option Nat)} (hs : shp k = (1, n, l)) : va_up (xC E M) k (.inl (E.2.2.2 0, n, .inl (upd (fun j => xI (M k j)) i (xI v)))) = xC E (mS M k i v) := by
  funext a
  unfold va_up
  by_cases h : a = k
  · subst h
    rw [if_pos rfl]
    unfold xC
    rw [hs]
    simp only [xcell]
    congr 4
    funext j
    by_cases hj : j = i
    · simp [upd, mS, hj]
    · simp [upd, mS, hj]
  · rw [if_neg h]
    exact (xcell_other h _).symm
theorem xC_zst {E : xE} {M : xMem} {k n i : Nat} {v : Int} {l : List (Option Nat)} (hs : shp k = (2, n, l)) : va_up (xC E M) k (.inl (E.2.2.2 1, n, .inl (upd (fun j => xI (M k j)) i (xI v)))) = xC E (mS M k i v) := by
  funext a
  unfold va_up
  by_cases h : a = k
  · subst h
    rw [if_pos rfl]
    unfold xC
    rw [hs]
    simp only [xcell]
    congr 4
    funext j
    by_cases hj : j = i
    · simp [upd, mS, hj]
    · simp [upd, mS, hj]
  · rw [if_neg h]
    exact (xcell_other h _).symm
theorem xC_cpy {E : xE} {M : xMem} {k1 k0 n1 dp sp n : Nat} {l : List (Option Nat)} (hs : shp k1 = (1, n1, l)) : va_up (xC E M) k1 (.inl (E.2.2.2 0, n1, .inl (va_cpy (fun j => xI (M k0 j)) (fun j => xI (M k1 j)) sp dp n))) = xC E (mCp M k1 k0 dp sp n) := by
  funext a
  unfold va_up
  by_cases h : a = k1
  · subst h
    rw [if_pos rfl]
    unfold xC
    rw [hs]
    simp only [xcell]
    congr 4
    funext j
    unfold va_cpy mCp
    by_cases hj : dp ≤ j ∧ j < dp + n
    · rw [if_pos hj, if_pos ⟨rfl, hj⟩]
    · rw [if_neg hj, if_neg (fun q => hj q.2)]
  · rw [if_neg h]
    have e : ∀ j, mCp M k1 k0 dp sp n a j = M a j := fun j => by simp [mCp, h]
    have e2 : ∀ l j, xflds E (mCp M k1 k0 dp sp n) a j l = xflds E M a j l := by
      intro l
      induction l with
      | nil => intro j; rfl
      | cons o t ih =>
        intro j
        cases o with
        | none => simp only [xflds, e, ih]
        | some p => simp only [xflds, ih]
    show xcell E M a (shp a) = xcell E (mCp M k1 k0 dp sp n) a (shp a)
    obtain ⟨c, n, l⟩ := shp a
    match c with
    | 0 => simp only [xcell, e2]
    | 1 => simp only [xcell, e]
    | 2 => simp only [xcell, e]
    | t + 3 => rfl
/-- a method's end over the standing heap -/
def xQs (E : xE) (r : Option Value) (M' : xMem) : Option Value → Nat → (Nat → va_E) → Prop := fun v n hp => v = r ∧ n = nC ∧ hp = xC E M' ∧ InR M'
abbrev VS (E : xE) (y : xM) (d : Nat) (r : Option Value) (M' : xMem) (pc : Nat) (ls : List (Option Value)) (st : List Value) (M : xMem) : Prop := V0 E y d 0 0 (xQs E r M') pc ls st nC (xC E M) 0 0
def Ct (E : xE) (y : xM) (nL d : Nat) (av : List Value) (M : xMem) (r : Option Value) (M' : xMem) : Prop := InR M → xK E y nL d 0 0 av nC (xC E M) (xQs E r M')
def xfi (own : String) (idx ci f : Nat) : Prop := ∃ (C : String) (T : u_T) (N : Nat) (ty : Nat → FieldType), xcls ci C T N ty ∧ Cond.fieldLink own idx (T f).1 (T f).2.1 (T f).2.2.1 ∈ gT ∧ f < N
def xfp (own : String) (idx ci f : Nat) (t : FieldType) : Prop := ∃ (C : String) (T : u_T) (N : Nat) (ty : Nat → FieldType), xcls ci C T N ty ∧ Cond.fieldLink own idx (T f).1 (T f).2.1 (T f).2.2.1 ∈ gT ∧ f < N ∧ (T f).2.2.2 = false ∧ ty f = t
section XS
variable {E : xE} {y : xM} {d : Nat} {r : Option Value} {M M' : xMem} {pc : Nat} {ls : List (Option Value)} {st : List Value}
theorem Ct.of {av : List Value} (k nL : Nat) (hn : (lg_sl av).length + k = nL) (hy : plainName y.1.cls = true) (h : InR M → VS E y d r M' 0 (xargs av k) [] M) : Ct E y nL d av M r M' := fun hM => by
  rw [← hn]
  exact xK.of k hy (h hM)
theorem s_getI {idx ci f k : Nat} {l : List (Option Nat)} (hM : InR M) (hw : xfi y.1.cls idx ci f) (hs : shp k = (0, ci, l)) (hf : l[f]? = some none) (hd : decode y.2.1 pc = .ok (.getfield idx, 3))
    (kk : (-2147483648 ≤ M k f ∧ M k f < 2147483648) → VS E y d r M' (pc + 3) ls (xi (M k f) :: st) M) : VS E y d r M' pc ls (xr E k :: st) M := by
  obtain ⟨C, T, N, ty, hx, hw, hN⟩ := hw
  refine r_get hx hw hN (shp_lt hs (by omega)) (fs := xflds E M k 0 l) (by unfold xC; rw [hs]; rfl) (by rw [xflds_at, hf]; simp) hd (kk (hM k f))
theorem s_getR {idx ci f k p : Nat} {l : List (Option Nat)} (hw : xfi y.1.cls idx ci f) (hs : shp k = (0, ci, l)) (hf : l[f]? = some (some p)) (hd : decode y.2.1 pc = .ok (.getfield idx, 3))
    (kk : VS E y d r M' (pc + 3) ls (xr E p :: st) M) : VS E y d r M' pc ls (xr E k :: st) M := by
  obtain ⟨C, T, N, ty, hx, hw, hN⟩ := hw
  refine r_get hx hw hN (shp_lt hs (by omega)) (fs := xflds E M k 0 l) (by unfold xC; rw [hs]; rfl) (by rw [xflds_at, hf]; simp) hd kk
theorem s_putI {idx ci f k : Nat} {l : List (Option Nat)} {v : Int} (hM : InR M) (hw : xfp y.1.cls idx ci f .int) (hs : shp k = (0, ci, l)) (hf : l[f]? = some none) (hv : -2147483648 ≤ v ∧ v < 2147483648) (hd : decode y.2.1 pc = .ok (.putfield idx, 3))
    (kk : InR (mS M k f v) → VS E y d r M' (pc + 3) ls st (mS M k f v)) : VS E y d r M' pc ls (xi v :: xr E k :: st) M := by
  obtain ⟨C, T, N, ty, hx, hw, hN, hfin, hty⟩ := hw
  have hk := kk (hM.mS hv)
  unfold VS at hk
  rw [← xC_put hs hf] at hk
  exact r_put hx hw hN hfin (by rw [hty]; rfl) (by rw [hty]; rfl) (shp_lt hs (by omega)) (by unfold xC; rw [hs]; rfl) (by rw [xflds_len]; exact (List.getElem?_eq_some_iff.mp hf).1) hd hk
theorem s_putZ {idx ci f k : Nat} {l : List (Option Nat)} {v : Int} (hM : InR M) (hw : xfp y.1.cls idx ci f .boolean) (hs : shp k = (0, ci, l)) (hf : l[f]? = some none) (hv : v = 0 ∨ v = 1) (hd : decode y.2.1 pc = .ok (.putfield idx, 3))
    (kk : InR (mS M k f v) → VS E y d r M' (pc + 3) ls st (mS M k f v)) : VS E y d r M' pc ls (xi v :: xr E k :: st) M := by
  obtain ⟨C, T, N, ty, hx, hw, hN, hfin, hty⟩ := hw
  have hk := kk (hM.mS (by omega))
  unfold VS at hk
  rw [← xC_put hs hf] at hk
  exact r_put hx hw hN hfin (by rw [hty]; rcases hv with rfl | rfl <;> rfl) (by rw [hty]; rcases hv with rfl | rfl <;> rfl) (shp_lt hs (by omega)) (by unfold xC; rw [hs]; rfl) (by rw [xflds_len]; exact (List.getElem?_eq_some_iff.mp hf).1) hd hk
theorem s_iald {k N : Nat} {l : List (Option Nat)} {i : Int} (hM : InR M) (hs : shp k = (1, N, l)) (hi : 0 ≤ i ∧ i < N) (hN : N < 2147483648) (hd : decode y.2.1 pc = .ok (.iaload, 1))
    (kk : (-2147483648 ≤ M k i.toNat ∧ M k i.toNat < 2147483648) → VS E y d r M' (pc + 1) ls (xi (M k i.toNat) :: st) M) : VS E y d r M' pc ls (xi i :: xr E k :: st) M :=
  r_iald (f := fun j => xI (M k j)) (shp_lt hs (by omega)) (by unfold xC; rw [hs]; rfl) hi.1 hi.2 hN hd (kk (hM k _))
theorem s_zald {k N : Nat} {l : List (Option Nat)} {i : Int} (hM : InR M) (hs : shp k = (2, N, l)) (hi : 0 ≤ i ∧ i < N) (hN : N < 2147483648) (hd : decode y.2.1 pc = .ok (.baload, 1))
    (kk : (-2147483648 ≤ M k i.toNat ∧ M k i.toNat < 2147483648) → VS E y d r M' (pc + 1) ls (xi (M k i.toNat) :: st) M) : VS E y d r M' pc ls (xi i :: xr E k :: st) M :=
  r_zald (f := fun j => xI (M k j)) (shp_lt hs (by omega)) (by unfold xC; rw [hs]; rfl) hi.1 hi.2 hN hd (kk (hM k _))
theorem s_iast {k N : Nat} {l : List (Option Nat)} {i v : Int} (hM : InR M) (hs : shp k = (1, N, l)) (hi : 0 ≤ i ∧ i < N) (hN : N < 2147483648) (hv : -2147483648 ≤ v ∧ v < 2147483648) (hd : decode y.2.1 pc = .ok (.iastore, 1))
    (kk : InR (mS M k i.toNat v) → VS E y d r M' (pc + 1) ls st (mS M k i.toNat v)) : VS E y d r M' pc ls (xi v :: xi i :: xr E k :: st) M := by
  have hk := kk (hM.mS hv)
  unfold VS at hk
  rw [← xC_ast hs] at hk
  exact r_iast (f := fun j => xI (M k j)) (shp_lt hs (by omega)) (by unfold xC; rw [hs]; rfl) hi.1 hi.2 hN hd hk
theorem s_zast {k N : Nat} {l : List (Option Nat)} {i v : Int} (hM : InR M) (hs : shp k = (2, N, l)) (hi : 0 ≤ i ∧ i < N) (hN : N < 2147483648) (hv : v = 0 ∨ v = 1) (hd : decode y.2.1 pc = .ok (.bastore, 1))
    (kk : InR (mS M k i.toNat v) → VS E y d r M' (pc + 1) ls st (mS M k i.toNat v)) : VS E y d r M' pc ls (xi v :: xi i :: xr E k :: st) M := by
  have hk := kk (hM.mS (by omega))
  unfold VS at hk
  rw [← xC_zst hs] at hk
  exact r_zast (f := fun j => xI (M k j)) (by rcases hv with rfl | rfl <;> simp) (shp_lt hs (by omega)) (by unfold xC; rw [hs]; rfl) hi.1 hi.2 hN hd hk
theorem s_aald {k N p t : Nat} {C : String} {l : List (Option Nat)} {i : Int} (ht : (xtys E)[t + 2]? = some (E.2.2.2 (t + 2), .object C)) (hs : shp k = (t + 3, N, l)) (hi : 0 ≤ i ∧ i < N) (hp : l[i.toNat]? = some (some p)) (hN : N < 2147483648) (hd : decode y.2.1 pc = .ok (.aaload, 1))
    (kk : VS E y d r M' (pc + 1) ls (xr E p :: st) M) : VS E y d r M' pc ls (xi i :: xr E k :: st) M := by
  refine r_aald (t := t + 2) (C := C) (f := fun j => (l.getD j none).map (fun p => E.2.1 + p)) (shp_lt hs (by omega)) ht (by unfold xC; rw [hs]; rfl) hi.1 hi.2 hN hd ?_
  have e : va_rf ((l.getD i.toNat none).map (fun p => E.2.1 + p)) = xr E p := by
    rw [List.getD_eq_getElem?_getD, hp]
    rfl
  simp only [e]
  exact kk
theorem s_acopy {idx k0 k1 n0 n1 : Nat} {l0 l1 : List (Option Nat)} {sp dp cn : Int} (hM : InR M) (hw1 : Cond.methodLink y.1.cls idx arraycopyName ∈ gT) (hs0 : shp k0 = (1, n0, l0)) (hs1 : shp k1 = (1, n1, l1)) (h : 0 ≤ sp ∧ 0 ≤ dp ∧ 0 ≤ cn ∧ sp + cn ≤ n0 ∧ dp + cn ≤ n1 ∧ 0 < n0 ∧ 0 < n1 ∧ n0 < 2147483648 ∧ n1 < 2147483648) (hrm : (st.map fun v => v.category).sum ≤ 8) (hdp : 1 ≤ d) (hd : decode y.2.1 pc = .ok (.invokestatic idx, 3))
    (kk : InR (mCp M k1 k0 dp.toNat sp.toNat cn.toNat) → VS E y d r M' (pc + 3) ls st (mCp M k1 k0 dp.toNat sp.toNat cn.toNat)) : VS E y d r M' pc ls (xi cn :: xi dp :: xr E k1 :: xi sp :: xr E k0 :: st) M := by
  obtain ⟨h1, h2, h3, h4, h5, h6, h7, h8, h9⟩ := h
  have hk := kk hM.mCp
  unfold VS at hk
  rw [← xC_cpy hs1] at hk
  exact r_acopy (f := fun j => xI (M k0 j)) (g := fun j => xI (M k1 j)) hw1 wNat wT_arraycopy wI_J10 (shp_lt hs0 (by omega)) (shp_lt hs1 (by omega)) (by unfold xC; rw [hs0]; rfl) (by unfold xC; rw [hs1]; rfl) h1 h2 h3 h4 h5 h8 h9 hrm hdp hd hk
theorem s_iret {a b : Int} (hM : InR M) (hrt : y.2.2 = some .int) (hd : decode y.2.1 pc = .ok (.ireturn, 1)) (e : a = b) (eM : M = M') : VS E y d (some (xi b)) M' pc ls [xi a] M := by
  subst e; subst eM
  exact r_iret hrt hd (Nat.le_refl 0) (Nat.le_refl 0) ⟨rfl, rfl, rfl, hM⟩
theorem s_zret {a b : Int} (hM : InR M) (hrt : y.2.2 = some .boolean) (ha : a = 0 ∨ a = 1) (hd : decode y.2.1 pc = .ok (.ireturn, 1)) (e : a = b) (eM : M = M') : VS E y d (some (xi b)) M' pc ls [xi a] M := by
  subst e; subst eM
  exact r_zret (by rcases ha with rfl | rfl <;> simp) hrt hd (Nat.le_refl 0) (Nat.le_refl 0) ⟨rfl, rfl, rfl, hM⟩
theorem s_lret {a b : Int} (hM : InR M) (hrt : y.2.2 = some .long) (hd : decode y.2.1 pc = .ok (.lreturn, 1)) (e : a = b) (eM : M = M') : VS E y d (some (xl b)) M' pc ls [xl a] M := by
  subst e; subst eM
  exact r_lret hrt hd (Nat.le_refl 0) (Nat.le_refl 0) ⟨rfl, rfl, rfl, hM⟩
theorem s_vret (hM : InR M) (hrt : y.2.2 = none) (hd : decode y.2.1 pc = .ok (.return_, 1)) (eM : M = M') : VS E y d none M' pc ls [] M := by
  subst eM
  exact r_vret hrt hd (Nat.le_refl 0) (Nat.le_refl 0) ⟨rfl, rfl, rfl, hM⟩
theorem s_callV {z : xM} {nL d' np idx k ci : Nat} {As rest : List Value} {l : List (Option Nat)} {rv : Option Value} {M1 : xMem} {q : vw_C} (hM : InR M) (hK : Ct E z nL d' (xr E k :: As) M rv M1) (cw : xcv z nL np) (hw : Cond.methodLink y.1.cls idx z.1 ∈ gT) (hst : st = As.reverse ++ xr E k :: rest) (hn : As.length = np) (hs : shp k = (0, ci, l)) (hcl : vwCl[ci]? = some q) (hr : q.1 = z.1.cls) (hrm : (rest.map fun v => v.category).sum ≤ 8) (hdp : d' + 1 ≤ d) (hd : decode y.2.1 pc = .ok (.invokevirtual idx, 3))
    (kk : InR M1 → VS E y d r M' (pc + 3) ls (rv.toList ++ rest) M1) : VS E y d r M' pc ls st M := by
  refine r_callV0 (hK hM) cw hw hst hn (shp_lt hs (by omega)) (fs := xflds E M k 0 l) (by unfold xC; rw [hs]; rfl) hcl hr hrm hdp (Nat.le_refl 0) (Nat.le_refl 0) hd ?_
  rintro v n' hp' ⟨rfl, rfl, rfl, h⟩
  exact kk h
theorem s_callS {z : xM} {nL d' np idx : Nat} {As rest : List Value} {rv : Option Value} {M1 : xMem} (hM : InR M) (hK : Ct E z nL d' As M rv M1) (cw : xcs z nL np) (hw : Cond.methodLink y.1.cls idx z.1 ∈ gT) (hst : st = As.reverse ++ rest) (hn : As.length = np) (hrm : (rest.map fun v => v.category).sum ≤ 8) (hdp : d' + 1 ≤ d) (hd : decode y.2.1 pc = .ok (.invokestatic idx, 3))
    (kk : InR M1 → VS E y d r M' (pc + 3) ls (rv.toList ++ rest) M1) : VS E y d r M' pc ls st M := by
  refine r_callS0 (hK hM) cw hw hst hn hrm hdp (Nat.le_refl 0) (Nat.le_refl 0) hd ?_
  rintro v n' hp' ⟨rfl, rfl, rfl, h⟩
  exact kk h
end XS
