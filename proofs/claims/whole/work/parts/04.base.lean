/-! ===== the layer: heaps as functions of relative addresses, a judgement over them ===== -/
abbrev xE : Type := Launch × Nat × va_G × (Nat → ClassId)
def xI (n : Int) : Int32 := Int32.ofInt n
def xJ (n : Int) : Int64 := Int64.ofInt n
abbrev xi (n : Int) : Value := .int (xI n)
abbrev xl (n : Int) : Value := .long (xJ n)
abbrev xr (E : xE) (k : Nat) : Value := .ref (E.2.1 + k)
def xA (E : xE) : Nat → Prop := fun q => E.2.1 ≤ q
def xW (E : xE) (n : Nat) (hp : Nat → va_E) : va_W := (List.range n).map fun k => (E.2.1 + k, hp k)
theorem xW_at {E : xE} {n : Nat} {hp : Nat → va_E} {k : Nat} (h : k < n) : (xW E n hp)[k]? = some (E.2.1 + k, hp k) := by
  simp [xW, h]
theorem xW_get {E : xE} {n : Nat} {hp : Nat → va_E} {k : Nat} {q : Nat × va_E} (h : (xW E n hp)[k]? = some q) : k < n ∧ q = (E.2.1 + k, hp k) := by
  have hk : k < n := by
    have := (List.getElem?_eq_some_iff.mp h).1
    simpa [xW] using this
  rw [xW_at hk] at h
  exact ⟨hk, (Option.some.inj h).symm⟩
theorem xD (E : xE) (n : Nat) (hp : Nat → va_E) : va_D (xA E) (xW E n hp) := by
  refine ⟨fun i j p q hi hj e => ?_, fun k q hk => ?_⟩
  · obtain ⟨_, rfl⟩ := xW_get hi
    obtain ⟨_, rfl⟩ := xW_get hj
    dsimp only at e
    omega
  · obtain ⟨_, rfl⟩ := xW_get hk
    exact Nat.le_add_right _ _
theorem xW_set {E : xE} {n : Nat} {hp : Nat → va_E} {k : Nat} {e : va_E} : (xW E n hp).set k (E.2.1 + k, e) = xW E n (va_up hp k e) := by
  apply List.ext_getElem?
  intro i
  rw [List.getElem?_set]
  by_cases hi : i < n
  · rw [xW_at hi, xW_at hi]
    by_cases hk : k = i
    · subst hk
      simp [xW, va_up, hi]
    · simp [hk, va_up, Ne.symm hk]
  · have h1 : (xW E n (va_up hp k e))[i]? = none := by simp [xW, Nat.not_lt.mp hi]
    have h2 : (xW E n hp)[i]? = none := by simp [xW, Nat.not_lt.mp hi]
    rw [h1, h2]
    by_cases hk : k = i
    · subst hk
      simp [xW, hi]
    · simp [hk]
def xP (E : xE) (n : Nat) (hp : Nat → va_E) (H : Heap) : Prop := H.size = E.2.1 + n ∧ va_P E.2.2.1 vwCl (xW E n hp) H
theorem xP.at {E : xE} {n : Nat} {hp : Nat → va_E} {H : Heap} (h : xP E n hp H) {k : Nat} (hk : k < n) : va_at E.2.2.1 vwCl (E.2.1 + k, hp k) H := h.2 k _ (xW_at hk)
theorem xP.put {E : xE} {n : Nat} {hp : Nat → va_E} {H H1 : Heap} (h : xP E n hp H) {k : Nat} (hk : k < n) {e : va_E} (z : H1.size = H.size) (oq : ∀ q : Nat, q ≠ E.2.1 + k → H1[q]? = H[q]?) (he : va_at E.2.2.1 vwCl (E.2.1 + k, e) H1) : xP E n (va_up hp k e) H1 := by
  refine ⟨by rw [z]; exact h.1, ?_⟩
  rw [← xW_set]
  exact h.2.set (xD E n hp) (xW_at hk) he oq
theorem xP.push {E : xE} {n : Nat} {hp : Nat → va_E} {H H1 : Heap} (h : xP E n hp H) {e : va_E} (z : H1.size = H.size + 1) (oq : ∀ q : Nat, q < H.size → H1[q]? = H[q]?) (he : va_at E.2.2.1 vwCl (E.2.1 + n, e) H1) : xP E (n + 1) (va_up hp n e) H1 := by
  refine ⟨by rw [z, h.1]; omega, fun k q hq => ?_⟩
  obtain ⟨hk, rfl⟩ := xW_get hq
  by_cases hn : k = n
  · subst hn
    simp only [va_up, if_pos]
    exact he
  · have hk' : k < n := by omega
    have h1 : va_up hp n e k = hp k := by simp [va_up, hn]
    rw [h1]
    exact (h.at hk').kept (oq _ (by rw [h.1]; show E.2.1 + k < _; omega))
def xtys (E : xE) : List (ClassId × FieldType) := [(E.2.2.2 0, .int), (E.2.2.2 1, .boolean), (E.2.2.2 2, .object RX5), (E.2.2.2 3, .object RX1), (E.2.2.2 4, .object RX6)]
def xtab (j : Nat) : List Int := match j with
  | 0 => [-1, 0, 1, 1, 0, 4]
  | 1 => [10, 11, 12, 11, 13, 14]
  | _ => [20, 21, 24, 22, 23, 23]
def xtabO (j : Nat) : String := match j with
  | 0 => RX9
  | _ => RX0
def xtabN (j : Nat) : String := match j with
  | 0 => "KIND_ABOVE"
  | 1 => "SIZE_BODIES"
  | _ => "MARK_BODIES"
def xZ (E : xE) (U : State) (H : Heap) : Prop := ∀ j, j < 3 → va_Z (xtabO j) (xtabN j) "[I" (.ref (E.2.2.2 (10 + j))) (xA E) U H ∧ va_T .int (E.2.2.2 (10 + j)) 6 (fun i => xi ((xtab j).getD i 0)) (xA E) U H
def xNest : List (String × Nat × MethodName) := [(RX9, 23, yX8_init), (RX9, 56, yX7_init), (RX9, 63, yX4_init), (RX4, 17, yX8_init), (RX9, 77, yX5_init), (RX9, 78, yX1_init), (RX1, 9, yX8_init)]
def xG (E : xE) (U : State) : Prop := va_K E.2.2.1 vwCl (xtys E) U ∧ (∀ w ∈ xNest, va_Nw (.methodLinkNest w.1 w.2.1 w.2.2 "CrierWeeks") U) ∧ (va_AO RX5 U ∧ va_AO RX1 U ∧ va_AO RX6 U) ∧ xZ E U U.heap
theorem xG.go {E : xE} {s U : State} (h : xG E s) (hW : s.WarmedH U.vm) (hq : ∀ a : Nat, a < s.heap.size → ¬ xA E a → U.heap[a]? = s.heap[a]?) : xG E U := by
  obtain ⟨h1, h2, ⟨h3, h4, h5⟩, h6⟩ := h
  refine ⟨va_K.moved hW.alike h1, fun w hw => va_Nw.warmM hW (h2 w hw), ⟨va_AO.moved hW.alike h3, va_AO.moved hW.alike h4, va_AO.moved hW.alike h5⟩, fun j hj => ?_⟩
  obtain ⟨a1, a2⟩ := h6 j hj
  exact ⟨va_Z.moved hW.alike (a1.kept hq), va_T.moved hW.alike (a2.kept hq)⟩
theorem xG.call {E : xE} {U : State} (h : xG E U) (g : JFrame) (mk : MethodId) (a : Array Value) : xG E (U.calling g mk a) := by
  obtain ⟨h1, h2, ⟨h3, h4, h5⟩, h6⟩ := h
  have hal : U.vm.Alike (U.calling g mk a).vm := Vm.Alike.refl U.vm
  refine ⟨va_K.moved hal h1, fun w hw => va_Nw.same rfl rfl (h2 w hw), ⟨va_AO.moved hal h3, va_AO.moved hal h4, va_AO.moved hal h5⟩, fun j hj => ?_⟩
  obtain ⟨a1, a2⟩ := h6 j hj
  exact ⟨va_Z.moved hal a1, va_T.moved hal a2⟩
/-! locals: a list of options -/
def xlv : Nat → List (Option Value) → List (Nat × Value)
  | _, [] => []
  | i, none :: t => xlv (i + 1) t
  | i, some v :: t => (i, v) :: xlv (i + 1) t
theorem xlv_mem : ∀ (ls : List (Option Value)) (i : Nat) (q : Nat × Value), q ∈ xlv i ls ↔ ∃ j, q.1 = i + j ∧ ls[j]? = some (some q.2)
  | [], i, q => by simp [xlv]
  | none :: t, i, q => by
    rw [xlv, xlv_mem t (i + 1) q]
    constructor
    · rintro ⟨j, h1, h2⟩
      exact ⟨j + 1, by omega, by simpa using h2⟩
    · rintro ⟨j, h1, h2⟩
      cases j with
      | zero => simp at h2
      | succ j => exact ⟨j, by omega, by simpa using h2⟩
  | some v :: t, i, q => by
    rw [xlv, List.mem_cons, xlv_mem t (i + 1) q]
    constructor
    · rintro (rfl | ⟨j, h1, h2⟩)
      · exact ⟨0, rfl, rfl⟩
      · exact ⟨j + 1, by omega, by simpa using h2⟩
    · rintro ⟨j, h1, h2⟩
      cases j with
      | zero =>
        left
        simp at h2
        obtain ⟨a, b⟩ := q
        simp at h1 h2
        subst h1; subst h2; rfl
      | succ j => exact Or.inr ⟨j, by omega, by simpa using h2⟩
def xL (la : Array Slot) (ls : List (Option Value)) : Prop := lv_has la ls.length (xlv 0 ls)
theorem xL.at {la : Array Slot} {ls : List (Option Value)} (h : xL la ls) {k : Nat} {v : Value} (hk : ls[k]? = some (some v)) : la[k]? = some (.val v) :=
  h.2.2 (k, v) ((xlv_mem ls 0 (k, v)).mpr ⟨k, by simp, hk⟩)
def xc1 : Option Value → Bool
  | none => true
  | some v => v.category == 1
theorem xL.set1 {la : Array Slot} {ls : List (Option Value)} (h : xL la ls) {i : Nat} {v : Value} (hi : i < ls.length) (hp : ∀ w, 0 < i → ls[i - 1]? = some w → xc1 w = true) {la' : Array Slot} (h' : lv_has la' ls.length ((i, v) :: (xlv 0 ls).filter (fun q => !(q.1 == i) && !(q.1 + 1 == i && q.2.category == 2)))) : xL la' (ls.set i (some v)) := by
  unfold xL
  rw [List.length_set]
  refine ⟨h'.1, h'.2.1, fun q hq => ?_⟩
  obtain ⟨j, e1, e2⟩ := (xlv_mem _ _ _).mp hq
  refine h'.2.2 q ?_
  rw [List.getElem?_set] at e2
  by_cases hj : i = j
  · subst hj
    simp [hi] at e2
    obtain ⟨a, b⟩ := q
    simp at e1 e2
    subst e1; subst e2
    exact List.mem_cons_self
  · rw [if_neg hj] at e2
    refine List.mem_cons_of_mem _ (List.mem_filter.mpr ⟨(xlv_mem _ _ _).mpr ⟨j, e1, e2⟩, ?_⟩)
    have a1 : ¬ q.1 = i := by omega
    simp only [Bool.and_eq_true, Bool.not_eq_true', beq_eq_false_iff_ne, ne_eq, Bool.and_eq_false_iff]
    refine ⟨a1, ?_⟩
    by_cases a2 : q.1 + 1 = i
    · right
      have := hp (some q.2) (by omega) (by rw [show i - 1 = j by omega]; exact e2)
      simp [xc1] at this
      omega
    · exact Or.inl a2
theorem xL.set2 {la : Array Slot} {ls : List (Option Value)} (h : xL la ls) {i : Nat} {v : Value} (hi : i + 1 < ls.length) (hp : ∀ w, 0 < i → ls[i - 1]? = some w → xc1 w = true) {la' : Array Slot} (h' : lv_has la' ls.length ((i, v) :: (xlv 0 ls).filter (fun q => !(q.1 == i) && (!(q.1 == i + 1) && !(q.1 + 1 == i && q.2.category == 2))))) : xL la' ((ls.set i (some v)).set (i + 1) none) := by
  unfold xL
  rw [List.length_set, List.length_set]
  refine ⟨h'.1, h'.2.1, fun q hq => ?_⟩
  obtain ⟨j, e1, e2⟩ := (xlv_mem _ _ _).mp hq
  refine h'.2.2 q ?_
  rw [List.getElem?_set] at e2
  by_cases hj1 : i + 1 = j
  · subst hj1
    simp [hi] at e2
  · rw [if_neg hj1, List.getElem?_set] at e2
    by_cases hj : i = j
    · subst hj
      simp [show i < ls.length by omega] at e2
      obtain ⟨a, b⟩ := q
      simp at e1 e2
      subst e1; subst e2
      exact List.mem_cons_self
    · rw [if_neg hj] at e2
      refine List.mem_cons_of_mem _ (List.mem_filter.mpr ⟨(xlv_mem _ _ _).mpr ⟨j, e1, e2⟩, ?_⟩)
      have a1 : ¬ q.1 = i := by omega
      have a3 : ¬ q.1 = i + 1 := by omega
      simp only [Bool.and_eq_true, Bool.not_eq_true', beq_eq_false_iff_ne, ne_eq, Bool.and_eq_false_iff]
      refine ⟨a1, a3, ?_⟩
      by_cases a2 : q.1 + 1 = i
      · right
        have := hp (some q.2) (by omega) (by rw [show i - 1 = j by omega]; exact e2)
        simp [xc1] at this
        omega
      · exact Or.inl a2
/-- the locals with which a method begins -/
def xargs (av : List Value) (n : Nat) : List (Option Value) := (av.flatMap fun v => if v.category = 2 then [some v, none] else [some v]) ++ List.replicate n none
theorem xargs_at : ∀ (av : List Value) (n i j : Nat) (v : Value), (xargs av n)[j]? = some (some v) → (i + j, v) ∈ lv_args i av
  | [], n, i, j, v, h => by
    simp only [xargs, List.flatMap_nil, List.nil_append] at h
    have := List.eq_of_mem_replicate (List.mem_of_getElem? h)
    cases this
  | w :: av, n, i, j, v, h => by
    unfold lv_args
    by_cases hc : w.category = 2
    · have e : xargs (w :: av) n = some w :: none :: xargs av n := by simp [xargs, hc]
      rw [e] at h
      rw [if_pos hc]
      match j, h with
      | 0, h => simp at h; subst h; exact List.mem_cons_self
      | 1, h => simp at h
      | j + 2, h =>
        have h2 : (xargs av n)[j]? = some (some v) := by simpa using h
        have := xargs_at av n (i + 2) j v h2
        rw [show i + (j + 2) = i + 2 + j by omega]
        exact List.mem_cons_of_mem _ this
    · have e : xargs (w :: av) n = some w :: xargs av n := by simp [xargs, hc]
      rw [e] at h
      rw [if_neg hc]
      match j, h with
      | 0, h => simp at h; subst h; exact List.mem_cons_self
      | j + 1, h =>
        have h2 : (xargs av n)[j]? = some (some v) := by simpa using h
        have := xargs_at av n (i + 1) j v h2
        rw [show i + (j + 1) = i + 1 + j by omega]
        exact List.mem_cons_of_mem _ this
theorem xargs_len (av : List Value) (n : Nat) : (xargs av n).length = (lg_sl av).length + n := by
  induction av with
  | nil => simp [xargs, lg_sl]
  | cons w av ih =>
    by_cases hc : w.category = 2
    · have e : xargs (w :: av) n = some w :: none :: xargs av n := by simp [xargs, hc]
      have e2 : lg_sl (w :: av) = .val w :: .second :: lg_sl av := by simp [lg_sl, hc]
      rw [e, e2]
      simp only [List.length_cons]
      omega
    · have e : xargs (w :: av) n = some w :: xargs av n := by simp [xargs, hc]
      have e2 : lg_sl (w :: av) = .val w :: lg_sl av := by simp [lg_sl, hc]
      rw [e, e2]
      simp only [List.length_cons]
      omega
theorem xL.entry (av : List Value) (n : Nat) : xL ((lg_sl av ++ List.replicate n Slot.unset).toArray) (xargs av n) := by
  have h := lv_entry av (n := (lg_sl av).length + n) (by omega)
  rw [show (lg_sl av).length + n - (lg_sl av).length = n by omega] at h
  unfold xL
  rw [xargs_len]
  refine ⟨h.1, h.2.1, fun q hq => h.2.2 q ?_⟩
  obtain ⟨j, e1, e2⟩ := (xlv_mem _ _ _).mp hq
  have := xargs_at av n 0 j q.2 e2
  rw [show (0 : Nat) + j = q.1 by omega] at this
  exact this
/-! the judgement -/
def xOk (E : xE) (y : MethodName) (cc : ByteArray) (nL : Nat) (rt : Option FieldType) (p : Program) (s : State) (m : MethodId) (args : Array Value) (meth : Method) (c : Code) : Prop :=
  p.tables.exec = Jvm.exec ∧ c.code = cc ∧ c.maxLocals = nL ∧ s.vm.findClass y.cls = some m.cls ∧ (∀ w ∈ gT, w.before args s = true) ∧ meth.sig.returnType = rt ∧ meth.name = y.name ∧ meth.locks = false ∧ xG E s
def xRm (d mc ms : Nat) : Room := { frames := d, cells := mc, slots := ms, locals := 40 * d }
def xQ (E : xE) (Q : Option Value → Nat → (Nat → va_E) → Prop) : Array Value → State → Outcome → State → Prop := fun _ st o t => (∃ v n hp, o = .returned v ∧ Q v n hp ∧ xP E n hp t.heap) ∧ va_F (xA E) st t
abbrev xM : Type := MethodName × ByteArray × Option FieldType
def V0 (E : xE) (y : xM) (d mc ms : Nat) (Q : Option Value → Nat → (Nat → va_E) → Prop) (pc : Nat) (ls : List (Option Value)) (st : List Value) (n : Nat) (hp : Nat → va_E) (ce sl : Nat) : Prop :=
  ∀ (p : Program) (e : Env) (s : State) (m : MethodId) (args : Array Value) (below : List Frame) (meth : Method) (c : Code) (H : Heap) (locs : List Loc) (la : Array Slot),
    xOk E y.1 y.2.1 ls.length y.2.2 p s m args meth c → xP E n hp H → va_S (xA E) s.heap H locs → xL la ls →
    W p E.1 e (xRm d mc ms) s m args below meth c H locs ce sl (MQ below (xQ E Q) args s mc ms (xA E)) (F0 m pc la st)
/-- a method's contract -/
def xK (E : xE) (y : xM) (nL d mc ms : Nat) (av : List Value) (n : Nat) (hp : Nat → va_E) (Q : Option Value → Nat → (Nat → va_E) → Prop) : Prop :=
  Met E.1 y.1 (.code y.1 y.2.1 nL y.2.2 :: gT) (xRm d mc ms) (va_Pc av (fun U => xP E n hp U.heap ∧ xG E U)) (xQ E Q) mc ms (xA E)
theorem xK.of {E : xE} {y : xM} {d mc ms : Nat} {av : List Value} {n : Nat} {hp : Nat → va_E} {Q : Option Value → Nat → (Nat → va_E) → Prop} (k : Nat) (hy : plainName y.1.cls = true)
    (h : V0 E y d mc ms Q 0 (xargs av k) [] n hp 0 0) : xK E y ((lg_sl av).length + k) d mc ms av n hp Q := by
  refine Met.ofW (cc := y.2.1) (maxL := (lg_sl av).length + k) (ret := y.2.2) hy rfl ?_
  intro p e s m args below meth c s₁ B hml hv
  obtain ⟨rfl, hP, hG⟩ := hv
  have hts0 := atoms_spec (ws := .code y.1 y.2.1 ((lg_sl av).length + k) y.2.2 :: gT) B.pre
  rw [lg_entry_eq, show (lg_sl av).length + k - (lg_sl av).length = k by omega]
  refine h p e s m _ below meth c s.heap [] _ ⟨B.exec, B.bytes, by rw [xargs_len]; exact hml, findClass_of_methodNamed B.named, fun w hw => hts0 w (List.mem_cons_of_mem _ hw), B.returns, (name_of_methodNamed B.named B.method).1, B.notSynchronized, hG⟩ hP va_S.rf (xL.entry av k)
