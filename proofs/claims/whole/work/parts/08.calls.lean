section XC
variable {E : xE} {y : xM} {d mc ms : Nat} {Q : Option Value → Nat → (Nat → va_E) → Prop} {pc : Nat} {ls : List (Option Value)} {n : Nat} {hp : Nat → va_E} {ce sl : Nat}
variable {z : xM} {nL d' mc' ms' idx np : Nat} {Q' : Option Value → Nat → (Nat → va_E) → Prop} {As rest st : List Value}
/-- what a call of z needs of the tables -/
def xcw (z : xM) (nL np : Nat) : Prop := Cond.initialized z.1.cls ∈ gT ∧ Cond.code z.1 z.2.1 nL z.2.2 ∈ gT ∧ (z.1.cls ≠ "java/lang/invoke/MethodHandle" ∧ z.1.cls ≠ "java/lang/invoke/VarHandle" ∧ (parseMethodDescriptor z.1.desc).map (fun d => d.parameters.length) = some np) ∧ nL ≤ 21
def xcv (z : xM) (nL np : Nat) : Prop := xcw z nL np ∧ Cond.instanceMethod z.1 ∈ gT ∧ Cond.selects z.1.cls z.1 z.1 ∈ gT
def xcs (z : xM) (nL np : Nat) : Prop := xcw z nL np ∧ Cond.static z.1 ∈ gT
def xci (z : xM) (nL np : Nat) : Prop := xcw z nL np ∧ Cond.instanceMethod z.1 ∈ gT ∧ z.1.name = "<init>"
theorem gT_code {z : xM} {nL : Nat} (h : Cond.code z.1 z.2.1 nL z.2.2 ∈ gT) : GoodIn gT (.code z.1 z.2.1 nL z.2.2 :: gT) := fun w hw => by
  rcases List.mem_cons.mp hw with rfl | hw
  · exact gT_good _ h
  · exact gT_good _ hw
theorem xBlind {av : List Value} : FrameBlind (va_Pc av (fun U => xP E n hp U.heap ∧ xG E U)) := fun a U g mk q => ⟨q.1, q.2.1, q.2.2.call g mk a⟩
/-- what comes behind a call -/
theorem xBack {p : Program} {e : Env} {s : State} {m : MethodId} {args : Array Value} {below : List Frame} {meth : Method} {c : Code} {H : Heap} {locs : List Loc} {la : Array Slot} {a : Array Value}
    (ok : xOk E y.1 y.2.1 ls.length y.2.2 p s m args meth c) (hS : va_S (xA E) s.heap H locs) (hL : xL la ls)
    (hr : va_Run p E.1 e (xRm d mc ms) s m args below meth c H locs ce sl mc' ms' (F0 m pc la st) rest (xQ E Q' a) (xA E))
    (kk : ∀ v n' hp', Q' v n' hp' → V0 E y d mc ms Q (pc + 3) ls (v.toList ++ rest) n' hp' (ce + mc') (sl + ms')) :
    W p E.1 e (xRm d mc ms) s m args below meth c H locs ce sl (MQ below (xQ E Q) args s mc ms (xA E)) (F0 m pc la st) := by
  intro T hT X
  obtain ⟨v, st₀, t, T', L, h0, X', hLo, e1, e2, ⟨⟨v', n', hp', hv, hq, hP'⟩, hz, hkk⟩, stp⟩ := hr T hT X
  cases hv
  rw [h0] at hz hkk
  obtain ⟨t2, a1, b1⟩ := kk v n' hp' hq p e s m args below meth c T'.heap (locs ++ L) la ok (by rw [e1]; exact hP')
    ⟨Nat.le_trans hS.1 (by rw [e1]; exact hz), fun q h1 h2 => by rw [e1, hkk q (Nat.lt_of_lt_of_le h1 hS.1) h2]; exact hS.2.1 q h1 h2, fun q hq => by
      rcases List.mem_append.mp hq with h | h
      · exact hS.2.2 q h
      · exact hLo q h⟩ hL T' rfl X'
  exact ⟨t2, stp t2 a1, b1⟩
theorem r_callV0 {k ci : Nat} {fs : List Value} {r : vw_C} (hK : xK E z nL d' mc' ms' (xr E k :: As) n hp Q') (cw : xcv z nL np) (hw : Cond.methodLink y.1.cls idx z.1 ∈ gT) (hst : st = As.reverse ++ xr E k :: rest) (hn : As.length = np) (hk : k < n) (hc : hp k = .inr (ci, fs)) (hcl : vwCl[ci]? = some r) (hr : r.1 = z.1.cls) (hrm : (rest.map fun v => v.category).sum ≤ 8) (hdp : d' + 1 ≤ d) (hcm : ce + mc' ≤ mc) (hsm : sl + ms' ≤ ms) (hd : decode y.2.1 pc = .ok (.invokevirtual idx, 3))
    (kk : ∀ v n' hp', Q' v n' hp' → V0 E y d mc ms Q (pc + 3) ls (v.toList ++ rest) n' hp' (ce + mc') (sl + ms')) : V0 E y d mc ms Q pc ls st n hp ce sl := by
  intro p e s m args below meth c H locs la ok hP hS hL
  have hts := ok.2.2.2.2.1
  obtain ⟨⟨c1, c2, c3, c4⟩, c5, c6⟩ := cw
  have hcb := callB_of (R := xRm d mc ms) (own := y.1.cls) (index := idx) np hts (gT_code c2) rfl (rm := xRm d' mc' ms') (mc := mc') (ms := ms') rfl rfl (hts _ c1) (hts _ hw) c3 ⟨hdp, by show 8 + (nL + 11) + 40 * d' ≤ 40 * d; omega⟩
  subst hst
  refine xBack (a := (xr E k :: As).toArray) ok hS hL (va_runV (C := z.1.cls) (b := E.2.1 + k) (As := As) (rest := rest) ⟨ok.1, ok.2.1, ok.2.2.1, ok.2.2.2.1, hts⟩ hK ⟨hcb, hts _ c5, hts _ c6⟩ ⟨xBlind, ?_, fun U hU hW => ⟨rfl, by rw [hU]; exact hP, ok.2.2.2.2.2.2.2.2.go hW (fun a h1 h2 => by rw [hU]; exact hS.2.1 a h1 h2)⟩⟩ rfl hn hL.1 rfl (lv_room hrm) hd ⟨hcm, hsm⟩) kk
  rw [← hr]
  exact va_recv ok.2.2.2.2.2.2.2.2.1 hP.2 (q0 := k) hcl (by rw [xW_at hk, hc])
theorem r_callS0 (hK : xK E z nL d' mc' ms' As n hp Q') (cw : xcs z nL np) (hw : Cond.methodLink y.1.cls idx z.1 ∈ gT) (hst : st = As.reverse ++ rest) (hn : As.length = np) (hrm : (rest.map fun v => v.category).sum ≤ 8) (hdp : d' + 1 ≤ d) (hcm : ce + mc' ≤ mc) (hsm : sl + ms' ≤ ms) (hd : decode y.2.1 pc = .ok (.invokestatic idx, 3))
    (kk : ∀ v n' hp', Q' v n' hp' → V0 E y d mc ms Q (pc + 3) ls (v.toList ++ rest) n' hp' (ce + mc') (sl + ms')) : V0 E y d mc ms Q pc ls st n hp ce sl := by
  intro p e s m args below meth c H locs la ok hP hS hL
  have hts := ok.2.2.2.2.1
  obtain ⟨⟨c1, c2, c3, c4⟩, c5⟩ := cw
  have hcb := callB_of (R := xRm d mc ms) (own := y.1.cls) (index := idx) np hts (gT_code c2) rfl (rm := xRm d' mc' ms') (mc := mc') (ms := ms') rfl rfl (hts _ c1) (hts _ hw) c3 ⟨hdp, by show 8 + (nL + 11) + 40 * d' ≤ 40 * d; omega⟩
  subst hst
  exact xBack (a := As.toArray) ok hS hL (va_runS (As := As) (rest := rest) ⟨ok.1, ok.2.1, ok.2.2.1, ok.2.2.2.1, hts⟩ hK ⟨hcb, hts _ c5⟩ ⟨xBlind, fun U hU hW => ⟨rfl, by rw [hU]; exact hP, ok.2.2.2.2.2.2.2.2.go hW (fun a h1 h2 => by rw [hU]; exact hS.2.1 a h1 h2)⟩⟩ rfl hn hL.1 rfl (lv_room hrm) hd ⟨hcm, hsm⟩) kk
theorem r_callI0 {k : Nat} (hz : z.2.2 = none) (hK : xK E z nL d' mc' ms' (xr E k :: As) n hp Q') (cw : xci z nL np) (hw : Cond.methodLink y.1.cls idx z.1 ∈ gT) (hst : st = As.reverse ++ xr E k :: rest) (hn : As.length = np) (hrm : (rest.map fun v => v.category).sum ≤ 8) (hdp : d' + 1 ≤ d) (hcm : ce + mc' ≤ mc) (hsm : sl + ms' ≤ ms) (hd : decode y.2.1 pc = .ok (.invokespecial idx, 3))
    (kk : ∀ v n' hp', Q' v n' hp' → V0 E y d mc ms Q (pc + 3) ls (v.toList ++ rest) n' hp' (ce + mc') (sl + ms')) : V0 E y d mc ms Q pc ls st n hp ce sl := by
  intro p e s m args below meth c H locs la ok hP hS hL
  have hts := ok.2.2.2.2.1
  obtain ⟨⟨c1, c2, c3, c4⟩, c5, c6⟩ := cw
  have hcb := callB_of (R := xRm d mc ms) (own := y.1.cls) (index := idx) np hts (gT_code c2) rfl (rm := xRm d' mc' ms') (mc := mc') (ms := ms') rfl rfl (hts _ c1) (hts _ hw) c3 ⟨hdp, by show 8 + (nL + 11) + 40 * d' ≤ 40 * d; omega⟩
  rw [hz] at hcb
  unfold xK at hK
  rw [hz] at hK
  subst hst
  exact xBack (a := (xr E k :: As).toArray) ok hS hL (va_runI (b := E.2.1 + k) (As := As) (rest := rest) ⟨ok.1, ok.2.1, ok.2.2.1, ok.2.2.2.1, hts⟩ hK ⟨hcb, c6, hts _ c5⟩ ⟨xBlind, fun U hU hW => ⟨rfl, by rw [hU]; exact hP, ok.2.2.2.2.2.2.2.2.go hW (fun a h1 h2 => by rw [hU]; exact hS.2.1 a h1 h2)⟩⟩ rfl hn hL.1 rfl (lv_room hrm) hd ⟨hcm, hsm⟩) kk
theorem r_callN0 {k : Nat} (hz : z.2.2 = none) (hK : xK E z nL d' mc' ms' (xr E k :: As) n hp Q') (cw : xci z nL np) (hw : (y.1.cls, idx, z.1) ∈ xNest) (hst : st = As.reverse ++ xr E k :: rest) (hn : As.length = np) (hrm : (rest.map fun v => v.category).sum ≤ 8) (hdp : d' + 1 ≤ d) (hcm : ce + mc' ≤ mc) (hsm : sl + ms' ≤ ms) (hd : decode y.2.1 pc = .ok (.invokespecial idx, 3))
    (kk : ∀ v n' hp', Q' v n' hp' → V0 E y d mc ms Q (pc + 3) ls (v.toList ++ rest) n' hp' (ce + mc') (sl + ms')) : V0 E y d mc ms Q pc ls st n hp ce sl := by
  intro p e s m args below meth c H locs la ok hP hS hL
  have hts := ok.2.2.2.2.1
  obtain ⟨⟨c1, c2, c3, c4⟩, c5, c6⟩ := cw
  have hcb := va_cnB (R := xRm d mc ms) (own := y.1.cls) (host := "CrierWeeks") (index := idx) np hts (gT_code c2) rfl (rm := xRm d' mc' ms') (mc := mc') (ms := ms') rfl rfl (ok.2.2.2.2.2.2.2.2.2.1 _ hw) (hts _ c1) c3 ⟨hdp, by show 8 + (nL + 11) + 40 * d' ≤ 40 * d; omega⟩
  unfold xK at hK
  rw [hz] at hK hcb
  subst hst
  exact xBack (a := (xr E k :: As).toArray) ok hS hL (va_runIN (b := E.2.1 + k) (As := As) (rest := rest) ⟨ok.1, ok.2.1, ok.2.2.1, ok.2.2.2.1, hts⟩ hK ⟨hcb, c6, hts _ c5⟩ ⟨xBlind, fun U hU hW => ⟨rfl, by rw [hU]; exact hP, ok.2.2.2.2.2.2.2.2.go hW (fun a h1 h2 => by rw [hU]; exact hS.2.1 a h1 h2)⟩⟩ rfl hn hL.1 rfl (lv_room hrm) hd ⟨hcm, hsm⟩) kk
theorem r_objInit {k : Nat} (hw1 : Cond.methodLink y.1.cls idx Lib.objectInit ∈ gT) (hw2 : Cond.instanceMethod Lib.objectInit ∈ gT) (hw3 : Cond.code Lib.objectInit ⟨#[0xb1]⟩ 1 none ∈ gT) (hrm : (rest.map fun v => v.category).sum ≤ 8) (hdp : 1 ≤ d) (hd : decode y.2.1 pc = .ok (.invokespecial idx, 3))
    (kk : V0 E y d mc ms Q (pc + 3) ls rest n hp ce sl) : V0 E y d mc ms Q pc ls (xr E k :: rest) n hp ce sl := by
  intro p e s m args below meth c H locs la ok hP hS hL
  have hts := ok.2.2.2.2.1
  exact W.objInit ok.1 ok.2.1 ok.2.2.2.1 (hts _ hw1) (hts _ hw2) (hts _ hw3) rfl (hL.1.trans ok.2.2.1.symm) rfl hd hdp (by show 2 * 0 + _ + 12 ≤ 40 * d; omega) (kk p e s m args below meth c H locs la ok hP hS hL)
theorem r_max {a b : Int} (hw1 : Cond.methodLink y.1.cls idx Lib.Math.max.name ∈ gT) (hw2 : Cond.static Lib.Math.max.name ∈ gT) (hw3 : Cond.initialized "java/lang/Math" ∈ gT) (hw4 : Cond.code Lib.Math.max.name Lib.Math.max.code 2 (some .int) ∈ gT) (hrm : (rest.map fun v => v.category).sum ≤ 8) (hdp : 1 ≤ d) (hc : ce ≤ mc) (hs : sl ≤ ms) (ha : -2147483648 ≤ a ∧ a < 2147483648) (hb : -2147483648 ≤ b ∧ b < 2147483648) (hd : decode y.2.1 pc = .ok (.invokestatic idx, 3))
    (kk : V0 E y d mc ms Q (pc + 3) ls (xi (max a b) :: rest) n hp ce sl) : V0 E y d mc ms Q pc ls (xi b :: xi a :: rest) n hp ce sl := by
  intro p e s m args below meth c H locs la ok hP hS hL
  have hts := ok.2.2.2.2.1
  refine va_mmax ok.1 ok.2.1 (ok.2.2.1.trans hL.1.symm) ok.2.2.2.1 (hts _ hw1) (hts _ hw2) (hts _ hw3) (hts _ hw4) hdp (by show _ + 13 ≤ 40 * d; omega) hc hs hd ?_
  have e1 : (if xI a < xI b then xI b else xI a) = xI (max a b) := by
    by_cases h : a < b
    · rw [if_pos ((xI_lt ha hb).mpr h), Int.max_eq_right (by omega)]
    · rw [if_neg (fun q => h ((xI_lt ha hb).mp q)), Int.max_eq_left (by omega)]
  rw [e1]
  exact kk p e s m args below meth c H locs la ok hP hS hL
theorem r_min {a b : Int} (hw1 : Cond.methodLink y.1.cls idx Lib.Math.min.name ∈ gT) (hw2 : Cond.static Lib.Math.min.name ∈ gT) (hw3 : Cond.initialized "java/lang/Math" ∈ gT) (hw4 : Cond.code Lib.Math.min.name Lib.Math.min.code 2 (some .int) ∈ gT) (hrm : (rest.map fun v => v.category).sum ≤ 8) (hdp : 1 ≤ d) (hc : ce ≤ mc) (hs : sl ≤ ms) (ha : -2147483648 ≤ a ∧ a < 2147483648) (hb : -2147483648 ≤ b ∧ b < 2147483648) (hd : decode y.2.1 pc = .ok (.invokestatic idx, 3))
    (kk : V0 E y d mc ms Q (pc + 3) ls (xi (min a b) :: rest) n hp ce sl) : V0 E y d mc ms Q pc ls (xi b :: xi a :: rest) n hp ce sl := by
  intro p e s m args below meth c H locs la ok hP hS hL
  have hts := ok.2.2.2.2.1
  refine va_mmin ok.1 ok.2.1 (ok.2.2.1.trans hL.1.symm) ok.2.2.2.1 (hts _ hw1) (hts _ hw2) (hts _ hw3) (hts _ hw4) hdp (by show _ + 13 ≤ 40 * d; omega) hc hs hd ?_
  have e1 : (if xI b < xI a then xI b else xI a) = xI (min a b) := by
    by_cases h : b < a
    · rw [if_pos ((xI_lt hb ha).mpr h), Int.min_eq_right (by omega)]
    · rw [if_neg (fun q => h ((xI_lt hb ha).mp q)), Int.min_eq_left (by omega)]
  rw [e1]
  exact kk p e s m args below meth c H locs la ok hP hS hL
theorem r_acopy {k0 k1 n0 n1 : Nat} {f g : Nat → Int32} {sp dp cn : Int} (hw1 : Cond.methodLink y.1.cls idx arraycopyName ∈ gT) (hw2 : Cond.native arraycopyName ∈ gT) (hw3 : Cond.static arraycopyName ∈ gT) (hw4 : Cond.initialized "java/lang/System" ∈ gT) (hk0 : k0 < n) (hk1 : k1 < n) (hc0 : hp k0 = .inl (E.2.2.2 0, n0, .inl f)) (hc1 : hp k1 = .inl (E.2.2.2 0, n1, .inl g)) (h1 : 0 ≤ sp) (h2 : 0 ≤ dp) (h3 : 0 ≤ cn) (h4 : sp + cn ≤ n0) (h5 : dp + cn ≤ n1) (hn0 : n0 < 2147483648) (hn1 : n1 < 2147483648) (hrm : (rest.map fun v => v.category).sum ≤ 8) (hdp : 1 ≤ d) (hd : decode y.2.1 pc = .ok (.invokestatic idx, 3))
    (kk : V0 E y d mc ms Q (pc + 3) ls rest n (va_up hp k1 (.inl (E.2.2.2 0, n1, .inl (va_cpy f g sp.toNat dp.toNat cn.toNat)))) ce sl) : V0 E y d mc ms Q pc ls (xi cn :: xi dp :: xr E k1 :: xi sp :: xr E k0 :: rest) n hp ce sl := by
  intro p e s m args below meth c H locs la ok hP hS hL
  have hts := ok.2.2.2.2.1
  have z0 : ∀ q : Int, 0 ≤ q → q < 2147483648 → ¬ xI q < 0 := fun q a b => by rw [show (0 : Int32) = xI 0 from rfl, xI_lt (by omega) (by omega)]; omega
  have nn : ∀ q : Int, 0 ≤ q → q < 2147483648 → (xI q).toInt = ((q.toNat : Nat) : Int) := fun q a b => by rw [xI_toInt (by omega)]; omega
  have cl : ∀ q : Int, 0 ≤ q → q < 2147483648 → (xI q).toNatClampNeg = q.toNat := fun q a b => xI_clamp (by omega)
  intro T hT X
  have hat0 : H[E.2.1 + k0]? = some (vp_cell (E.2.2.2 0) (n0, .inl f)) := by have := hP.at hk0; rw [hc0] at this; exact this
  have hat1 : H[E.2.1 + k1]? = some (vp_cell (E.2.2.2 0) (n1, .inl g)) := by have := hP.at hk1; rw [hc1] at this; exact this
  have hK := ok.2.2.2.2.2.2.2.2.1
  obtain ⟨-, c0, hcc0, cm0, hkk0⟩ := (hK.2 0 _ rfl).1 n0 (fun j => .int (f j))
  obtain ⟨vm', X', step⟩ := X.arraycopy ok.1 ok.2.2.2.1 (hts _ hw1) (hts _ hw2) (hts _ hw3) (hts _ hw4) (src := E.2.1 + k0) (dst := E.2.1 + k1) (cs := vp_cell (E.2.2.2 0) (n0, .inl f)) (cd := vp_cell (E.2.2.2 0) (n1, .inl g)) (srcPos := xI sp) (destPos := xI dp) (n := xI cn) (by rw [hT]; exact hat0) (by rw [hT]; exact hat1)
    (fun _ h => by cases h) (fun _ h => by cases h) (fun h => by cases h) (fun h => by cases h) hcc0 hcc0 hkk0 hkk0 (by simp [refKind]) (z0 sp h1 (by omega)) (z0 dp h2 (by omega)) (z0 cn h3 (by omega))
    (by rw [nn sp h1 (by omega), nn cn h3 (by omega)]; show ¬ _ > ((arrV _ n0 (fun j => .int (f j))).slots.size : Int); rw [arrV_size]; omega)
    (by rw [nn dp h2 (by omega), nn cn h3 (by omega)]; show ¬ _ > ((arrV _ n1 (fun j => .int (g j))).slots.size : Int); rw [arrV_size]; omega)
    (fun vm₁ _ i hi => by
      rw [cl cn h3 (by omega)] at hi
      rw [cl sp h1 (by omega)]
      have e : (vp_cell (E.2.2.2 0) (n0, .inl f)).slots.getD (sp.toNat + i) .null = .int (f (sp.toNat + i)) := by
        show (arrV _ n0 (fun j => .int (f j))).slots.getD _ _ = _
        rw [Array.getD_eq_getD_getElem?, arrV_read _ _ (by omega)]
        rfl
      refine ⟨?_, ?_⟩
      · rw [e]
        rfl
      · rw [e]
        exact trivial)
    (g := F0 m pc la (xi cn :: xi dp :: xr E k1 :: xi sp :: xr E k0 :: rest)) rfl (ok.2.2.1.trans hL.1.symm).symm (rest := rest) rfl (by rw [ok.2.1]; exact hd) hdp (by show 2 * 0 + _ + (nativeFrameWords "java/lang/System" "arraycopy" 5 + 11) ≤ 40 * d; have hnw : nativeFrameWords "java/lang/System" "arraycopy" 5 ≤ 21 := (by decide +kernel); omega)
  have e1 : copied (vp_cell (E.2.2.2 0) (n0, .inl f)) (vp_cell (E.2.2.2 0) (n1, .inl g)) (xI sp) (xI dp) (xI cn) = vp_cell (E.2.2.2 0) (n1, .inl (va_cpy f g sp.toNat dp.toNat cn.toNat)) := by
    have := va_copied (fun z => .int z) (E.2.2.2 0) (E.2.2.2 0) (n0 := n0) (n1 := n1) (sp := sp.toNat) (dp := dp.toNat) (n := cn.toNat) f g (by omega)
    rw [← cl sp h1 (by omega), ← cl dp h2 (by omega), ← cl cn h3 (by omega)] at this ⊢
    exact this
  rw [e1] at X' step
  have hlt : E.2.1 + k1 < H.size := (Array.getElem?_eq_some_iff.mp hat1).1
  have hheap : ((T.setVm vm').setCell (E.2.1 + k1) (vp_cell (E.2.2.2 0) (n1, .inl (va_cpy f g sp.toNat dp.toNat cn.toNat)))).heap = H.setIfInBounds (E.2.1 + k1) (vp_cell (E.2.2.2 0) (n1, .inl (va_cpy f g sp.toNat dp.toNat cn.toNat))) := by rw [← hT]; rfl
  have oq : ∀ q : Nat, q ≠ E.2.1 + k1 → (H.setIfInBounds (E.2.1 + k1) (vp_cell (E.2.2.2 0) (n1, .inl (va_cpy f g sp.toNat dp.toNat cn.toNat))))[q]? = H[q]? := fun q hq => by simp [Array.getElem?_setIfInBounds, Ne.symm hq]
  obtain ⟨t, a1, b1⟩ := kk p e s m args below meth c (H.setIfInBounds (E.2.1 + k1) (vp_cell (E.2.2.2 0) (n1, .inl (va_cpy f g sp.toNat dp.toNat cn.toNat)))) _ la ok (hP.put hk1 (by simp) oq (show (H.setIfInBounds (E.2.1 + k1) _)[E.2.1 + k1]? = some _ by simp [Array.getElem?_setIfInBounds, hlt])) ⟨by simp; exact hS.1, fun q g1 g2 => by
      rw [oq q (fun e => g2 (by rw [e]; exact Nat.le_add_right _ _))]
      exact hS.2.1 q g1 g2, fun q hq => by
      rcases List.mem_append.mp hq with h | h
      · exact hS.2.2 q h
      · obtain ⟨z, -, hz⟩ := List.mem_map.mp h
        rw [← hz]
        exact Nat.le_add_right _ _⟩ hL _ hheap X'
  exact ⟨t, step t a1, b1⟩
end XC
