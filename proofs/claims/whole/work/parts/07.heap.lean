section XH
variable {E : xE} {y : xM} {d mc ms : Nat} {Q : Option Value → Nat → (Nat → va_E) → Prop} {pc : Nat} {ls : List (Option Value)} {st : List Value} {n : Nat} {hp : Nat → va_E} {ce sl : Nat}
/-! returns -/
theorem r_iret {x : Int32} (hrt : y.2.2 = some .int) (hd : decode y.2.1 pc = .ok (.ireturn, 1)) (hc : ce ≤ mc) (hs : sl ≤ ms) (hq : Q (some (.int x)) n hp) : V0 E y d mc ms Q pc ls [.int x] n hp ce sl := by
  intro p e s m args below meth c H locs la ok hP hS hL
  refine W.widen hc hs ?_
  exact W.iret ok.1 ok.2.1 (ok.2.2.2.2.2.1.trans hrt) (fun t ht hW => ⟨⟨_, n, hp, rfl, hq, by rw [ht]; exact hP⟩, hS.F ht⟩) hS.2.2 hd (hlocks := ok.2.2.2.2.2.2.2.1)
theorem r_zret {x : Int32} (hx : x = xI 0 ∨ x = xI 1) (hrt : y.2.2 = some .boolean) (hd : decode y.2.1 pc = .ok (.ireturn, 1)) (hc : ce ≤ mc) (hs : sl ≤ ms) (hq : Q (some (.int x)) n hp) : V0 E y d mc ms Q pc ls [.int x] n hp ce sl := by
  intro p e s m args below meth c H locs la ok hP hS hL
  refine W.widen hc hs ?_
  exact W.zret (ty := .boolean) ok.1 ok.2.1 (ok.2.2.2.2.2.1.trans hrt) (by rcases hx with rfl | rfl <;> rfl) (fun t ht hW => ⟨⟨_, n, hp, rfl, hq, by rw [ht]; exact hP⟩, hS.F ht⟩) hS.2.2 hd (hlocks := ok.2.2.2.2.2.2.2.1)
theorem r_lret {x : Int64} (hrt : y.2.2 = some .long) (hd : decode y.2.1 pc = .ok (.lreturn, 1)) (hc : ce ≤ mc) (hs : sl ≤ ms) (hq : Q (some (.long x)) n hp) : V0 E y d mc ms Q pc ls [.long x] n hp ce sl := by
  intro p e s m args below meth c H locs la ok hP hS hL
  refine W.widen hc hs ?_
  exact W.lret ok.1 ok.2.1 (ok.2.2.2.2.2.1.trans hrt) (fun t ht hW => ⟨⟨_, n, hp, rfl, hq, by rw [ht]; exact hP⟩, hS.F ht⟩) hS.2.2 hd (hlocks := ok.2.2.2.2.2.2.2.1)
theorem r_vret (hrt : y.2.2 = none) (hd : decode y.2.1 pc = .ok (.return_, 1)) (hc : ce ≤ mc) (hs : sl ≤ ms) (hq : Q none n hp) : V0 E y d mc ms Q pc ls [] n hp ce sl := by
  intro p e s m args below meth c H locs la ok hP hS hL
  refine W.widen hc hs ?_
  exact W.vret ok.1 ok.2.1 (ok.2.2.2.2.2.1.trans hrt) (fun t ht hW => ⟨⟨_, n, hp, rfl, hq, by rw [ht]; exact hP⟩, hS.F ht⟩) hS.2.2 hd (hlocks := ok.2.2.2.2.2.2.2.1)
/-! fields -/
def xcls (ci : Nat) (C : String) (T : u_T) (N : Nat) (ty : Nat → FieldType) : Prop := vwCl[ci]? = some (C, T, N) ∧ (∀ w ∈ u_ws C T N, w ∈ gT) ∧ (∀ k, k < N → parseFieldDescriptor (T k).2.2.1 = some (ty k)) ∧ (∀ a, a < N → ∀ b, b < N → a ≠ b → (T a).2.1 ≠ (T b).2.1)
theorem r_get {C : String} {T : u_T} {N : Nat} {ty : Nat → FieldType} {ci f idx k : Nat} {fs : List Value} {v : Value} (hx : xcls ci C T N ty) (hw : Cond.fieldLink y.1.cls idx (T f).1 (T f).2.1 (T f).2.2.1 ∈ gT) (hf : f < N) (hk : k < n) (hc : hp k = .inr (ci, fs)) (hv : fs[f]? = some v) (hd : decode y.2.1 pc = .ok (.getfield idx, 3))
    (kk : V0 E y d mc ms Q (pc + 3) ls (v :: st) n hp ce sl) : V0 E y d mc ms Q pc ls (xr E k :: st) n hp ce sl := by
  intro p e s m args below meth c H locs la ok hP hS hL
  have hts := ok.2.2.2.2.1
  exact va_get (D := E.2.2.1) (cl := vwCl) ok.1 ok.2.1 hts hx.2.1 ok.2.2.2.1 ok.2.2.2.2.2.2.2.2.1 hP.2 k (by rw [xW_at hk, hc]) hx.1 f hf (hts _ hw) (fun _ h => h) hv hd (kk p e s m args below meth c H locs la ok hP hS hL)
theorem r_put {C : String} {T : u_T} {N : Nat} {ty : Nat → FieldType} {ci f idx k : Nat} {fs : List Value} {v : Value} (hx : xcls ci C T N ty) (hw : Cond.fieldLink y.1.cls idx (T f).1 (T f).2.1 (T f).2.2.1 ∈ gT) (hf : f < N) (hfin : (T f).2.2.2 = false) (hn : narrow (ty f) v = v) (hft : fits (ty f) v = true) (hk : k < n) (hc : hp k = .inr (ci, fs)) (hl : f < fs.length) (hd : decode y.2.1 pc = .ok (.putfield idx, 3))
    (kk : V0 E y d mc ms Q (pc + 3) ls st n (va_up hp k (.inr (ci, fs.set f v))) ce sl) : V0 E y d mc ms Q pc ls (v :: xr E k :: st) n hp ce sl := by
  intro p e s m args below meth c H locs la ok hP hS hL
  have hts := ok.2.2.2.2.1
  have hK := ok.2.2.2.2.2.2.2.2.1
  have hap := va_apart (own := y.1.cls) hts hx.2.1 ty hx.2.2.1 hx.2.2.2 hK hx.1
  have hat := hP.at hk
  rw [hc] at hat
  obtain ⟨r, h1, cell, q1, q2, q3, q4⟩ := hat
  have hr : r = (C, T, N) := Option.some.inj (h1.symm.trans hx.1)
  subst hr
  obtain ⟨hSl, hfc, kC, hkC, hkind⟩ := hK.1 ci _ hx.1
  obtain ⟨cf, kf, fi, fd, hi, hsl⟩ := hSl f hf
  have hlay := hts _ (hx.2.1 _ (u_in_lay hf))
  unfold u_lay at hlay
  rw [if_neg (by rw [hfin]; decide)] at hlay
  have hst := (u_facts hfc hkC (u_lays hts hx.2.1 hf) hi).1
  have h6 := u_store hfc hkC hkind hlay hi (hx.2.2.1 f hf) hn hft
  refine W.putK ok.1 ok.2.1 (f := fd) ⟨ok.2.2.2.1, hts _ hw, ⟨_, _, _, hi⟩, hst⟩ (by rw [q2]; exact h6) q1 q3 (by rw [hsl]; exact k2_hasslot (q4 f hf)) rfl rfl hd fun H' e1 e2 e3 => ?_
  rw [hsl] at e1 ⊢
  exact kk p e s m args below meth c H' _ la ok (hP.put hk e2 e3 ⟨_, hx.1, t_OB.to (V := updV (vp_V fs) f v) ⟨_, e1, q2, q3, t_set q4 hap hf v⟩ (fun j _ => vp_updV_set hl v j)⟩) (hS.put e2 e3 (Nat.le_add_right _ _)) hL
theorem r_putF {C : String} {T : u_T} {N : Nat} {ty : Nat → FieldType} {ci f idx k : Nat} {fs : List Value} {v : Value} (hx : xcls ci C T N ty) (hw : Cond.fieldLink y.1.cls idx (T f).1 (T f).2.1 (T f).2.2.1 ∈ gT) (hf : f < N) (hfin : (T f).2.2.2 = true) (hin : y.1.name = "<init>") (hdecl : (T f).1 = y.1.cls) (hn : narrow (ty f) v = v) (hft : fits (ty f) v = true) (hk : k < n) (hc : hp k = .inr (ci, fs)) (hl : f < fs.length) (hd : decode y.2.1 pc = .ok (.putfield idx, 3))
    (kk : V0 E y d mc ms Q (pc + 3) ls st n (va_up hp k (.inr (ci, fs.set f v))) ce sl) : V0 E y d mc ms Q pc ls (v :: xr E k :: st) n hp ce sl := by
  intro p e s m args below meth c H locs la ok hP hS hL
  have hts := ok.2.2.2.2.1
  have hK := ok.2.2.2.2.2.2.2.2.1
  have hap := va_apart (own := y.1.cls) hts hx.2.1 ty hx.2.2.1 hx.2.2.2 hK hx.1
  have hat := hP.at hk
  rw [hc] at hat
  obtain ⟨r, h1, cell, q1, q2, q3, q4⟩ := hat
  have hr : r = (C, T, N) := Option.some.inj (h1.symm.trans hx.1)
  subst hr
  obtain ⟨hSl, hfc, kC, hkC, hkind⟩ := hK.1 ci _ hx.1
  obtain ⟨cf, kf, fi, fd, hi, hsl⟩ := hSl f hf
  have hlay := hts _ (hx.2.1 _ (u_in_lay hf))
  unfold u_lay at hlay
  rw [if_pos hfin] at hlay
  have hst := (u_facts hfc hkC (u_lays hts hx.2.1 hf) hi).1
  have hcf : m.cls = cf := by
    obtain ⟨_, _, c', _, _, _, -, -, hf', -, -, -, hown2, -⟩ := Cond.laysFinal_spec hlay
    have e1 : c' = cf := by have := hi.symm.trans hf'; simp at this; exact this.1.symm
    rw [hdecl] at hown2
    rw [← e1]; exact Option.some.inj (ok.2.2.2.1.symm.trans hown2)
  have h6 := u_fits hfc hkC hkind (Or.inr hlay) hi (hx.2.2.1 f hf) hn hft
  refine W.putFinK ok.1 ok.2.1 ok.2.2.2.1 (hts _ hw) hi hst hcf (ok.2.2.2.2.2.2.1.trans hin) (by rw [q2]; exact h6) q1 q3 (by rw [hsl]; exact k2_hasslot (q4 f hf)) rfl rfl hd fun H' e1 e2 e3 => ?_
  rw [hsl] at e1 ⊢
  exact kk p e s m args below meth c H' _ la ok (hP.put hk e2 e3 ⟨_, hx.1, t_OB.to (V := updV (vp_V fs) f v) ⟨_, e1, q2, q3, t_set q4 hap hf v⟩ (fun j _ => vp_updV_set hl v j)⟩) (hS.put e2 e3 (Nat.le_add_right _ _)) hL
/-! arrays -/
theorem r_iald {k N : Nat} {f : Nat → Int32} {i : Int} (hk : k < n) (hc : hp k = .inl (E.2.2.2 0, N, .inl f)) (h0 : 0 ≤ i) (h1 : i < N) (hN : N < 2147483648) (hd : decode y.2.1 pc = .ok (.iaload, 1))
    (kk : V0 E y d mc ms Q (pc + 1) ls (.int (f i.toNat) :: st) n hp ce sl) : V0 E y d mc ms Q pc ls (xi i :: xr E k :: st) n hp ce sl := by
  intro p e s m args below meth c H locs la ok hP hS hL
  refine va_iald (D := E.2.2.1) (cl := vwCl) (tys := xtys E) ok.1 ok.2.1 ok.2.2.2.2.2.2.2.2.1 hP.2 k 0 (by rw [xW_at hk, hc]) rfl (xI_in h0 h1 (by omega)) hd ?_
  rw [xI_clamp (by omega)]
  exact kk p e s m args below meth c H locs la ok hP hS hL
theorem r_zald {k N : Nat} {f : Nat → Int32} {i : Int} (hk : k < n) (hc : hp k = .inl (E.2.2.2 1, N, .inl f)) (h0 : 0 ≤ i) (h1 : i < N) (hN : N < 2147483648) (hd : decode y.2.1 pc = .ok (.baload, 1))
    (kk : V0 E y d mc ms Q (pc + 1) ls (.int (f i.toNat) :: st) n hp ce sl) : V0 E y d mc ms Q pc ls (xi i :: xr E k :: st) n hp ce sl := by
  intro p e s m args below meth c H locs la ok hP hS hL
  refine va_zald (D := E.2.2.1) (cl := vwCl) (tys := xtys E) ok.1 ok.2.1 ok.2.2.2.2.2.2.2.2.1 hP.2 k 1 (by rw [xW_at hk, hc]) rfl (xI_in h0 h1 (by omega)) hd ?_
  rw [xI_clamp (by omega)]
  exact kk p e s m args below meth c H locs la ok hP hS hL
theorem r_aald {k N t : Nat} {C : String} {f : Nat → Option Nat} {i : Int} (hk : k < n) (ht : (xtys E)[t]? = some (E.2.2.2 t, .object C)) (hc : hp k = .inl (E.2.2.2 t, N, .inr (.inr (.inr (.inr f))))) (h0 : 0 ≤ i) (h1 : i < N) (hN : N < 2147483648) (hd : decode y.2.1 pc = .ok (.aaload, 1))
    (kk : V0 E y d mc ms Q (pc + 1) ls (va_rf (f i.toNat) :: st) n hp ce sl) : V0 E y d mc ms Q pc ls (xi i :: xr E k :: st) n hp ce sl := by
  intro p e s m args below meth c H locs la ok hP hS hL
  refine va_aldq (D := E.2.2.1) (cl := vwCl) (tys := xtys E) ok.1 ok.2.1 ok.2.2.2.2.2.2.2.2.1 hP.2 k t (by rw [xW_at hk, hc]) ht (xI_in h0 h1 (by omega)) hd ?_
  rw [xI_clamp (by omega)]
  exact kk p e s m args below meth c H locs la ok hP hS hL
theorem r_iast {k N : Nat} {f : Nat → Int32} {i : Int} {x : Int32} (hk : k < n) (hc : hp k = .inl (E.2.2.2 0, N, .inl f)) (h0 : 0 ≤ i) (h1 : i < N) (hN : N < 2147483648) (hd : decode y.2.1 pc = .ok (.iastore, 1))
    (kk : V0 E y d mc ms Q (pc + 1) ls st n (va_up hp k (.inl (E.2.2.2 0, N, .inl (upd f i.toNat x)))) ce sl) : V0 E y d mc ms Q pc ls (.int x :: xi i :: xr E k :: st) n hp ce sl := by
  intro p e s m args below meth c H locs la ok hP hS hL
  have hat := hP.at hk
  rw [hc] at hat
  have hcl := xI_clamp (a := i) (by omega)
  refine W.iast ok.1 ok.2.1 hat ((ok.2.2.2.2.2.2.2.2.1.2 0 _ rfl).1 N (fun j => .int (f j))) (fun q => by cases q) (by show ¬ (_ < 0 ∨ (arrV _ _ _).slots.size ≤ _); rw [arrV_size]; exact xI_in h0 h1 (by omega)) rfl rfl hd fun H1 e1 z oq => ?_
  rw [hcl] at e1 ⊢
  refine kk p e s m args below meth c H1 _ la ok (hP.put hk z oq ?_) (hS.put z oq (Nat.le_add_right _ _)) hL
  show H1[_]? = some (vp_cell _ _)
  rw [e1, vp_cell_i, vp_cell_i, arrV_store]
  congr 2
  funext q
  by_cases hq : q = i.toNat
  · subst hq
    simp [updV, upd]
  · simp [updV, upd, hq]
theorem r_zast {k N : Nat} {f : Nat → Int32} {i : Int} {x : Int32} (hx : x = xI 0 ∨ x = xI 1) (hk : k < n) (hc : hp k = .inl (E.2.2.2 1, N, .inl f)) (h0 : 0 ≤ i) (h1 : i < N) (hN : N < 2147483648) (hd : decode y.2.1 pc = .ok (.bastore, 1))
    (kk : V0 E y d mc ms Q (pc + 1) ls st n (va_up hp k (.inl (E.2.2.2 1, N, .inl (upd f i.toNat x)))) ce sl) : V0 E y d mc ms Q pc ls (.int x :: xi i :: xr E k :: st) n hp ce sl := by
  intro p e s m args below meth c H locs la ok hP hS hL
  have hat := hP.at hk
  rw [hc] at hat
  have hcl := xI_clamp (a := i) (by omega)
  have hnx : narrow .boolean (.int x) = .int x := by rcases hx with rfl | rfl <;> rfl
  refine W.zast ok.1 ok.2.1 hat ((ok.2.2.2.2.2.2.2.2.1.2 1 _ rfl).1 N (fun j => .int (f j))) (fun q => by cases q) (by show ¬ (_ < 0 ∨ (arrV _ _ _).slots.size ≤ _); rw [arrV_size]; exact xI_in h0 h1 (by omega)) rfl rfl hd fun H1 e1 z oq => ?_
  rw [hcl, hnx] at e1
  rw [hcl]
  refine kk p e s m args below meth c H1 _ la ok (hP.put hk z oq ?_) (hS.put z oq (Nat.le_add_right _ _)) hL
  show H1[_]? = some (vp_cell _ _)
  rw [e1, vp_cell_i, vp_cell_i, arrV_store]
  congr 2
  funext q
  by_cases hq : q = i.toNat
  · subst hq
    simp [updV, upd]
  · simp [updV, upd, hq]
theorem r_aast {k N t v ci : Nat} {r : vw_C} {vs : List Value} {f : Nat → Option Nat} {i : Int} (hk : k < n) (ht : (xtys E)[t]? = some (E.2.2.2 t, .object r.1)) (hc : hp k = .inl (E.2.2.2 t, N, .inr (.inr (.inr (.inr f))))) (hkv : v < n) (hv : hp v = .inr (ci, vs)) (hcl : vwCl[ci]? = some r) (h0 : 0 ≤ i) (h1 : i < N) (hN : N < 2147483648) (hd : decode y.2.1 pc = .ok (.aastore, 1))
    (kk : V0 E y d mc ms Q (pc + 1) ls st n (va_up hp k (.inl (E.2.2.2 t, N, .inr (.inr (.inr (.inr (va_up f i.toNat (some (E.2.1 + v))))))))) ce sl) : V0 E y d mc ms Q pc ls (xr E v :: xi i :: xr E k :: st) n hp ce sl := by
  intro p e s m args below meth c H locs la ok hP hS hL
  have hK := ok.2.2.2.2.2.2.2.2.1
  have hat := hP.at hk
  rw [hc] at hat
  have hav := hP.at hkv
  rw [hv] at hav
  obtain ⟨r', hr', cellV, g1, g2, g3, -⟩ := hav
  have hcls := (hK.1 ci r hcl).2
  obtain ⟨kA, comp, k1, k2, k3, -⟩ := (hK.2 t _ ht).2
  have hcomp : comp = E.2.2.1.1 ci := Option.some.inj (k3.symm.trans hcls.1)
  subst hcomp
  obtain ⟨kC, hkC, -⟩ := hcls.2
  have hcl2 := xI_clamp (a := i) (by omega)
  have hin := xI_in h0 h1 (by omega)
  refine W.aast ok.1 ok.2.1 hat (fun q h => by cases h) (fun h => by cases h) k1 k2 rfl hkC ⟨fun q => hin (Or.inl q), by show _ < (arrV _ _ _).slots.size; rw [arrV_size]; exact Nat.not_le.mp fun q => hin (Or.inr q)⟩ g1 (fun q h => by rw [g3] at h; cases h) (by rw [g2]; exact hkC) (by rw [g2]; exact va_assign hcls) rfl rfl hd fun H1 e1 z oq => ?_
  rw [hcl2] at e1 ⊢
  refine kk p e s m args below meth c H1 _ la ok (hP.put hk z oq ?_) (hS.put z oq (Nat.le_add_right _ _)) hL
  show H1[_]? = some (vp_cell _ _)
  rw [e1, vp_cell_q, vp_cell_q, arrV_store]
  congr 2
  funext q
  by_cases hq : q = i.toNat
  · subst hq
    simp [updV, va_up, va_rf]
  · simp [updV, va_up, hq]
/-! makings -/
theorem r_new {C : String} {T : u_T} {N : Nat} {ty : Nat → FieldType} {ci idx : Nat} (fs : List Value) (hx : xcls ci C T N ty) (hw1 : Cond.classLink y.1.cls idx C ∈ gT) (hw2 : Cond.instantiable C N ∈ gT) (hw3 : Cond.initialized C ∈ gT) (hfs : ∀ j, j < N → defaultValue (ty j) = vp_V fs j) (hcm : ce + 1 ≤ mc) (hsm : sl + N ≤ ms) (hd : decode y.2.1 pc = .ok (.new idx, 3))
    (kk : V0 E y d mc ms Q (pc + 3) ls (xr E n :: st) (n + 1) (va_up hp n (.inr (ci, fs))) (ce + 1) (sl + N)) : V0 E y d mc ms Q pc ls st n hp ce sl := by
  intro p e s m args below meth c H locs la ok hP hS hL
  have hts := ok.2.2.2.2.1
  have hK := ok.2.2.2.2.2.2.2.2.1
  have hKn := hK.1 ci _ hx.1
  refine W.newcK ok.1 ok.2.1 ok.2.2.2.1 (hts _ hw1) (hts _ hw2) (hts _ hw3) rfl hd hcm hsm hKn.2.1 hP.1 fun H1 kC hkC e1 z1 o1 => ?_
  exact kk p e s m args below meth c H1 locs la ok (hP.push (by rw [z1, hP.1]) (fun q hq => o1 q (by rw [← hP.1]; exact hq)) ⟨_, hx.1, (u_born ty hts hx.2.1 hKn hkC e1 hx.2.2.1).to hfs⟩) ⟨by have := hS.1; have := hP.1; omega, fun q h1 h2 => (o1 q (by have := hS.1; have := hP.1; omega)).trans (hS.2.1 q h1 h2), hS.2.2⟩ hL
theorem r_newI {N : Nat} (hw : Cond.arrayClass .int ∈ gT) (hN : N ≤ 100000) (hcm : ce + 1 ≤ mc) (hsm : sl + N ≤ ms) (hd : decode y.2.1 pc = .ok (.newarray .int, 2))
    (kk : V0 E y d mc ms Q (pc + 2) ls (xr E n :: st) (n + 1) (va_up hp n (.inl (E.2.2.2 0, N, .inl (fun _ => 0)))) (ce + 1) (sl + N)) : V0 E y d mc ms Q pc ls (xi (N : Int) :: st) n hp ce sl := by
  intro p e s m args below meth c H locs la ok hP hS hL
  have hts := ok.2.2.2.2.1
  have hK := ok.2.2.2.2.2.2.2.2.1
  refine va_newaK (atype := .int) ok.1 ok.2.1 (hts _ hw) rfl hd rfl (by rw [show (0 : Int32) = xI 0 from rfl, xI_lt (by omega) (by omega)]; omega) (N := N) (by rw [xI_clamp (by omega)]; simp) (by show N * 4 ≤ _; omega) hcm hsm hP.1 fun H1 cA e1 z1 o1 hAr hNm => ?_
  have hcA : cA = E.2.2.2 0 := Option.some.inj (hNm.symm.trans (hK.2 0 _ rfl).2)
  subst hcA
  exact kk p e s m args below meth c H1 locs la ok (hP.push (by rw [z1, hP.1]) (fun q hq => o1 q (by rw [← hP.1]; exact hq)) e1) ⟨by have := hS.1; have := hP.1; omega, fun q h1 h2 => (o1 q (by have := hS.1; have := hP.1; omega)).trans (hS.2.1 q h1 h2), hS.2.2⟩ hL
theorem r_newZ {N : Nat} (hw : Cond.arrayClass .boolean ∈ gT) (hN : N ≤ 100000) (hcm : ce + 1 ≤ mc) (hsm : sl + N ≤ ms) (hd : decode y.2.1 pc = .ok (.newarray .boolean, 2))
    (kk : V0 E y d mc ms Q (pc + 2) ls (xr E n :: st) (n + 1) (va_up hp n (.inl (E.2.2.2 1, N, .inl (fun _ => 0)))) (ce + 1) (sl + N)) : V0 E y d mc ms Q pc ls (xi (N : Int) :: st) n hp ce sl := by
  intro p e s m args below meth c H locs la ok hP hS hL
  have hts := ok.2.2.2.2.1
  have hK := ok.2.2.2.2.2.2.2.2.1
  refine va_newaK (atype := .boolean) ok.1 ok.2.1 (hts _ hw) rfl hd rfl (by rw [show (0 : Int32) = xI 0 from rfl, xI_lt (by omega) (by omega)]; omega) (N := N) (by rw [xI_clamp (by omega)]; simp) (by show N * 1 ≤ _; omega) hcm hsm hP.1 fun H1 cA e1 z1 o1 hAr hNm => ?_
  have hcA : cA = E.2.2.2 1 := Option.some.inj (hNm.symm.trans (hK.2 1 _ rfl).2)
  subst hcA
  exact kk p e s m args below meth c H1 locs la ok (hP.push (by rw [z1, hP.1]) (fun q hq => o1 q (by rw [← hP.1]; exact hq)) e1) ⟨by have := hS.1; have := hP.1; omega, fun q h1 h2 => (o1 q (by have := hS.1; have := hP.1; omega)).trans (hS.2.1 q h1 h2), hS.2.2⟩ hL
theorem r_anew {N t idx : Nat} {C : String} (ht : (xtys E)[t]? = some (E.2.2.2 t, .object C)) (hov : ∀ U, xG E U → va_AO C U) (hw : Cond.classLink y.1.cls idx C ∈ gT) (hN : N ≤ 100000) (hcm : ce + 1 ≤ mc) (hsm : sl + N ≤ ms) (hd : decode y.2.1 pc = .ok (.anewarray idx, 3))
    (kk : V0 E y d mc ms Q (pc + 3) ls (xr E n :: st) (n + 1) (va_up hp n (.inl (E.2.2.2 t, N, .inr (.inr (.inr (.inr (fun _ => none))))))) (ce + 1) (sl + N)) : V0 E y d mc ms Q pc ls (xi (N : Int) :: st) n hp ce sl := by
  intro p e s m args below meth c H locs la ok hP hS hL
  have hts := ok.2.2.2.2.1
  have hK := ok.2.2.2.2.2.2.2.2.1
  have hcl : (xI (N : Int)).toNatClampNeg = N := by rw [xI_clamp (by omega)]; simp
  refine W.anew ok.1 ok.2.1 ok.2.2.2.1 (hts _ hw) (va_AO.use (hov s ok.2.2.2.2.2.2.2.2)) rfl hd rfl (by rw [show (0 : Int32) = xI 0 from rfl, xI_lt (by omega) (by omega)]; omega) (by rw [hcl]; omega) hcm (by rw [hcl]; exact hsm) fun cA kA comp f1 f2 f3 f4 => ?_
  rw [hcl]
  obtain ⟨kA', comp', w1, w2, w3, w4⟩ := (hK.2 t _ ht).2
  have hcA : cA = E.2.2.2 t := Option.some.inj (f1.symm.trans w4)
  subst hcA
  generalize hH1 : H.push ({ cls := E.2.2.2 t, slots := Array.replicate N .null, vm := .none } : Cell) = H1
  have z1 : H1.size = H.size + 1 := by rw [← hH1, Array.size_push]
  have e1 : H1[H.size]? = some (arrV (E.2.2.2 t) N (fun _ => .null)) := by rw [← hH1, Array.getElem?_push_size, ← arrV_new]
  have o1 : ∀ q : Nat, q < H.size → H1[q]? = H[q]? := fun q hq => by rw [← hH1, Array.getElem?_push, if_neg (Nat.ne_of_lt hq)]
  have hsz : F0 m (pc + 3) la (.ref H.size :: st) = F0 m (pc + 3) la (xr E n :: st) := by rw [hP.1]
  refine W.eq (g2 := F0 m (pc + 3) la (xr E n :: st)) hsz ?_
  exact kk p e s m args below meth c H1 locs la ok (hP.push z1 o1 (by show H1[E.2.1 + n]? = _; rw [← hP.1]; exact e1)) ⟨by have := hS.1; omega, fun q h1 h2 => (o1 q (by have := hS.1; omega)).trans (hS.2.1 q h1 h2), hS.2.2⟩ hL
/-! static tables -/
theorem r_gets {j idx : Nat} (hj : j < 3) (hw : Cond.fieldLink y.1.cls idx (xtabO j) (xtabN j) "[I" ∈ gT) (hd : decode y.2.1 pc = .ok (.getstatic idx, 3))
    (kk : V0 E y d mc ms Q (pc + 3) ls (.ref (E.2.2.2 (10 + j)) :: st) n hp ce sl) : V0 E y d mc ms Q pc ls st n hp ce sl := by
  intro p e s m args below meth c H locs la ok hP hS hL
  exact va_gets ok.1 ok.2.1 (ok.2.2.2.2.2.2.2.2.2.2.2 j hj).1 hS ok.2.2.2.1 (ok.2.2.2.2.1 _ hw) (fun _ h => h) hd (kk p e s m args below meth c H locs la ok hP hS hL)
theorem r_tald {j : Nat} {i : Int} (hj : j < 3) (h0 : 0 ≤ i) (h1 : i < 6) (hd : decode y.2.1 pc = .ok (.iaload, 1))
    (kk : V0 E y d mc ms Q (pc + 1) ls (xi ((xtab j).getD i.toNat 0) :: st) n hp ce sl) : V0 E y d mc ms Q pc ls (xi i :: .ref (E.2.2.2 (10 + j)) :: st) n hp ce sl := by
  intro p e s m args below meth c H locs la ok hP hS hL
  obtain ⟨cell, t1, t2, t3, t4, t5, t6, t7⟩ := (ok.2.2.2.2.2.2.2.2.2.2.2 j hj).2
  have hcl := xI_clamp (a := i) (by omega)
  refine W.iald (v := xi ((xtab j).getD i.toNat 0)) ok.1 ok.2.1 (cell := cell) (by rw [hS.2.1 _ (Array.getElem?_eq_some_iff.mp t1).1 t7]; exact t1) t2 t3 ?_ (by rw [hcl]; exact t6 _ (by omega)) rfl rfl hd (kk p e s m args below meth c H locs la ok hP hS hL)
  rintro (q | q)
  · rw [show (0 : Int32) = xI 0 from rfl, xI_lt (by omega) (by omega)] at q
    omega
  · rw [hcl] at q
    omega
theorem r_talen {j : Nat} (hj : j < 3) (hd : decode y.2.1 pc = .ok (.arraylength, 1))
    (kk : V0 E y d mc ms Q (pc + 1) ls (xi 6 :: st) n hp ce sl) : V0 E y d mc ms Q pc ls (.ref (E.2.2.2 (10 + j)) :: st) n hp ce sl := by
  intro p e s m args below meth c H locs la ok hP hS hL
  obtain ⟨cell, t1, t2, t3, t4, t5, t6, t7⟩ := (ok.2.2.2.2.2.2.2.2.2.2.2 j hj).2
  exact W.alen (n := xI 6) ok.1 ok.2.1 (cell := cell) (by rw [hS.2.1 _ (Array.getElem?_eq_some_iff.mp t1).1 t7]; exact t1) t2 t5 rfl rfl hd (kk p e s m args below meth c H locs la ok hP hS hL)
end XH
