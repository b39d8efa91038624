section ENV
theorem arrOfT_c {s : State} {cA comp : ClassId} {kA : Class} {ty : FieldType} (h2 : s.vm.classes[cA]? = some kA) (h3 : kA.kind = .array comp ty) : ArrOfT s cA ty := fun n z => ⟨fun k h => (by cases h), kA, h2, comp, h3⟩
theorem nest_w {args : Array Value} {s : State} (hts : ∀ w ∈ lw_tbl, w.before args s = true) : ∀ w ∈ xNest, va_Nw (.methodLinkNest w.1 w.2.1 w.2.2 "CrierWeeks") s := by
  intro w hw
  simp only [xNest, List.mem_cons, List.not_mem_nil, or_false] at hw
  rcases hw with rfl | rfl | rfl | rfl | rfl | rfl | rfl
  · exact va_Nw.of rfl (hts _ (List.mem_of_getElem? (i := 101) (by decide +kernel)))
  · exact va_Nw.of rfl (hts _ (List.mem_of_getElem? (i := 256) (by decide +kernel)))
  · exact va_Nw.of rfl (hts _ (List.mem_of_getElem? (i := 269) (by decide +kernel)))
  · exact va_Nw.of rfl (hts _ (List.mem_of_getElem? (i := 274) (by decide +kernel)))
  · exact va_Nw.of rfl (hts _ (List.mem_of_getElem? (i := 338) (by decide +kernel)))
  · exact va_Nw.of rfl (hts _ (List.mem_of_getElem? (i := 360) (by decide +kernel)))
  · exact va_Nw.of rfl (hts _ (List.mem_of_getElem? (i := 365) (by decide +kernel)))
theorem tab_0 {b : Nat} {s : State} {A : Nat → Prop} (hts : ∀ w ∈ lw_tbl, w.before #[Value.ref b] s = true) (hgv : (Jvm.Cond.and given_1 narrow_1).before #[Value.ref b] s = true) (hA : ∀ a : Nat, a < s.heap.size → ¬ A a) : ∃ t : Nat, va_Z (xtabO 0) (xtabN 0) "[I" (.ref t) A s s.heap ∧ va_T .int t 6 (fun i => xi ((xtab 0).getD i 0)) A s s.heap := by
  have hs := flat_of_before _ hgv
  have harr : (Cond.arrayOf (.static (xtabO 0) (xtabN 0) "[I") .int).before #[Value.ref b] s = true := hs _ (by decide +kernel)
  have hlen : (Cond.eq (.length (.static (xtabO 0) (xtabN 0) "[I")) (.int 6)).before #[Value.ref b] s = true := hs _ (by decide +kernel)
  have he0 : (Cond.eq (.elem (.static (xtabO 0) (xtabN 0) "[I") (.int 0)) (.int (-1))).before #[Value.ref b] s = true := hs _ (by decide +kernel)
  have he1 : (Cond.eq (.elem (.static (xtabO 0) (xtabN 0) "[I") (.int 1)) (.int (0))).before #[Value.ref b] s = true := hs _ (by decide +kernel)
  have he2 : (Cond.eq (.elem (.static (xtabO 0) (xtabN 0) "[I") (.int 2)) (.int (1))).before #[Value.ref b] s = true := hs _ (by decide +kernel)
  have he3 : (Cond.eq (.elem (.static (xtabO 0) (xtabN 0) "[I") (.int 3)) (.int (1))).before #[Value.ref b] s = true := hs _ (by decide +kernel)
  have he4 : (Cond.eq (.elem (.static (xtabO 0) (xtabN 0) "[I") (.int 4)) (.int (0))).before #[Value.ref b] s = true := hs _ (by decide +kernel)
  have he5 : (Cond.eq (.elem (.static (xtabO 0) (xtabN 0) "[I") (.int 5)) (.int (4))).before #[Value.ref b] s = true := hs _ (by decide +kernel)
  obtain ⟨t, h1, h2⟩ := va_Tof (N := 6) (f := fun i => xi ((xtab 0).getD i 0)) (A := A) (by decide) harr (va_eqt hlen) (fun k hk => by
    rcases (show k = 0 ∨ k = 1 ∨ k = 2 ∨ k = 3 ∨ k = 4 ∨ k = 5 by omega) with rfl | rfl | rfl | rfl | rfl | rfl
    · exact va_eqt he0
    · exact va_eqt he1
    · exact va_eqt he2
    · exact va_eqt he3
    · exact va_eqt he4
    · exact va_eqt he5) hA
  exact ⟨t, va_Zref (hts _ (List.mem_of_getElem? (i := 891) (by decide +kernel))) (hts _ (List.mem_of_getElem? (i := 73) (by decide +kernel))) h1 hA, h2⟩
theorem tab_1 {b : Nat} {s : State} {A : Nat → Prop} (hts : ∀ w ∈ lw_tbl, w.before #[Value.ref b] s = true) (hgv : (Jvm.Cond.and given_1 narrow_1).before #[Value.ref b] s = true) (hA : ∀ a : Nat, a < s.heap.size → ¬ A a) : ∃ t : Nat, va_Z (xtabO 1) (xtabN 1) "[I" (.ref t) A s s.heap ∧ va_T .int t 6 (fun i => xi ((xtab 1).getD i 0)) A s s.heap := by
  have hs := flat_of_before _ hgv
  have harr : (Cond.arrayOf (.static (xtabO 1) (xtabN 1) "[I") .int).before #[Value.ref b] s = true := hs _ (by decide +kernel)
  have hlen : (Cond.eq (.length (.static (xtabO 1) (xtabN 1) "[I")) (.int 6)).before #[Value.ref b] s = true := hs _ (by decide +kernel)
  have he0 : (Cond.eq (.elem (.static (xtabO 1) (xtabN 1) "[I") (.int 0)) (.int (10))).before #[Value.ref b] s = true := hs _ (by decide +kernel)
  have he1 : (Cond.eq (.elem (.static (xtabO 1) (xtabN 1) "[I") (.int 1)) (.int (11))).before #[Value.ref b] s = true := hs _ (by decide +kernel)
  have he2 : (Cond.eq (.elem (.static (xtabO 1) (xtabN 1) "[I") (.int 2)) (.int (12))).before #[Value.ref b] s = true := hs _ (by decide +kernel)
  have he3 : (Cond.eq (.elem (.static (xtabO 1) (xtabN 1) "[I") (.int 3)) (.int (11))).before #[Value.ref b] s = true := hs _ (by decide +kernel)
  have he4 : (Cond.eq (.elem (.static (xtabO 1) (xtabN 1) "[I") (.int 4)) (.int (13))).before #[Value.ref b] s = true := hs _ (by decide +kernel)
  have he5 : (Cond.eq (.elem (.static (xtabO 1) (xtabN 1) "[I") (.int 5)) (.int (14))).before #[Value.ref b] s = true := hs _ (by decide +kernel)
  obtain ⟨t, h1, h2⟩ := va_Tof (N := 6) (f := fun i => xi ((xtab 1).getD i 0)) (A := A) (by decide) harr (va_eqt hlen) (fun k hk => by
    rcases (show k = 0 ∨ k = 1 ∨ k = 2 ∨ k = 3 ∨ k = 4 ∨ k = 5 by omega) with rfl | rfl | rfl | rfl | rfl | rfl
    · exact va_eqt he0
    · exact va_eqt he1
    · exact va_eqt he2
    · exact va_eqt he3
    · exact va_eqt he4
    · exact va_eqt he5) hA
  exact ⟨t, va_Zref (hts _ (List.mem_of_getElem? (i := 905) (by decide +kernel))) (hts _ (List.mem_of_getElem? (i := 80) (by decide +kernel))) h1 hA, h2⟩
theorem tab_2 {b : Nat} {s : State} {A : Nat → Prop} (hts : ∀ w ∈ lw_tbl, w.before #[Value.ref b] s = true) (hgv : (Jvm.Cond.and given_1 narrow_1).before #[Value.ref b] s = true) (hA : ∀ a : Nat, a < s.heap.size → ¬ A a) : ∃ t : Nat, va_Z (xtabO 2) (xtabN 2) "[I" (.ref t) A s s.heap ∧ va_T .int t 6 (fun i => xi ((xtab 2).getD i 0)) A s s.heap := by
  have hs := flat_of_before _ hgv
  have harr : (Cond.arrayOf (.static (xtabO 2) (xtabN 2) "[I") .int).before #[Value.ref b] s = true := hs _ (by decide +kernel)
  have hlen : (Cond.eq (.length (.static (xtabO 2) (xtabN 2) "[I")) (.int 6)).before #[Value.ref b] s = true := hs _ (by decide +kernel)
  have he0 : (Cond.eq (.elem (.static (xtabO 2) (xtabN 2) "[I") (.int 0)) (.int (20))).before #[Value.ref b] s = true := hs _ (by decide +kernel)
  have he1 : (Cond.eq (.elem (.static (xtabO 2) (xtabN 2) "[I") (.int 1)) (.int (21))).before #[Value.ref b] s = true := hs _ (by decide +kernel)
  have he2 : (Cond.eq (.elem (.static (xtabO 2) (xtabN 2) "[I") (.int 2)) (.int (24))).before #[Value.ref b] s = true := hs _ (by decide +kernel)
  have he3 : (Cond.eq (.elem (.static (xtabO 2) (xtabN 2) "[I") (.int 3)) (.int (22))).before #[Value.ref b] s = true := hs _ (by decide +kernel)
  have he4 : (Cond.eq (.elem (.static (xtabO 2) (xtabN 2) "[I") (.int 4)) (.int (23))).before #[Value.ref b] s = true := hs _ (by decide +kernel)
  have he5 : (Cond.eq (.elem (.static (xtabO 2) (xtabN 2) "[I") (.int 5)) (.int (23))).before #[Value.ref b] s = true := hs _ (by decide +kernel)
  obtain ⟨t, h1, h2⟩ := va_Tof (N := 6) (f := fun i => xi ((xtab 2).getD i 0)) (A := A) (by decide) harr (va_eqt hlen) (fun k hk => by
    rcases (show k = 0 ∨ k = 1 ∨ k = 2 ∨ k = 3 ∨ k = 4 ∨ k = 5 by omega) with rfl | rfl | rfl | rfl | rfl | rfl
    · exact va_eqt he0
    · exact va_eqt he1
    · exact va_eqt he2
    · exact va_eqt he3
    · exact va_eqt he4
    · exact va_eqt he5) hA
  exact ⟨t, va_Zref (hts _ (List.mem_of_getElem? (i := 911) (by decide +kernel))) (hts _ (List.mem_of_getElem? (i := 80) (by decide +kernel))) h1 hA, h2⟩
set_option maxHeartbeats 4000000 in
/-- YOUR PART: from the entry, for every script of at most 3072 ints, the law comes to its end with true -/
theorem whole_start {p : Program} {e : Env} {s : State} {m : MethodId} {below : List Frame} {meth : Method} {c : Code} (l : Launch) {b L : Nat} {xs : Nat → Int32} (hL : L ≤ 3072) (C0 : lw_At p s m meth c b L xs) : W p l e room_1 s m #[Value.ref b] below meth c s.heap [] 0 0 (lw_Z below #[Value.ref b] s) (entryFrame m ([Value.ref b] : List Value).toArray 4) := by
  obtain ⟨hx, hb, hr, hml, hown, hts, hX, hbl, hlocks, hgv⟩ := id C0
  have hg : ∀ w ∈ gT, w.before #[Value.ref b] s = true := fun w hw => hts w (List.mem_filter.mp hw).1
  obtain ⟨c0, iS0, hKn0⟩ := u_known (C := RX0) (T := TX0) (N := 4) (n := 4) hg xc_X0.2.1 (hg _ wN_X0)
  obtain ⟨c1, iS1, hKn1⟩ := u_known (C := RX1) (T := TX1) (N := 3) (n := 3) hg xc_X1.2.1 (hg _ wN_X1)
  obtain ⟨c2, iS2, hKn2⟩ := u_known (C := RX2) (T := TX2) (N := 6) (n := 6) hg xc_X2.2.1 (hg _ wN_X2)
  obtain ⟨c3, iS3, hKn3⟩ := u_known (C := RX3) (T := TX3) (N := 3) (n := 3) hg xc_X3.2.1 (hg _ wN_X3)
  obtain ⟨c4, iS4, hKn4⟩ := u_known (C := RX4) (T := TX4) (N := 11) (n := 11) hg xc_X4.2.1 (hg _ wN_X4)
  obtain ⟨c5, iS5, hKn5⟩ := u_known (C := RX5) (T := TX5) (N := 4) (n := 4) hg xc_X5.2.1 (hg _ wN_X5)
  obtain ⟨c6, iS6, hKn6⟩ := u_known (C := RX6) (T := TX6) (N := 9) (n := 9) hg xc_X6.2.1 (hg _ wN_X6)
  obtain ⟨c7, iS7, hKn7⟩ := u_known (C := RX7) (T := TX7) (N := 2) (n := 2) hg xc_X7.2.1 (hg _ wN_X7)
  obtain ⟨c8, iS8, hKn8⟩ := u_known (C := RX8) (T := TX8) (N := 8) (n := 8) hg xc_X8.2.1 (hg _ wN_X8)
  obtain ⟨c9, iS9, hKn9⟩ := u_known (C := RX9) (T := TX9) (N := 11) (n := 11) hg xc_X9.2.1 (hg _ wN_X9)
  obtain ⟨c10, iS10, hKn10⟩ := u_known (C := RX10) (T := TX10) (N := 31) (n := 31) hg xc_X10.2.1 (hg _ wN_X10)
  obtain ⟨dC, dI, hKc⟩ : ∃ (dC : Nat → ClassId) (dI : Nat → Nat → Nat), ∀ (k : Nat) (q : vw_C), vwCl[k]? = some q → u_Kn s q.1 q.2.1 q.2.2 (dC k) (dI k) := by
    refine ⟨fun k => if k = 0 then c0 else (if k = 1 then c1 else (if k = 2 then c2 else (if k = 3 then c3 else (if k = 4 then c4 else (if k = 5 then c5 else (if k = 6 then c6 else (if k = 7 then c7 else (if k = 8 then c8 else (if k = 9 then c9 else c10))))))))), fun k => if k = 0 then iS0 else (if k = 1 then iS1 else (if k = 2 then iS2 else (if k = 3 then iS3 else (if k = 4 then iS4 else (if k = 5 then iS5 else (if k = 6 then iS6 else (if k = 7 then iS7 else (if k = 8 then iS8 else (if k = 9 then iS9 else iS10))))))))), ?_⟩
    intro k q hq
    match k, hq with
    | 0, hq => cases hq; exact hKn0
    | 1, hq => cases hq; exact hKn1
    | 2, hq => cases hq; exact hKn2
    | 3, hq => cases hq; exact hKn3
    | 4, hq => cases hq; exact hKn4
    | 5, hq => cases hq; exact hKn5
    | 6, hq => cases hq; exact hKn6
    | 7, hq => cases hq; exact hKn7
    | 8, hq => cases hq; exact hKn8
    | 9, hq => cases hq; exact hKn9
    | 10, hq => cases hq; exact hKn10
    | k + 11, hq => simp [vwCl] at hq
  obtain ⟨aI, kI, pI, i1, i2, i3⟩ := Cond.arrayClass_spec (hg _ wA_int)
  obtain ⟨aZ, kZ, pZ, z1, z2, z3⟩ := Cond.arrayClass_spec (hg _ wA_boolean)
  have or' : (Cond.arrayOver (.object RX5)).before #[Value.ref b] s = true := hts _ (List.mem_of_getElem? (i := 96) (by decide +kernel))
  obtain ⟨pr, ar, kr, r1, r2, r3, r4, r5⟩ := Cond.arrayOver_spec or'
  have og : (Cond.arrayOver (.object RX1)).before #[Value.ref b] s = true := hts _ (List.mem_of_getElem? (i := 98) (by decide +kernel))
  obtain ⟨pg, ag, kg, g1, g2, g3, g4, g5⟩ := Cond.arrayOver_spec og
  have ot : (Cond.arrayOver (.object RX6)).before #[Value.ref b] s = true := hts _ (List.mem_of_getElem? (i := 213) (by decide +kernel))
  obtain ⟨pt, at', kt, t1', t2', t3, t4, t5⟩ := Cond.arrayOver_spec ot
  have hA : ∀ a : Nat, a < s.heap.size → ¬ (fun q : Nat => s.heap.size ≤ q) a := fun a h1 h2 => by have h3 : s.heap.size ≤ a := h2; omega
  obtain ⟨t0, Z0, T0⟩ := tab_0 hts hgv hA
  obtain ⟨t1, Z1, T1⟩ := tab_1 hts hgv hA
  obtain ⟨t2, Z2, T2⟩ := tab_2 hts hgv hA
  obtain ⟨E, hE⟩ : ∃ E : xE, E = (l, s.heap.size, (dC, dI), fun k => match k with | 0 => aI | 1 => aZ | 2 => ar | 3 => ag | 4 => at' | 10 => t0 | 11 => t1 | 12 => t2 | _ => 0) := ⟨_, rfl⟩
  have hG : xG E s := by
    rw [hE]
    refine ⟨⟨hKc, fun k q hk => ?_⟩, nest_w hts, ⟨va_AO.of or', va_AO.of og, va_AO.of ot⟩, fun j hj => ?_⟩
    · match k, hk with
      | 0, hk => cases hk; exact ⟨arrOfT_c i2 i3, i1⟩
      | 1, hk => cases hk; exact ⟨arrOfT_c z2 z3, z1⟩
      | 2, hk => cases hk; exact ⟨arrOfT_c r3 r4, kr, pr, r3, r4, r1, r5⟩
      | 3, hk => cases hk; exact ⟨arrOfT_c g3 g4, kg, pg, g3, g4, g1, g5⟩
      | 4, hk => cases hk; exact ⟨arrOfT_c t3 t4, kt, pt, t3, t4, t1', t5⟩
      | k + 5, hk => simp [xtys] at hk
    · rcases (show j = 0 ∨ j = 1 ∨ j = 2 by omega) with rfl | rfl | rfl
      · exact ⟨Z0, T0⟩
      · exact ⟨Z1, T1⟩
      · exact ⟨Z2, T2⟩
  have C : LCx E p s m meth c b L xs := ⟨⟨hx, hb, hml, hown, hg, hr, rfl, hlocks, hG⟩, hX, hbl, by rw [hE], hL⟩
  have e1 : E.1 = l := by rw [hE]
  have hk := k_start (e := e) (below := below) (hp := fun _ => .inr (0, [])) C s.heap [] _ ⟨by rw [hE]; rfl, fun k q h => by simp [xW] at h⟩ va_S.rf (xL.entry [.ref b] 3)
  rw [e1] at hk
  rw [lg_entry_eq]
  exact hk
end ENV
