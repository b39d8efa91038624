def R_law : String := "CrierWeeksLaw"
def lw_P (b : Addr) (xs : List Int32) (args : Array Value) (s : State) : Prop := args = #[.ref b] ∧ s.IntsAt b xs ∧ xs.length ≤ 3072 ∧ (Jvm.Cond.and given_1 narrow_1).before args s = true
def lw_Q (_ : Array Value) (s : State) (o : Outcome) (t : State) : Prop := o = .returned (some (.int 1)) ∧ Framed s o t [] 600000 7302249
def lw_Z (below : List Frame) (a : Array Value) (s : State) : State → Prop := fun t => ∃ o, t.status = .running ∧ Ended t below o ∧ lw_Q a s o t
/-- the law's own end, with 1 on the stack, nothing written that was there before, its room as the claim has it -/
theorem lw_ret {p : Program} {l : Launch} {e : Env} {s : State} {m : MethodId} {below : List Frame} {meth : Method} {c : Code} {b : Nat} (hx : p.tables.exec = Jvm.exec) (hb : c.code = code) (hr : meth.sig.returnType = ret) (hlocks : meth.locks = false) {pc : Nat} {H : Heap} {ls : Array Slot} (hdg : decode code pc = .ok (.ireturn, 1)) : W p l e room_1 s m #[Value.ref b] below meth c H [] 600000 7302249 (lw_Z below #[Value.ref b] s) (F0 m pc ls [.int 1]) := by
  intro T hT X
  obtain ⟨fs, hret, hrun, hended, hW, hframe⟩ := X.leave (v := some (.int 1)) (hlocks := hlocks) (fun h => by rw [hr] at h; cases h)
  have hmeth' : T.vm.method? m = some meth := X.method'
  refine ⟨T.setFrames fs, ?_, .returned (some (.int 1)), hrun, hended, rfl, ⟨_, rfl⟩, hW, hframe⟩
  jvm_step X.here [X.here.top, hx, hb, hdg, hmeth', hr, ret, narrow_b1]
  (try refine ⟨rfl, ?_⟩); (try refine ⟨rfl, ?_⟩)
  first | (intro acts; rw [hret _ acts rfl rfl rfl]) | rw [hret _ _ rfl rfl rfl]
  exact Steps.refl _
/-- what holds at the law's entry: the machine, the code, the tables' words (any of lw_tbl by 'hts w (by decide +kernel)'), the script of L ints xs at the cell b, what the Statement gives of the start (any of its parts by flat_of_before) -/
def lw_At (p : Program) (s : State) (m : MethodId) (meth : Method) (c : Code) (b L : Nat) (xs : Nat → Int32) : Prop :=
  p.tables.exec = Jvm.exec ∧ c.code = code ∧ meth.sig.returnType = ret ∧ c.maxLocals = 4 ∧ s.vm.findClass R_law = some m.cls ∧ (∀ w ∈ lw_tbl, w.before #[Value.ref b] s = true) ∧ va_X b L xs s s.heap ∧ b < s.heap.size ∧ meth.locks = false ∧ (Jvm.Cond.and given_1 narrow_1).before #[Value.ref b] s = true

section LAW
variable {E : xE} {p : Program} {e : Env} {s : State} {m : MethodId} {below : List Frame} {meth : Method} {c : Code} {b L : Nat} {xs : Nat → Int32}
variable {pc : Nat} {ls : List (Option Value)} {st : List Value} {n : Nat} {hp : Nat → va_E} {ce sl : Nat}
/-- what holds through the law: the machine, the world's classes, the script -/
def LCx (E : xE) (p : Program) (s : State) (m : MethodId) (meth : Method) (c : Code) (b L : Nat) (xs : Nat → Int32) : Prop := xOk E ⟨RL, meth.name, "([I)Z"⟩ cL_law 4 ret p s m #[Value.ref b] meth c ∧ va_X b L xs s s.heap ∧ b < s.heap.size ∧ E.2.1 = s.heap.size ∧ L ≤ 3072
def VLaw (E : xE) (p : Program) (e : Env) (s : State) (m : MethodId) (below : List Frame) (meth : Method) (c : Code) (b : Nat) (pc : Nat) (ls : List (Option Value)) (st : List Value) (n : Nat) (hp : Nat → va_E) (ce sl : Nat) : Prop :=
  ∀ (H : Heap) (locs : List Loc) (la : Array Slot), xP E n hp H → va_S (xA E) s.heap H locs → xL la ls →
    W p E.1 e room_1 s m #[Value.ref b] below meth c H locs ce sl (lw_Z below #[Value.ref b] s) (F0 m pc la st)
theorem VLaw_st {pc' : Nat} {ls' : List (Option Value)} {st' : List Value}
    (h : ∀ (H : Heap) (locs : List Loc) (la : Array Slot) (Z : State → Prop), xL la ls → (∀ la', xL la' ls' → W p E.1 e room_1 s m #[Value.ref b] below meth c H locs ce sl Z (F0 m pc' la' st')) → W p E.1 e room_1 s m #[Value.ref b] below meth c H locs ce sl Z (F0 m pc la st))
    (k : VLaw E p e s m below meth c b pc' ls' st' n hp ce sl) : VLaw E p e s m below meth c b pc ls st n hp ce sl := by
  intro H locs la hP hS hL
  exact h H locs la _ hL (fun la' hL' => k H locs la' hP hS hL')
theorem VLaw_br {pc1 pc2 : Nat} {st' : List Value} {C : Prop}
    (h : ∀ (H : Heap) (locs : List Loc) (la : Array Slot) (Z : State → Prop), (C → W p E.1 e room_1 s m #[Value.ref b] below meth c H locs ce sl Z (F0 m pc1 la st')) → (¬ C → W p E.1 e room_1 s m #[Value.ref b] below meth c H locs ce sl Z (F0 m pc2 la st')) → W p E.1 e room_1 s m #[Value.ref b] below meth c H locs ce sl Z (F0 m pc la st))
    (kt : C → VLaw E p e s m below meth c b pc1 ls st' n hp ce sl) (kf : ¬ C → VLaw E p e s m below meth c b pc2 ls st' n hp ce sl) : VLaw E p e s m below meth c b pc ls st n hp ce sl := by
  intro H locs la hP hS hL
  exact h H locs la _ (fun q => kt q H locs la hP hS hL) (fun q => kf q H locs la hP hS hL)
theorem l_iconst (C : LCx E p s m meth c b L xs) {a : Int} (hd : decode cL_law pc = .ok (.iconst a, 1)) (k : VLaw E p e s m below meth c b (pc + 1) ls (xi a :: st) n hp ce sl) : VLaw E p e s m below meth c b pc ls st n hp ce sl :=
  VLaw_st (fun H locs la Z hL kk => by exact lv_iconst C.1.1 C.1.2.1 hd rfl (kk la hL)) k
theorem l_bipush (C : LCx E p s m meth c b L xs) {a : Int} (hd : decode cL_law pc = .ok (.bipush a, 2)) (hv : (Int8.ofInt a).toInt32 = xI a := by decide +kernel) (k : VLaw E p e s m below meth c b (pc + 2) ls (xi a :: st) n hp ce sl) : VLaw E p e s m below meth c b pc ls st n hp ce sl :=
  VLaw_st (fun H locs la Z hL kk => by exact lv_bipush C.1.1 C.1.2.1 hd hv (kk la hL)) k
theorem l_ald0 (C : LCx E p s m meth c b L xs) {x : Nat} (hd : decode cL_law pc = .ok (.aload_n 0, 1)) (k : VLaw E p e s m below meth c b (pc + 1) (some (.ref x) :: ls) (.ref x :: st) n hp ce sl) : VLaw E p e s m below meth c b pc (some (.ref x) :: ls) st n hp ce sl :=
  VLaw_st (fun H locs la Z hL kk => lv_aload_n C.1.1 C.1.2.1 hd rfl (hL.at (k := 0) rfl) (kk la hL)) k
theorem l_ald1 (C : LCx E p s m meth c b L xs) {a0 : Option Value} {x : Nat} (hd : decode cL_law pc = .ok (.aload_n 1, 1)) (k : VLaw E p e s m below meth c b (pc + 1) (a0 :: some (.ref x) :: ls) (.ref x :: st) n hp ce sl) : VLaw E p e s m below meth c b pc (a0 :: some (.ref x) :: ls) st n hp ce sl :=
  VLaw_st (fun H locs la Z hL kk => lv_aload_n C.1.1 C.1.2.1 hd rfl (hL.at (k := 1) rfl) (kk la hL)) k
theorem l_ald2 (C : LCx E p s m meth c b L xs) {a0 a1 : Option Value} {x : Nat} (hd : decode cL_law pc = .ok (.aload_n 2, 1)) (k : VLaw E p e s m below meth c b (pc + 1) (a0 :: a1 :: some (.ref x) :: ls) (.ref x :: st) n hp ce sl) : VLaw E p e s m below meth c b pc (a0 :: a1 :: some (.ref x) :: ls) st n hp ce sl :=
  VLaw_st (fun H locs la Z hL kk => lv_aload_n C.1.1 C.1.2.1 hd rfl (hL.at (k := 2) rfl) (kk la hL)) k
theorem l_ast1 (C : LCx E p s m meth c b L xs) {a0 : Option Value} {bb : Option Value} {x : Nat} (hd : decode cL_law pc = .ok (.astore_n 1, 1)) (hc : xc1 a0 = true) (k : VLaw E p e s m below meth c b (pc + 1) (a0 :: some (.ref x) :: ls) st n hp ce sl) : VLaw E p e s m below meth c b pc (a0 :: bb :: ls) (.ref x :: st) n hp ce sl :=
  VLaw_st (ls' := (a0 :: some (.ref x) :: ls)) (fun H locs la Z hL kk => lv_astore_n C.1.1 C.1.2.1 hd rfl hL (by simp only [List.length_cons]; omega) rfl (fun la2 h2 => kk la2 (hL.set1 (i := 1) (by simp only [List.length_cons]; omega) (fun w _ hw => by cases hw; exact hc) h2))) k
theorem l_ast2 (C : LCx E p s m meth c b L xs) {a0 a1 : Option Value} {bb : Option Value} {x : Nat} (hd : decode cL_law pc = .ok (.astore_n 2, 1)) (hc : xc1 a1 = true) (k : VLaw E p e s m below meth c b (pc + 1) (a0 :: a1 :: some (.ref x) :: ls) st n hp ce sl) : VLaw E p e s m below meth c b pc (a0 :: a1 :: bb :: ls) (.ref x :: st) n hp ce sl :=
  VLaw_st (ls' := (a0 :: a1 :: some (.ref x) :: ls)) (fun H locs la Z hL kk => lv_astore_n C.1.1 C.1.2.1 hd rfl hL (by simp only [List.length_cons]; omega) rfl (fun la2 h2 => kk la2 (hL.set1 (i := 2) (by simp only [List.length_cons]; omega) (fun w _ hw => by cases hw; exact hc) h2))) k
theorem l_ild3 (C : LCx E p s m meth c b L xs) {a0 a1 a2 : Option Value} {x : Int32} (hd : decode cL_law pc = .ok (.iload_n 3, 1)) (k : VLaw E p e s m below meth c b (pc + 1) (a0 :: a1 :: a2 :: some (.int x) :: ls) (.int x :: st) n hp ce sl) : VLaw E p e s m below meth c b pc (a0 :: a1 :: a2 :: some (.int x) :: ls) st n hp ce sl :=
  VLaw_st (fun H locs la Z hL kk => lv_iload_n C.1.1 C.1.2.1 hd rfl (hL.at (k := 3) rfl) (kk la hL)) k
theorem l_ist3 (C : LCx E p s m meth c b L xs) {a0 a1 a2 : Option Value} {bb : Option Value} {x : Int32} (hd : decode cL_law pc = .ok (.istore_n 3, 1)) (hc : xc1 a2 = true) (k : VLaw E p e s m below meth c b (pc + 1) (a0 :: a1 :: a2 :: some (.int x) :: ls) st n hp ce sl) : VLaw E p e s m below meth c b pc (a0 :: a1 :: a2 :: bb :: ls) (.int x :: st) n hp ce sl :=
  VLaw_st (ls' := (a0 :: a1 :: a2 :: some (.int x) :: ls)) (fun H locs la Z hL kk => lv_istore_n C.1.1 C.1.2.1 hd rfl hL (by simp only [List.length_cons]; omega) rfl (fun la2 h2 => kk la2 (hL.set1 (i := 3) (by simp only [List.length_cons]; omega) (fun w _ hw => by cases hw; exact hc) h2))) k
theorem l_iinc3 (C : LCx E p s m meth c b L xs) {a0 a1 a2 : Option Value} {a z : Int} (hd : decode cL_law pc = .ok (.iinc 3 z, 3)) (hc : xc1 a2 = true) (k : VLaw E p e s m below meth c b (pc + 3) (a0 :: a1 :: a2 :: some (xi (a + z)) :: ls) st n hp ce sl) : VLaw E p e s m below meth c b pc (a0 :: a1 :: a2 :: some (xi a) :: ls) st n hp ce sl :=
  VLaw_st (ls' := (a0 :: a1 :: a2 :: some (xi (a + z)) :: ls)) (fun H locs la Z hL kk => by
    obtain ⟨j, hj⟩ := List.getElem?_of_mem ((xlv_mem (a0 :: a1 :: a2 :: some (xi a) :: ls) 0 (3, xi a)).mpr ⟨3, rfl, rfl⟩)
    exact lv_iinc C.1.1 C.1.2.1 hd hL (k := j) hj (xI_add a z) (by simp only [List.length_cons]; omega) rfl (fun la2 h2 => kk la2 (hL.set1 (i := 3) (by simp only [List.length_cons]; omega) (fun w _ hw => by cases hw; exact hc) h2))) k
theorem l_iadd (C : LCx E p s m meth c b L xs) {a b2 : Int} (hd : decode cL_law pc = .ok (.iadd, 1)) (k : VLaw E p e s m below meth c b (pc + 1) ls (xi (a + b2) :: st) n hp ce sl) : VLaw E p e s m below meth c b pc ls (xi b2 :: xi a :: st) n hp ce sl :=
  VLaw_st (fun H locs la Z hL kk => by
    refine lv_iadd C.1.1 C.1.2.1 hd ?_
    rw [xI_add]
    exact kk la hL) k
theorem l_isub (C : LCx E p s m meth c b L xs) {a b2 : Int} (hd : decode cL_law pc = .ok (.isub, 1)) (k : VLaw E p e s m below meth c b (pc + 1) ls (xi (a - b2) :: st) n hp ce sl) : VLaw E p e s m below meth c b pc ls (xi b2 :: xi a :: st) n hp ce sl :=
  VLaw_st (fun H locs la Z hL kk => by
    refine lv_isub C.1.1 C.1.2.1 hd ?_
    rw [xI_sub]
    exact kk la hL) k
theorem l_iand63 (C : LCx E p s m meth c b L xs) {a : Int} (hd : decode cL_law pc = .ok (.iand, 1)) (k : VLaw E p e s m below meth c b (pc + 1) ls (xi (a % 64) :: st) n hp ce sl) : VLaw E p e s m below meth c b pc ls (xi 63 :: xi a :: st) n hp ce sl :=
  VLaw_st (fun H locs la Z hL kk => by
    refine lv_iand C.1.1 C.1.2.1 hd ?_
    rw [xI_and63]
    exact kk la hL) k
theorem l_lcmp (C : LCx E p s m meth c b L xs) {a b2 : Int} (hd : decode cL_law pc = .ok (.lcmp, 1)) (ha : -9223372036854775808 ≤ a ∧ a < 9223372036854775808) (hb : -9223372036854775808 ≤ b2 ∧ b2 < 9223372036854775808) (k : VLaw E p e s m below meth c b (pc + 1) ls (xi (if b2 < a then 1 else if a = b2 then 0 else -1) :: st) n hp ce sl) : VLaw E p e s m below meth c b pc ls (xl b2 :: xl a :: st) n hp ce sl :=
  VLaw_st (fun H locs la Z hL kk => by
    refine W.lcmp C.1.1 C.1.2.1 hd ?_
    rw [xJ_cmp ha hb]
    exact kk la hL) k
theorem l_dup (C : LCx E p s m meth c b L xs) {v : Value} (hd : decode cL_law pc = .ok (.dup, 1)) (hv : v.category = 1 := by rfl) (k : VLaw E p e s m below meth c b (pc + 1) ls (v :: v :: st) n hp ce sl) : VLaw E p e s m below meth c b pc ls (v :: st) n hp ce sl :=
  VLaw_st (fun H locs la Z hL kk => by exact lv_dup C.1.1 C.1.2.1 hd hv (kk la hL)) k
theorem l_icmp_eq (C : LCx E p s m meth c b L xs) {a b2 off : Int} (tgt : Nat) (hd : decode cL_law pc = .ok (.if_icmp .eq off, 3)) (ht : (pc : Int) + off = (tgt : Int)) (ha : -2147483648 ≤ a ∧ a < 2147483648) (hb : -2147483648 ≤ b2 ∧ b2 < 2147483648) (kt : a = b2 → VLaw E p e s m below meth c b tgt ls st n hp ce sl) (kf : ¬ (a = b2) → VLaw E p e s m below meth c b (pc + 3) ls st n hp ce sl) : VLaw E p e s m below meth c b pc ls (xi b2 :: xi a :: st) n hp ce sl :=
  VLaw_br (fun H locs la Z k1 k2 => lv_icmp_eq C.1.1 C.1.2.1 hd ht (fun q => k1 ((xI_eq ha hb).mp q)) (fun q => k2 (fun z => q ((xI_eq ha hb).mpr z)))) kt kf
theorem l_if_eq (C : LCx E p s m meth c b L xs) {a off : Int} (tgt : Nat) (hd : decode cL_law pc = .ok (.ifCond .eq off, 3)) (ht : (pc : Int) + off = (tgt : Int)) (ha : -2147483648 ≤ a ∧ a < 2147483648) (kt : a = 0 → VLaw E p e s m below meth c b tgt ls st n hp ce sl) (kf : ¬ (a = 0) → VLaw E p e s m below meth c b (pc + 3) ls st n hp ce sl) : VLaw E p e s m below meth c b pc ls (xi a :: st) n hp ce sl :=
  have h0 : -2147483648 ≤ (0 : Int) ∧ (0 : Int) < 2147483648 := by omega
  VLaw_br (fun H locs la Z k1 k2 => lv_if_eq C.1.1 C.1.2.1 hd ht (fun q => k1 ((xI_eq ha h0).mp q)) (fun q => k2 (fun z => q ((xI_eq ha h0).mpr z)))) kt kf
theorem l_icmp_gt (C : LCx E p s m meth c b L xs) {a b2 off : Int} (tgt : Nat) (hd : decode cL_law pc = .ok (.if_icmp .gt off, 3)) (ht : (pc : Int) + off = (tgt : Int)) (ha : -2147483648 ≤ a ∧ a < 2147483648) (hb : -2147483648 ≤ b2 ∧ b2 < 2147483648) (kt : b2 < a → VLaw E p e s m below meth c b tgt ls st n hp ce sl) (kf : ¬ (b2 < a) → VLaw E p e s m below meth c b (pc + 3) ls st n hp ce sl) : VLaw E p e s m below meth c b pc ls (xi b2 :: xi a :: st) n hp ce sl :=
  VLaw_br (fun H locs la Z k1 k2 => lv_icmp_gt C.1.1 C.1.2.1 hd ht (fun q => k1 ((xI_lt hb ha).mp q)) (fun q => k2 (fun z => q ((xI_lt hb ha).mpr z)))) kt kf
theorem l_goto (C : LCx E p s m meth c b L xs) {off : Int} (tgt : Nat) (hd : decode cL_law pc = .ok (.goto off, 3)) (ht : (pc : Int) + off = (tgt : Int)) (k : VLaw E p e s m below meth c b tgt ls st n hp ce sl) : VLaw E p e s m below meth c b pc ls st n hp ce sl :=
  VLaw_st (fun H locs la Z hL kk => lv_goto C.1.1 C.1.2.1 hd ht (kk la hL)) k
theorem l_tabIn (C : LCx E p s m meth c b L xs) {a dflt lo hi off : Int} {offs : Array Int} {len : Nat} (tgt : Nat) (hd : decode cL_law pc = .ok (.tableswitch dflt lo hi offs, len)) (ha : -2147483648 ≤ a ∧ a < 2147483648) (h : lo ≤ a ∧ a ≤ hi) (ho : offs[(a - lo).toNat]? = some off) (ht : (pc : Int) + off = (tgt : Int)) (k : VLaw E p e s m below meth c b tgt ls st n hp ce sl) : VLaw E p e s m below meth c b pc ls (xi a :: st) n hp ce sl :=
  VLaw_st (fun H locs la Z hL kk => lv_tableIn C.1.1 C.1.2.1 hd (by rw [xI_toInt ha]; omega) (by rw [xI_toInt ha]; omega) (by rw [xI_toInt ha]; exact ho) ht (kk la hL)) k
theorem l_tabOut (C : LCx E p s m meth c b L xs) {a dflt lo hi : Int} {offs : Array Int} {len : Nat} (tgt : Nat) (hd : decode cL_law pc = .ok (.tableswitch dflt lo hi offs, len)) (ha : -2147483648 ≤ a ∧ a < 2147483648) (h : a < lo ∨ hi < a) (ht : (pc : Int) + dflt = (tgt : Int)) (k : VLaw E p e s m below meth c b tgt ls st n hp ce sl) : VLaw E p e s m below meth c b pc ls (xi a :: st) n hp ce sl :=
  VLaw_st (fun H locs la Z hL kk => lv_tableOut C.1.1 C.1.2.1 hd (by rw [xI_toInt ha]; exact h) ht (kk la hL)) k
theorem l_slen (C : LCx E p s m meth c b L xs) (hd : decode cL_law pc = .ok (.arraylength, 1)) (k : VLaw E p e s m below meth c b (pc + 1) ls (xi (L : Int) :: st) n hp ce sl) : VLaw E p e s m below meth c b pc ls (.ref b :: st) n hp ce sl := by
  intro H locs la hP hS hL
  exact va_slen C.1.1 C.1.2.1 C.2.1 C.2.2.1 (fun h => by have h1 : E.2.1 ≤ b := h; have := C.2.2.1; have := C.2.2.2.1; omega) hS hd (k H locs la hP hS hL)
theorem l_sld (C : LCx E p s m meth c b L xs) {i : Int} (h0 : 0 ≤ i) (h1 : i < L) (hd : decode cL_law pc = .ok (.iaload, 1)) (k : VLaw E p e s m below meth c b (pc + 1) ls (.int (xs i.toNat) :: st) n hp ce sl) : VLaw E p e s m below meth c b pc ls (xi i :: .ref b :: st) n hp ce sl := by
  intro H locs la hP hS hL
  have hLL := C.2.2.2.2
  refine va_sld C.1.1 C.1.2.1 C.2.1 C.2.2.1 (fun h => by have h1 : E.2.1 ≤ b := h; have := C.2.2.1; have := C.2.2.2.1; omega) hS (i := xI i) (xI_in h0 h1 (by omega)) hd ?_
  rw [xI_clamp (by omega)]
  exact k H locs la hP hS hL
theorem l_ret1 (C : LCx E p s m meth c b L xs) (hc : ce ≤ 600000) (hs : sl ≤ 7302249) (hd : decode cL_law pc = .ok (.ireturn, 1)) : VLaw E p e s m below meth c b pc ls [.int 1] n hp ce sl := by
  intro H locs la hP hS hL
  refine va_forget (fun q hq => ?_) (W.widen hc hs (lw_ret C.1.1 C.1.2.1 C.1.2.2.2.2.2.1 C.1.2.2.2.2.2.2.2.1 hd))
  have h1 : E.2.1 ≤ q.base := hS.2.2 q hq
  have := C.2.2.2.1
  omega
theorem l_new (C : LCx E p s m meth c b L xs) {K : String} {T : u_T} {N : Nat} {ty : Nat → FieldType} {ci idx : Nat} (fs : List Value) (hx : xcls ci K T N ty) (hw1 : Cond.classLink RL idx K ∈ gT) (hw2 : Cond.instantiable K N ∈ gT) (hw3 : Cond.initialized K ∈ gT) (hfs : ∀ j, j < N → defaultValue (ty j) = vp_V fs j) (hcm : ce + 1 ≤ 600000) (hsm : sl + N ≤ 7302249) (hd : decode cL_law pc = .ok (.new idx, 3))
    (kk : VLaw E p e s m below meth c b (pc + 3) ls (xr E n :: st) (n + 1) (va_up hp n (.inr (ci, fs))) (ce + 1) (sl + N)) : VLaw E p e s m below meth c b pc ls st n hp ce sl := by
  intro H locs la hP hS hL
  have ok := C.1
  have hts := ok.2.2.2.2.1
  have hK := ok.2.2.2.2.2.2.2.2.1
  have hKn := hK.1 ci _ hx.1
  refine W.newcK ok.1 ok.2.1 ok.2.2.2.1 (hts _ hw1) (hts _ hw2) (hts _ hw3) rfl hd hcm hsm hKn.2.1 hP.1 fun H1 kC hkC e1 z1 o1 => ?_
  exact kk H1 locs la (hP.push (by rw [z1, hP.1]) (fun q hq => o1 q (by rw [← hP.1]; exact hq)) ⟨_, hx.1, (u_born ty hts hx.2.1 hKn hkC e1 hx.2.2.1).to hfs⟩) ⟨by have := hS.1; have := hP.1; omega, fun q h1 h2 => (o1 q (by have := hS.1; have := hP.1; omega)).trans (hS.2.1 q h1 h2), hS.2.2⟩ hL
theorem lBack (C : LCx E p s m meth c b L xs) {mc' ms' : Nat} {rest : List Value} {Q' : Option Value → Nat → (Nat → va_E) → Prop} {H : Heap} {locs : List Loc} {la : Array Slot} {a : Array Value}
    (hS : va_S (xA E) s.heap H locs) (hL : xL la ls)
    (hr : va_Run p E.1 e room_1 s m #[Value.ref b] below meth c H locs ce sl mc' ms' (F0 m pc la st) rest (xQ E Q' a) (xA E))
    (kk : ∀ v n' hp', Q' v n' hp' → VLaw E p e s m below meth c b (pc + 3) ls (v.toList ++ rest) n' hp' (ce + mc') (sl + ms')) :
    W p E.1 e room_1 s m #[Value.ref b] below meth c H locs ce sl (lw_Z below #[Value.ref b] s) (F0 m pc la st) := by
  intro T hT X
  obtain ⟨v, st₀, t, T', L', h0, X', hLo, e1, e2, ⟨⟨v', n', hp', hv, hq, hP'⟩, hz, hkk⟩, stp⟩ := hr T hT X
  cases hv
  rw [h0] at hz hkk
  obtain ⟨t2, a1, b1⟩ := kk v n' hp' hq T'.heap (locs ++ L') la (by rw [e1]; exact hP')
    ⟨Nat.le_trans hS.1 (by rw [e1]; exact hz), fun q h1 h2 => by rw [e1, hkk q (Nat.lt_of_lt_of_le h1 hS.1) h2]; exact hS.2.1 q h1 h2, fun q hq => by
      rcases List.mem_append.mp hq with h | h
      · exact hS.2.2 q h
      · exact hLo q h⟩ hL T' rfl X'
  exact ⟨t2, stp t2 a1, b1⟩
theorem l_callI0 (C : LCx E p s m meth c b L xs) {z : xM} {nL d' mc' ms' idx np : Nat} {Q' : Option Value → Nat → (Nat → va_E) → Prop} {As rest : List Value} {k : Nat} (hl4 : ls.length = 4) (hz : z.2.2 = none) (hK : xK E z nL d' mc' ms' (xr E k :: As) n hp Q') (cw : xci z nL np) (hw : Cond.methodLink RL idx z.1 ∈ gT) (hst : st = As.reverse ++ xr E k :: rest) (hn : As.length = np) (hrm : (rest.map fun v => v.category).sum ≤ 8) (hdp : d' ≤ 100) (hcm : ce + mc' ≤ 600000) (hsm : sl + ms' ≤ 7302249) (hd : decode cL_law pc = .ok (.invokespecial idx, 3))
    (kk : ∀ v n' hp', Q' v n' hp' → VLaw E p e s m below meth c b (pc + 3) ls (v.toList ++ rest) n' hp' (ce + mc') (sl + ms')) : VLaw E p e s m below meth c b pc ls st n hp ce sl := by
  intro H locs la hP hS hL
  have ok := C.1
  have hts := ok.2.2.2.2.1
  obtain ⟨⟨c1, c2, c3, c4⟩, c5, c6⟩ := cw
  have hcb := callB_of (R := room_1) (own := RL) (index := idx) np hts (gT_code c2) rfl (rm := xRm d' mc' ms') (mc := mc') (ms := ms') rfl rfl (hts _ c1) (hts _ hw) c3 ⟨by show d' + 1 ≤ 2048; omega, by show 8 + (nL + 11) + 40 * d' ≤ 84000; omega⟩
  rw [hz] at hcb
  unfold xK at hK
  rw [hz] at hK
  subst hst
  exact lBack (a := (xr E k :: As).toArray) C hS hL (va_runI (b := E.2.1 + k) (As := As) (rest := rest) ⟨ok.1, ok.2.1, ok.2.2.1, ok.2.2.2.1, hts⟩ hK ⟨hcb, c6, hts _ c5⟩ ⟨xBlind, fun U hU hW => ⟨rfl, by rw [hU]; exact hP, ok.2.2.2.2.2.2.2.2.go hW (fun a h1 h2 => by rw [hU]; exact hS.2.1 a h1 h2)⟩⟩ rfl hn (hL.1.trans hl4) rfl (lv_room hrm) hd ⟨hcm, hsm⟩) kk
theorem l_callV0 (C : LCx E p s m meth c b L xs) {z : xM} {nL d' mc' ms' idx np : Nat} {Q' : Option Value → Nat → (Nat → va_E) → Prop} {As rest : List Value} {k ci : Nat} {fs : List Value} {r : vw_C} (hl4 : ls.length = 4) (hK : xK E z nL d' mc' ms' (xr E k :: As) n hp Q') (cw : xcv z nL np) (hw : Cond.methodLink RL idx z.1 ∈ gT) (hst : st = As.reverse ++ xr E k :: rest) (hn : As.length = np) (hk : k < n) (hc : hp k = .inr (ci, fs)) (hcl : vwCl[ci]? = some r) (hr : r.1 = z.1.cls) (hrm : (rest.map fun v => v.category).sum ≤ 8) (hdp : d' ≤ 100) (hcm : ce + mc' ≤ 600000) (hsm : sl + ms' ≤ 7302249) (hd : decode cL_law pc = .ok (.invokevirtual idx, 3))
    (kk : ∀ v n' hp', Q' v n' hp' → VLaw E p e s m below meth c b (pc + 3) ls (v.toList ++ rest) n' hp' (ce + mc') (sl + ms')) : VLaw E p e s m below meth c b pc ls st n hp ce sl := by
  intro H locs la hP hS hL
  have ok := C.1
  have hts := ok.2.2.2.2.1
  obtain ⟨⟨c1, c2, c3, c4⟩, c5, c6⟩ := cw
  have hcb := callB_of (R := room_1) (own := RL) (index := idx) np hts (gT_code c2) rfl (rm := xRm d' mc' ms') (mc := mc') (ms := ms') rfl rfl (hts _ c1) (hts _ hw) c3 ⟨by show d' + 1 ≤ 2048; omega, by show 8 + (nL + 11) + 40 * d' ≤ 84000; omega⟩
  subst hst
  refine lBack (a := (xr E k :: As).toArray) C hS hL (va_runV (C := z.1.cls) (b := E.2.1 + k) (As := As) (rest := rest) ⟨ok.1, ok.2.1, ok.2.2.1, ok.2.2.2.1, hts⟩ hK ⟨hcb, hts _ c5, hts _ c6⟩ ⟨xBlind, ?_, fun U hU hW => ⟨rfl, by rw [hU]; exact hP, ok.2.2.2.2.2.2.2.2.go hW (fun a h1 h2 => by rw [hU]; exact hS.2.1 a h1 h2)⟩⟩ rfl hn (hL.1.trans hl4) rfl (lv_room hrm) hd ⟨hcm, hsm⟩) kk
  rw [← hr]
  exact va_recv ok.2.2.2.2.2.2.2.2.1 hP.2 (q0 := k) hcl (by rw [xW_at hk, hc])
theorem l_callS (C : LCx E p s m meth c b L xs) {z : xM} {nL d' idx np : Nat} {As rest : List Value} {k ci : Nat} {l : List (Option Nat)} {rv : Value} {M M1 : xMem} {q : vw_C} (hl4 : ls.length = 4) (hM : InR M) (hK : Ct E z nL d' (xr E k :: As) M (some rv) M1) (cw : xcv z nL np) (hw : Cond.methodLink RL idx z.1 ∈ gT) (hst : st = As.reverse ++ xr E k :: rest) (hn : As.length = np) (hs : shp k = (0, ci, l)) (hcl : vwCl[ci]? = some q) (hr : q.1 = z.1.cls) (hrm : (rest.map fun v => v.category).sum ≤ 8) (hdp : d' ≤ 100) (hcm : ce ≤ 600000) (hsm : sl ≤ 7302249) (hd : decode cL_law pc = .ok (.invokevirtual idx, 3))
    (kk : InR M1 → VLaw E p e s m below meth c b (pc + 3) ls (rv :: rest) nC (xC E M1) ce sl) : VLaw E p e s m below meth c b pc ls st nC (xC E M) ce sl := by
  refine l_callV0 C hl4 (hK hM) cw hw hst hn (shp_lt hs (by omega)) (fs := xflds E M k 0 l) (by unfold xC; rw [hs]; rfl) hcl hr hrm hdp hcm hsm hd ?_
  rintro v n' hp' ⟨rfl, rfl, rfl, h⟩
  exact kk h
theorem l_nn {n' ce' sl' : Nat} (hn : n = n') (hc : ce = ce') (hs : sl = sl') (k : VLaw E p e s m below meth c b pc ls st n' hp ce' sl') : VLaw E p e s m below meth c b pc ls st n hp ce sl := by
  subst hn; subst hc; subst hs
  exact k
theorem l_cg {hp' : Nat → va_E} (h : ∀ a, a < n → hp' a = hp a) (k : VLaw E p e s m below meth c b pc ls st n hp' ce sl) : VLaw E p e s m below meth c b pc ls st n hp ce sl := by
  intro H locs la hP hS hL
  refine k H locs la ⟨hP.1, fun i q hq => ?_⟩ hS hL
  obtain ⟨hi, rfl⟩ := xW_get hq
  rw [h i hi]
  exact hP.2 i _ (xW_at hi)
end LAW
