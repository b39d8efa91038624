section RDL
/-- what is told so far, in both -/
def DRt (X Y : xMem) : Prop := (X 151 5 = Y 206 2 ∧ 1 ≤ X 151 5 ∧ X 151 5 ≤ 60) ∧ X 157 5 = X 151 5 ∧ (X 157 7 = Y 201 12 ∧ 1 ≤ X 157 7 ∧ X 157 7 ≤ 9) ∧ (X 151 6 = Y 206 0 ∧ 0 ≤ X 151 6 ∧ X 151 6 ≤ 5) ∧ (X 151 7 = Y 206 1 ∧ 0 ≤ X 151 7 ∧ X 151 7 ≤ 6) ∧
  (∀ i : Nat, (i : Int) < X 151 6 → (X 152 i = Y 206 (3 + i) ∧ 0 ≤ X 152 i ∧ X 152 i ≤ 20) ∧ (X 158 i = Y 207 i ∧ 0 ≤ X 158 i ∧ X 158 i ≤ 99)) ∧
  (∀ s : Nat, (s : Int) < X 151 7 → (X 153 s = Y 206 (8 + s) ∧ 1 ≤ X 153 s ∧ X 153 s ≤ 5) ∧ (X 154 s = Y 206 (14 + s) ∧ 0 ≤ X 154 s ∧ X 154 s < X 151 6) ∧ (X 155 s = Y 206 (20 + s) ∧ 1 ≤ X 155 s ∧ X 155 s ≤ 30) ∧
    (X 156 s = (if Y 206 (26 + s) = -1000000 then (s : Int) else Y 206 (26 + s)) ∧ 0 ≤ X 156 s ∧ X 156 s ≤ s ∧ (Y 206 (26 + s) = -1000000 ∨ (0 ≤ Y 206 (26 + s) ∧ Y 206 (26 + s) < s))))
theorem DRt.rs {X Y : xMem} (h : DRt X Y) : DRt X (rsM Y) := by
  unfold DRt
  rw [rs_row (M := Y) (a := 206) (by decide), rs_row (M := Y) (a := 207) (by decide), rs_o (M := Y) (j := 12) (by decide)]
  exact h
theorem FR.y12 {A B X Y : xMem} {v : Int} (h : FR A B X Y) : FR A B X (mS Y 201 12 v) := by
  obtain ⟨h1, h2, h3, h4, h5⟩ := h
  unfold FR
  rw [mS_ne (M := Y) (j := 10) (by decide), mS_ne (M := Y) (j := 9) (by decide), mS_ne (M := Y) (j := 7) (by decide), mS_ne (M := Y) (j := 4) (by decide)]
  exact ⟨h1, FY_mS (by decide) h2, h3, h4, h5⟩
theorem DRt_0 {X Y : xMem} {v : Int} (m2 : X 151 5 = Y 206 2 ∧ 1 ≤ X 151 5 ∧ X 151 5 ≤ 60) (m3 : X 157 5 = X 151 5) (m4 : X 157 7 = v ∧ 1 ≤ X 157 7 ∧ X 157 7 ≤ 9) (m5 : X 151 6 = 0) (m6 : X 151 7 = 0) (m7 : Y 206 0 = 0) (m8 : Y 206 1 = 0) : DRt X (mS Y 201 12 v) :=
  ⟨⟨m2.1.trans (mS_ne (by decide)).symm, m2.2⟩, m3, ⟨m4.1.trans mS_eq.symm, m4.2⟩, ⟨m5.trans ((mS_ne (by decide)).trans m7).symm, by omega, by omega⟩, ⟨m6.trans ((mS_ne (by decide)).trans m8).symm, by omega, by omega⟩, fun i hi => absurd hi (by omega), fun s hs => absurd hs (by omega)⟩
theorem law_or {A B X Y : xMem} (h : Zt A B X Y) (h6 : X 151 6 = 0 ∧ X 151 7 = 0 ∧ Y 206 0 = 0 ∧ Y 206 1 = 0) : OR2 A B (fun X' Y' => Zt A B X' (rsM Y') ∧ DRt X' Y' ∧ X' 151 6 = 0 ∧ X' 151 7 = 0) (rdLaw X) (ryLaw Y) := by
  have hs := h.sg (x := 99) (by decide)
  unfold rdLaw ryLaw
  by_cases c : X 149 8 = 99
  · rw [exS_t c, if_pos (hs.mpr c)]
    have key : OR2 A B (fun X' Y' => Zt A B X' (rsM Y') ∧ (X' 151 5 = Y' 206 2 ∧ 1 ≤ X' 151 5 ∧ X' 151 5 ≤ 60) ∧ X' 157 5 = X' 151 5 ∧ (X' 157 7 = Y' 208 0 ∧ 1 ≤ X' 157 7 ∧ X' 157 7 ≤ 9) ∧ X' 151 6 = 0 ∧ X' 151 7 = 0 ∧ Y' 206 0 = 0 ∧ Y' 206 1 = 0) (exN (advM X) 1 60 fun v B => exS (mS (mS B 151 5 v) 157 5 v) 44 fun C => exN C 1 9 fun u D => exS (mS D 157 7 u) 59 fun F => (true, F)) (ryLI Y) := by
      unfold ryLI
      refine or_N h.1.adv (Or.inl rfl) (fun v l1 l2 z1 => ?_)
      refine or_S ((z1.dx (by decide)).dx (by decide)) (by decide) (fun z2 => ?_)
      refine or_N z2 (by decide) (fun u l3 l4 z3 => ?_)
      refine or_S (z3.dx (by decide)) (by decide) (fun z4 => ?_)
      refine Or.inl ⟨rfl, rfl, z4, ?_⟩
      dsimp only
      simp (disch := decide) only [adv_lo, mS_ne, mS_eq, rs_lo]
      exact ⟨⟨trivial, l1, l2⟩, trivial, ⟨trivial, l3, l4⟩, h6⟩
    rcases key with ⟨k1, k2, k3⟩ | ⟨k1, k2, k3⟩
    · refine Or.inl ⟨k1, k2, ?_⟩
      obtain ⟨m1, m2, m3, m4, m5, m6, m7, m8⟩ := k3
      refine ⟨Zn.dy (by decide) m1, ?_, m5, m6⟩
      exact DRt_0 m2 m3 m4 m5 m6 m7 m8
    · exact Or.inr ⟨k1, k2, k3.y12⟩
  · rw [exS_f c, if_neg (fun z => c (hs.mp z))]
    exact Or.inr ⟨rfl, rfl, h.fail 1⟩
theorem per_or {A B X Y : xMem} (h : Zt A B X Y) (hd : DRt X Y) (h7 : X 151 7 = 0) (ht : X 149 8 = 122) : OR2 A B (fun X' Y' => Zt A B X' (rsM Y') ∧ DRt X' Y' ∧ X' 151 6 = X 151 6 + 1 ∧ X' 151 7 = 0) (rdPer X) (ryPer Y) := by
  obtain ⟨d1, d2, d3, d4, d5, d6, d7⟩ := hd
  unfold rdPer ryPer
  by_cases c : X 151 6 = 5
  · rw [if_pos (show X 149 8 = 122 ∧ 5 ≤ X 151 6 by omega), if_pos (show Y 206 0 = 5 by omega)]
    exact Or.inr ⟨rfl, rfl, h.fail 3⟩
  · rw [if_neg (show ¬ (X 149 8 = 122 ∧ 5 ≤ X 151 6) by omega), if_neg (show ¬ Y 206 0 = 5 by omega), exS_t ht, ← d4.1]
    refine or_N (Zn.dy (by decide) h.1.adv) (by decide) (fun v l1 l2 z1 => ?_)
    refine or_S (z1.dx (by omega)) (by decide) (fun z2 => ?_)
    refine or_N z2 (by decide) (fun u l3 l4 z3 => ?_)
    refine or_S ((z3.dx (by omega)).dx (by decide)) (by decide) (fun z4 => ?_)
    refine Or.inl ⟨rfl, rfl, z4, ?_, ?_, ?_⟩
    · unfold DRt
      dsimp only
      simp (disch := omega) only [adv_lo, mS_ne, mS_eq, rs_lo, rs_o]
      refine ⟨d1, d2, d3, ⟨trivial, by omega, by omega⟩, d5, fun i hi => ?_, fun s hs => by omega⟩
      by_cases e : i = (X 151 6).toNat
      · subst e
        rw [show 3 + (X 151 6).toNat = (3 + X 151 6).toNat by omega]
        simp (disch := omega) only [adv_lo, mS_ne, mS_eq, rs_lo]
        exact ⟨⟨trivial, l3, l4⟩, ⟨trivial, l1, l2⟩⟩
      · simp (disch := omega) only [adv_lo, mS_ne, rs_lo]
        exact d6 i (by omega)
    · simp (disch := omega) only [adv_lo, mS_eq]
    · simp (disch := omega) only [adv_lo, mS_ne]
      exact h7
theorem spe_or {A B X Y : xMem} (h : Zt A B X Y) (hd : DRt X Y) : OR2 A B (fun X' Y' => Zt A B X' (rsM Y') ∧ DRt X' Y' ∧ X' 151 6 = X 151 6 ∧ X' 151 7 = X 151 7 + 1) (rdSpe X) (rySpe Y) := by
  obtain ⟨d1, d2, d3, d4, d5, d6, d7⟩ := hd
  have hso := h.so
  unfold rdSpe rySpe
  rw [hso]
  by_cases c0 : sortT (X 149 8) = 0
  · rw [if_pos c0, if_pos c0]
    exact Or.inr ⟨rfl, rfl, h.fail 1⟩
  · rw [if_neg c0, if_neg c0]
    by_cases c : X 151 7 = 6
    · rw [if_pos (show 6 ≤ X 151 7 by omega), if_pos (show Y 206 1 = 6 by omega)]
      exact Or.inr ⟨rfl, rfl, h.fail 3⟩
    · rw [if_neg (show ¬ 6 ≤ X 151 7 by omega), if_neg (show ¬ Y 206 1 = 6 by omega), ← d4.1, ← d5.1]
      have hsb : 1 ≤ sortT (X 149 8) ∧ sortT (X 149 8) ≤ 5 := by
        have : 0 ≤ sortT (X 149 8) ∧ sortT (X 149 8) ≤ 5 := by unfold sortT; (repeat' split) <;> omega
        omega
      generalize sortT (X 149 8) = so at *
      refine or_N (Zn.dy (by omega) (Zn.dy (by omega) ((h.1.dx (k := 153) (f := (X 151 7).toNat) (v := so) (by omega)).adv))) (by decide) (fun v l1 l2 z1 => ?_)
      refine or_S (z1.dx (by omega)) (by decide) (fun z2 => ?_)
      refine or_N z2 (by decide) (fun u l3 l4 z3 => ?_)
      refine or_S (z3.dx (by omega)) (by decide) (fun z4 => ?_)
      refine or_N z4 (by decide) (fun t l5 l6 z5 => ?_)
      refine or_S (Zn.dy (by omega) ((z5.dx (by omega)).dx (by decide))) (by decide) (fun z6 => ?_)
      refine Or.inl ⟨rfl, rfl, z6, ?_, ?_, ?_⟩
      · unfold DRt
        dsimp only
        simp (disch := omega) only [adv_lo, mS_ne, mS_eq, rs_lo, rs_o]
        refine ⟨d1, d2, d3, d4, ⟨trivial, by omega, by omega⟩, fun i hi => ?_, fun s hs => ?_⟩
        · simp (disch := omega) only [adv_lo, mS_ne, rs_lo]
          exact d6 i hi
        · by_cases e : s = (X 151 7).toNat
          · subst e
            rw [show 8 + (X 151 7).toNat = (8 + X 151 7).toNat by omega, show 14 + (X 151 7).toNat = (14 + X 151 7).toNat by omega, show 20 + (X 151 7).toNat = (20 + X 151 7).toNat by omega, show 26 + (X 151 7).toNat = (26 + X 151 7).toNat by omega]
            simp (disch := omega) only [adv_lo, mS_ne, mS_eq, rs_lo]
            unfold nnT
            refine ⟨⟨trivial, hsb⟩, ⟨trivial, by omega, by omega⟩, ⟨trivial, l3, l4⟩, ?_, by omega, by omega, ?_⟩
            · by_cases e2 : t = X 151 7
              · rw [if_pos e2, if_pos rfl]; omega
              · rw [if_neg e2, if_neg (by omega)]
            · by_cases e2 : t = X 151 7
              · rw [if_pos e2]; exact Or.inl rfl
              · rw [if_neg e2]; right; omega
          · simp (disch := omega) only [adv_lo, mS_ne, rs_lo]
            exact d7 s (by omega)
      · simp (disch := omega) only [adv_lo, mS_ne]
      · simp (disch := omega) only [adv_lo, mS_eq]
def ryP2 (P : Bool × xMem) : Bool × xMem := if P.1 = true then (if P.2 206 0 = 0 then (false, mS P.2 201 10 1) else (true, P.2)) else (false, P.2)
theorem people_or {A B : xMem} : ∀ (k : Nat) (X Y : xMem), Zt A B X Y → DRt X Y → X 151 7 = 0 → (k : Int) = 6 - X 151 6 → OR2 A B (fun X' Y' => Zt A B X' Y' ∧ DRt X' Y' ∧ 1 ≤ X' 151 6 ∧ X' 151 7 = 0) (rpL k (X 151 6) X) (ryP2 (ryPL k Y))
  | 0, X, Y, h, hd, h7, hk => absurd hk (by have := hd.2.2.2.1; omega)
  | k + 1, X, Y, h, hd, h7, hk => by
    have hs := h.sg (x := 122) (by decide)
    have d4 := hd.2.2.2.1
    have d5 := hd.2.2.2.2.1
    by_cases c : X 149 8 = 122
    · have cy : Y 201 7 = 122 ∧ Y 206 1 = 0 := ⟨hs.mpr c, by omega⟩
      rcases per_or h hd h7 c with ⟨k1, k2, k3⟩ | ⟨k1, k2, k3⟩
      · obtain ⟨m1, m2, m3, m4⟩ := k3
        rw [rpL_t (Or.inr c) k1, ryPL_t cy k2, ← m3]
        exact people_or k (rdPer X).2 (rsM (ryPer Y).2) m1 m2.rs m4 (by omega)
      · rw [rpL_f (Or.inr c) (by rw [k1]; decide), ryPL_f cy (by rw [k2]; decide)]
        rw [show ryP2 (false, (ryPer Y).2) = (false, (ryPer Y).2) from rfl]
        exact Or.inr ⟨rfl, rfl, k3⟩
    · have cy : ¬ (Y 201 7 = 122 ∧ Y 206 1 = 0) := fun z => c (hs.mp z.1)
      rw [ryPL_e cy]
      unfold ryP2
      rw [if_pos rfl]
      by_cases e : X 151 6 = 0
      · have er : rdPer X = (false, mS X 149 4 1) := by
          unfold rdPer
          rw [if_neg (fun z => c z.1), exS_f c]
        rw [e, rpL_f (Or.inl rfl) (by rw [er]; exact fun z => absurd (show false = true from z) (by decide)), er, if_pos (show Y 206 0 = 0 by omega)]
        exact Or.inr ⟨rfl, rfl, h.fail 1⟩
      · rw [rpL_e (by omega), if_neg (show ¬ Y 206 0 = 0 by omega)]
        exact Or.inl ⟨rfl, rfl, h, hd, by show 1 ≤ X 151 6; omega, h7⟩
theorem speeches_or {A B : xMem} : ∀ (k : Nat) (X Y : xMem), Zt A B X Y → DRt X Y → 1 ≤ X 151 6 → (k : Int) = 7 - X 151 7 → OR2 A B (fun X' Y' => Zt A B X' Y' ∧ DRt X' Y' ∧ 1 ≤ X' 151 6 ∧ 1 ≤ X' 151 7) (rsL k (X 151 7) X) (rySL k Y)
  | 0, X, Y, h, hd, h6, hk => absurd hk (by have := hd.2.2.2.2.1; omega)
  | k + 1, X, Y, h, hd, h6, hk => by
    have hs := h.sg (x := -1) (by decide)
    have d5 := hd.2.2.2.2.1
    by_cases c : X 151 7 = 0 ∨ ¬ X 149 8 = -1
    · have cy : ¬ Y 201 7 = -1 ∨ Y 206 1 = 0 := by
        rcases c with c | c
        · right; omega
        · left; exact fun z => c (hs.mp z)
      rcases spe_or h hd with ⟨k1, k2, k3⟩ | ⟨k1, k2, k3⟩
      · obtain ⟨m1, m2, m3, m4⟩ := k3
        rw [rsL_t c k1, rySL_t cy k2, ← m4]
        exact speeches_or k (rdSpe X).2 (rsM (rySpe Y).2) m1 m2.rs (by omega) (by omega)
      · rw [rsL_f c (by rw [k1]; decide), rySL_f cy (by rw [k2]; decide)]
        exact Or.inr ⟨rfl, rfl, k3⟩
    · have cy : ¬ (¬ Y 201 7 = -1 ∨ Y 206 1 = 0) := by
        intro z
        rcases z with z | z
        · exact c (Or.inr (fun y => z (hs.mpr y)))
        · exact c (Or.inl (by omega))
      rw [rsL_e c, rySL_e cy]
      exact Or.inl ⟨rfl, rfl, h, hd, h6, by show 1 ≤ X 151 7; omega⟩
theorem all_or {A B X Y : xMem} (h : Zt A B X (ryM0 Y)) (h6 : X 151 6 = 0 ∧ X 151 7 = 0) : OR2 A B (fun X' Y' => Zt A B X' Y' ∧ DRt X' Y' ∧ 1 ≤ X' 151 6 ∧ 1 ≤ X' 151 7) (rdAll X) (ryAll Y) := by
  have y0 : ryM0 Y 206 0 = 0 := by unfold ryM0; rw [rs_lo (by decide), mS_ne (by decide), mS_eq]
  have y1 : ryM0 Y 206 1 = 0 := by unfold ryM0; rw [rs_lo (by decide), mS_eq]
  unfold rdAll ryAll
  rcases law_or h ⟨h6.1, h6.2, y0, y1⟩ with ⟨k1, k2, k3⟩ | ⟨k1, k2, k3⟩
  · rw [if_pos k1, if_pos k2]
    obtain ⟨m1, m2, m3, m4⟩ := k3
    have z := people_or 6 (rdLaw X).2 (rsM (ryLaw (ryM0 Y)).2) m1 m2.rs m4 (by omega)
    rw [m3] at z
    unfold ryTail
    rcases z with ⟨p1, p2, p3⟩ | ⟨p1, p2, p3⟩
    · rw [if_pos p1]
      unfold ryP2 at p2 p3
      by_cases c : (ryPL 6 (rsM (ryLaw (ryM0 Y)).2)).1 = true
      · rw [if_pos c] at p2 p3 ⊢
        by_cases c2 : (ryPL 6 (rsM (ryLaw (ryM0 Y)).2)).2 206 0 = 0
        · rw [if_pos c2] at p2
          exact absurd (show false = true from p2) (by decide)
        · rw [if_neg c2] at p3 ⊢
          obtain ⟨n1, n2, n3, n4⟩ := p3
          have w := speeches_or 7 (rpL 6 0 (rdLaw X).2).2 (ryPL 6 (rsM (ryLaw (ryM0 Y)).2)).2 n1 n2 n3 (by omega)
          rw [n4] at w
          exact w
      · rw [if_neg c] at p2
        exact absurd (show false = true from p2) (by decide)
    · rw [if_neg (by rw [p1]; decide)]
      unfold ryP2 at p2 p3
      by_cases c : (ryPL 6 (rsM (ryLaw (ryM0 Y)).2)).1 = true
      · rw [if_pos c] at p2 p3 ⊢
        by_cases c2 : (ryPL 6 (rsM (ryLaw (ryM0 Y)).2)).2 206 0 = 0
        · rw [if_pos c2] at p3 ⊢
          exact Or.inr ⟨rfl, rfl, p3⟩
        · rw [if_neg c2] at p2
          exact absurd (show true = false from p2) (by decide)
      · rw [if_neg c] at p3 ⊢
        exact Or.inr ⟨rfl, rfl, p3⟩
  · rw [if_neg (by rw [k1]; decide), if_neg (by rw [k2]; decide)]
    exact Or.inr ⟨rfl, rfl, k3⟩
end RDL
