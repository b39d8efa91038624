set_option maxHeartbeats 4000000 in
theorem c_X10_saidAll (E : xE) {M : xMem} {set : Int} (hT : TI (tg (M 209))) (hG : GI (tg (M 209)) (sk (M 210)) 999) (hset : 0 ≤ set ∧ set ≤ 63) : Ct E mX10_saidAll 5 4 [xr E 201, xi set] M (some (xi (saT M set).1)) ((saT M set).2) := by
  refine Ct.of 3 5 (by rfl) (by decide +kernel) (fun hM => ?_)
  have hn : 1 ≤ M 209 0 ∧ M 209 0 ≤ 5 := hT.1
  have hN : 1 ≤ M 209 1 ∧ M 209 1 ≤ 6 := hT.2.1
  have hra : 1 ≤ M 209 2 ∧ M 209 2 ≤ 60 := hT.2.2.1
  show VS E mX10_saidAll 4 _ _ 0 [some (xr E 201), some (xi set), none, none, none] [] M
  have L11 : ∀ (fu : Nat) (a g s : Int) (Mc : xMem), InR Mc → (0 ≤ s ∧ s ≤ M 209 1) → (0 ≤ a ∧ a ≤ 100 * s) → (Mc 209 = M 209) → (GI (tg (M 209)) (sk (Mc 211)) 999) → ((g = 1 ∧ saL set (M 209 1 - s).toNat s a Mc = saT M set) ∨ (g = 0 ∧ (-1, Mc) = saT M set)) → (M 209 1 - s).toNat < fu → VS E mX10_saidAll 4 (some (xi (saT M set).1)) ((saT M set).2) 11 [some (xr E 201), some (xi set), some (xi a), some (xi g), some (xi s)] [] Mc := by
    intro fu
    induction fu with
    | zero => intro a g s Mc hML11 hb ha h9 hg hi hme; exact absurd hme (Nat.not_lt_zero _)
    | succ fu ih =>
      intro a g s Mc hML11 hb ha h9 hg hi hme
      have w9 : ∀ j, Mc 209 j = M 209 j := fun j => by rw [h9]
      refine r_ild4 dX10_saidAll_11 ?_
      refine r_ald0 dX10_saidAll_13 ?_
      refine s_getR fi_X10_31 (sh_201) rfl dX10_saidAll_14 ?_
      refine r_iconst dX10_saidAll_17 ?_
      refine s_iald hML11 (sh_209) (by omega) (by decide) dX10_saidAll_18 (fun g18 => ?_)
      try simp (disch := omega) only [Int.reduceToNat]
      refine r_icmp_ge 73 dX10_saidAll_19 (by decide) (by first | omega | (rw [w9]; omega)) (by first | omega | (rw [w9]; omega)) (fun c19 => ?_) (fun c19 => ?_)
      · skip
        refine r_ild3 dX10_saidAll_73 ?_
        refine r_if_eq 81 dX10_saidAll_74 (by decide) (by omega) (fun c74 => ?_) (fun c74 => ?_)
        · skip
          refine r_iconst dX10_saidAll_81 ?_
          exact s_iret hML11 rfl dX10_saidAll_82 (by first | (rw [← (hi.resolve_right (by omega)).2, show (M 209 1 - s).toNat = 0 by (first | omega | (rw [w9] at c19; omega))]; rfl) | (rw [← (hi.resolve_left (by omega)).2])) (by first | (rw [← (hi.resolve_right (by omega)).2, show (M 209 1 - s).toNat = 0 by (first | omega | (rw [w9] at c19; omega))]; rfl) | (rw [← (hi.resolve_left (by omega)).2]))
        refine r_ild2 dX10_saidAll_77 ?_
        refine r_goto 82 dX10_saidAll_78 (by decide) ?_
        exact s_iret hML11 rfl dX10_saidAll_82 (by first | (rw [← (hi.resolve_right (by omega)).2, show (M 209 1 - s).toNat = 0 by (first | omega | (rw [w9] at c19; omega))]; rfl) | (rw [← (hi.resolve_left (by omega)).2])) (by first | (rw [← (hi.resolve_right (by omega)).2, show (M 209 1 - s).toNat = 0 by (first | omega | (rw [w9] at c19; omega))]; rfl) | (rw [← (hi.resolve_left (by omega)).2]))
      refine r_ild3 dX10_saidAll_22 ?_
      refine r_if_eq 73 dX10_saidAll_23 (by decide) (by omega) (fun c23 => ?_) (fun c23 => ?_)
      · skip
        refine r_ild3 dX10_saidAll_73 ?_
        refine r_if_eq 81 dX10_saidAll_74 (by decide) (by omega) (fun c74 => ?_) (fun c74 => ?_)
        · skip
          refine r_iconst dX10_saidAll_81 ?_
          exact s_iret hML11 rfl dX10_saidAll_82 (by first | (rw [← (hi.resolve_right (by omega)).2, show (M 209 1 - s).toNat = 0 by (first | omega | (rw [w9] at c19; omega))]; rfl) | (rw [← (hi.resolve_left (by omega)).2])) (by first | (rw [← (hi.resolve_right (by omega)).2, show (M 209 1 - s).toNat = 0 by (first | omega | (rw [w9] at c19; omega))]; rfl) | (rw [← (hi.resolve_left (by omega)).2]))
        refine r_ild2 dX10_saidAll_77 ?_
        refine r_goto 82 dX10_saidAll_78 (by decide) ?_
        exact s_iret hML11 rfl dX10_saidAll_82 (by first | (rw [← (hi.resolve_right (by omega)).2, show (M 209 1 - s).toNat = 0 by (first | omega | (rw [w9] at c19; omega))]; rfl) | (rw [← (hi.resolve_left (by omega)).2])) (by first | (rw [← (hi.resolve_right (by omega)).2, show (M 209 1 - s).toNat = 0 by (first | omega | (rw [w9] at c19; omega))]; rfl) | (rw [← (hi.resolve_left (by omega)).2]))
      have hs : 0 ≤ s ∧ s < M 209 1 := by rw [w9] at c19; omega
      have hwo := wol_b hT hg.1 (s := s) hs
      have hwd := words_b hT (s := s) hs
      refine r_ild1 dX10_saidAll_26 ?_
      refine r_ild4 dX10_saidAll_27 ?_
      refine s_callS2r hML11 (c_X10_has E (by omega) (by omega)) cs_X10_has wM_X10_165 (Nat.le_of_ble_eq_true rfl) (by decide) dX10_saidAll_29 (fun _ => ?_)
      refine r_ifb_eq 67 dX10_saidAll_32 (by decide) (fun c32 => ?_) (fun c32 => ?_)
      · skip
        refine r_iinc4 dX10_saidAll_67 rfl ?_
        refine r_goto 11 dX10_saidAll_70 (by decide) ?_
        exact ih _ _ _ _  hML11 (by omega) (by omega) (by first | exact h9 | (rw [sa_lo (by decide)]; exact h9)) (by first | exact hg | (have h0 := sa_GI (M := Mc) (k := 211) (w := 999) (s := s) (by rw [h9]; exact hT) (by rw [h9]; exact hg) (by rw [w9]; exact hs) (by rw [h9]; exact c48); rw [h9] at h0; exact h0)) (by have h1 := (hi.resolve_right (by omega)).2; rw [show (M 209 1 - s).toNat = (M 209 1 - (s + 1)).toNat + 1 by omega, saL, h9] at h1; first | (rw [if_neg c32] at h1; exact Or.inl ⟨by omega, h1⟩) | (rw [if_pos c32, if_pos c48] at h1; exact Or.inl ⟨b2i_t c48, h1⟩) | (rw [if_pos c32, if_neg c48] at h1; exact Or.inr ⟨b2i_f c48, h1⟩)) (by omega)
      refine r_ald0 dX10_saidAll_35 ?_
      refine r_ald0 dX10_saidAll_36 ?_
      refine s_getR fi_X10_37 (sh_201) rfl dX10_saidAll_37 ?_
      refine r_ild4 dX10_saidAll_40 ?_
      refine s_callV2r hML11 (c_X10_can E (by exact sh_211) (by rw [h9]; exact hT) (by rw [h9]; exact hg.1) (by rw [w9]; exact hs)) cv_X10_can wM_X10_208 (sh_201) rfl rfl (Nat.le_of_ble_eq_true rfl) (by decide) dX10_saidAll_42 (fun _ => ?_)
      rw [h9]
      refine r_ist3 dX10_saidAll_45 rfl ?_
      refine r_ild2 dX10_saidAll_46 ?_
      refine r_ild3 dX10_saidAll_47 ?_
      refine r_ifb_eq 64 dX10_saidAll_48 (by decide) (fun c48 => ?_) (fun c48 => ?_)
      · skip
        refine r_iconst dX10_saidAll_64 ?_
        refine r_iadd dX10_saidAll_65 ?_
        refine r_ist2 dX10_saidAll_66 rfl ?_
        refine r_iinc4 dX10_saidAll_67 rfl ?_
        refine r_goto 11 dX10_saidAll_70 (by decide) ?_
        exact ih _ _ _ _  hML11 (by omega) (by omega) (by first | exact h9 | (rw [sa_lo (by decide)]; exact h9)) (by first | exact hg | (have h0 := sa_GI (M := Mc) (k := 211) (w := 999) (s := s) (by rw [h9]; exact hT) (by rw [h9]; exact hg) (by rw [w9]; exact hs) (by rw [h9]; exact c48); rw [h9] at h0; exact h0)) (by have h1 := (hi.resolve_right (by omega)).2; rw [show (M 209 1 - s).toNat = (M 209 1 - (s + 1)).toNat + 1 by omega, saL, h9] at h1; first | (rw [if_neg c32] at h1; exact Or.inl ⟨by omega, h1⟩) | (rw [if_pos c32, if_pos c48] at h1; exact Or.inl ⟨b2i_t c48, h1⟩) | (rw [if_pos c32, if_neg c48] at h1; exact Or.inr ⟨b2i_f c48, h1⟩)) (by omega)
      refine r_ald0 dX10_saidAll_51 ?_
      refine r_ald0 dX10_saidAll_52 ?_
      refine s_getR fi_X10_37 (sh_201) rfl dX10_saidAll_53 ?_
      refine r_ild4 dX10_saidAll_56 ?_
      refine s_callV2r hML11 (c_X10_says E (by exact sh_211) (by decide) (by rw [h9]; exact hT) (by rw [h9]; exact hg.1) (by rw [w9]; exact hs)) cv_X10_says wM_X10_212 (sh_201) rfl rfl (Nat.le_of_ble_eq_true rfl) (by decide) dX10_saidAll_58 (fun hM58 => ?_)
      rw [h9]
      refine r_goto 65 dX10_saidAll_61 (by decide) ?_
      refine r_iadd dX10_saidAll_65 ?_
      refine r_ist2 dX10_saidAll_66 rfl ?_
      refine r_iinc4 dX10_saidAll_67 rfl ?_
      refine r_goto 11 dX10_saidAll_70 (by decide) ?_
      exact ih _ _ _ _  hM58 (by omega) (by omega) (by first | exact h9 | (rw [sa_lo (by decide)]; exact h9)) (by first | exact hg | (have h0 := sa_GI (M := Mc) (k := 211) (w := 999) (s := s) (by rw [h9]; exact hT) (by rw [h9]; exact hg) (by rw [w9]; exact hs) (by rw [h9]; exact c48); rw [h9] at h0; exact h0)) (by have h1 := (hi.resolve_right (by omega)).2; rw [show (M 209 1 - s).toNat = (M 209 1 - (s + 1)).toNat + 1 by omega, saL, h9] at h1; first | (rw [if_neg c32] at h1; exact Or.inl ⟨by omega, h1⟩) | (rw [if_pos c32, if_pos c48] at h1; exact Or.inl ⟨b2i_t c48, h1⟩) | (rw [if_pos c32, if_neg c48] at h1; exact Or.inr ⟨b2i_f c48, h1⟩)) (by omega)
  refine r_ald0 dX10_saidAll_0 ?_
  refine s_callV0v hM (c_X10_copyNow E ) cv_X10_copyNow wM_X10_221 (sh_201) rfl rfl (Nat.le_of_ble_eq_true rfl) (by decide) dX10_saidAll_1 (fun hM1 => ?_)
  refine r_iconst dX10_saidAll_4 ?_
  refine r_ist2 dX10_saidAll_5 rfl ?_
  refine r_iconst dX10_saidAll_6 ?_
  refine r_ist3 dX10_saidAll_7 rfl ?_
  refine r_iconst dX10_saidAll_8 ?_
  refine r_ist4 dX10_saidAll_9 rfl ?_
  exact L11 7 _ _ _ _  hM1 (by omega) (by omega) (by exact cn_row (by decide)) (by exact GI_SA (cn_SA hT) hG) (by exact Or.inl ⟨rfl, by rw [Int.sub_zero]; rfl⟩) (by omega)
set_option maxHeartbeats 4000000 in
theorem c_X10_most (E : xE) {M : xMem} {w : Int} (hw : -2147483648 ≤ w ∧ w < 2147483648) (hD : MD M) : Ct E mX10_most 8 5 [xr E 201, xi w] M (some (xi ((yMost M w).1))) ((yMost M w).2) := by
  refine Ct.of 6 8 (by rfl) (by decide +kernel) (fun hM => ?_)
  show VS E mX10_most 5 _ _ 0 [some (xr E 201), some (xi w), none, none, none, none, none, none] [] M
  have L136 : ∀ (fu : Nat) (a s : Int), InR (saT (myT M).2.2 (myT M).1).2 → (¬ M 201 16 = 0 ∧ (0 ≤ w ∧ w ≤ 2)) → (TI (tg (M 209))) → (NN (M 209)) → ((saT (myT M).2.2 (myT M).1).2 209 = M 209) → (GI (tg (M 209)) (sk ((saT (myT M).2.2 (myT M).1).2 211)) 999) → (0 ≤ (myT M).1 ∧ (myT M).1 ≤ 63) → (0 ≤ s ∧ s ≤ M 209 1) → (0 ≤ a ∧ a < 2 ^ (M 209 0).toNat) → (foldI (fun s a => if bitI (myT M).1 s = 1 then xand a (understT (tg (M 209)) (sk ((saT (myT M).2.2 (myT M).1).2 211)) s) else a) (M 209 1 - s).toNat s a = undAllT (tg (M 209)) (sk ((saT (myT M).2.2 (myT M).1).2 211)) (myT M).1) → (M 209 1 - s).toNat < fu → VS E mX10_most 5 (some (xi ((yMost M w).1))) ((yMost M w).2) 136 [some (xr E 201), some (xi w), none, some (xi (myT M).1), some (xi (myT M).2.1), some (xi a), some (xi s), none] [] (saT (myT M).2.2 (myT M).1).2 := by
    intro fu
    induction fu with
    | zero => intro a s hML136 hw0 hT hNN h9 hg hb6 hb ha hi hme; exact absurd hme (Nat.not_lt_zero _)
    | succ fu ih =>
      intro a s hML136 hw0 hT hNN h9 hg hb6 hb ha hi hme
      have hn : 1 ≤ M 209 0 ∧ M 209 0 ≤ 5 := hT.1
      have hN : 1 ≤ M 209 1 ∧ M 209 1 ≤ 6 := hT.2.1
      have hra : 1 ≤ M 209 2 ∧ M 209 2 ≤ 60 := hT.2.2.1
      have w9 : ∀ j, (saT (myT M).2.2 (myT M).1).2 209 j = M 209 j := fun j => by rw [h9]
      have k9 := w9
      have hp5 := p2_5 (n := M 209 0) (by omega)
      refine r_ild6 dX10_most_136 ?_
      refine r_ald0 dX10_most_138 ?_
      refine s_getR fi_X10_31 (sh_201) rfl dX10_most_139 ?_
      refine r_iconst dX10_most_142 ?_
      refine s_iald hML136 (sh_209) (by omega) (by decide) dX10_most_143 (fun g143 => ?_)
      try simp (disch := omega) only [Int.reduceToNat, k9]
      refine r_icmp_ge 184 dX10_most_144 (by decide) (by omega) (by omega) (fun c144 => ?_) (fun c144 => ?_)
      · skip
        refine r_ild1 dX10_most_184 ?_
        refine r_if_ne 192 dX10_most_185 (by decide) (by omega) (fun c185 => ?_) (fun c185 => ?_)
        · skip
          refine r_ild1 dX10_most_192 ?_
          refine r_iconst dX10_most_193 ?_
          refine r_icmp_ne 202 dX10_most_194 (by decide) (by omega) (by omega) (fun c194 => ?_) (fun c194 => ?_)
          · skip
            refine r_ild5 dX10_most_202 ?_
            refine s_callS1r hML136 (c_X10_bits E (by have := p2_5 (n := M 209 0) (by omega); omega)) cs_X10_bits wM_X10_234 (Nat.le_of_ble_eq_true rfl) (by decide) dX10_most_204 (fun _ => ?_)
            exact s_iret hML136 rfl dX10_most_207 (by unfold yMost; first | (rw [if_neg (by omega), if_neg (by omega), ← hi, show (M 209 1 - s).toNat = 0 by omega]; (repeat' split) <;> first | rfl | omega | (exfalso; omega)) | ((repeat' split) <;> first | rfl | omega | (exfalso; omega))) (by unfold yMost; first | (rw [if_neg (by omega), if_neg (by omega)]; done) | ((repeat' split) <;> first | rfl | omega | (exfalso; omega)))
          refine r_ild4 dX10_most_197 ?_
          refine r_goto 207 dX10_most_199 (by decide) ?_
          exact s_iret hML136 rfl dX10_most_207 (by unfold yMost; first | (rw [if_neg (by omega), if_neg (by omega), ← hi, show (M 209 1 - s).toNat = 0 by omega]; (repeat' split) <;> first | rfl | omega | (exfalso; omega)) | ((repeat' split) <;> first | rfl | omega | (exfalso; omega))) (by unfold yMost; first | (rw [if_neg (by omega), if_neg (by omega)]; done) | ((repeat' split) <;> first | rfl | omega | (exfalso; omega)))
        refine r_ild3 dX10_most_188 ?_
        refine r_goto 207 dX10_most_189 (by decide) ?_
        exact s_iret hML136 rfl dX10_most_207 (by unfold yMost; first | (rw [if_neg (by omega), if_neg (by omega), ← hi, show (M 209 1 - s).toNat = 0 by omega]; (repeat' split) <;> first | rfl | omega | (exfalso; omega)) | ((repeat' split) <;> first | rfl | omega | (exfalso; omega))) (by unfold yMost; first | (rw [if_neg (by omega), if_neg (by omega)]; done) | ((repeat' split) <;> first | rfl | omega | (exfalso; omega)))
      refine r_ild5 dX10_most_147 ?_
      refine r_ild3 dX10_most_149 ?_
      refine r_ild6 dX10_most_150 ?_
      refine s_callS2r hML136 (c_X10_has E (by omega) (by omega)) cs_X10_has wM_X10_165 (Nat.le_of_ble_eq_true rfl) (by decide) dX10_most_152 (fun _ => ?_)
      refine r_ifb_eq 171 dX10_most_155 (by decide) (fun c155 => ?_) (fun c155 => ?_)
      · skip
        refine r_ald0 dX10_most_171 ?_
        refine s_callV0r hML136 (c_X10_all E (by rw [w9]; omega)) cv_X10_all wM_X10_176 (sh_201) rfl rfl (Nat.le_of_ble_eq_true rfl) (by decide) dX10_most_172 (fun _ => ?_)
        simp only [w9]
        refine r_iand dX10_most_175 (by first | omega | (have hu := underst_b hT hg.1 (s := s) (show 0 ≤ s ∧ s < M 209 1 by omega); omega)) (by first | omega | (have hu := underst_b hT hg.1 (s := s) (show 0 ≤ s ∧ s < M 209 1 by omega); omega)) (fun g175 => ?_)
        refine r_ist5 dX10_most_176 rfl ?_
        refine r_iinc6 dX10_most_178 rfl ?_
        refine r_goto 136 dX10_most_181 (by decide) ?_
        exact ih _ _  hML136 (by exact hw0) (by exact hT) (by exact hNN) (by exact h9) (by exact hg) (by exact hb6) (by omega) (by first | (have h0 := xand_bl (a := a) (b := understT (tg (M 209)) (sk ((saT (myT M).2.2 (myT M).1).2 211)) s) (B := a) ⟨ha.1, Int.le_refl _⟩; omega) | (have h0 := xand_bl (a := a) (b := 2 ^ (M 209 0).toNat - 1) (B := a) ⟨ha.1, Int.le_refl _⟩; omega)) (by refine foldI_go (by omega) hi ?_; first | (rw [if_pos c155]; done) | (rw [if_neg c155, and_alln (by omega) ha]; done)) (by omega)
      refine r_ald0 dX10_most_158 ?_
      refine r_ald0 dX10_most_159 ?_
      refine s_getR fi_X10_37 (sh_201) rfl dX10_most_160 ?_
      refine r_ild6 dX10_most_163 ?_
      refine s_callV2r hML136 (c_X10_clearTo E (by exact sh_211) (by rw [h9]; exact hT) (by rw [h9]; exact hg.1) (by rw [w9]; omega) (by rw [h9]; exact hNN)) cv_X10_clearTo wM_X10_218 (sh_201) rfl rfl (Nat.le_of_ble_eq_true rfl) (by decide) dX10_most_165 (fun _ => ?_)
      rw [h9]
      refine r_goto 175 dX10_most_168 (by decide) ?_
      refine r_iand dX10_most_175 (by first | omega | (have hu := underst_b hT hg.1 (s := s) (show 0 ≤ s ∧ s < M 209 1 by omega); omega)) (by first | omega | (have hu := underst_b hT hg.1 (s := s) (show 0 ≤ s ∧ s < M 209 1 by omega); omega)) (fun g175 => ?_)
      refine r_ist5 dX10_most_176 rfl ?_
      refine r_iinc6 dX10_most_178 rfl ?_
      refine r_goto 136 dX10_most_181 (by decide) ?_
      exact ih _ _  hML136 (by exact hw0) (by exact hT) (by exact hNN) (by exact h9) (by exact hg) (by exact hb6) (by omega) (by first | (have h0 := xand_bl (a := a) (b := understT (tg (M 209)) (sk ((saT (myT M).2.2 (myT M).1).2 211)) s) (B := a) ⟨ha.1, Int.le_refl _⟩; omega) | (have h0 := xand_bl (a := a) (b := 2 ^ (M 209 0).toNat - 1) (B := a) ⟨ha.1, Int.le_refl _⟩; omega)) (by refine foldI_go (by omega) hi ?_; first | (rw [if_pos c155]; done) | (rw [if_neg c155, and_alln (by omega) ha]; done)) (by omega)
  have L25 : ∀ (fu : Nat) (b l set : Int) (Mc : xMem), InR Mc → (¬ M 201 16 = 0 ∧ (0 ≤ w ∧ w ≤ 2)) → (TI (tg (M 209))) → (GI (tg (M 209)) (sk (M 210)) 999) → (NN (M 209)) → (∀ c, c ≠ 211 → Mc c = M c) → (0 ≤ b ∧ b ≤ 63) → (0 ≤ l ∧ l ≤ 600) → (1 ≤ set ∧ set ≤ 2 ^ (M 209 1).toNat) → (foldI myF (2 ^ (M 209 1).toNat - set).toNat set (b, l, Mc) = myT M) → (2 ^ (M 209 1).toNat - set).toNat < fu → VS E mX10_most 5 (some (xi ((yMost M w).1))) ((yMost M w).2) 25 [some (xr E 201), some (xi w), none, some (xi b), some (xi l), some (xi set), none, none] [] Mc := by
    intro fu
    induction fu with
    | zero => intro b l set Mc hML25 hw0 hT hG hNN hF hb hl hst hi hme; exact absurd hme (Nat.not_lt_zero _)
    | succ fu ih =>
      intro b l set Mc hML25 hw0 hT hG hNN hF hb hl hst hi hme
      have hn : 1 ≤ M 209 0 ∧ M 209 0 ≤ 5 := hT.1
      have hN : 1 ≤ M 209 1 ∧ M 209 1 ≤ 6 := hT.2.1
      have hra : 1 ≤ M 209 2 ∧ M 209 2 ≤ 60 := hT.2.2.1
      have hp6 := p2_b (n := M 209 1) (by omega)
      have k9 : ∀ j, Mc 209 j = M 209 j := fun j => by rw [hF 209 (by decide)]
      refine r_ild5 dX10_most_25 ?_
      refine r_iconst dX10_most_27 ?_
      refine r_ald0 dX10_most_28 ?_
      refine s_getR fi_X10_31 (sh_201) rfl dX10_most_29 ?_
      refine r_iconst dX10_most_32 ?_
      refine s_iald hML25 (sh_209) (by omega) (by decide) dX10_most_33 (fun g33 => ?_)
      try simp (disch := omega) only [Int.reduceToNat, k9]
      refine r_ishl dX10_most_34 (by omega) ?_
      refine r_icmp_ge 121 dX10_most_35 (by decide) (by omega) (by omega) (fun c35 => ?_) (fun c35 => ?_)
      · skip
        have hx : (b, l, Mc) = myT M := by rw [← hi, show (2 ^ (M 209 1).toNat - set).toNat = 0 by omega]; rfl
        have hb1 : b = (myT M).1 := congrArg (fun q => q.1) hx
        have hl1 : l = (myT M).2.1 := congrArg (fun q => q.2.1) hx
        have hm1 : Mc = (myT M).2.2 := congrArg (fun q => q.2.2) hx
        subst hb1
        subst hl1
        subst hm1
        have w9 := hF 209 (by decide)
        have w10 := hF 210 (by decide)
        have hsb := saT_ok (M := (myT M).2.2) (by rw [w9]; exact hT) (by rw [w9, w10]; exact hG) (myT M).1
        refine r_ald0 dX10_most_121 ?_
        refine r_ild3 dX10_most_122 ?_
        refine s_callV1r hML25 (c_X10_saidAll E (by rw [w9]; exact hT) (by rw [w9, w10]; exact hG) (by omega)) cv_X10_saidAll wM_X10_231 (sh_201) rfl rfl (Nat.le_of_ble_eq_true rfl) (by decide) dX10_most_123 (fun hM123 => ?_)
        refine r_pop dX10_most_126 rfl ?_
        refine r_ald0 dX10_most_127 ?_
        refine s_callV0r hM123 (c_X10_all E (by rw [(hsb.2.2 209 (by decide)).trans w9]; omega)) cv_X10_all wM_X10_176 (sh_201) rfl rfl (Nat.le_of_ble_eq_true rfl) (by decide) dX10_most_128 (fun _ => ?_)
        refine r_ist5 dX10_most_131 rfl ?_
        refine r_iconst dX10_most_133 ?_
        refine r_ist6 dX10_most_134 rfl ?_
        exact L136 7 _ _  hM123 (by omega) (by exact hT) (by exact hNN) (by exact (hsb.2.2 209 (by decide)).trans w9) (by have h0 := hsb.2.1; rw [w9] at h0; exact h0) (by omega) (by omega) (by rw [(hsb.2.2 209 (by decide)).trans w9]; have hp5 := p2_5 (n := M 209 0) (by omega); omega) (by rw [Int.sub_zero, (hsb.2.2 209 (by decide)).trans w9]; rfl) (by omega)
      have w9 := hF 209 (by decide)
      have w10 := hF 210 (by decide)
      have hsa := saT_ok (M := Mc) (by rw [w9]; exact hT) (by rw [w9, w10]; exact hG) set
      have hpc1 := pcT_b set
      have hpc2 := pcT_b b
      refine r_ald0 dX10_most_38 ?_
      refine r_ild5 dX10_most_39 ?_
      refine s_callV1r hML25 (c_X10_saidAll E (by rw [w9]; exact hT) (by rw [w9, w10]; exact hG) (by omega)) cv_X10_saidAll wM_X10_231 (sh_201) rfl rfl (Nat.le_of_ble_eq_true rfl) (by decide) dX10_most_41 (fun hM41 => ?_)
      refine r_ist6 dX10_most_44 rfl ?_
      refine r_ild6 dX10_most_46 ?_
      refine r_if_lt 86 dX10_most_48 (by decide) (by omega) (fun c48 => ?_) (fun c48 => ?_)
      · skip
        refine r_iconst dX10_most_86 ?_
        refine r_ist7 dX10_most_87 rfl ?_
        refine r_ild7 dX10_most_89 ?_
        refine r_if_eq 99 dX10_most_91 (by decide) (by omega) (fun c91 => ?_) (fun c91 => by exfalso; omega)
        refine r_ild3 dX10_most_99 ?_
        refine r_ist3 dX10_most_100 rfl ?_
        refine r_ild7 dX10_most_101 ?_
        refine r_if_eq 111 dX10_most_103 (by decide) (by omega) (fun c103 => ?_) (fun c103 => by exfalso; omega)
        refine r_ild4 dX10_most_111 ?_
        refine r_ist4 dX10_most_113 rfl ?_
        refine r_iinc5 dX10_most_115 rfl ?_
        refine r_goto 25 dX10_most_118 (by decide) ?_
        refine r_fgt6 ?_
        refine r_fgt7 ?_
        exact ih _ _ _ _  hM41 (by exact hw0) (by exact hT) (by exact hG) (by exact hNN) (by exact fun c hc => (hsa.2.2 c hc).trans (hF c hc)) (by omega) (by omega) (by omega) (by refine foldI_go (by omega) hi ?_; unfold myF; first | (rw [if_pos (by show 0 ≤ (saT Mc set).1 ∧ (pcT b < pcT set ∨ (pcT set = pcT b ∧ (saT Mc set).1 < l)); omega)]; done) | (rw [if_neg (by show ¬ (0 ≤ (saT Mc set).1 ∧ (pcT b < pcT set ∨ (pcT set = pcT b ∧ (saT Mc set).1 < l))); omega)]; done)) (by omega)
      refine r_ild5 dX10_most_51 ?_
      refine s_callS1r hM41 (c_X10_bits E (by omega)) cs_X10_bits wM_X10_234 (Nat.le_of_ble_eq_true rfl) (by decide) dX10_most_53 (fun _ => ?_)
      refine r_ild3 dX10_most_56 ?_
      refine s_callS1r hM41 (c_X10_bits E (by omega)) cs_X10_bits wM_X10_234 (Nat.le_of_ble_eq_true rfl) (by decide) dX10_most_57 (fun _ => ?_)
      refine r_icmp_gt 82 dX10_most_60 (by decide) (by omega) (by omega) (fun c60 => ?_) (fun c60 => ?_)
      · skip
        refine r_iconst dX10_most_82 ?_
        refine r_goto 87 dX10_most_83 (by decide) ?_
        refine r_ist7 dX10_most_87 rfl ?_
        refine r_ild7 dX10_most_89 ?_
        refine r_if_eq 99 dX10_most_91 (by decide) (by omega) (fun c91 => by exfalso; omega) (fun c91 => ?_)
        refine r_ild5 dX10_most_94 ?_
        refine r_goto 100 dX10_most_96 (by decide) ?_
        refine r_ist3 dX10_most_100 rfl ?_
        refine r_ild7 dX10_most_101 ?_
        refine r_if_eq 111 dX10_most_103 (by decide) (by omega) (fun c103 => by exfalso; omega) (fun c103 => ?_)
        refine r_ild6 dX10_most_106 ?_
        refine r_goto 113 dX10_most_108 (by decide) ?_
        refine r_ist4 dX10_most_113 rfl ?_
        refine r_iinc5 dX10_most_115 rfl ?_
        refine r_goto 25 dX10_most_118 (by decide) ?_
        refine r_fgt6 ?_
        refine r_fgt7 ?_
        exact ih _ _ _ _  hM41 (by exact hw0) (by exact hT) (by exact hG) (by exact hNN) (by exact fun c hc => (hsa.2.2 c hc).trans (hF c hc)) (by omega) (by omega) (by omega) (by refine foldI_go (by omega) hi ?_; unfold myF; first | (rw [if_pos (by show 0 ≤ (saT Mc set).1 ∧ (pcT b < pcT set ∨ (pcT set = pcT b ∧ (saT Mc set).1 < l)); omega)]; done) | (rw [if_neg (by show ¬ (0 ≤ (saT Mc set).1 ∧ (pcT b < pcT set ∨ (pcT set = pcT b ∧ (saT Mc set).1 < l))); omega)]; done)) (by omega)
      refine r_ild5 dX10_most_63 ?_
      refine s_callS1r hM41 (c_X10_bits E (by omega)) cs_X10_bits wM_X10_234 (Nat.le_of_ble_eq_true rfl) (by decide) dX10_most_65 (fun _ => ?_)
      refine r_ild3 dX10_most_68 ?_
      refine s_callS1r hM41 (c_X10_bits E (by omega)) cs_X10_bits wM_X10_234 (Nat.le_of_ble_eq_true rfl) (by decide) dX10_most_69 (fun _ => ?_)
      refine r_icmp_ne 86 dX10_most_72 (by decide) (by omega) (by omega) (fun c72 => ?_) (fun c72 => ?_)
      · skip
        refine r_iconst dX10_most_86 ?_
        refine r_ist7 dX10_most_87 rfl ?_
        refine r_ild7 dX10_most_89 ?_
        refine r_if_eq 99 dX10_most_91 (by decide) (by omega) (fun c91 => ?_) (fun c91 => by exfalso; omega)
        refine r_ild3 dX10_most_99 ?_
        refine r_ist3 dX10_most_100 rfl ?_
        refine r_ild7 dX10_most_101 ?_
        refine r_if_eq 111 dX10_most_103 (by decide) (by omega) (fun c103 => ?_) (fun c103 => by exfalso; omega)
        refine r_ild4 dX10_most_111 ?_
        refine r_ist4 dX10_most_113 rfl ?_
        refine r_iinc5 dX10_most_115 rfl ?_
        refine r_goto 25 dX10_most_118 (by decide) ?_
        refine r_fgt6 ?_
        refine r_fgt7 ?_
        exact ih _ _ _ _  hM41 (by exact hw0) (by exact hT) (by exact hG) (by exact hNN) (by exact fun c hc => (hsa.2.2 c hc).trans (hF c hc)) (by omega) (by omega) (by omega) (by refine foldI_go (by omega) hi ?_; unfold myF; first | (rw [if_pos (by show 0 ≤ (saT Mc set).1 ∧ (pcT b < pcT set ∨ (pcT set = pcT b ∧ (saT Mc set).1 < l)); omega)]; done) | (rw [if_neg (by show ¬ (0 ≤ (saT Mc set).1 ∧ (pcT b < pcT set ∨ (pcT set = pcT b ∧ (saT Mc set).1 < l))); omega)]; done)) (by omega)
      refine r_ild6 dX10_most_75 ?_
      refine r_ild4 dX10_most_77 ?_
      refine r_icmp_ge 86 dX10_most_79 (by decide) (by omega) (by omega) (fun c79 => ?_) (fun c79 => ?_)
      · skip
        refine r_iconst dX10_most_86 ?_
        refine r_ist7 dX10_most_87 rfl ?_
        refine r_ild7 dX10_most_89 ?_
        refine r_if_eq 99 dX10_most_91 (by decide) (by omega) (fun c91 => ?_) (fun c91 => by exfalso; omega)
        refine r_ild3 dX10_most_99 ?_
        refine r_ist3 dX10_most_100 rfl ?_
        refine r_ild7 dX10_most_101 ?_
        refine r_if_eq 111 dX10_most_103 (by decide) (by omega) (fun c103 => ?_) (fun c103 => by exfalso; omega)
        refine r_ild4 dX10_most_111 ?_
        refine r_ist4 dX10_most_113 rfl ?_
        refine r_iinc5 dX10_most_115 rfl ?_
        refine r_goto 25 dX10_most_118 (by decide) ?_
        refine r_fgt6 ?_
        refine r_fgt7 ?_
        exact ih _ _ _ _  hM41 (by exact hw0) (by exact hT) (by exact hG) (by exact hNN) (by exact fun c hc => (hsa.2.2 c hc).trans (hF c hc)) (by omega) (by omega) (by omega) (by refine foldI_go (by omega) hi ?_; unfold myF; first | (rw [if_pos (by show 0 ≤ (saT Mc set).1 ∧ (pcT b < pcT set ∨ (pcT set = pcT b ∧ (saT Mc set).1 < l)); omega)]; done) | (rw [if_neg (by show ¬ (0 ≤ (saT Mc set).1 ∧ (pcT b < pcT set ∨ (pcT set = pcT b ∧ (saT Mc set).1 < l))); omega)]; done)) (by omega)
      refine r_iconst dX10_most_82 ?_
      refine r_goto 87 dX10_most_83 (by decide) ?_
      refine r_ist7 dX10_most_87 rfl ?_
      refine r_ild7 dX10_most_89 ?_
      refine r_if_eq 99 dX10_most_91 (by decide) (by omega) (fun c91 => by exfalso; omega) (fun c91 => ?_)
      refine r_ild5 dX10_most_94 ?_
      refine r_goto 100 dX10_most_96 (by decide) ?_
      refine r_ist3 dX10_most_100 rfl ?_
      refine r_ild7 dX10_most_101 ?_
      refine r_if_eq 111 dX10_most_103 (by decide) (by omega) (fun c103 => by exfalso; omega) (fun c103 => ?_)
      refine r_ild6 dX10_most_106 ?_
      refine r_goto 113 dX10_most_108 (by decide) ?_
      refine r_ist4 dX10_most_113 rfl ?_
      refine r_iinc5 dX10_most_115 rfl ?_
      refine r_goto 25 dX10_most_118 (by decide) ?_
      refine r_fgt6 ?_
      refine r_fgt7 ?_
      exact ih _ _ _ _  hM41 (by exact hw0) (by exact hT) (by exact hG) (by exact hNN) (by exact fun c hc => (hsa.2.2 c hc).trans (hF c hc)) (by omega) (by omega) (by omega) (by refine foldI_go (by omega) hi ?_; unfold myF; first | (rw [if_pos (by show 0 ≤ (saT Mc set).1 ∧ (pcT b < pcT set ∨ (pcT set = pcT b ∧ (saT Mc set).1 < l)); omega)]; done) | (rw [if_neg (by show ¬ (0 ≤ (saT Mc set).1 ∧ (pcT b < pcT set ∨ (pcT set = pcT b ∧ (saT Mc set).1 < l))); omega)]; done)) (by omega)
  refine r_ald0 dX10_most_0 ?_
  refine r_ild1 dX10_most_1 ?_
  refine r_iconst dX10_most_2 ?_
  refine r_iconst dX10_most_3 ?_
  refine s_callS3r hM (c_X10_in E (by first | with_reducible assumption | with_reducible exact xSt_9 | with_reducible exact xSt_13 | omega) (by first | with_reducible assumption | with_reducible exact xSt_9 | with_reducible exact xSt_13 | omega) (by first | with_reducible assumption | with_reducible exact xSt_9 | with_reducible exact xSt_13 | omega)) cs_X10_in wM_X10_70 (Nat.le_of_ble_eq_true rfl) (by decide) dX10_most_4 (fun _ => ?_)
  refine s_callV1r hM (c_X10_need E (by first | exact b01 | omega)) cv_X10_need wM_X10_194 (sh_201) rfl rfl (Nat.le_of_ble_eq_true rfl) (by decide) dX10_most_7 (fun _ => ?_)
  refine r_ist2 dX10_most_10 rfl ?_
  have hnd := need_b M (0 ≤ w ∧ w ≤ 2)
  refine r_ild2 dX10_most_11 ?_
  refine r_if_ge 17 dX10_most_12 (by decide) (by omega) (fun c12 => ?_) (fun c12 => ?_)
  · skip
    obtain ⟨hd1, hT, hG, hNN⟩ := MD_g hD (by omega)
    have hn : 1 ≤ M 209 0 ∧ M 209 0 ≤ 5 := hT.1
    have hN : 1 ≤ M 209 1 ∧ M 209 1 ≤ 6 := hT.2.1
    have hra : 1 ≤ M 209 2 ∧ M 209 2 ≤ 60 := hT.2.2.1
    have hp6 := p2_b (n := M 209 1) (by omega)
    refine r_iconst dX10_most_17 ?_
    refine r_ist3 dX10_most_18 rfl ?_
    refine r_iconst dX10_most_19 ?_
    refine r_ist4 dX10_most_20 rfl ?_
    refine r_iconst dX10_most_22 ?_
    refine r_ist5 dX10_most_23 rfl ?_
    refine r_fgt2 ?_
    exact L25 64 _ _ _ _  hM (by omega) (by exact hT) (by exact hG) (by exact hNN) (by exact fun _ _ => rfl) (by omega) (by omega) (by omega) (by rfl) (by omega)
  refine r_ild2 dX10_most_15 ?_
  exact s_iret hM rfl dX10_most_16 (by unfold yMost; first | (rw [if_neg (by omega), if_neg (by omega), ← hi, show (M 209 1 - s).toNat = 0 by omega]; (repeat' split) <;> first | rfl | omega | (exfalso; omega)) | ((repeat' split) <;> first | rfl | omega | (exfalso; omega))) (by unfold yMost; first | (rw [if_neg (by omega), if_neg (by omega)]; done) | ((repeat' split) <;> first | rfl | omega | (exfalso; omega)))
set_option maxHeartbeats 4000000 in
theorem c_X10_passedOn (E : xE) {M : xMem} {s n df : Int} (hT : TI (tg (M 209))) (hG : GI (tg (M 209)) (sk (M 210)) 999) (hs : 0 ≤ s ∧ s < M 209 1) (hn3 : 0 ≤ n ∧ n ≤ 30) (hdf : 0 ≤ df ∧ df ≤ 31) : Ct E mX10_passedOn 7 3 [xr E 201, xi s, xi n, xi df] M (some (xi (pasY (tg (M 209)) (sk (M 210)) s df n))) (M) := by
  refine Ct.of 3 7 (by rfl) (by decide +kernel) (fun hM => ?_)
  have hn : 1 ≤ M 209 0 ∧ M 209 0 ≤ 5 := hT.1
  have hN : 1 ≤ M 209 1 ∧ M 209 1 ≤ 6 := hT.2.1
  have hra : 1 ≤ M 209 2 ∧ M 209 2 ≤ 60 := hT.2.2.1
  have hq : (1 ≤ tg (M 209) 2 s.toNat ∧ tg (M 209) 2 s.toNat ≤ 5) ∧ (0 ≤ tg (M 209) 3 s.toNat ∧ tg (M 209) 3 s.toNat < M 209 0) ∧ (1 ≤ tg (M 209) 4 s.toNat ∧ tg (M 209) 4 s.toNat ≤ 30) ∧ (0 ≤ tg (M 209) 5 s.toNat ∧ tg (M 209) 5 s.toNat ≤ s) := hT.2.2.2.2 s hs
  have e8 : M 209 (8 + s).toNat = tg (M 209) 2 s.toNat := ix8 (by omega)
  have e14 : M 209 (14 + s).toNat = tg (M 209) 3 s.toNat := ix14 (by omega)
  have e20 : M 209 (20 + s).toNat = tg (M 209) 4 s.toNat := ix20 (by omega)
  have hl : 0 ≤ M 210 1 ∧ M 210 1 ≤ 99 := hG.1.2.1
  have hh : 0 ≤ M 210 2 ∧ M 210 2 ≤ 999 := hG.1.2.2.1
  have hpr : 1 ≤ M 210 3 ∧ M 210 3 ≤ 9 := hG.1.2.2.2.1
  have hsd : 0 ≤ M 210 4 ∧ M 210 4 ≤ 63 := hG.1.2.2.2.2.1
  have hwk : 0 ≤ M 210 0 ∧ M 210 0 ≤ 100000 := hG.1.1
  have f15 : M 210 (15 + s).toNat = sk (M 210) 3 s.toNat := iy15 (by omega)
  have hk3 : 0 ≤ sk (M 210) 3 s.toNat ∧ sk (M 210) 3 s.toNat ≤ 31 := hG.1.2.2.2.2.2.2 s hs
  have hkn : sk (M 210) 3 s.toNat < 2 ^ (M 209 0).toNat := (hG.2.1 s hs).1
  have hrn := reach_n (n := M 209 0) (k := tg (M 209) 2 s.toNat) (sp := tg (M 209) 3 s.toNat) (d := df) (by omega) hq.2.1
  have hpy : pasY (tg (M 209)) (sk (M 210)) s df n = onwT (M 209 0) (tg (M 209) 2 s.toNat) (if bitI (M 210 4) s = 1 then sk (M 210) 3 s.toNat else reachT (M 209 0) (tg (M 209) 2 s.toNat) (tg (M 209) 3 s.toNat) df) df n := rfl
  show VS E mX10_passedOn 3 _ _ 0 [some (xr E 201), some (xi s), some (xi n), some (xi df), none, none, none] [] M
  have L57 : ∀ (fu : Nat) (a k : Int), (0 ≤ k ∧ k ≤ n) → (0 ≤ a ∧ a < 2 ^ (M 209 0).toNat) → (onwT (M 209 0) (tg (M 209) 2 s.toNat) a df (n - k) = pasY (tg (M 209)) (sk (M 210)) s df n) → (n - k).toNat < fu → VS E mX10_passedOn 3 (some (xi (pasY (tg (M 209)) (sk (M 210)) s df n))) (M) 57 [some (xr E 201), some (xi s), some (xi n), some (xi df), some (xi (tg (M 209) 2 s.toNat)), some (xi a), some (xi k)] [] M := by
    intro fu
    induction fu with
    | zero => intro a k  hb ha hi hme; exact absurd hme (Nat.not_lt_zero _)
    | succ fu ih =>
      intro a k  hb ha hi hme
      refine r_ild6 dX10_passedOn_57 ?_
      refine r_ild2 dX10_passedOn_59 ?_
      refine r_icmp_ge 80 dX10_passedOn_60 (by decide) (by omega) (by omega) (fun c60 => ?_) (fun c60 => ?_)
      · skip
        refine r_ild5 dX10_passedOn_80 ?_
        exact s_iret hM rfl dX10_passedOn_82 (by rw [← hi, show n - k = 0 by omega, onw_0]) (by rfl)
      refine r_ald0 dX10_passedOn_63 ?_
      refine r_ild4 dX10_passedOn_64 ?_
      refine r_ild5 dX10_passedOn_66 ?_
      refine r_ild3 dX10_passedOn_68 ?_
      refine s_callV3r hM (c_X10_onward E (by omega) (by omega) (by omega) (by omega)) cv_X10_onward wM_X10_184 (sh_201) rfl rfl (Nat.le_of_ble_eq_true rfl) (by decide) dX10_passedOn_69 (fun _ => ?_)
      refine r_ist5 dX10_passedOn_72 rfl ?_
      refine r_iinc6 dX10_passedOn_74 rfl ?_
      refine r_goto 57 dX10_passedOn_77 (by decide) ?_
      exact ih _ _  (by omega) (by exact onw_n (by omega) ha) (by rw [← hi, onw_add (by omega) ha hdf (by omega), show n - (k + 1) + 1 = n - k by omega]) (by omega)
  refine r_ald0 dX10_passedOn_0 ?_
  refine s_getR fi_X10_31 (sh_201) rfl dX10_passedOn_1 ?_
  refine r_bipush dX10_passedOn_4 (by decide +kernel) ?_
  refine r_ild1 dX10_passedOn_6 ?_
  refine r_iadd dX10_passedOn_7 ?_
  refine s_iald hM (sh_209) (by omega) (by decide) dX10_passedOn_8 (fun g8 => ?_)
  try simp (disch := omega) only [e8, e14, e20, Int.reduceToNat, f15]
  refine r_ist4 dX10_passedOn_9 rfl ?_
  refine r_ald0 dX10_passedOn_11 ?_
  refine s_getR fi_X10_34 (sh_201) rfl dX10_passedOn_12 ?_
  refine r_iconst dX10_passedOn_15 ?_
  refine s_iald hM (sh_210) (by omega) (by decide) dX10_passedOn_16 (fun g16 => ?_)
  try simp (disch := omega) only [e8, e14, e20, Int.reduceToNat, f15]
  refine r_ild1 dX10_passedOn_17 ?_
  refine s_callS2r hM (c_X10_has E (by omega) (by omega)) cs_X10_has wM_X10_165 (Nat.le_of_ble_eq_true rfl) (by decide) dX10_passedOn_18 (fun _ => ?_)
  refine r_ifb_eq 36 dX10_passedOn_21 (by decide) (fun c21 => ?_) (fun c21 => ?_)
  · skip
    refine r_ald0 dX10_passedOn_36 ?_
    refine r_ild4 dX10_passedOn_37 ?_
    refine r_ald0 dX10_passedOn_39 ?_
    refine s_getR fi_X10_31 (sh_201) rfl dX10_passedOn_40 ?_
    refine r_bipush dX10_passedOn_43 (by decide +kernel) ?_
    refine r_ild1 dX10_passedOn_45 ?_
    refine r_iadd dX10_passedOn_46 ?_
    refine s_iald hM (sh_209) (by omega) (by decide) dX10_passedOn_47 (fun g47 => ?_)
    try simp (disch := omega) only [e8, e14, e20, Int.reduceToNat, f15]
    refine r_ild3 dX10_passedOn_48 ?_
    refine s_callV3r hM (c_X10_firstTo E (by omega) (by omega) (by omega) (by omega)) cv_X10_firstTo wM_X10_180 (sh_201) rfl rfl (Nat.le_of_ble_eq_true rfl) (by decide) dX10_passedOn_49 (fun _ => ?_)
    refine r_ist5 dX10_passedOn_52 rfl ?_
    refine r_iconst dX10_passedOn_54 ?_
    refine r_ist6 dX10_passedOn_55 rfl ?_
    exact L57 31 _ _  (by omega) (by omega) (by rw [Int.sub_zero, hpy]; first | (rw [if_pos (by assumption)]; done) | (rw [if_neg (by assumption)]; done)) (by omega)
  refine r_ald0 dX10_passedOn_24 ?_
  refine s_getR fi_X10_34 (sh_201) rfl dX10_passedOn_25 ?_
  refine r_bipush dX10_passedOn_28 (by decide +kernel) ?_
  refine r_ild1 dX10_passedOn_30 ?_
  refine r_iadd dX10_passedOn_31 ?_
  refine s_iald hM (sh_210) (by omega) (by decide) dX10_passedOn_32 (fun g32 => ?_)
  try simp (disch := omega) only [e8, e14, e20, Int.reduceToNat, f15]
  refine r_goto 52 dX10_passedOn_33 (by decide) ?_
  refine r_ist5 dX10_passedOn_52 rfl ?_
  refine r_iconst dX10_passedOn_54 ?_
  refine r_ist6 dX10_passedOn_55 rfl ?_
  exact L57 31 _ _  (by omega) (by omega) (by rw [Int.sub_zero, hpy]; first | (rw [if_pos (by assumption)]; done) | (rw [if_neg (by assumption)]; done)) (by omega)
set_option maxHeartbeats 4000000 in
theorem c_X10_claim (E : xE) {M : xMem} {p : Int} (hT : TI (tg (M 209))) (hG : GI (tg (M 209)) (sk (M 210)) 999) (hp : 0 ≤ p ∧ p < M 209 0) : Ct E mX10_claim 4 1 [xr E 201, xi p] M (some (xi (claimT (tg (M 209)) (sk (M 210)) p))) (M) := by
  refine Ct.of 2 4 (by rfl) (by decide +kernel) (fun hM => ?_)
  have hn : 1 ≤ M 209 0 ∧ M 209 0 ≤ 5 := hT.1
  have hN : 1 ≤ M 209 1 ∧ M 209 1 ≤ 6 := hT.2.1
  have hra : 1 ≤ M 209 2 ∧ M 209 2 ≤ 60 := hT.2.2.1
  have hl : 0 ≤ M 210 1 ∧ M 210 1 ≤ 99 := hG.1.2.1
  have hh : 0 ≤ M 210 2 ∧ M 210 2 ≤ 999 := hG.1.2.2.1
  have hpr : 1 ≤ M 210 3 ∧ M 210 3 ≤ 9 := hG.1.2.2.2.1
  have hsd : 0 ≤ M 210 4 ∧ M 210 4 ≤ 63 := hG.1.2.2.2.2.1
  have hwk : 0 ≤ M 210 0 ∧ M 210 0 ≤ 100000 := hG.1.1
  have f5 : M 210 (5 + p).toNat = sk (M 210) 1 p.toNat := iy5 (by omega)
  have f10 : M 210 (10 + p).toNat = sk (M 210) 2 p.toNat := iy10 (by omega)
  have hpu : (0 ≤ sk (M 210) 1 p.toNat ∧ sk (M 210) 1 p.toNat ≤ 99) ∧ (0 ≤ sk (M 210) 2 p.toNat ∧ sk (M 210) 2 p.toNat ≤ 99) := hG.1.2.2.2.2.2.1 p (show 0 ≤ p ∧ p < M 209 0 by omega)
  have ec : claimT (tg (M 209)) (sk (M 210)) p = max 0 (foldI (clmF (tg (M 209)) (sk (M 210)) p) (M 209 1).toNat 0 0 - sk (M 210) 2 p.toNat) := rfl
  show VS E mX10_claim 1 _ _ 0 [some (xr E 201), some (xi p), none, none] [] M
  have L4 : ∀ (fu : Nat) (a s : Int), (0 ≤ s ∧ s ≤ M 209 1) → (0 ≤ a ∧ a ≤ 60 * s) → (foldI (clmF (tg (M 209)) (sk (M 210)) p) (M 209 1 - s).toNat s a = foldI (clmF (tg (M 209)) (sk (M 210)) p) (M 209 1).toNat 0 0) → (M 209 1 - s).toNat < fu → VS E mX10_claim 1 (some (xi (claimT (tg (M 209)) (sk (M 210)) p))) (M) 4 [some (xr E 201), some (xi p), some (xi a), some (xi s)] [] M := by
    intro fu
    induction fu with
    | zero => intro a s  hb ha hi hme; exact absurd hme (Nat.not_lt_zero _)
    | succ fu ih =>
      intro a s  hb ha hi hme
      refine r_ild3 dX10_claim_4 ?_
      refine r_ald0 dX10_claim_5 ?_
      refine s_getR fi_X10_31 (sh_201) rfl dX10_claim_6 ?_
      refine r_iconst dX10_claim_9 ?_
      refine s_iald hM (sh_209) (by omega) (by decide) dX10_claim_10 (fun g10 => ?_)
      try simp (disch := omega) only [Int.reduceToNat]
      refine r_icmp_ge 58 dX10_claim_11 (by decide) (by omega) (by omega) (fun c11 => ?_) (fun c11 => ?_)
      · skip
        refine r_ild2 dX10_claim_58 ?_
        refine r_ald0 dX10_claim_59 ?_
        refine s_getR fi_X10_34 (sh_201) rfl dX10_claim_60 ?_
        refine r_bipush dX10_claim_63 (by decide +kernel) ?_
        refine r_ild1 dX10_claim_65 ?_
        refine r_iadd dX10_claim_66 ?_
        refine s_iald hM (sh_210) (by omega) (by decide) dX10_claim_67 (fun g67 => ?_)
        try simp (disch := omega) only [Int.reduceToNat]
        try simp only [f10]
        refine r_icmp_le 85 dX10_claim_68 (by decide) (by omega) (by omega) (fun c68 => ?_) (fun c68 => ?_)
        · skip
          refine r_iconst dX10_claim_85 ?_
          exact s_iret hM rfl dX10_claim_86 (by rw [ec, ← hi, show (M 209 1 - s).toNat = 0 by omega]; show _ = max 0 (a - _); omega) (by rfl)
        refine r_ild2 dX10_claim_71 ?_
        refine r_ald0 dX10_claim_72 ?_
        refine s_getR fi_X10_34 (sh_201) rfl dX10_claim_73 ?_
        refine r_bipush dX10_claim_76 (by decide +kernel) ?_
        refine r_ild1 dX10_claim_78 ?_
        refine r_iadd dX10_claim_79 ?_
        refine s_iald hM (sh_210) (by omega) (by decide) dX10_claim_80 (fun g80 => ?_)
        try simp (disch := omega) only [Int.reduceToNat]
        try simp only [f10]
        refine r_isub dX10_claim_81 ?_
        refine r_goto 86 dX10_claim_82 (by decide) ?_
        exact s_iret hM rfl dX10_claim_86 (by rw [ec, ← hi, show (M 209 1 - s).toNat = 0 by omega]; show _ = max 0 (a - _); omega) (by rfl)
      have hs : 0 ≤ s ∧ s < M 209 1 := by omega
      have hwd := words_b hT (s := s) hs
      have e14 : M 209 (14 + s).toNat = tg (M 209) 3 s.toNat := ix14 (by omega)
      have hq3 : 0 ≤ tg (M 209) 3 s.toNat ∧ tg (M 209) 3 s.toNat < M 209 0 := (hT.2.2.2.2 s hs).2.1
      refine r_ild2 dX10_claim_14 ?_
      refine r_ald0 dX10_claim_15 ?_
      refine s_getR fi_X10_31 (sh_201) rfl dX10_claim_16 ?_
      refine r_bipush dX10_claim_19 (by decide +kernel) ?_
      refine r_ild3 dX10_claim_21 ?_
      refine r_iadd dX10_claim_22 ?_
      refine s_iald hM (sh_209) (by omega) (by decide) dX10_claim_23 (fun g23 => ?_)
      try simp (disch := omega) only [Int.reduceToNat]
      try simp only [e14]
      refine r_ild1 dX10_claim_24 ?_
      refine r_icmp_ne 49 dX10_claim_25 (by decide) (by omega) (by omega) (fun c25 => ?_) (fun c25 => ?_)
      · skip
        refine r_iconst dX10_claim_49 ?_
        refine r_iadd dX10_claim_50 ?_
        refine r_ist2 dX10_claim_51 rfl ?_
        refine r_iinc3 dX10_claim_52 rfl ?_
        refine r_goto 4 dX10_claim_55 (by decide) ?_
        exact ih _ _  (by omega) (by omega) (by refine foldI_go (by omega) hi ?_; show (if tg (M 209) 3 s.toNat = p ∧ ¬ bitI (M 210 4) s = 1 then a + wordsT (tg (M 209)) s else a) = _; first | (rw [if_pos (by omega)]; done) | (rw [if_neg (by omega)]; omega)) (by omega)
      refine r_ald0 dX10_claim_28 ?_
      refine s_getR fi_X10_34 (sh_201) rfl dX10_claim_29 ?_
      refine r_iconst dX10_claim_32 ?_
      refine s_iald hM (sh_210) (by omega) (by decide) dX10_claim_33 (fun g33 => ?_)
      try simp (disch := omega) only [Int.reduceToNat]
      refine r_ild3 dX10_claim_34 ?_
      refine s_callS2r hM (c_X10_has E (by omega) (by omega)) cs_X10_has wM_X10_165 (Nat.le_of_ble_eq_true rfl) (by decide) dX10_claim_35 (fun _ => ?_)
      refine r_ifb_ne 49 dX10_claim_38 (by decide) (fun c38 => ?_) (fun c38 => ?_)
      · skip
        refine r_iconst dX10_claim_49 ?_
        refine r_iadd dX10_claim_50 ?_
        refine r_ist2 dX10_claim_51 rfl ?_
        refine r_iinc3 dX10_claim_52 rfl ?_
        refine r_goto 4 dX10_claim_55 (by decide) ?_
        exact ih _ _  (by omega) (by omega) (by refine foldI_go (by omega) hi ?_; show (if tg (M 209) 3 s.toNat = p ∧ ¬ bitI (M 210 4) s = 1 then a + wordsT (tg (M 209)) s else a) = _; first | (rw [if_pos (by omega)]; done) | (rw [if_neg (by omega)]; omega)) (by omega)
      refine r_ald0 dX10_claim_41 ?_
      refine r_ild3 dX10_claim_42 ?_
      refine s_callV1r hM (c_X10_words E (by exact hT) (by omega)) cv_X10_words wM_X10_158 (sh_201) rfl rfl (Nat.le_of_ble_eq_true rfl) (by decide) dX10_claim_43 (fun _ => ?_)
      refine r_goto 50 dX10_claim_46 (by decide) ?_
      refine r_iadd dX10_claim_50 ?_
      refine r_ist2 dX10_claim_51 rfl ?_
      refine r_iinc3 dX10_claim_52 rfl ?_
      refine r_goto 4 dX10_claim_55 (by decide) ?_
      exact ih _ _  (by omega) (by omega) (by refine foldI_go (by omega) hi ?_; show (if tg (M 209) 3 s.toNat = p ∧ ¬ bitI (M 210 4) s = 1 then a + wordsT (tg (M 209)) s else a) = _; first | (rw [if_pos (by omega)]; done) | (rw [if_neg (by omega)]; omega)) (by omega)
  refine r_iconst dX10_claim_0 ?_
  refine r_ist2 dX10_claim_1 rfl ?_
  refine r_iconst dX10_claim_2 ?_
  refine r_ist3 dX10_claim_3 rfl ?_
  exact L4 7 _ _  (by omega) (by omega) (by rw [Int.sub_zero]) (by omega)
set_option maxHeartbeats 4000000 in
theorem c_X10_share (E : xE) {M : xMem} {p n : Int} (hp : -2147483648 ≤ p ∧ p < 2147483648) (hn : -2147483648 ≤ n ∧ n < 2147483648) (hD : MD M) : Ct E mX10_share 7 2 [xr E 201, xi p, xi n] M (some (xi (yShare M p n))) (M) := by
  refine Ct.of 4 7 (by rfl) (by decide +kernel) (fun hM => ?_)
  have hmn := MD_n hD
  show VS E mX10_share 2 _ _ 0 [some (xr E 201), some (xi p), some (xi n), none, none, none, none] [] M
  have L102 : ∀ (fu : Nat) (v m k : Int), (¬ (¬ (0 ≤ p ∧ p < M 209 0) ∨ ¬ (0 ≤ n ∧ n ≤ 99))) → (TI (tg (M 209))) → (GI (tg (M 209)) (sk (M 210)) 999) → (0 < clsT (tg (M 209)) (sk (M 210)) ∧ clsT (tg (M 209)) (sk (M 210)) ≤ 1800) → (0 ≤ k ∧ k ≤ p + 1) → (-1000000 ≤ v ∧ v ≤ 99) → (foldI (shF (tg (M 209)) (sk (M 210)) n) (p + 1 - k).toNat k (m, v) = foldI (shF (tg (M 209)) (sk (M 210)) n) (p + 1).toNat 0 (0, ovY (tg (M 209)) (sk (M 210)) n)) → (-1000000 + 10 * (5 - k) ≤ v) → (p + 1 - k).toNat < fu → VS E mX10_share 2 (some (xi (yShare M p n))) (M) 102 [some (xr E 201), some (xi p), some (xi n), some (xi (clsT (tg (M 209)) (sk (M 210)))), some (xi v), some (xi m), some (xi k)] [] M := by
    intro fu
    induction fu with
    | zero => intro v m k  hg hT hG hc hb hv hi hv2 hme; exact absurd hme (Nat.not_lt_zero _)
    | succ fu ih =>
      intro v m k  hg hT hG hc hb hv hi hv2 hme
      have hn : 1 ≤ M 209 0 ∧ M 209 0 ≤ 5 := hT.1
      have hN : 1 ≤ M 209 1 ∧ M 209 1 ≤ 6 := hT.2.1
      have hra : 1 ≤ M 209 2 ∧ M 209 2 ≤ 60 := hT.2.2.1
      refine r_ild6 dX10_share_102 ?_
      refine r_ild1 dX10_share_104 ?_
      refine r_icmp_gt 170 dX10_share_105 (by decide) (by omega) (by omega) (fun c105 => ?_) (fun c105 => ?_)
      · skip
        refine r_ild5 dX10_share_170 ?_
        exact s_iret hM rfl dX10_share_172 (by unfold yShare; first | (rw [if_pos (by assumption)]; done) | (rw [if_neg hg, if_pos (by omega)]; done) | (rw [if_neg hg, if_neg (by omega), ← hi, show (p + 1 - k).toNat = 0 by omega]; rfl) | (rw [if_pos (by omega)]; done)) (by rfl)
      have hck := claim_b hT hG.1 (p := k) (show 0 ≤ k ∧ k < M 209 0 by omega)
      have hcm := mul_b (a := n) (A := 99) (b := claimT (tg (M 209)) (sk (M 210)) k) (B := 360) (by omega) hck
      have hdv := div_b (a := n * claimT (tg (M 209)) (sk (M 210)) k) (A := 35640) (b := clsT (tg (M 209)) (sk (M 210))) (by omega) (by omega)
      refine r_ild2 dX10_share_108 ?_
      refine r_ald0 dX10_share_109 ?_
      refine r_ild6 dX10_share_110 ?_
      refine s_callV1r hM (c_X10_claim E (by exact hT) (by exact hG) (by omega)) cv_X10_claim wM_X10_243 (sh_201) rfl rfl (Nat.le_of_ble_eq_true rfl) (by decide) dX10_share_112 (fun _ => ?_)
      refine r_imul dX10_share_115 ?_
      refine r_ild3 dX10_share_116 ?_
      refine r_idiv dX10_share_117 (by omega) (by omega) ?_
      refine r_ald0 dX10_share_118 ?_
      refine r_ild6 dX10_share_119 ?_
      refine s_callV1r hM (c_X10_claim E (by exact hT) (by exact hG) (by omega)) cv_X10_claim wM_X10_243 (sh_201) rfl rfl (Nat.le_of_ble_eq_true rfl) (by decide) dX10_share_121 (fun _ => ?_)
      refine r_if_le 136 dX10_share_124 (by decide) (by omega) (fun c124 => ?_) (fun c124 => ?_)
      · skip
        refine r_iconst dX10_share_136 ?_
        refine r_iadd dX10_share_137 ?_
        refine r_ist5 dX10_share_138 rfl ?_
        refine r_ild4 dX10_share_140 ?_
        refine r_ald0 dX10_share_142 ?_
        refine r_ild6 dX10_share_143 ?_
        refine s_callV1r hM (c_X10_claim E (by exact hT) (by exact hG) (by omega)) cv_X10_claim wM_X10_243 (sh_201) rfl rfl (Nat.le_of_ble_eq_true rfl) (by decide) dX10_share_145 (fun _ => ?_)
        refine r_if_le 160 dX10_share_148 (by decide) (by omega) (fun c148 => ?_) (fun c148 => ?_)
        · skip
          refine r_iconst dX10_share_160 ?_
          refine r_isub dX10_share_161 ?_
          refine r_ist4 dX10_share_162 rfl ?_
          refine r_iinc6 dX10_share_164 rfl ?_
          refine r_goto 102 dX10_share_167 (by decide) ?_
          exact ih _ _ _  (by assumption) (by exact hT) (by exact hG) (by exact hc) (by omega) (by omega) (by refine foldI_go (by omega) hi ?_; unfold shF; dsimp only; first | (exfalso; omega) | (rw [if_pos (by omega)]; done) | (rw [if_neg (by omega)]; done)) (by omega) (by omega)
        refine r_ild4 dX10_share_151 ?_
        refine r_if_le 160 dX10_share_153 (by decide) (by omega) (fun c153 => ?_) (fun c153 => ?_)
        · skip
          refine r_iconst dX10_share_160 ?_
          refine r_isub dX10_share_161 ?_
          refine r_ist4 dX10_share_162 rfl ?_
          refine r_iinc6 dX10_share_164 rfl ?_
          refine r_goto 102 dX10_share_167 (by decide) ?_
          exact ih _ _ _  (by assumption) (by exact hT) (by exact hG) (by exact hc) (by omega) (by omega) (by refine foldI_go (by omega) hi ?_; unfold shF; dsimp only; first | (exfalso; omega) | (rw [if_pos (by omega)]; done) | (rw [if_neg (by omega)]; done)) (by omega) (by omega)
        refine r_iconst dX10_share_156 ?_
        refine r_goto 161 dX10_share_157 (by decide) ?_
        refine r_isub dX10_share_161 ?_
        refine r_ist4 dX10_share_162 rfl ?_
        refine r_iinc6 dX10_share_164 rfl ?_
        refine r_goto 102 dX10_share_167 (by decide) ?_
        exact ih _ _ _  (by assumption) (by exact hT) (by exact hG) (by exact hc) (by omega) (by omega) (by refine foldI_go (by omega) hi ?_; unfold shF; dsimp only; first | (exfalso; omega) | (rw [if_pos (by omega)]; done) | (rw [if_neg (by omega)]; done)) (by omega) (by omega)
      refine r_ild4 dX10_share_127 ?_
      refine r_if_le 136 dX10_share_129 (by decide) (by omega) (fun c129 => ?_) (fun c129 => ?_)
      · skip
        refine r_iconst dX10_share_136 ?_
        refine r_iadd dX10_share_137 ?_
        refine r_ist5 dX10_share_138 rfl ?_
        refine r_ild4 dX10_share_140 ?_
        refine r_ald0 dX10_share_142 ?_
        refine r_ild6 dX10_share_143 ?_
        refine s_callV1r hM (c_X10_claim E (by exact hT) (by exact hG) (by omega)) cv_X10_claim wM_X10_243 (sh_201) rfl rfl (Nat.le_of_ble_eq_true rfl) (by decide) dX10_share_145 (fun _ => ?_)
        refine r_if_le 160 dX10_share_148 (by decide) (by omega) (fun c148 => ?_) (fun c148 => ?_)
        · skip
          refine r_iconst dX10_share_160 ?_
          refine r_isub dX10_share_161 ?_
          refine r_ist4 dX10_share_162 rfl ?_
          refine r_iinc6 dX10_share_164 rfl ?_
          refine r_goto 102 dX10_share_167 (by decide) ?_
          exact ih _ _ _  (by assumption) (by exact hT) (by exact hG) (by exact hc) (by omega) (by omega) (by refine foldI_go (by omega) hi ?_; unfold shF; dsimp only; first | (exfalso; omega) | (rw [if_pos (by omega)]; done) | (rw [if_neg (by omega)]; done)) (by omega) (by omega)
        refine r_ild4 dX10_share_151 ?_
        refine r_if_le 160 dX10_share_153 (by decide) (by omega) (fun c153 => ?_) (fun c153 => ?_)
        · skip
          refine r_iconst dX10_share_160 ?_
          refine r_isub dX10_share_161 ?_
          refine r_ist4 dX10_share_162 rfl ?_
          refine r_iinc6 dX10_share_164 rfl ?_
          refine r_goto 102 dX10_share_167 (by decide) ?_
          exact ih _ _ _  (by assumption) (by exact hT) (by exact hG) (by exact hc) (by omega) (by omega) (by refine foldI_go (by omega) hi ?_; unfold shF; dsimp only; first | (exfalso; omega) | (rw [if_pos (by omega)]; done) | (rw [if_neg (by omega)]; done)) (by omega) (by omega)
        refine r_iconst dX10_share_156 ?_
        refine r_goto 161 dX10_share_157 (by decide) ?_
        refine r_isub dX10_share_161 ?_
        refine r_ist4 dX10_share_162 rfl ?_
        refine r_iinc6 dX10_share_164 rfl ?_
        refine r_goto 102 dX10_share_167 (by decide) ?_
        exact ih _ _ _  (by assumption) (by exact hT) (by exact hG) (by exact hc) (by omega) (by omega) (by refine foldI_go (by omega) hi ?_; unfold shF; dsimp only; first | (exfalso; omega) | (rw [if_pos (by omega)]; done) | (rw [if_neg (by omega)]; done)) (by omega) (by omega)
      refine r_iconst dX10_share_132 ?_
      refine r_goto 137 dX10_share_133 (by decide) ?_
      refine r_iadd dX10_share_137 ?_
      refine r_ist5 dX10_share_138 rfl ?_
      refine r_ild4 dX10_share_140 ?_
      refine r_ald0 dX10_share_142 ?_
      refine r_ild6 dX10_share_143 ?_
      refine s_callV1r hM (c_X10_claim E (by exact hT) (by exact hG) (by omega)) cv_X10_claim wM_X10_243 (sh_201) rfl rfl (Nat.le_of_ble_eq_true rfl) (by decide) dX10_share_145 (fun _ => ?_)
      refine r_if_le 160 dX10_share_148 (by decide) (by omega) (fun c148 => ?_) (fun c148 => ?_)
      · skip
        refine r_iconst dX10_share_160 ?_
        refine r_isub dX10_share_161 ?_
        refine r_ist4 dX10_share_162 rfl ?_
        refine r_iinc6 dX10_share_164 rfl ?_
        refine r_goto 102 dX10_share_167 (by decide) ?_
        exact ih _ _ _  (by assumption) (by exact hT) (by exact hG) (by exact hc) (by omega) (by omega) (by refine foldI_go (by omega) hi ?_; unfold shF; dsimp only; first | (exfalso; omega) | (rw [if_pos (by omega)]; done) | (rw [if_neg (by omega)]; done)) (by omega) (by omega)
      refine r_ild4 dX10_share_151 ?_
      refine r_if_le 160 dX10_share_153 (by decide) (by omega) (fun c153 => ?_) (fun c153 => ?_)
      · skip
        refine r_iconst dX10_share_160 ?_
        refine r_isub dX10_share_161 ?_
        refine r_ist4 dX10_share_162 rfl ?_
        refine r_iinc6 dX10_share_164 rfl ?_
        refine r_goto 102 dX10_share_167 (by decide) ?_
        exact ih _ _ _  (by assumption) (by exact hT) (by exact hG) (by exact hc) (by omega) (by omega) (by refine foldI_go (by omega) hi ?_; unfold shF; dsimp only; first | (exfalso; omega) | (rw [if_pos (by omega)]; done) | (rw [if_neg (by omega)]; done)) (by omega) (by omega)
      refine r_iconst dX10_share_156 ?_
      refine r_goto 161 dX10_share_157 (by decide) ?_
      refine r_isub dX10_share_161 ?_
      refine r_ist4 dX10_share_162 rfl ?_
      refine r_iinc6 dX10_share_164 rfl ?_
      refine r_goto 102 dX10_share_167 (by decide) ?_
      exact ih _ _ _  (by assumption) (by exact hT) (by exact hG) (by exact hc) (by omega) (by omega) (by refine foldI_go (by omega) hi ?_; unfold shF; dsimp only; first | (exfalso; omega) | (rw [if_pos (by omega)]; done) | (rw [if_neg (by omega)]; done)) (by omega) (by omega)
  have L64 : ∀ (fu : Nat) (v k : Int), (¬ (¬ (0 ≤ p ∧ p < M 209 0) ∨ ¬ (0 ≤ n ∧ n ≤ 99))) → (TI (tg (M 209))) → (GI (tg (M 209)) (sk (M 210)) 999) → (0 < clsT (tg (M 209)) (sk (M 210)) ∧ clsT (tg (M 209)) (sk (M 210)) ≤ 1800) → (0 ≤ k ∧ k ≤ M 209 0) → (n - 35640 * k ≤ v ∧ v ≤ n) → (foldI (fun k a => a - n * claimT (tg (M 209)) (sk (M 210)) k / clsT (tg (M 209)) (sk (M 210))) (M 209 0 - k).toNat k v = ovY (tg (M 209)) (sk (M 210)) n) → (M 209 0 - k).toNat < fu → VS E mX10_share 2 (some (xi (yShare M p n))) (M) 64 [some (xr E 201), some (xi p), some (xi n), some (xi (clsT (tg (M 209)) (sk (M 210)))), some (xi v), some (xi k), none] [] M := by
    intro fu
    induction fu with
    | zero => intro v k  hg hT hG hc hb hv hi hme; exact absurd hme (Nat.not_lt_zero _)
    | succ fu ih =>
      intro v k  hg hT hG hc hb hv hi hme
      have hn : 1 ≤ M 209 0 ∧ M 209 0 ≤ 5 := hT.1
      have hN : 1 ≤ M 209 1 ∧ M 209 1 ≤ 6 := hT.2.1
      have hra : 1 ≤ M 209 2 ∧ M 209 2 ≤ 60 := hT.2.2.1
      refine r_ild5 dX10_share_64 ?_
      refine r_ald0 dX10_share_66 ?_
      refine s_getR fi_X10_31 (sh_201) rfl dX10_share_67 ?_
      refine r_iconst dX10_share_70 ?_
      refine s_iald hM (sh_209) (by omega) (by decide) dX10_share_71 (fun g71 => ?_)
      try simp (disch := omega) only [Int.reduceToNat]
      refine r_icmp_ge 96 dX10_share_72 (by decide) (by omega) (by omega) (fun c72 => ?_) (fun c72 => ?_)
      · skip
        have hov : v = ovY (tg (M 209)) (sk (M 210)) n := by rw [← hi, show (M 209 0 - k).toNat = 0 by omega]; rfl
        refine r_iconst dX10_share_96 ?_
        refine r_ist5 dX10_share_97 rfl ?_
        refine r_iconst dX10_share_99 ?_
        refine r_ist6 dX10_share_100 rfl ?_
        exact L102 6 _ _ _  (by assumption) (by exact hT) (by exact hG) (by exact hc) (by omega) (by omega) (by rw [Int.sub_zero, hov]) (by omega) (by omega)
      have hck := claim_b hT hG.1 (p := k) (show 0 ≤ k ∧ k < M 209 0 by omega)
      have hcm := mul_b (a := n) (A := 99) (b := claimT (tg (M 209)) (sk (M 210)) k) (B := 360) (by omega) hck
      have hdv := div_b (a := n * claimT (tg (M 209)) (sk (M 210)) k) (A := 35640) (b := clsT (tg (M 209)) (sk (M 210))) (by omega) (by omega)
      refine r_ild4 dX10_share_75 ?_
      refine r_ild2 dX10_share_77 ?_
      refine r_ald0 dX10_share_78 ?_
      refine r_ild5 dX10_share_79 ?_
      refine s_callV1r hM (c_X10_claim E (by exact hT) (by exact hG) (by omega)) cv_X10_claim wM_X10_243 (sh_201) rfl rfl (Nat.le_of_ble_eq_true rfl) (by decide) dX10_share_81 (fun _ => ?_)
      refine r_imul dX10_share_84 ?_
      refine r_ild3 dX10_share_85 ?_
      refine r_idiv dX10_share_86 (by omega) (by omega) ?_
      refine r_isub dX10_share_87 ?_
      refine r_ist4 dX10_share_88 rfl ?_
      refine r_iinc5 dX10_share_90 rfl ?_
      refine r_goto 64 dX10_share_93 (by decide) ?_
      exact ih _ _  (by assumption) (by exact hT) (by exact hG) (by exact hc) (by omega) (by omega) (by exact foldI_go (by omega) hi rfl) (by omega)
  have L26 : ∀ (fu : Nat) (a k : Int), (¬ (¬ (0 ≤ p ∧ p < M 209 0) ∨ ¬ (0 ≤ n ∧ n ≤ 99))) → (TI (tg (M 209))) → (GI (tg (M 209)) (sk (M 210)) 999) → (0 ≤ k ∧ k ≤ M 209 0) → (0 ≤ a ∧ a ≤ 360 * k) → (foldI (fun q a => a + claimT (tg (M 209)) (sk (M 210)) q) (M 209 0 - k).toNat k a = clsT (tg (M 209)) (sk (M 210))) → (M 209 0 - k).toNat < fu → VS E mX10_share 2 (some (xi (yShare M p n))) (M) 26 [some (xr E 201), some (xi p), some (xi n), some (xi a), some (xi k), none, none] [] M := by
    intro fu
    induction fu with
    | zero => intro a k  hg hT hG hb ha hi hme; exact absurd hme (Nat.not_lt_zero _)
    | succ fu ih =>
      intro a k  hg hT hG hb ha hi hme
      have hn : 1 ≤ M 209 0 ∧ M 209 0 ≤ 5 := hT.1
      have hN : 1 ≤ M 209 1 ∧ M 209 1 ≤ 6 := hT.2.1
      have hra : 1 ≤ M 209 2 ∧ M 209 2 ≤ 60 := hT.2.2.1
      refine r_ild4 dX10_share_26 ?_
      refine r_ald0 dX10_share_28 ?_
      refine s_getR fi_X10_31 (sh_201) rfl dX10_share_29 ?_
      refine r_iconst dX10_share_32 ?_
      refine s_iald hM (sh_209) (by omega) (by decide) dX10_share_33 (fun g33 => ?_)
      try simp (disch := omega) only [Int.reduceToNat]
      refine r_icmp_ge 52 dX10_share_34 (by decide) (by omega) (by omega) (fun c34 => ?_) (fun c34 => ?_)
      · skip
        have ha2 : a = clsT (tg (M 209)) (sk (M 210)) := by rw [← hi, show (M 209 0 - k).toNat = 0 by omega]; rfl
        subst ha2
        refine r_ild3 dX10_share_52 ?_
        refine r_if_ne 58 dX10_share_53 (by decide) (by omega) (fun c53 => ?_) (fun c53 => ?_)
        · skip
          refine r_ild2 dX10_share_58 ?_
          refine r_ist4 dX10_share_59 rfl ?_
          refine r_iconst dX10_share_61 ?_
          refine r_ist5 dX10_share_62 rfl ?_
          exact L64 6 _ _  (by assumption) (by exact hT) (by exact hG) (by omega) (by omega) (by omega) (by rw [Int.sub_zero]; rfl) (by omega)
        refine r_iconst dX10_share_56 ?_
        exact s_iret hM rfl dX10_share_57 (by unfold yShare; first | (rw [if_pos (by assumption)]; done) | (rw [if_neg hg, if_pos (by omega)]; done) | (rw [if_neg hg, if_neg (by omega), ← hi, show (p + 1 - k).toNat = 0 by omega]; rfl) | (rw [if_pos (by omega)]; done)) (by rfl)
      refine r_ild3 dX10_share_37 ?_
      have hck := claim_b hT hG.1 (p := k) (show 0 ≤ k ∧ k < M 209 0 by omega)
      refine r_ald0 dX10_share_38 ?_
      refine r_ild4 dX10_share_39 ?_
      refine s_callV1r hM (c_X10_claim E (by exact hT) (by exact hG) (by omega)) cv_X10_claim wM_X10_243 (sh_201) rfl rfl (Nat.le_of_ble_eq_true rfl) (by decide) dX10_share_41 (fun _ => ?_)
      refine r_iadd dX10_share_44 ?_
      refine r_ist3 dX10_share_45 rfl ?_
      refine r_iinc4 dX10_share_46 rfl ?_
      refine r_goto 26 dX10_share_49 (by decide) ?_
      exact ih _ _  (by assumption) (by exact hT) (by exact hG) (by omega) (by omega) (by exact foldI_go (by omega) hi rfl) (by omega)
  refine r_ald0 dX10_share_0 ?_
  refine r_ild1 dX10_share_1 ?_
  refine s_callV1r hM (c_X10_isPerson E (by first | with_reducible assumption | with_reducible exact xSt_9 | with_reducible exact xSt_13 | omega) (by first | with_reducible assumption | with_reducible exact xSt_9 | with_reducible exact xSt_13 | omega)) cv_X10_isPerson wM_X10_215 (sh_201) rfl rfl (Nat.le_of_ble_eq_true rfl) (by decide) dX10_share_2 (fun _ => ?_)
  refine r_ifb_eq 18 dX10_share_5 (by decide) (fun c5 => ?_) (fun c5 => ?_)
  · skip
    refine r_ldc (-1000001) dX10_share_18 wC_X10_78 ?_
    exact s_iret hM rfl dX10_share_20 (by unfold yShare; first | (rw [if_pos (by assumption)]; done) | (rw [if_neg hg, if_pos (by omega)]; done) | (rw [if_neg hg, if_neg (by omega), ← hi, show (p + 1 - k).toNat = 0 by omega]; rfl) | (rw [if_pos (by omega)]; done)) (by rfl)
  refine r_ild2 dX10_share_8 ?_
  refine r_iconst dX10_share_9 ?_
  refine r_bipush dX10_share_10 (by decide +kernel) ?_
  refine s_callS3r hM (c_X10_in E (by first | with_reducible assumption | with_reducible exact xSt_9 | with_reducible exact xSt_13 | omega) (by first | with_reducible assumption | with_reducible exact xSt_9 | with_reducible exact xSt_13 | omega) (by first | with_reducible assumption | with_reducible exact xSt_9 | with_reducible exact xSt_13 | omega)) cs_X10_in wM_X10_70 (Nat.le_of_ble_eq_true rfl) (by decide) dX10_share_12 (fun _ => ?_)
  refine r_ifb_ne 21 dX10_share_15 (by decide) (fun c15 => ?_) (fun c15 => ?_)
  · skip
    obtain ⟨hd1, hT, hG, hNN⟩ := MD_g hD (by omega)
    have hn : 1 ≤ M 209 0 ∧ M 209 0 ≤ 5 := hT.1
    have hN : 1 ≤ M 209 1 ∧ M 209 1 ≤ 6 := hT.2.1
    have hra : 1 ≤ M 209 2 ∧ M 209 2 ≤ 60 := hT.2.2.1
    refine r_iconst dX10_share_21 ?_
    refine r_ist3 dX10_share_22 rfl ?_
    refine r_iconst dX10_share_23 ?_
    refine r_ist4 dX10_share_24 rfl ?_
    exact L26 6 _ _  (by omega) (by exact hT) (by exact hG) (by omega) (by omega) (by rw [Int.sub_zero]; rfl) (by omega)
  refine r_ldc (-1000001) dX10_share_18 wC_X10_78 ?_
  exact s_iret hM rfl dX10_share_20 (by unfold yShare; first | (rw [if_pos (by assumption)]; done) | (rw [if_neg hg, if_pos (by omega)]; done) | (rw [if_neg hg, if_neg (by omega), ← hi, show (p + 1 - k).toNat = 0 by omega]; rfl) | (rw [if_pos (by omega)]; done)) (by rfl)
