section BODY
variable {E : xE} {p : Program} {e : Env} {s : State} {m : MethodId} {below : List Frame} {meth : Method} {c : Code} {b L : Nat} {xs : Nat → Int32}
variable {pc : Nat} {ls : List (Option Value)} {st : List Value} {n : Nat} {hp : Nat → va_E} {ce sl : Nat}
def scr (xs : Nat → Int32) (i : Int) : Int := (xs i.toNat).toInt
theorem scr_r (xs : Nat → Int32) (i : Int) : -2147483648 ≤ scr xs i ∧ scr xs i < 2147483648 := by
  have h1 := Int32.le_toInt (xs i.toNat)
  have h2 := Int32.toInt_lt (xs i.toNat)
  unfold scr
  omega
theorem scr_x (xs : Nat → Int32) (i : Int) : Value.int (xs i.toNat) = xi (scr xs i) := by
  show _ = Value.int (Int32.ofInt ((xs i.toNat).toInt))
  rw [Int32.ofInt_toInt]
theorem l_scr (C : LCx E p s m meth c b L xs) {i : Int} (h0 : 0 ≤ i) (h1 : i < L) (hd : decode cL_law pc = .ok (.iaload, 1)) (k : VLaw E p e s m below meth c b (pc + 1) ls (xi (scr xs i) :: st) n hp ce sl) : VLaw E p e s m below meth c b pc ls (xi i :: .ref b :: st) n hp ce sl := by
  refine l_sld C h0 h1 hd ?_
  rw [scr_x]
  exact k
theorem l_arg (C : LCx E p s m meth c b L xs) {i k : Int} {a1 a2 : Option Value} (h0 : 0 ≤ i + k) (h1 : i + k < L) (d0 : decode cL_law pc = .ok (.aload_n 0, 1)) (d1 : decode cL_law (pc + 1) = .ok (.iload_n 3, 1)) (d2 : decode cL_law (pc + 1 + 1) = .ok (.iconst k, 1)) (d3 : decode cL_law (pc + 1 + 1 + 1) = .ok (.iadd, 1)) (d4 : decode cL_law (pc + 1 + 1 + 1 + 1) = .ok (.iaload, 1))
    (kk : VLaw E p e s m below meth c b (pc + 5) [some (.ref b), a1, a2, some (xi i)] (xi (scr xs (i + k)) :: st) n hp ce sl) : VLaw E p e s m below meth c b pc [some (.ref b), a1, a2, some (xi i)] st n hp ce sl := by
  refine l_ald0 C d0 ?_
  refine l_ild3 C d1 ?_
  refine l_iconst C d2 ?_
  refine l_iadd C d3 ?_
  exact l_scr C h0 h1 d4 kk
theorem l_same (C : LCx E p s m meth c b L xs) {v off : Int} (tgt : Nat) (hd : decode cL_law pc = .ok (.if_icmp .eq off, 3)) (ht : (pc : Int) + off = (tgt : Int)) (k : VLaw E p e s m below meth c b tgt ls st n hp ce sl) : VLaw E p e s m below meth c b pc ls (xi v :: xi v :: st) n hp ce sl :=
  VLaw_br (C := True) (pc1 := tgt) (pc2 := pc + 3) (fun H locs la Z k1 k2 => lv_icmp_eq C.1.1 C.1.2.1 hd ht (fun _ => k1 trivial) (fun q => absurd rfl q)) (fun _ => k) (fun q => absurd trivial q)
theorem lg_cmp_rf (x : Int64) : lg_cmp x x = xI 0 := by
  unfold lg_cmp
  simp [Int64.lt_irrefl]
  rfl
theorem l_sameL (C : LCx E p s m meth c b L xs) {v off : Int} (tgt : Nat) (hd0 : decode cL_law pc = .ok (.lcmp, 1)) (hd : decode cL_law (pc + 1) = .ok (.ifCond .eq off, 3)) (ht : ((pc + 1 : Nat) : Int) + off = (tgt : Int)) (k : VLaw E p e s m below meth c b tgt ls st n hp ce sl) : VLaw E p e s m below meth c b pc ls (xl v :: xl v :: st) n hp ce sl := by
  refine VLaw_st (pc' := pc + 1) (ls' := ls) (st' := xi 0 :: st) (fun H locs la Z hL kk => ?_) ?_
  · refine W.lcmp C.1.1 C.1.2.1 hd0 ?_
    rw [lg_cmp_rf]
    exact kk la hL
  exact l_if_eq C tgt hd ht (by decide) (fun _ => k) (fun q => absurd rfl q)
theorem k_row (C : LCx E p s m meth c b L xs) {M : xMem} (hM : InR M) (h : Rl M M) {i : Int} (h0 : 0 ≤ i) (h1 : i + 6 ≤ L) (kk : ∀ M2, InR M2 → Rl M2 M2 → VLaw E p e s m below meth c b 1422 [some (.ref b), some (xr E 0), some (xr E 201), some (xi i)] [] nC (xC E M2) 220 3048) : VLaw E p e s m below meth c b 204 [some (.ref b), some (xr E 0), some (xr E 201), some (xi i)] [] nC (xC E M) 220 3048 := by
  obtain ⟨v, M1, M2, k1, k2, h2⟩ := pr_row E h (scr_r xs (i + 1)) (scr_r xs (i + 2)) (scr_r xs (i + 3))
  refine l_ald1 C dL_law_204 ?_
  refine l_arg C (by omega) (by omega) dL_law_205 dL_law_206 dL_law_207 dL_law_208 dL_law_209 ?_
  refine l_arg C (by omega) (by omega) dL_law_210 dL_law_211 dL_law_212 dL_law_213 dL_law_214 ?_
  refine l_arg C (by omega) (by omega) dL_law_215 dL_law_216 dL_law_217 dL_law_218 dL_law_219 ?_
  refine l_callS C rfl hM k1 cv_X9_row wM_L_13 rfl rfl sh_0 rfl rfl (Nat.le_of_ble_eq_true rfl) (by decide) (by decide) (by decide) dL_law_220 (fun hM1 => ?_)
  refine l_ald2 C dL_law_223 ?_
  refine l_arg C (by omega) (by omega) dL_law_224 dL_law_225 dL_law_226 dL_law_227 dL_law_228 ?_
  refine l_arg C (by omega) (by omega) dL_law_229 dL_law_230 dL_law_231 dL_law_232 dL_law_233 ?_
  refine l_arg C (by omega) (by omega) dL_law_234 dL_law_235 dL_law_236 dL_law_237 dL_law_238 ?_
  refine l_callS C rfl hM1 k2 cv_X10_row wM_L_17 rfl rfl sh_201 rfl rfl (Nat.le_of_ble_eq_true rfl) (by decide) (by decide) (by decide) dL_law_239 (fun hM2 => ?_)
  refine l_same C 1422 dL_law_242 (by decide) ?_
  exact kk M2 hM2 h2
theorem k_set (C : LCx E p s m meth c b L xs) {M : xMem} (hM : InR M) (h : Rl M M) {i : Int} (h0 : 0 ≤ i) (h1 : i + 6 ≤ L) (kk : ∀ M2, InR M2 → Rl M2 M2 → VLaw E p e s m below meth c b 1422 [some (.ref b), some (xr E 0), some (xr E 201), some (xi i)] [] nC (xC E M2) 220 3048) : VLaw E p e s m below meth c b 247 [some (.ref b), some (xr E 0), some (xr E 201), some (xi i)] [] nC (xC E M) 220 3048 := by
  obtain ⟨v, M1, M2, k1, k2, h2⟩ := pr_set E h (scr_r xs (i + 1)) (scr_r xs (i + 2)) (scr_r xs (i + 3))
  refine l_ald1 C dL_law_247 ?_
  refine l_arg C (by omega) (by omega) dL_law_248 dL_law_249 dL_law_250 dL_law_251 dL_law_252 ?_
  refine l_arg C (by omega) (by omega) dL_law_253 dL_law_254 dL_law_255 dL_law_256 dL_law_257 ?_
  refine l_arg C (by omega) (by omega) dL_law_258 dL_law_259 dL_law_260 dL_law_261 dL_law_262 ?_
  refine l_callS C rfl hM k1 cv_X9_set wM_L_18 rfl rfl sh_0 rfl rfl (Nat.le_of_ble_eq_true rfl) (by decide) (by decide) (by decide) dL_law_263 (fun hM1 => ?_)
  refine l_ald2 C dL_law_266 ?_
  refine l_arg C (by omega) (by omega) dL_law_267 dL_law_268 dL_law_269 dL_law_270 dL_law_271 ?_
  refine l_arg C (by omega) (by omega) dL_law_272 dL_law_273 dL_law_274 dL_law_275 dL_law_276 ?_
  refine l_arg C (by omega) (by omega) dL_law_277 dL_law_278 dL_law_279 dL_law_280 dL_law_281 ?_
  refine l_callS C rfl hM1 k2 cv_X10_set wM_L_21 rfl rfl sh_201 rfl rfl (Nat.le_of_ble_eq_true rfl) (by decide) (by decide) (by decide) dL_law_282 (fun hM2 => ?_)
  refine l_same C 1422 dL_law_285 (by decide) ?_
  exact kk M2 hM2 h2
theorem k_copy (C : LCx E p s m meth c b L xs) {M : xMem} (hM : InR M) (h : Rl M M) {i : Int} (h0 : 0 ≤ i) (h1 : i + 6 ≤ L) (kk : ∀ M2, InR M2 → Rl M2 M2 → VLaw E p e s m below meth c b 1422 [some (.ref b), some (xr E 0), some (xr E 201), some (xi i)] [] nC (xC E M2) 220 3048) : VLaw E p e s m below meth c b 290 [some (.ref b), some (xr E 0), some (xr E 201), some (xi i)] [] nC (xC E M) 220 3048 := by
  obtain ⟨v, M1, M2, k1, k2, h2⟩ := pr_copy E h (scr_r xs (i + 1)) (scr_r xs (i + 2)) (scr_r xs (i + 3)) (scr_r xs (i + 4)) (scr_r xs (i + 5))
  refine l_ald1 C dL_law_290 ?_
  refine l_arg C (by omega) (by omega) dL_law_291 dL_law_292 dL_law_293 dL_law_294 dL_law_295 ?_
  refine l_arg C (by omega) (by omega) dL_law_296 dL_law_297 dL_law_298 dL_law_299 dL_law_300 ?_
  refine l_arg C (by omega) (by omega) dL_law_301 dL_law_302 dL_law_303 dL_law_304 dL_law_305 ?_
  refine l_arg C (by omega) (by omega) dL_law_306 dL_law_307 dL_law_308 dL_law_309 dL_law_310 ?_
  refine l_arg C (by omega) (by omega) dL_law_311 dL_law_312 dL_law_313 dL_law_314 dL_law_315 ?_
  refine l_callS C rfl hM k1 cv_X9_copy wM_L_22 rfl rfl sh_0 rfl rfl (Nat.le_of_ble_eq_true rfl) (by decide) (by decide) (by decide) dL_law_316 (fun hM1 => ?_)
  refine l_ald2 C dL_law_319 ?_
  refine l_arg C (by omega) (by omega) dL_law_320 dL_law_321 dL_law_322 dL_law_323 dL_law_324 ?_
  refine l_arg C (by omega) (by omega) dL_law_325 dL_law_326 dL_law_327 dL_law_328 dL_law_329 ?_
  refine l_arg C (by omega) (by omega) dL_law_330 dL_law_331 dL_law_332 dL_law_333 dL_law_334 ?_
  refine l_arg C (by omega) (by omega) dL_law_335 dL_law_336 dL_law_337 dL_law_338 dL_law_339 ?_
  refine l_arg C (by omega) (by omega) dL_law_340 dL_law_341 dL_law_342 dL_law_343 dL_law_344 ?_
  refine l_callS C rfl hM1 k2 cv_X10_copy wM_L_26 rfl rfl sh_201 rfl rfl (Nat.le_of_ble_eq_true rfl) (by decide) (by decide) (by decide) dL_law_345 (fun hM2 => ?_)
  refine l_same C 1422 dL_law_348 (by decide) ?_
  exact kk M2 hM2 h2
theorem k_drop (C : LCx E p s m meth c b L xs) {M : xMem} (hM : InR M) (h : Rl M M) {i : Int} (h0 : 0 ≤ i) (h1 : i + 6 ≤ L) (kk : ∀ M2, InR M2 → Rl M2 M2 → VLaw E p e s m below meth c b 1422 [some (.ref b), some (xr E 0), some (xr E 201), some (xi i)] [] nC (xC E M2) 220 3048) : VLaw E p e s m below meth c b 353 [some (.ref b), some (xr E 0), some (xr E 201), some (xi i)] [] nC (xC E M) 220 3048 := by
  obtain ⟨v, M1, M2, k1, k2, h2⟩ := pr_drop E h (scr_r xs (i + 1))
  refine l_ald1 C dL_law_353 ?_
  refine l_arg C (by omega) (by omega) dL_law_354 dL_law_355 dL_law_356 dL_law_357 dL_law_358 ?_
  refine l_callS C rfl hM k1 cv_X9_drop wM_L_27 rfl rfl sh_0 rfl rfl (Nat.le_of_ble_eq_true rfl) (by decide) (by decide) (by decide) dL_law_359 (fun hM1 => ?_)
  refine l_ald2 C dL_law_362 ?_
  refine l_arg C (by omega) (by omega) dL_law_363 dL_law_364 dL_law_365 dL_law_366 dL_law_367 ?_
  refine l_callS C rfl hM1 k2 cv_X10_drop wM_L_31 rfl rfl sh_201 rfl rfl (Nat.le_of_ble_eq_true rfl) (by decide) (by decide) (by decide) dL_law_368 (fun hM2 => ?_)
  refine l_same C 1422 dL_law_371 (by decide) ?_
  exact kk M2 hM2 h2
theorem k_feed (C : LCx E p s m meth c b L xs) {M : xMem} (hM : InR M) (h : Rl M M) {i : Int} (h0 : 0 ≤ i) (h1 : i + 6 ≤ L) (kk : ∀ M2, InR M2 → Rl M2 M2 → VLaw E p e s m below meth c b 1422 [some (.ref b), some (xr E 0), some (xr E 201), some (xi i)] [] nC (xC E M2) 220 3048) : VLaw E p e s m below meth c b 376 [some (.ref b), some (xr E 0), some (xr E 201), some (xi i)] [] nC (xC E M) 220 3048 := by
  obtain ⟨v, M1, M2, k1, k2, h2⟩ := pr_feed E h (scr_r xs (i + 1))
  refine l_ald1 C dL_law_376 ?_
  refine l_arg C (by omega) (by omega) dL_law_377 dL_law_378 dL_law_379 dL_law_380 dL_law_381 ?_
  refine l_callS C rfl hM k1 cv_X9_feed wM_L_32 rfl rfl sh_0 rfl rfl (Nat.le_of_ble_eq_true rfl) (by decide) (by decide) (by decide) dL_law_382 (fun hM1 => ?_)
  refine l_ald2 C dL_law_385 ?_
  refine l_arg C (by omega) (by omega) dL_law_386 dL_law_387 dL_law_388 dL_law_389 dL_law_390 ?_
  refine l_callS C rfl hM1 k2 cv_X10_feed wM_L_35 rfl rfl sh_201 rfl rfl (Nat.le_of_ble_eq_true rfl) (by decide) (by decide) (by decide) dL_law_391 (fun hM2 => ?_)
  refine l_same C 1422 dL_law_394 (by decide) ?_
  exact kk M2 hM2 h2
theorem k_duchy (C : LCx E p s m meth c b L xs) {M : xMem} (hM : InR M) (h : Rl M M) {i : Int} (h0 : 0 ≤ i) (h1 : i + 6 ≤ L) (kk : ∀ M2, InR M2 → Rl M2 M2 → VLaw E p e s m below meth c b 1422 [some (.ref b), some (xr E 0), some (xr E 201), some (xi i)] [] nC (xC E M2) 220 3048) : VLaw E p e s m below meth c b 399 [some (.ref b), some (xr E 0), some (xr E 201), some (xi i)] [] nC (xC E M) 220 3048 := by
  obtain ⟨v, M1, M2, k1, k2, h2⟩ := pr_duchy E h 
  refine l_ald1 C dL_law_399 ?_
  refine l_callS C rfl hM k1 cv_X9_duchy wM_L_36 rfl rfl sh_0 rfl rfl (Nat.le_of_ble_eq_true rfl) (by decide) (by decide) (by decide) dL_law_400 (fun hM1 => ?_)
  refine l_ald2 C dL_law_403 ?_
  refine l_callS C rfl hM1 k2 cv_X10_duchy wM_L_40 rfl rfl sh_201 rfl rfl (Nat.le_of_ble_eq_true rfl) (by decide) (by decide) (by decide) dL_law_404 (fun hM2 => ?_)
  refine l_same C 1422 dL_law_407 (by decide) ?_
  exact kk M2 hM2 h2
theorem k_fault (C : LCx E p s m meth c b L xs) {M : xMem} (hM : InR M) (h : Rl M M) {i : Int} (h0 : 0 ≤ i) (h1 : i + 6 ≤ L) (kk : ∀ M2, InR M2 → Rl M2 M2 → VLaw E p e s m below meth c b 1422 [some (.ref b), some (xr E 0), some (xr E 201), some (xi i)] [] nC (xC E M2) 220 3048) : VLaw E p e s m below meth c b 412 [some (.ref b), some (xr E 0), some (xr E 201), some (xi i)] [] nC (xC E M) 220 3048 := by
  obtain ⟨v, M1, M2, k1, k2, h2⟩ := pr_fault E h 
  refine l_ald1 C dL_law_412 ?_
  refine l_callS C rfl hM k1 cv_X9_fault wM_L_41 rfl rfl sh_0 rfl rfl (Nat.le_of_ble_eq_true rfl) (by decide) (by decide) (by decide) dL_law_413 (fun hM1 => ?_)
  refine l_ald2 C dL_law_416 ?_
  refine l_callS C rfl hM1 k2 cv_X10_fault wM_L_44 rfl rfl sh_201 rfl rfl (Nat.le_of_ble_eq_true rfl) (by decide) (by decide) (by decide) dL_law_417 (fun hM2 => ?_)
  refine l_same C 1422 dL_law_420 (by decide) ?_
  exact kk M2 hM2 h2
theorem k_undo (C : LCx E p s m meth c b L xs) {M : xMem} (hM : InR M) (h : Rl M M) {i : Int} (h0 : 0 ≤ i) (h1 : i + 6 ≤ L) (kk : ∀ M2, InR M2 → Rl M2 M2 → VLaw E p e s m below meth c b 1422 [some (.ref b), some (xr E 0), some (xr E 201), some (xi i)] [] nC (xC E M2) 220 3048) : VLaw E p e s m below meth c b 425 [some (.ref b), some (xr E 0), some (xr E 201), some (xi i)] [] nC (xC E M) 220 3048 := by
  obtain ⟨v, M1, M2, k1, k2, h2⟩ := pr_undo E h 
  refine l_ald1 C dL_law_425 ?_
  refine l_callS C rfl hM k1 cv_X9_undo wM_L_45 rfl rfl sh_0 rfl rfl (Nat.le_of_ble_eq_true rfl) (by decide) (by decide) (by decide) dL_law_426 (fun hM1 => ?_)
  refine l_ald2 C dL_law_429 ?_
  refine l_callS C rfl hM1 k2 cv_X10_undo wM_L_48 rfl rfl sh_201 rfl rfl (Nat.le_of_ble_eq_true rfl) (by decide) (by decide) (by decide) dL_law_430 (fun hM2 => ?_)
  refine l_same C 1422 dL_law_433 (by decide) ?_
  exact kk M2 hM2 h2
theorem k_weeks (C : LCx E p s m meth c b L xs) {M : xMem} (hM : InR M) (h : Rl M M) {i : Int} (h0 : 0 ≤ i) (h1 : i + 6 ≤ L) (kk : ∀ M2, InR M2 → Rl M2 M2 → VLaw E p e s m below meth c b 1422 [some (.ref b), some (xr E 0), some (xr E 201), some (xi i)] [] nC (xC E M2) 220 3048) : VLaw E p e s m below meth c b 438 [some (.ref b), some (xr E 0), some (xr E 201), some (xi i)] [] nC (xC E M) 220 3048 := by
  obtain ⟨v, M1, M2, k1, k2, h2⟩ := pr_weeks E h (scr_r xs (i + 1))
  refine l_ald1 C dL_law_438 ?_
  refine l_arg C (by omega) (by omega) dL_law_439 dL_law_440 dL_law_441 dL_law_442 dL_law_443 ?_
  refine l_callS C rfl hM k1 cv_X9_weeks wM_L_49 rfl rfl sh_0 rfl rfl (Nat.le_of_ble_eq_true rfl) (by decide) (by decide) (by decide) dL_law_444 (fun hM1 => ?_)
  refine l_ald2 C dL_law_447 ?_
  refine l_arg C (by omega) (by omega) dL_law_448 dL_law_449 dL_law_450 dL_law_451 dL_law_452 ?_
  refine l_callS C rfl hM1 k2 cv_X10_weeks wM_L_52 rfl rfl sh_201 rfl rfl (Nat.le_of_ble_eq_true rfl) (by decide) (by decide) (by decide) dL_law_453 (fun hM2 => ?_)
  refine l_same C 1422 dL_law_456 (by decide) ?_
  exact kk M2 hM2 h2
theorem k_say (C : LCx E p s m meth c b L xs) {M : xMem} (hM : InR M) (h : Rl M M) {i : Int} (h0 : 0 ≤ i) (h1 : i + 6 ≤ L) (kk : ∀ M2, InR M2 → Rl M2 M2 → VLaw E p e s m below meth c b 1422 [some (.ref b), some (xr E 0), some (xr E 201), some (xi i)] [] nC (xC E M2) 220 3048) : VLaw E p e s m below meth c b 461 [some (.ref b), some (xr E 0), some (xr E 201), some (xi i)] [] nC (xC E M) 220 3048 := by
  obtain ⟨v, M1, M2, k1, k2, h2⟩ := pr_say E h (scr_r xs (i + 1))
  refine l_ald1 C dL_law_461 ?_
  refine l_arg C (by omega) (by omega) dL_law_462 dL_law_463 dL_law_464 dL_law_465 dL_law_466 ?_
  refine l_callS C rfl hM k1 cv_X9_say wM_L_53 rfl rfl sh_0 rfl rfl (Nat.le_of_ble_eq_true rfl) (by decide) (by decide) (by decide) dL_law_467 (fun hM1 => ?_)
  refine l_ald2 C dL_law_470 ?_
  refine l_arg C (by omega) (by omega) dL_law_471 dL_law_472 dL_law_473 dL_law_474 dL_law_475 ?_
  refine l_callS C rfl hM1 k2 cv_X10_say wM_L_56 rfl rfl sh_201 rfl rfl (Nat.le_of_ble_eq_true rfl) (by decide) (by decide) (by decide) dL_law_476 (fun hM2 => ?_)
  refine l_same C 1422 dL_law_479 (by decide) ?_
  exact kk M2 hM2 h2
theorem k_buy (C : LCx E p s m meth c b L xs) {M : xMem} (hM : InR M) (h : Rl M M) {i : Int} (h0 : 0 ≤ i) (h1 : i + 6 ≤ L) (kk : ∀ M2, InR M2 → Rl M2 M2 → VLaw E p e s m below meth c b 1422 [some (.ref b), some (xr E 0), some (xr E 201), some (xi i)] [] nC (xC E M2) 220 3048) : VLaw E p e s m below meth c b 484 [some (.ref b), some (xr E 0), some (xr E 201), some (xi i)] [] nC (xC E M) 220 3048 := by
  obtain ⟨v, M1, M2, k1, k2, h2⟩ := pr_buy E h (scr_r xs (i + 1)) (scr_r xs (i + 2))
  refine l_ald1 C dL_law_484 ?_
  refine l_arg C (by omega) (by omega) dL_law_485 dL_law_486 dL_law_487 dL_law_488 dL_law_489 ?_
  refine l_arg C (by omega) (by omega) dL_law_490 dL_law_491 dL_law_492 dL_law_493 dL_law_494 ?_
  refine l_callS C rfl hM k1 cv_X9_buy wM_L_57 rfl rfl sh_0 rfl rfl (Nat.le_of_ble_eq_true rfl) (by decide) (by decide) (by decide) dL_law_495 (fun hM1 => ?_)
  refine l_ald2 C dL_law_498 ?_
  refine l_arg C (by omega) (by omega) dL_law_499 dL_law_500 dL_law_501 dL_law_502 dL_law_503 ?_
  refine l_arg C (by omega) (by omega) dL_law_504 dL_law_505 dL_law_506 dL_law_507 dL_law_508 ?_
  refine l_callS C rfl hM1 k2 cv_X10_buy wM_L_61 rfl rfl sh_201 rfl rfl (Nat.le_of_ble_eq_true rfl) (by decide) (by decide) (by decide) dL_law_509 (fun hM2 => ?_)
  refine l_same C 1422 dL_law_512 (by decide) ?_
  exact kk M2 hM2 h2
theorem k_letOut (C : LCx E p s m meth c b L xs) {M : xMem} (hM : InR M) (h : Rl M M) {i : Int} (h0 : 0 ≤ i) (h1 : i + 6 ≤ L) (kk : ∀ M2, InR M2 → Rl M2 M2 → VLaw E p e s m below meth c b 1422 [some (.ref b), some (xr E 0), some (xr E 201), some (xi i)] [] nC (xC E M2) 220 3048) : VLaw E p e s m below meth c b 517 [some (.ref b), some (xr E 0), some (xr E 201), some (xi i)] [] nC (xC E M) 220 3048 := by
  obtain ⟨v, M1, M2, k1, k2, h2⟩ := pr_letOut E h (scr_r xs (i + 1))
  refine l_ald1 C dL_law_517 ?_
  refine l_arg C (by omega) (by omega) dL_law_518 dL_law_519 dL_law_520 dL_law_521 dL_law_522 ?_
  refine l_callS C rfl hM k1 cv_X9_letOut wM_L_62 rfl rfl sh_0 rfl rfl (Nat.le_of_ble_eq_true rfl) (by decide) (by decide) (by decide) dL_law_523 (fun hM1 => ?_)
  refine l_ald2 C dL_law_526 ?_
  refine l_arg C (by omega) (by omega) dL_law_527 dL_law_528 dL_law_529 dL_law_530 dL_law_531 ?_
  refine l_callS C rfl hM1 k2 cv_X10_letOut wM_L_65 rfl rfl sh_201 rfl rfl (Nat.le_of_ble_eq_true rfl) (by decide) (by decide) (by decide) dL_law_532 (fun hM2 => ?_)
  refine l_same C 1422 dL_law_535 (by decide) ?_
  exact kk M2 hM2 h2
theorem k_price (C : LCx E p s m meth c b L xs) {M : xMem} (hM : InR M) (h : Rl M M) {i : Int} (h0 : 0 ≤ i) (h1 : i + 6 ≤ L) (kk : ∀ M2, InR M2 → Rl M2 M2 → VLaw E p e s m below meth c b 1422 [some (.ref b), some (xr E 0), some (xr E 201), some (xi i)] [] nC (xC E M2) 220 3048) : VLaw E p e s m below meth c b 540 [some (.ref b), some (xr E 0), some (xr E 201), some (xi i)] [] nC (xC E M) 220 3048 := by
  obtain ⟨v, M1, M2, k1, k2, h2⟩ := pr_price E h (scr_r xs (i + 1))
  refine l_ald1 C dL_law_540 ?_
  refine l_arg C (by omega) (by omega) dL_law_541 dL_law_542 dL_law_543 dL_law_544 dL_law_545 ?_
  refine l_callS C rfl hM k1 cv_X9_price wM_L_66 rfl rfl sh_0 rfl rfl (Nat.le_of_ble_eq_true rfl) (by decide) (by decide) (by decide) dL_law_546 (fun hM1 => ?_)
  refine l_ald2 C dL_law_549 ?_
  refine l_arg C (by omega) (by omega) dL_law_550 dL_law_551 dL_law_552 dL_law_553 dL_law_554 ?_
  refine l_callS C rfl hM1 k2 cv_X10_price wM_L_69 rfl rfl sh_201 rfl rfl (Nat.le_of_ble_eq_true rfl) (by decide) (by decide) (by decide) dL_law_555 (fun hM2 => ?_)
  refine l_same C 1422 dL_law_558 (by decide) ?_
  exact kk M2 hM2 h2
theorem k_speech (C : LCx E p s m meth c b L xs) {M : xMem} (hM : InR M) (h : Rl M M) {i : Int} (h0 : 0 ≤ i) (h1 : i + 6 ≤ L) (kk : ∀ M2, InR M2 → Rl M2 M2 → VLaw E p e s m below meth c b 1422 [some (.ref b), some (xr E 0), some (xr E 201), some (xi i)] [] nC (xC E M2) 220 3048) : VLaw E p e s m below meth c b 563 [some (.ref b), some (xr E 0), some (xr E 201), some (xi i)] [] nC (xC E M) 220 3048 := by
  obtain ⟨v, M1, M2, k1, k2, h2⟩ := pr_speech E h (scr_r xs (i + 1)) (scr_r xs (i + 2))
  refine l_ald1 C dL_law_563 ?_
  refine l_arg C (by omega) (by omega) dL_law_564 dL_law_565 dL_law_566 dL_law_567 dL_law_568 ?_
  refine l_arg C (by omega) (by omega) dL_law_569 dL_law_570 dL_law_571 dL_law_572 dL_law_573 ?_
  refine l_callS C rfl hM k1 cv_X9_speech wM_L_70 rfl rfl sh_0 rfl rfl (Nat.le_of_ble_eq_true rfl) (by decide) (by decide) (by decide) dL_law_574 (fun hM1 => ?_)
  refine l_ald2 C dL_law_577 ?_
  refine l_arg C (by omega) (by omega) dL_law_578 dL_law_579 dL_law_580 dL_law_581 dL_law_582 ?_
  refine l_arg C (by omega) (by omega) dL_law_583 dL_law_584 dL_law_585 dL_law_586 dL_law_587 ?_
  refine l_callS C rfl hM1 k2 cv_X10_speech wM_L_73 rfl rfl sh_201 rfl rfl (Nat.le_of_ble_eq_true rfl) (by decide) (by decide) (by decide) dL_law_588 (fun hM2 => ?_)
  refine l_same C 1422 dL_law_591 (by decide) ?_
  exact kk M2 hM2 h2
theorem k_person (C : LCx E p s m meth c b L xs) {M : xMem} (hM : InR M) (h : Rl M M) {i : Int} (h0 : 0 ≤ i) (h1 : i + 6 ≤ L) (kk : ∀ M2, InR M2 → Rl M2 M2 → VLaw E p e s m below meth c b 1422 [some (.ref b), some (xr E 0), some (xr E 201), some (xi i)] [] nC (xC E M2) 220 3048) : VLaw E p e s m below meth c b 596 [some (.ref b), some (xr E 0), some (xr E 201), some (xi i)] [] nC (xC E M) 220 3048 := by
  obtain ⟨v, M1, M2, k1, k2, h2⟩ := pr_person E h (scr_r xs (i + 1)) (scr_r xs (i + 2))
  refine l_ald1 C dL_law_596 ?_
  refine l_arg C (by omega) (by omega) dL_law_597 dL_law_598 dL_law_599 dL_law_600 dL_law_601 ?_
  refine l_arg C (by omega) (by omega) dL_law_602 dL_law_603 dL_law_604 dL_law_605 dL_law_606 ?_
  refine l_callS C rfl hM k1 cv_X9_person wM_L_74 rfl rfl sh_0 rfl rfl (Nat.le_of_ble_eq_true rfl) (by decide) (by decide) (by decide) dL_law_607 (fun hM1 => ?_)
  refine l_ald2 C dL_law_610 ?_
  refine l_arg C (by omega) (by omega) dL_law_611 dL_law_612 dL_law_613 dL_law_614 dL_law_615 ?_
  refine l_arg C (by omega) (by omega) dL_law_616 dL_law_617 dL_law_618 dL_law_619 dL_law_620 ?_
  refine l_callS C rfl hM1 k2 cv_X10_person wM_L_77 rfl rfl sh_201 rfl rfl (Nat.le_of_ble_eq_true rfl) (by decide) (by decide) (by decide) dL_law_621 (fun hM2 => ?_)
  refine l_same C 1422 dL_law_624 (by decide) ?_
  exact kk M2 hM2 h2
theorem k_stand (C : LCx E p s m meth c b L xs) {M : xMem} (hM : InR M) (h : Rl M M) {i : Int} (h0 : 0 ≤ i) (h1 : i + 6 ≤ L) (kk : ∀ M2, InR M2 → Rl M2 M2 → VLaw E p e s m below meth c b 1422 [some (.ref b), some (xr E 0), some (xr E 201), some (xi i)] [] nC (xC E M2) 220 3048) : VLaw E p e s m below meth c b 629 [some (.ref b), some (xr E 0), some (xr E 201), some (xi i)] [] nC (xC E M) 220 3048 := by
  obtain ⟨v, M1, M2, k1, k2, h2⟩ := pr_stand E h (scr_r xs (i + 1))
  refine l_ald1 C dL_law_629 ?_
  refine l_arg C (by omega) (by omega) dL_law_630 dL_law_631 dL_law_632 dL_law_633 dL_law_634 ?_
  refine l_callS C rfl hM k1 cv_X9_stand wM_L_78 rfl rfl sh_0 rfl rfl (Nat.le_of_ble_eq_true rfl) (by decide) (by decide) (by decide) dL_law_635 (fun hM1 => ?_)
  refine l_ald2 C dL_law_638 ?_
  refine l_arg C (by omega) (by omega) dL_law_639 dL_law_640 dL_law_641 dL_law_642 dL_law_643 ?_
  refine l_callS C rfl hM1 k2 cv_X10_stand wM_L_81 rfl rfl sh_201 rfl rfl (Nat.le_of_ble_eq_true rfl) (by decide) (by decide) (by decide) dL_law_644 (fun hM2 => ?_)
  refine l_same C 1422 dL_law_647 (by decide) ?_
  exact kk M2 hM2 h2
theorem k_purse (C : LCx E p s m meth c b L xs) {M : xMem} (hM : InR M) (h : Rl M M) {i : Int} (h0 : 0 ≤ i) (h1 : i + 6 ≤ L) (kk : ∀ M2, InR M2 → Rl M2 M2 → VLaw E p e s m below meth c b 1422 [some (.ref b), some (xr E 0), some (xr E 201), some (xi i)] [] nC (xC E M2) 220 3048) : VLaw E p e s m below meth c b 652 [some (.ref b), some (xr E 0), some (xr E 201), some (xi i)] [] nC (xC E M) 220 3048 := by
  obtain ⟨v, M1, M2, k1, k2, h2⟩ := pr_purse E h (scr_r xs (i + 1)) (scr_r xs (i + 2))
  refine l_ald1 C dL_law_652 ?_
  refine l_arg C (by omega) (by omega) dL_law_653 dL_law_654 dL_law_655 dL_law_656 dL_law_657 ?_
  refine l_arg C (by omega) (by omega) dL_law_658 dL_law_659 dL_law_660 dL_law_661 dL_law_662 ?_
  refine l_callS C rfl hM k1 cv_X9_purse wM_L_82 rfl rfl sh_0 rfl rfl (Nat.le_of_ble_eq_true rfl) (by decide) (by decide) (by decide) dL_law_663 (fun hM1 => ?_)
  refine l_ald2 C dL_law_666 ?_
  refine l_arg C (by omega) (by omega) dL_law_667 dL_law_668 dL_law_669 dL_law_670 dL_law_671 ?_
  refine l_arg C (by omega) (by omega) dL_law_672 dL_law_673 dL_law_674 dL_law_675 dL_law_676 ?_
  refine l_callS C rfl hM1 k2 cv_X10_purse wM_L_85 rfl rfl sh_201 rfl rfl (Nat.le_of_ble_eq_true rfl) (by decide) (by decide) (by decide) dL_law_677 (fun hM2 => ?_)
  refine l_same C 1422 dL_law_680 (by decide) ?_
  exact kk M2 hM2 h2
theorem k_hill (C : LCx E p s m meth c b L xs) {M : xMem} (hM : InR M) (h : Rl M M) {i : Int} (h0 : 0 ≤ i) (h1 : i + 6 ≤ L) (kk : ∀ M2, InR M2 → Rl M2 M2 → VLaw E p e s m below meth c b 1422 [some (.ref b), some (xr E 0), some (xr E 201), some (xi i)] [] nC (xC E M2) 220 3048) : VLaw E p e s m below meth c b 685 [some (.ref b), some (xr E 0), some (xr E 201), some (xi i)] [] nC (xC E M) 220 3048 := by
  obtain ⟨v, M1, M2, k1, k2, h2⟩ := pr_hill E h (scr_r xs (i + 1))
  refine l_ald1 C dL_law_685 ?_
  refine l_arg C (by omega) (by omega) dL_law_686 dL_law_687 dL_law_688 dL_law_689 dL_law_690 ?_
  refine l_callS C rfl hM k1 cv_X9_hill wM_L_86 rfl rfl sh_0 rfl rfl (Nat.le_of_ble_eq_true rfl) (by decide) (by decide) (by decide) dL_law_691 (fun hM1 => ?_)
  refine l_ald2 C dL_law_694 ?_
  refine l_arg C (by omega) (by omega) dL_law_695 dL_law_696 dL_law_697 dL_law_698 dL_law_699 ?_
  refine l_callS C rfl hM1 k2 cv_X10_hill wM_L_89 rfl rfl sh_201 rfl rfl (Nat.le_of_ble_eq_true rfl) (by decide) (by decide) (by decide) dL_law_700 (fun hM2 => ?_)
  refine l_same C 1422 dL_law_703 (by decide) ?_
  exact kk M2 hM2 h2
theorem k_known (C : LCx E p s m meth c b L xs) {M : xMem} (hM : InR M) (h : Rl M M) {i : Int} (h0 : 0 ≤ i) (h1 : i + 6 ≤ L) (kk : ∀ M2, InR M2 → Rl M2 M2 → VLaw E p e s m below meth c b 1422 [some (.ref b), some (xr E 0), some (xr E 201), some (xi i)] [] nC (xC E M2) 220 3048) : VLaw E p e s m below meth c b 708 [some (.ref b), some (xr E 0), some (xr E 201), some (xi i)] [] nC (xC E M) 220 3048 := by
  obtain ⟨v, M1, M2, k1, k2, h2⟩ := pr_known E h (scr_r xs (i + 1)) (scr_r xs (i + 2))
  refine l_ald1 C dL_law_708 ?_
  refine l_arg C (by omega) (by omega) dL_law_709 dL_law_710 dL_law_711 dL_law_712 dL_law_713 ?_
  refine l_arg C (by omega) (by omega) dL_law_714 dL_law_715 dL_law_716 dL_law_717 dL_law_718 ?_
  refine l_callS C rfl hM k1 cv_X9_known wM_L_90 rfl rfl sh_0 rfl rfl (Nat.le_of_ble_eq_true rfl) (by decide) (by decide) (by decide) dL_law_719 (fun hM1 => ?_)
  refine l_ald2 C dL_law_722 ?_
  refine l_arg C (by omega) (by omega) dL_law_723 dL_law_724 dL_law_725 dL_law_726 dL_law_727 ?_
  refine l_arg C (by omega) (by omega) dL_law_728 dL_law_729 dL_law_730 dL_law_731 dL_law_732 ?_
  refine l_callS C rfl hM1 k2 cv_X10_known wM_L_93 rfl rfl sh_201 rfl rfl (Nat.le_of_ble_eq_true rfl) (by decide) (by decide) (by decide) dL_law_733 (fun hM2 => ?_)
  refine l_same C 1422 dL_law_736 (by decide) ?_
  exact kk M2 hM2 h2
theorem k_allKnow (C : LCx E p s m meth c b L xs) {M : xMem} (hM : InR M) (h : Rl M M) {i : Int} (h0 : 0 ≤ i) (h1 : i + 6 ≤ L) (kk : ∀ M2, InR M2 → Rl M2 M2 → VLaw E p e s m below meth c b 1422 [some (.ref b), some (xr E 0), some (xr E 201), some (xi i)] [] nC (xC E M2) 220 3048) : VLaw E p e s m below meth c b 741 [some (.ref b), some (xr E 0), some (xr E 201), some (xi i)] [] nC (xC E M) 220 3048 := by
  obtain ⟨v, M1, M2, k1, k2, h2⟩ := pr_allKnow E h (scr_r xs (i + 1))
  refine l_ald1 C dL_law_741 ?_
  refine l_arg C (by omega) (by omega) dL_law_742 dL_law_743 dL_law_744 dL_law_745 dL_law_746 ?_
  refine l_callS C rfl hM k1 cv_X9_allKnow wM_L_94 rfl rfl sh_0 rfl rfl (Nat.le_of_ble_eq_true rfl) (by decide) (by decide) (by decide) dL_law_747 (fun hM1 => ?_)
  refine l_ald2 C dL_law_750 ?_
  refine l_arg C (by omega) (by omega) dL_law_751 dL_law_752 dL_law_753 dL_law_754 dL_law_755 ?_
  refine l_callS C rfl hM1 k2 cv_X10_allKnow wM_L_97 rfl rfl sh_201 rfl rfl (Nat.le_of_ble_eq_true rfl) (by decide) (by decide) (by decide) dL_law_756 (fun hM2 => ?_)
  refine l_same C 1422 dL_law_759 (by decide) ?_
  exact kk M2 hM2 h2
theorem k_when (C : LCx E p s m meth c b L xs) {M : xMem} (hM : InR M) (h : Rl M M) {i : Int} (h0 : 0 ≤ i) (h1 : i + 6 ≤ L) (kk : ∀ M2, InR M2 → Rl M2 M2 → VLaw E p e s m below meth c b 1422 [some (.ref b), some (xr E 0), some (xr E 201), some (xi i)] [] nC (xC E M2) 220 3048) : VLaw E p e s m below meth c b 764 [some (.ref b), some (xr E 0), some (xr E 201), some (xi i)] [] nC (xC E M) 220 3048 := by
  obtain ⟨v, M1, M2, k1, k2, h2⟩ := pr_when E h (scr_r xs (i + 1))
  refine l_ald1 C dL_law_764 ?_
  refine l_arg C (by omega) (by omega) dL_law_765 dL_law_766 dL_law_767 dL_law_768 dL_law_769 ?_
  refine l_callS C rfl hM k1 cv_X9_when wM_L_98 rfl rfl sh_0 rfl rfl (Nat.le_of_ble_eq_true rfl) (by decide) (by decide) (by decide) dL_law_770 (fun hM1 => ?_)
  refine l_ald2 C dL_law_773 ?_
  refine l_arg C (by omega) (by omega) dL_law_774 dL_law_775 dL_law_776 dL_law_777 dL_law_778 ?_
  refine l_callS C rfl hM1 k2 cv_X10_when wM_L_101 rfl rfl sh_201 rfl rfl (Nat.le_of_ble_eq_true rfl) (by decide) (by decide) (by decide) dL_law_779 (fun hM2 => ?_)
  refine l_same C 1422 dL_law_782 (by decide) ?_
  exact kk M2 hM2 h2
theorem k_most (C : LCx E p s m meth c b L xs) {M : xMem} (hM : InR M) (h : Rl M M) {i : Int} (h0 : 0 ≤ i) (h1 : i + 6 ≤ L) (kk : ∀ M2, InR M2 → Rl M2 M2 → VLaw E p e s m below meth c b 1422 [some (.ref b), some (xr E 0), some (xr E 201), some (xi i)] [] nC (xC E M2) 220 3048) : VLaw E p e s m below meth c b 787 [some (.ref b), some (xr E 0), some (xr E 201), some (xi i)] [] nC (xC E M) 220 3048 := by
  obtain ⟨v, M1, M2, k1, k2, h2⟩ := pr_most E h (scr_r xs (i + 1))
  refine l_ald1 C dL_law_787 ?_
  refine l_arg C (by omega) (by omega) dL_law_788 dL_law_789 dL_law_790 dL_law_791 dL_law_792 ?_
  refine l_callS C rfl hM k1 cv_X9_most wM_L_102 rfl rfl sh_0 rfl rfl (Nat.le_of_ble_eq_true rfl) (by decide) (by decide) (by decide) dL_law_793 (fun hM1 => ?_)
  refine l_ald2 C dL_law_796 ?_
  refine l_arg C (by omega) (by omega) dL_law_797 dL_law_798 dL_law_799 dL_law_800 dL_law_801 ?_
  refine l_callS C rfl hM1 k2 cv_X10_most wM_L_105 rfl rfl sh_201 rfl rfl (Nat.le_of_ble_eq_true rfl) (by decide) (by decide) (by decide) dL_law_802 (fun hM2 => ?_)
  refine l_same C 1422 dL_law_805 (by decide) ?_
  exact kk M2 hM2 h2
theorem k_order (C : LCx E p s m meth c b L xs) {M : xMem} (hM : InR M) (h : Rl M M) {i : Int} (h0 : 0 ≤ i) (h1 : i + 6 ≤ L) (kk : ∀ M2, InR M2 → Rl M2 M2 → VLaw E p e s m below meth c b 1422 [some (.ref b), some (xr E 0), some (xr E 201), some (xi i)] [] nC (xC E M2) 220 3048) : VLaw E p e s m below meth c b 810 [some (.ref b), some (xr E 0), some (xr E 201), some (xi i)] [] nC (xC E M) 220 3048 := by
  obtain ⟨v, M1, M2, k1, k2, h2⟩ := pr_order E h (scr_r xs (i + 1))
  refine l_ald1 C dL_law_810 ?_
  refine l_arg C (by omega) (by omega) dL_law_811 dL_law_812 dL_law_813 dL_law_814 dL_law_815 ?_
  refine l_callS C rfl hM k1 cv_X9_order wM_L_106 rfl rfl sh_0 rfl rfl (Nat.le_of_ble_eq_true rfl) (by decide) (by decide) (by decide) dL_law_816 (fun hM1 => ?_)
  refine l_ald2 C dL_law_819 ?_
  refine l_arg C (by omega) (by omega) dL_law_820 dL_law_821 dL_law_822 dL_law_823 dL_law_824 ?_
  refine l_callS C rfl hM1 k2 cv_X10_order wM_L_109 rfl rfl sh_201 rfl rfl (Nat.le_of_ble_eq_true rfl) (by decide) (by decide) (by decide) dL_law_825 (fun hM2 => ?_)
  refine l_same C 1422 dL_law_828 (by decide) ?_
  exact kk M2 hM2 h2
theorem k_clear (C : LCx E p s m meth c b L xs) {M : xMem} (hM : InR M) (h : Rl M M) {i : Int} (h0 : 0 ≤ i) (h1 : i + 6 ≤ L) (kk : ∀ M2, InR M2 → Rl M2 M2 → VLaw E p e s m below meth c b 1422 [some (.ref b), some (xr E 0), some (xr E 201), some (xi i)] [] nC (xC E M2) 220 3048) : VLaw E p e s m below meth c b 833 [some (.ref b), some (xr E 0), some (xr E 201), some (xi i)] [] nC (xC E M) 220 3048 := by
  obtain ⟨v, M1, M2, k1, k2, h2⟩ := pr_clear E h 
  refine l_ald1 C dL_law_833 ?_
  refine l_callS C rfl hM k1 cv_X9_clear wM_L_110 rfl rfl sh_0 rfl rfl (Nat.le_of_ble_eq_true rfl) (by decide) (by decide) (by decide) dL_law_834 (fun hM1 => ?_)
  refine l_ald2 C dL_law_837 ?_
  refine l_callS C rfl hM1 k2 cv_X10_clear wM_L_113 rfl rfl sh_201 rfl rfl (Nat.le_of_ble_eq_true rfl) (by decide) (by decide) (by decide) dL_law_838 (fun hM2 => ?_)
  refine l_same C 1422 dL_law_841 (by decide) ?_
  exact kk M2 hM2 h2
theorem k_deaf (C : LCx E p s m meth c b L xs) {M : xMem} (hM : InR M) (h : Rl M M) {i : Int} (h0 : 0 ≤ i) (h1 : i + 6 ≤ L) (kk : ∀ M2, InR M2 → Rl M2 M2 → VLaw E p e s m below meth c b 1422 [some (.ref b), some (xr E 0), some (xr E 201), some (xi i)] [] nC (xC E M2) 220 3048) : VLaw E p e s m below meth c b 846 [some (.ref b), some (xr E 0), some (xr E 201), some (xi i)] [] nC (xC E M) 220 3048 := by
  obtain ⟨v, M1, M2, k1, k2, h2⟩ := pr_deaf E h (scr_r xs (i + 1)) (scr_r xs (i + 2)) (scr_r xs (i + 3)) (scr_r xs (i + 4))
  refine l_ald1 C dL_law_846 ?_
  refine l_arg C (by omega) (by omega) dL_law_847 dL_law_848 dL_law_849 dL_law_850 dL_law_851 ?_
  refine l_arg C (by omega) (by omega) dL_law_852 dL_law_853 dL_law_854 dL_law_855 dL_law_856 ?_
  refine l_arg C (by omega) (by omega) dL_law_857 dL_law_858 dL_law_859 dL_law_860 dL_law_861 ?_
  refine l_arg C (by omega) (by omega) dL_law_862 dL_law_863 dL_law_864 dL_law_865 dL_law_866 ?_
  refine l_callS C rfl hM k1 cv_X9_deaf wM_L_114 rfl rfl sh_0 rfl rfl (Nat.le_of_ble_eq_true rfl) (by decide) (by decide) (by decide) dL_law_867 (fun hM1 => ?_)
  refine l_ald2 C dL_law_870 ?_
  refine l_arg C (by omega) (by omega) dL_law_871 dL_law_872 dL_law_873 dL_law_874 dL_law_875 ?_
  refine l_arg C (by omega) (by omega) dL_law_876 dL_law_877 dL_law_878 dL_law_879 dL_law_880 ?_
  refine l_arg C (by omega) (by omega) dL_law_881 dL_law_882 dL_law_883 dL_law_884 dL_law_885 ?_
  refine l_arg C (by omega) (by omega) dL_law_886 dL_law_887 dL_law_888 dL_law_889 dL_law_890 ?_
  refine l_callS C rfl hM1 k2 cv_X10_deaf wM_L_118 rfl rfl sh_201 rfl rfl (Nat.le_of_ble_eq_true rfl) (by decide) (by decide) (by decide) dL_law_891 (fun hM2 => ?_)
  refine l_same C 1422 dL_law_894 (by decide) ?_
  exact kk M2 hM2 h2
theorem k_share (C : LCx E p s m meth c b L xs) {M : xMem} (hM : InR M) (h : Rl M M) {i : Int} (h0 : 0 ≤ i) (h1 : i + 6 ≤ L) (kk : ∀ M2, InR M2 → Rl M2 M2 → VLaw E p e s m below meth c b 1422 [some (.ref b), some (xr E 0), some (xr E 201), some (xi i)] [] nC (xC E M2) 220 3048) : VLaw E p e s m below meth c b 899 [some (.ref b), some (xr E 0), some (xr E 201), some (xi i)] [] nC (xC E M) 220 3048 := by
  obtain ⟨v, M1, M2, k1, k2, h2⟩ := pr_share E h (scr_r xs (i + 1)) (scr_r xs (i + 2))
  refine l_ald1 C dL_law_899 ?_
  refine l_arg C (by omega) (by omega) dL_law_900 dL_law_901 dL_law_902 dL_law_903 dL_law_904 ?_
  refine l_arg C (by omega) (by omega) dL_law_905 dL_law_906 dL_law_907 dL_law_908 dL_law_909 ?_
  refine l_callS C rfl hM k1 cv_X9_share wM_L_119 rfl rfl sh_0 rfl rfl (Nat.le_of_ble_eq_true rfl) (by decide) (by decide) (by decide) dL_law_910 (fun hM1 => ?_)
  refine l_ald2 C dL_law_913 ?_
  refine l_arg C (by omega) (by omega) dL_law_914 dL_law_915 dL_law_916 dL_law_917 dL_law_918 ?_
  refine l_arg C (by omega) (by omega) dL_law_919 dL_law_920 dL_law_921 dL_law_922 dL_law_923 ?_
  refine l_callS C rfl hM1 k2 cv_X10_share wM_L_122 rfl rfl sh_201 rfl rfl (Nat.le_of_ble_eq_true rfl) (by decide) (by decide) (by decide) dL_law_924 (fun hM2 => ?_)
  refine l_same C 1422 dL_law_927 (by decide) ?_
  exact kk M2 hM2 h2
theorem k_thrift (C : LCx E p s m meth c b L xs) {M : xMem} (hM : InR M) (h : Rl M M) {i : Int} (h0 : 0 ≤ i) (h1 : i + 6 ≤ L) (kk : ∀ M2, InR M2 → Rl M2 M2 → VLaw E p e s m below meth c b 1422 [some (.ref b), some (xr E 0), some (xr E 201), some (xi i)] [] nC (xC E M2) 220 3048) : VLaw E p e s m below meth c b 932 [some (.ref b), some (xr E 0), some (xr E 201), some (xi i)] [] nC (xC E M) 220 3048 := by
  obtain ⟨v, M1, M2, k1, k2, h2⟩ := pr_thrift E h (scr_r xs (i + 1)) (scr_r xs (i + 2)) (scr_r xs (i + 3)) (scr_r xs (i + 4)) (scr_r xs (i + 5))
  refine l_ald1 C dL_law_932 ?_
  refine l_arg C (by omega) (by omega) dL_law_933 dL_law_934 dL_law_935 dL_law_936 dL_law_937 ?_
  refine l_arg C (by omega) (by omega) dL_law_938 dL_law_939 dL_law_940 dL_law_941 dL_law_942 ?_
  refine l_arg C (by omega) (by omega) dL_law_943 dL_law_944 dL_law_945 dL_law_946 dL_law_947 ?_
  refine l_arg C (by omega) (by omega) dL_law_948 dL_law_949 dL_law_950 dL_law_951 dL_law_952 ?_
  refine l_arg C (by omega) (by omega) dL_law_953 dL_law_954 dL_law_955 dL_law_956 dL_law_957 ?_
  refine l_callS C rfl hM k1 cv_X9_thrift wM_L_123 rfl rfl sh_0 rfl rfl (Nat.le_of_ble_eq_true rfl) (by decide) (by decide) (by decide) dL_law_958 (fun hM1 => ?_)
  refine l_ald2 C dL_law_961 ?_
  refine l_arg C (by omega) (by omega) dL_law_962 dL_law_963 dL_law_964 dL_law_965 dL_law_966 ?_
  refine l_arg C (by omega) (by omega) dL_law_967 dL_law_968 dL_law_969 dL_law_970 dL_law_971 ?_
  refine l_arg C (by omega) (by omega) dL_law_972 dL_law_973 dL_law_974 dL_law_975 dL_law_976 ?_
  refine l_arg C (by omega) (by omega) dL_law_977 dL_law_978 dL_law_979 dL_law_980 dL_law_981 ?_
  refine l_arg C (by omega) (by omega) dL_law_982 dL_law_983 dL_law_984 dL_law_985 dL_law_986 ?_
  refine l_callS C rfl hM1 k2 cv_X10_thrift wM_L_126 rfl rfl sh_201 rfl rfl (Nat.le_of_ble_eq_true rfl) (by decide) (by decide) (by decide) dL_law_987 (fun hM2 => ?_)
  refine l_same C 1422 dL_law_990 (by decide) ?_
  exact kk M2 hM2 h2
theorem k_who (C : LCx E p s m meth c b L xs) {M : xMem} (hM : InR M) (h : Rl M M) {i : Int} (h0 : 0 ≤ i) (h1 : i + 6 ≤ L) (kk : ∀ M2, InR M2 → Rl M2 M2 → VLaw E p e s m below meth c b 1422 [some (.ref b), some (xr E 0), some (xr E 201), some (xi i)] [] nC (xC E M2) 220 3048) : VLaw E p e s m below meth c b 995 [some (.ref b), some (xr E 0), some (xr E 201), some (xi i)] [] nC (xC E M) 220 3048 := by
  obtain ⟨v, M1, M2, k1, k2, h2⟩ := pr_who E h (scr_r xs (i + 1)) (scr_r xs (i + 2)) (scr_r xs (i + 3)) (scr_r xs (i + 4)) (scr_r xs (i + 5))
  refine l_ald1 C dL_law_995 ?_
  refine l_arg C (by omega) (by omega) dL_law_996 dL_law_997 dL_law_998 dL_law_999 dL_law_1000 ?_
  refine l_arg C (by omega) (by omega) dL_law_1001 dL_law_1002 dL_law_1003 dL_law_1004 dL_law_1005 ?_
  refine l_arg C (by omega) (by omega) dL_law_1006 dL_law_1007 dL_law_1008 dL_law_1009 dL_law_1010 ?_
  refine l_arg C (by omega) (by omega) dL_law_1011 dL_law_1012 dL_law_1013 dL_law_1014 dL_law_1015 ?_
  refine l_arg C (by omega) (by omega) dL_law_1016 dL_law_1017 dL_law_1018 dL_law_1019 dL_law_1020 ?_
  refine l_callS C rfl hM k1 cv_X9_who wM_L_127 rfl rfl sh_0 rfl rfl (Nat.le_of_ble_eq_true rfl) (by decide) (by decide) (by decide) dL_law_1021 (fun hM1 => ?_)
  refine l_ald2 C dL_law_1024 ?_
  refine l_arg C (by omega) (by omega) dL_law_1025 dL_law_1026 dL_law_1027 dL_law_1028 dL_law_1029 ?_
  refine l_arg C (by omega) (by omega) dL_law_1030 dL_law_1031 dL_law_1032 dL_law_1033 dL_law_1034 ?_
  refine l_arg C (by omega) (by omega) dL_law_1035 dL_law_1036 dL_law_1037 dL_law_1038 dL_law_1039 ?_
  refine l_arg C (by omega) (by omega) dL_law_1040 dL_law_1041 dL_law_1042 dL_law_1043 dL_law_1044 ?_
  refine l_arg C (by omega) (by omega) dL_law_1045 dL_law_1046 dL_law_1047 dL_law_1048 dL_law_1049 ?_
  refine l_callS C rfl hM1 k2 cv_X10_who wM_L_130 rfl rfl sh_201 rfl rfl (Nat.le_of_ble_eq_true rfl) (by decide) (by decide) (by decide) dL_law_1050 (fun hM2 => ?_)
  refine l_same C 1422 dL_law_1053 (by decide) ?_
  exact kk M2 hM2 h2
theorem k_priced (C : LCx E p s m meth c b L xs) {M : xMem} (hM : InR M) (h : Rl M M) {i : Int} (h0 : 0 ≤ i) (h1 : i + 6 ≤ L) (kk : ∀ M2, InR M2 → Rl M2 M2 → VLaw E p e s m below meth c b 1422 [some (.ref b), some (xr E 0), some (xr E 201), some (xi i)] [] nC (xC E M2) 220 3048) : VLaw E p e s m below meth c b 1058 [some (.ref b), some (xr E 0), some (xr E 201), some (xi i)] [] nC (xC E M) 220 3048 := by
  obtain ⟨v, M1, M2, k1, k2, h2⟩ := pr_priced E h (scr_r xs (i + 1)) (scr_r xs (i + 2)) (scr_r xs (i + 3)) (scr_r xs (i + 4)) (scr_r xs (i + 5))
  refine l_ald1 C dL_law_1058 ?_
  refine l_arg C (by omega) (by omega) dL_law_1059 dL_law_1060 dL_law_1061 dL_law_1062 dL_law_1063 ?_
  refine l_arg C (by omega) (by omega) dL_law_1064 dL_law_1065 dL_law_1066 dL_law_1067 dL_law_1068 ?_
  refine l_arg C (by omega) (by omega) dL_law_1069 dL_law_1070 dL_law_1071 dL_law_1072 dL_law_1073 ?_
  refine l_arg C (by omega) (by omega) dL_law_1074 dL_law_1075 dL_law_1076 dL_law_1077 dL_law_1078 ?_
  refine l_arg C (by omega) (by omega) dL_law_1079 dL_law_1080 dL_law_1081 dL_law_1082 dL_law_1083 ?_
  refine l_callS C rfl hM k1 cv_X9_priced wM_L_131 rfl rfl sh_0 rfl rfl (Nat.le_of_ble_eq_true rfl) (by decide) (by decide) (by decide) dL_law_1084 (fun hM1 => ?_)
  refine l_ald2 C dL_law_1087 ?_
  refine l_arg C (by omega) (by omega) dL_law_1088 dL_law_1089 dL_law_1090 dL_law_1091 dL_law_1092 ?_
  refine l_arg C (by omega) (by omega) dL_law_1093 dL_law_1094 dL_law_1095 dL_law_1096 dL_law_1097 ?_
  refine l_arg C (by omega) (by omega) dL_law_1098 dL_law_1099 dL_law_1100 dL_law_1101 dL_law_1102 ?_
  refine l_arg C (by omega) (by omega) dL_law_1103 dL_law_1104 dL_law_1105 dL_law_1106 dL_law_1107 ?_
  refine l_arg C (by omega) (by omega) dL_law_1108 dL_law_1109 dL_law_1110 dL_law_1111 dL_law_1112 ?_
  refine l_callS C rfl hM1 k2 cv_X10_priced wM_L_134 rfl rfl sh_201 rfl rfl (Nat.le_of_ble_eq_true rfl) (by decide) (by decide) (by decide) dL_law_1113 (fun hM2 => ?_)
  refine l_same C 1422 dL_law_1116 (by decide) ?_
  exact kk M2 hM2 h2
theorem k_heard (C : LCx E p s m meth c b L xs) {M : xMem} (hM : InR M) (h : Rl M M) {i : Int} (h0 : 0 ≤ i) (h1 : i + 6 ≤ L) (kk : ∀ M2, InR M2 → Rl M2 M2 → VLaw E p e s m below meth c b 1422 [some (.ref b), some (xr E 0), some (xr E 201), some (xi i)] [] nC (xC E M2) 220 3048) : VLaw E p e s m below meth c b 1121 [some (.ref b), some (xr E 0), some (xr E 201), some (xi i)] [] nC (xC E M) 220 3048 := by
  obtain ⟨v, M1, M2, k1, k2, h2⟩ := pr_heard E h (scr_r xs (i + 1)) (scr_r xs (i + 2)) (scr_r xs (i + 3)) (scr_r xs (i + 4)) (scr_r xs (i + 5))
  refine l_ald1 C dL_law_1121 ?_
  refine l_arg C (by omega) (by omega) dL_law_1122 dL_law_1123 dL_law_1124 dL_law_1125 dL_law_1126 ?_
  refine l_arg C (by omega) (by omega) dL_law_1127 dL_law_1128 dL_law_1129 dL_law_1130 dL_law_1131 ?_
  refine l_arg C (by omega) (by omega) dL_law_1132 dL_law_1133 dL_law_1134 dL_law_1135 dL_law_1136 ?_
  refine l_arg C (by omega) (by omega) dL_law_1137 dL_law_1138 dL_law_1139 dL_law_1140 dL_law_1141 ?_
  refine l_arg C (by omega) (by omega) dL_law_1142 dL_law_1143 dL_law_1144 dL_law_1145 dL_law_1146 ?_
  refine l_callS C rfl hM k1 cv_X9_heard wM_L_135 rfl rfl sh_0 rfl rfl (Nat.le_of_ble_eq_true rfl) (by decide) (by decide) (by decide) dL_law_1147 (fun hM1 => ?_)
  refine l_ald2 C dL_law_1150 ?_
  refine l_arg C (by omega) (by omega) dL_law_1151 dL_law_1152 dL_law_1153 dL_law_1154 dL_law_1155 ?_
  refine l_arg C (by omega) (by omega) dL_law_1156 dL_law_1157 dL_law_1158 dL_law_1159 dL_law_1160 ?_
  refine l_arg C (by omega) (by omega) dL_law_1161 dL_law_1162 dL_law_1163 dL_law_1164 dL_law_1165 ?_
  refine l_arg C (by omega) (by omega) dL_law_1166 dL_law_1167 dL_law_1168 dL_law_1169 dL_law_1170 ?_
  refine l_arg C (by omega) (by omega) dL_law_1171 dL_law_1172 dL_law_1173 dL_law_1174 dL_law_1175 ?_
  refine l_callS C rfl hM1 k2 cv_X10_heard wM_L_139 rfl rfl sh_201 rfl rfl (Nat.le_of_ble_eq_true rfl) (by decide) (by decide) (by decide) dL_law_1176 (fun hM2 => ?_)
  refine l_sameL C 1422 dL_law_1179 dL_law_1180 (by decide) ?_
  exact kk M2 hM2 h2
theorem k_drawn (C : LCx E p s m meth c b L xs) {M : xMem} (hM : InR M) (h : Rl M M) {i : Int} (h0 : 0 ≤ i) (h1 : i + 6 ≤ L) (kk : ∀ M2, InR M2 → Rl M2 M2 → VLaw E p e s m below meth c b 1422 [some (.ref b), some (xr E 0), some (xr E 201), some (xi i)] [] nC (xC E M2) 220 3048) : VLaw E p e s m below meth c b 1185 [some (.ref b), some (xr E 0), some (xr E 201), some (xi i)] [] nC (xC E M) 220 3048 := by
  obtain ⟨v, M1, M2, k1, k2, h2⟩ := pr_drawn E h (scr_r xs (i + 1)) (scr_r xs (i + 2)) (scr_r xs (i + 3))
  refine l_ald1 C dL_law_1185 ?_
  refine l_arg C (by omega) (by omega) dL_law_1186 dL_law_1187 dL_law_1188 dL_law_1189 dL_law_1190 ?_
  refine l_arg C (by omega) (by omega) dL_law_1191 dL_law_1192 dL_law_1193 dL_law_1194 dL_law_1195 ?_
  refine l_arg C (by omega) (by omega) dL_law_1196 dL_law_1197 dL_law_1198 dL_law_1199 dL_law_1200 ?_
  refine l_callS C rfl hM k1 cv_X9_drawn wM_L_140 rfl rfl sh_0 rfl rfl (Nat.le_of_ble_eq_true rfl) (by decide) (by decide) (by decide) dL_law_1201 (fun hM1 => ?_)
  refine l_ald2 C dL_law_1204 ?_
  refine l_arg C (by omega) (by omega) dL_law_1205 dL_law_1206 dL_law_1207 dL_law_1208 dL_law_1209 ?_
  refine l_arg C (by omega) (by omega) dL_law_1210 dL_law_1211 dL_law_1212 dL_law_1213 dL_law_1214 ?_
  refine l_arg C (by omega) (by omega) dL_law_1215 dL_law_1216 dL_law_1217 dL_law_1218 dL_law_1219 ?_
  refine l_callS C rfl hM1 k2 cv_X10_drawn wM_L_143 rfl rfl sh_201 rfl rfl (Nat.le_of_ble_eq_true rfl) (by decide) (by decide) (by decide) dL_law_1220 (fun hM2 => ?_)
  refine l_same C 1422 dL_law_1223 (by decide) ?_
  exact kk M2 hM2 h2
theorem k_image (C : LCx E p s m meth c b L xs) {M : xMem} (hM : InR M) (h : Rl M M) {i : Int} (h0 : 0 ≤ i) (h1 : i + 6 ≤ L) (kk : ∀ M2, InR M2 → Rl M2 M2 → VLaw E p e s m below meth c b 1422 [some (.ref b), some (xr E 0), some (xr E 201), some (xi i)] [] nC (xC E M2) 220 3048) : VLaw E p e s m below meth c b 1228 [some (.ref b), some (xr E 0), some (xr E 201), some (xi i)] [] nC (xC E M) 220 3048 := by
  obtain ⟨v, M1, M2, k1, k2, h2⟩ := pr_image E h (scr_r xs (i + 1))
  refine l_ald1 C dL_law_1228 ?_
  refine l_arg C (by omega) (by omega) dL_law_1229 dL_law_1230 dL_law_1231 dL_law_1232 dL_law_1233 ?_
  refine l_callS C rfl hM k1 cv_X9_image wM_L_144 rfl rfl sh_0 rfl rfl (Nat.le_of_ble_eq_true rfl) (by decide) (by decide) (by decide) dL_law_1234 (fun hM1 => ?_)
  refine l_ald2 C dL_law_1237 ?_
  refine l_arg C (by omega) (by omega) dL_law_1238 dL_law_1239 dL_law_1240 dL_law_1241 dL_law_1242 ?_
  refine l_callS C rfl hM1 k2 cv_X10_image wM_L_147 rfl rfl sh_201 rfl rfl (Nat.le_of_ble_eq_true rfl) (by decide) (by decide) (by decide) dL_law_1243 (fun hM2 => ?_)
  refine l_same C 1422 dL_law_1246 (by decide) ?_
  exact kk M2 hM2 h2
theorem k_restore (C : LCx E p s m meth c b L xs) {M : xMem} (hM : InR M) (h : Rl M M) {i : Int} (h0 : 0 ≤ i) (h1 : i + 6 ≤ L) (kk : ∀ M2, InR M2 → Rl M2 M2 → VLaw E p e s m below meth c b 1422 [some (.ref b), some (xr E 0), some (xr E 201), some (xi i)] [] nC (xC E M2) 220 3048) : VLaw E p e s m below meth c b 1251 [some (.ref b), some (xr E 0), some (xr E 201), some (xi i)] [] nC (xC E M) 220 3048 := by
  obtain ⟨v, M1, M2, k1, k2, h2⟩ := pr_restore E h (scr_r xs (i + 1))
  refine l_ald1 C dL_law_1251 ?_
  refine l_arg C (by omega) (by omega) dL_law_1252 dL_law_1253 dL_law_1254 dL_law_1255 dL_law_1256 ?_
  refine l_callS C rfl hM k1 cv_X9_restore wM_L_148 rfl rfl sh_0 rfl rfl (Nat.le_of_ble_eq_true rfl) (by decide) (by decide) (by decide) dL_law_1257 (fun hM1 => ?_)
  refine l_ald2 C dL_law_1260 ?_
  refine l_arg C (by omega) (by omega) dL_law_1261 dL_law_1262 dL_law_1263 dL_law_1264 dL_law_1265 ?_
  refine l_callS C rfl hM1 k2 cv_X10_restore wM_L_151 rfl rfl sh_201 rfl rfl (Nat.le_of_ble_eq_true rfl) (by decide) (by decide) (by decide) dL_law_1266 (fun hM2 => ?_)
  refine l_same C 1422 dL_law_1269 (by decide) ?_
  exact kk M2 hM2 h2
theorem k_kind (C : LCx E p s m meth c b L xs) {M : xMem} (hM : InR M) (h : Rl M M) {i : Int} (h0 : 0 ≤ i) (h1 : i + 6 ≤ L) (kk : ∀ M2, InR M2 → Rl M2 M2 → VLaw E p e s m below meth c b 1422 [some (.ref b), some (xr E 0), some (xr E 201), some (xi i)] [] nC (xC E M2) 220 3048) : VLaw E p e s m below meth c b 1274 [some (.ref b), some (xr E 0), some (xr E 201), some (xi i)] [] nC (xC E M) 220 3048 := by
  obtain ⟨v, M1, M2, k1, k2, h2⟩ := pr_kind E h (scr_r xs (i + 1))
  refine l_ald1 C dL_law_1274 ?_
  refine l_arg C (by omega) (by omega) dL_law_1275 dL_law_1276 dL_law_1277 dL_law_1278 dL_law_1279 ?_
  refine l_callS C rfl hM k1 cv_X9_kind wM_L_152 rfl rfl sh_0 rfl rfl (Nat.le_of_ble_eq_true rfl) (by decide) (by decide) (by decide) dL_law_1280 (fun hM1 => ?_)
  refine l_ald2 C dL_law_1283 ?_
  refine l_arg C (by omega) (by omega) dL_law_1284 dL_law_1285 dL_law_1286 dL_law_1287 dL_law_1288 ?_
  refine l_callS C rfl hM1 k2 cv_X10_kind wM_L_155 rfl rfl sh_201 rfl rfl (Nat.le_of_ble_eq_true rfl) (by decide) (by decide) (by decide) dL_law_1289 (fun hM2 => ?_)
  refine l_same C 1422 dL_law_1292 (by decide) ?_
  exact kk M2 hM2 h2
theorem k_as (C : LCx E p s m meth c b L xs) {M : xMem} (hM : InR M) (h : Rl M M) {i : Int} (h0 : 0 ≤ i) (h1 : i + 6 ≤ L) (kk : ∀ M2, InR M2 → Rl M2 M2 → VLaw E p e s m below meth c b 1422 [some (.ref b), some (xr E 0), some (xr E 201), some (xi i)] [] nC (xC E M2) 220 3048) : VLaw E p e s m below meth c b 1297 [some (.ref b), some (xr E 0), some (xr E 201), some (xi i)] [] nC (xC E M) 220 3048 := by
  obtain ⟨v, M1, M2, k1, k2, h2⟩ := pr_as E h (scr_r xs (i + 1)) (scr_r xs (i + 2))
  refine l_ald1 C dL_law_1297 ?_
  refine l_arg C (by omega) (by omega) dL_law_1298 dL_law_1299 dL_law_1300 dL_law_1301 dL_law_1302 ?_
  refine l_arg C (by omega) (by omega) dL_law_1303 dL_law_1304 dL_law_1305 dL_law_1306 dL_law_1307 ?_
  refine l_callS C rfl hM k1 cv_X9_as wM_L_156 rfl rfl sh_0 rfl rfl (Nat.le_of_ble_eq_true rfl) (by decide) (by decide) (by decide) dL_law_1308 (fun hM1 => ?_)
  refine l_ald2 C dL_law_1311 ?_
  refine l_arg C (by omega) (by omega) dL_law_1312 dL_law_1313 dL_law_1314 dL_law_1315 dL_law_1316 ?_
  refine l_arg C (by omega) (by omega) dL_law_1317 dL_law_1318 dL_law_1319 dL_law_1320 dL_law_1321 ?_
  refine l_callS C rfl hM1 k2 cv_X10_as wM_L_159 rfl rfl sh_201 rfl rfl (Nat.le_of_ble_eq_true rfl) (by decide) (by decide) (by decide) dL_law_1322 (fun hM2 => ?_)
  refine l_same C 1422 dL_law_1325 (by decide) ?_
  exact kk M2 hM2 h2
theorem k_ask (C : LCx E p s m meth c b L xs) {M : xMem} (hM : InR M) (h : Rl M M) {i : Int} (h0 : 0 ≤ i) (h1 : i + 6 ≤ L) (kk : ∀ M2, InR M2 → Rl M2 M2 → VLaw E p e s m below meth c b 1422 [some (.ref b), some (xr E 0), some (xr E 201), some (xi i)] [] nC (xC E M2) 220 3048) : VLaw E p e s m below meth c b 1330 [some (.ref b), some (xr E 0), some (xr E 201), some (xi i)] [] nC (xC E M) 220 3048 := by
  obtain ⟨v, M1, M2, k1, k2, h2⟩ := pr_ask E h (scr_r xs (i + 1)) (scr_r xs (i + 2))
  refine l_ald1 C dL_law_1330 ?_
  refine l_arg C (by omega) (by omega) dL_law_1331 dL_law_1332 dL_law_1333 dL_law_1334 dL_law_1335 ?_
  refine l_arg C (by omega) (by omega) dL_law_1336 dL_law_1337 dL_law_1338 dL_law_1339 dL_law_1340 ?_
  refine l_callS C rfl hM k1 cv_X9_ask wM_L_160 rfl rfl sh_0 rfl rfl (Nat.le_of_ble_eq_true rfl) (by decide) (by decide) (by decide) dL_law_1341 (fun hM1 => ?_)
  refine l_ald2 C dL_law_1344 ?_
  refine l_arg C (by omega) (by omega) dL_law_1345 dL_law_1346 dL_law_1347 dL_law_1348 dL_law_1349 ?_
  refine l_arg C (by omega) (by omega) dL_law_1350 dL_law_1351 dL_law_1352 dL_law_1353 dL_law_1354 ?_
  refine l_callS C rfl hM1 k2 cv_X10_ask wM_L_163 rfl rfl sh_201 rfl rfl (Nat.le_of_ble_eq_true rfl) (by decide) (by decide) (by decide) dL_law_1355 (fun hM2 => ?_)
  refine l_same C 1422 dL_law_1358 (by decide) ?_
  exact kk M2 hM2 h2
theorem k_trace (C : LCx E p s m meth c b L xs) {M : xMem} (hM : InR M) (h : Rl M M) {i : Int} (h0 : 0 ≤ i) (h1 : i + 6 ≤ L) (kk : ∀ M2, InR M2 → Rl M2 M2 → VLaw E p e s m below meth c b 1422 [some (.ref b), some (xr E 0), some (xr E 201), some (xi i)] [] nC (xC E M2) 220 3048) : VLaw E p e s m below meth c b 1363 [some (.ref b), some (xr E 0), some (xr E 201), some (xi i)] [] nC (xC E M) 220 3048 := by
  obtain ⟨v, M1, M2, k1, k2, h2⟩ := pr_trace E h (scr_r xs (i + 1))
  refine l_ald1 C dL_law_1363 ?_
  refine l_arg C (by omega) (by omega) dL_law_1364 dL_law_1365 dL_law_1366 dL_law_1367 dL_law_1368 ?_
  refine l_callS C rfl hM k1 cv_X9_trace wM_L_164 rfl rfl sh_0 rfl rfl (Nat.le_of_ble_eq_true rfl) (by decide) (by decide) (by decide) dL_law_1369 (fun hM1 => ?_)
  refine l_ald2 C dL_law_1372 ?_
  refine l_arg C (by omega) (by omega) dL_law_1373 dL_law_1374 dL_law_1375 dL_law_1376 dL_law_1377 ?_
  refine l_callS C rfl hM1 k2 cv_X10_trace wM_L_167 rfl rfl sh_201 rfl rfl (Nat.le_of_ble_eq_true rfl) (by decide) (by decide) (by decide) dL_law_1378 (fun hM2 => ?_)
  refine l_same C 1422 dL_law_1381 (by decide) ?_
  exact kk M2 hM2 h2
theorem k_count (C : LCx E p s m meth c b L xs) {M : xMem} (hM : InR M) (h : Rl M M) {i : Int} (h0 : 0 ≤ i) (h1 : i + 6 ≤ L) (kk : ∀ M2, InR M2 → Rl M2 M2 → VLaw E p e s m below meth c b 1422 [some (.ref b), some (xr E 0), some (xr E 201), some (xi i)] [] nC (xC E M2) 220 3048) : VLaw E p e s m below meth c b 1386 [some (.ref b), some (xr E 0), some (xr E 201), some (xi i)] [] nC (xC E M) 220 3048 := by
  obtain ⟨v, M1, M2, k1, k2, h2⟩ := pr_count E h (scr_r xs (i + 1))
  refine l_ald1 C dL_law_1386 ?_
  refine l_arg C (by omega) (by omega) dL_law_1387 dL_law_1388 dL_law_1389 dL_law_1390 dL_law_1391 ?_
  refine l_callS C rfl hM k1 cv_X9_count wM_L_168 rfl rfl sh_0 rfl rfl (Nat.le_of_ble_eq_true rfl) (by decide) (by decide) (by decide) dL_law_1392 (fun hM1 => ?_)
  refine l_ald2 C dL_law_1395 ?_
  refine l_arg C (by omega) (by omega) dL_law_1396 dL_law_1397 dL_law_1398 dL_law_1399 dL_law_1400 ?_
  refine l_callS C rfl hM1 k2 cv_X10_count wM_L_171 rfl rfl sh_201 rfl rfl (Nat.le_of_ble_eq_true rfl) (by decide) (by decide) (by decide) dL_law_1401 (fun hM2 => ?_)
  refine l_same C 1422 dL_law_1404 (by decide) ?_
  exact kk M2 hM2 h2
theorem k_status (C : LCx E p s m meth c b L xs) {M : xMem} (hM : InR M) (h : Rl M M) {i : Int} (h0 : 0 ≤ i) (h1 : i + 6 ≤ L) (kk : ∀ M2, InR M2 → Rl M2 M2 → VLaw E p e s m below meth c b 1422 [some (.ref b), some (xr E 0), some (xr E 201), some (xi i)] [] nC (xC E M2) 220 3048) : VLaw E p e s m below meth c b 1409 [some (.ref b), some (xr E 0), some (xr E 201), some (xi i)] [] nC (xC E M) 220 3048 := by
  obtain ⟨v, M1, M2, k1, k2, h2⟩ := pr_status E h 
  refine l_ald1 C dL_law_1409 ?_
  refine l_callS C rfl hM k1 cv_X9_status wM_L_172 rfl rfl sh_0 rfl rfl (Nat.le_of_ble_eq_true rfl) (by decide) (by decide) (by decide) dL_law_1410 (fun hM1 => ?_)
  refine l_ald2 C dL_law_1413 ?_
  refine l_callS C rfl hM1 k2 cv_X10_status wM_L_175 rfl rfl sh_201 rfl rfl (Nat.le_of_ble_eq_true rfl) (by decide) (by decide) (by decide) dL_law_1414 (fun hM2 => ?_)
  refine l_same C 1422 dL_law_1417 (by decide) ?_
  exact kk M2 hM2 h2
theorem k_all (C : LCx E p s m meth c b L xs) {M : xMem} (hM : InR M) (h : Rl M M) {i : Int} (h0 : 0 ≤ i) (h1 : i + 6 ≤ L) (kk : ∀ M2, InR M2 → Rl M2 M2 → VLaw E p e s m below meth c b 1422 [some (.ref b), some (xr E 0), some (xr E 201), some (xi i)] [] nC (xC E M2) 220 3048) (a : Int) (ha : 0 ≤ a ∧ a < 64) : VLaw E p e s m below meth c b 33 [some (.ref b), some (xr E 0), some (xr E 201), some (xi i)] [xi a] nC (xC E M) 220 3048 := by
  rcases (show a = 0 ∨ a = 1 ∨ a = 2 ∨ a = 3 ∨ a = 4 ∨ a = 5 ∨ a = 6 ∨ a = 7 ∨ a = 8 ∨ a = 9 ∨ a = 10 ∨ a = 11 ∨ a = 12 ∨ a = 13 ∨ a = 14 ∨ a = 15 ∨ a = 16 ∨ a = 17 ∨ a = 18 ∨ a = 19 ∨ a = 20 ∨ a = 21 ∨ a = 22 ∨ a = 23 ∨ a = 24 ∨ a = 25 ∨ a = 26 ∨ a = 27 ∨ a = 28 ∨ a = 29 ∨ a = 30 ∨ a = 31 ∨ a = 32 ∨ a = 33 ∨ a = 34 ∨ a = 35 ∨ a = 36 ∨ a = 37 ∨ a = 38 ∨ 38 < a by omega) with rfl | rfl | rfl | rfl | rfl | rfl | rfl | rfl | rfl | rfl | rfl | rfl | rfl | rfl | rfl | rfl | rfl | rfl | rfl | rfl | rfl | rfl | rfl | rfl | rfl | rfl | rfl | rfl | rfl | rfl | rfl | rfl | rfl | rfl | rfl | rfl | rfl | rfl | rfl | hz
  · exact l_tabIn (off := 171) C 204 dL_law_33 (by decide) (by decide) (by decide +kernel) (by decide) (k_row C hM h h0 h1 kk)
  · exact l_tabIn (off := 214) C 247 dL_law_33 (by decide) (by decide) (by decide +kernel) (by decide) (k_set C hM h h0 h1 kk)
  · exact l_tabIn (off := 257) C 290 dL_law_33 (by decide) (by decide) (by decide +kernel) (by decide) (k_copy C hM h h0 h1 kk)
  · exact l_tabIn (off := 320) C 353 dL_law_33 (by decide) (by decide) (by decide +kernel) (by decide) (k_drop C hM h h0 h1 kk)
  · exact l_tabIn (off := 343) C 376 dL_law_33 (by decide) (by decide) (by decide +kernel) (by decide) (k_feed C hM h h0 h1 kk)
  · exact l_tabIn (off := 366) C 399 dL_law_33 (by decide) (by decide) (by decide +kernel) (by decide) (k_duchy C hM h h0 h1 kk)
  · exact l_tabIn (off := 379) C 412 dL_law_33 (by decide) (by decide) (by decide +kernel) (by decide) (k_fault C hM h h0 h1 kk)
  · exact l_tabIn (off := 392) C 425 dL_law_33 (by decide) (by decide) (by decide +kernel) (by decide) (k_undo C hM h h0 h1 kk)
  · exact l_tabIn (off := 405) C 438 dL_law_33 (by decide) (by decide) (by decide +kernel) (by decide) (k_weeks C hM h h0 h1 kk)
  · exact l_tabIn (off := 428) C 461 dL_law_33 (by decide) (by decide) (by decide +kernel) (by decide) (k_say C hM h h0 h1 kk)
  · exact l_tabIn (off := 451) C 484 dL_law_33 (by decide) (by decide) (by decide +kernel) (by decide) (k_buy C hM h h0 h1 kk)
  · exact l_tabIn (off := 484) C 517 dL_law_33 (by decide) (by decide) (by decide +kernel) (by decide) (k_letOut C hM h h0 h1 kk)
  · exact l_tabIn (off := 507) C 540 dL_law_33 (by decide) (by decide) (by decide +kernel) (by decide) (k_price C hM h h0 h1 kk)
  · exact l_tabIn (off := 530) C 563 dL_law_33 (by decide) (by decide) (by decide +kernel) (by decide) (k_speech C hM h h0 h1 kk)
  · exact l_tabIn (off := 563) C 596 dL_law_33 (by decide) (by decide) (by decide +kernel) (by decide) (k_person C hM h h0 h1 kk)
  · exact l_tabIn (off := 596) C 629 dL_law_33 (by decide) (by decide) (by decide +kernel) (by decide) (k_stand C hM h h0 h1 kk)
  · exact l_tabIn (off := 619) C 652 dL_law_33 (by decide) (by decide) (by decide +kernel) (by decide) (k_purse C hM h h0 h1 kk)
  · exact l_tabIn (off := 652) C 685 dL_law_33 (by decide) (by decide) (by decide +kernel) (by decide) (k_hill C hM h h0 h1 kk)
  · exact l_tabIn (off := 675) C 708 dL_law_33 (by decide) (by decide) (by decide +kernel) (by decide) (k_known C hM h h0 h1 kk)
  · exact l_tabIn (off := 708) C 741 dL_law_33 (by decide) (by decide) (by decide +kernel) (by decide) (k_allKnow C hM h h0 h1 kk)
  · exact l_tabIn (off := 731) C 764 dL_law_33 (by decide) (by decide) (by decide +kernel) (by decide) (k_when C hM h h0 h1 kk)
  · exact l_tabIn (off := 754) C 787 dL_law_33 (by decide) (by decide) (by decide +kernel) (by decide) (k_most C hM h h0 h1 kk)
  · exact l_tabIn (off := 777) C 810 dL_law_33 (by decide) (by decide) (by decide +kernel) (by decide) (k_order C hM h h0 h1 kk)
  · exact l_tabIn (off := 800) C 833 dL_law_33 (by decide) (by decide) (by decide +kernel) (by decide) (k_clear C hM h h0 h1 kk)
  · exact l_tabIn (off := 813) C 846 dL_law_33 (by decide) (by decide) (by decide +kernel) (by decide) (k_deaf C hM h h0 h1 kk)
  · exact l_tabIn (off := 866) C 899 dL_law_33 (by decide) (by decide) (by decide +kernel) (by decide) (k_share C hM h h0 h1 kk)
  · exact l_tabIn (off := 899) C 932 dL_law_33 (by decide) (by decide) (by decide +kernel) (by decide) (k_thrift C hM h h0 h1 kk)
  · exact l_tabIn (off := 962) C 995 dL_law_33 (by decide) (by decide) (by decide +kernel) (by decide) (k_who C hM h h0 h1 kk)
  · exact l_tabIn (off := 1025) C 1058 dL_law_33 (by decide) (by decide) (by decide +kernel) (by decide) (k_priced C hM h h0 h1 kk)
  · exact l_tabIn (off := 1088) C 1121 dL_law_33 (by decide) (by decide) (by decide +kernel) (by decide) (k_heard C hM h h0 h1 kk)
  · exact l_tabIn (off := 1152) C 1185 dL_law_33 (by decide) (by decide) (by decide +kernel) (by decide) (k_drawn C hM h h0 h1 kk)
  · exact l_tabIn (off := 1195) C 1228 dL_law_33 (by decide) (by decide) (by decide +kernel) (by decide) (k_image C hM h h0 h1 kk)
  · exact l_tabIn (off := 1218) C 1251 dL_law_33 (by decide) (by decide) (by decide +kernel) (by decide) (k_restore C hM h h0 h1 kk)
  · exact l_tabIn (off := 1241) C 1274 dL_law_33 (by decide) (by decide) (by decide +kernel) (by decide) (k_kind C hM h h0 h1 kk)
  · exact l_tabIn (off := 1264) C 1297 dL_law_33 (by decide) (by decide) (by decide +kernel) (by decide) (k_as C hM h h0 h1 kk)
  · exact l_tabIn (off := 1297) C 1330 dL_law_33 (by decide) (by decide) (by decide +kernel) (by decide) (k_ask C hM h h0 h1 kk)
  · exact l_tabIn (off := 1330) C 1363 dL_law_33 (by decide) (by decide) (by decide +kernel) (by decide) (k_trace C hM h h0 h1 kk)
  · exact l_tabIn (off := 1353) C 1386 dL_law_33 (by decide) (by decide) (by decide +kernel) (by decide) (k_count C hM h h0 h1 kk)
  · exact l_tabIn (off := 1376) C 1409 dL_law_33 (by decide) (by decide) (by decide +kernel) (by decide) (k_status C hM h h0 h1 kk)
  · exact l_tabOut C 1422 dL_law_33 (by omega) (Or.inr hz) (by decide) (kk M hM h)
theorem k_loop (C : LCx E p s m meth c b L xs) : ∀ (fu : Nat) (i : Nat) (M : xMem), InR M → Rl M M → L < i + fu → i ≤ 4000 → VLaw E p e s m below meth c b 18 [some (.ref b), some (xr E 0), some (xr E 201), some (xi (i : Int))] [] nC (xC E M) 220 3048 := by
  intro fu
  have hLL := C.2.2.2.2
  induction fu with
  | zero =>
    intro i M hM h hf hi
    refine l_ild3 C dL_law_18 ?_
    refine l_ald0 C dL_law_19 ?_
    refine l_slen C dL_law_20 ?_
    refine l_bipush C dL_law_21 (by decide +kernel) ?_
    refine l_isub C dL_law_23 ?_
    refine l_icmp_gt C 1428 dL_law_24 (by decide) (by omega) (by omega) (fun cc => ?_) (fun cc => absurd cc (by omega))
    refine l_iconst C dL_law_1428 ?_
    exact l_ret1 C (by decide) (by decide) dL_law_1429
  | succ fu ih =>
    intro i M hM h hf hi
    refine l_ild3 C dL_law_18 ?_
    refine l_ald0 C dL_law_19 ?_
    refine l_slen C dL_law_20 ?_
    refine l_bipush C dL_law_21 (by decide +kernel) ?_
    refine l_isub C dL_law_23 ?_
    refine l_icmp_gt C 1428 dL_law_24 (by decide) (by omega) (by omega) (fun cc => ?_) (fun cc => ?_)
    · refine l_iconst C dL_law_1428 ?_
      exact l_ret1 C (by decide) (by decide) dL_law_1429
    refine l_ald0 C dL_law_27 ?_
    refine l_ild3 C dL_law_28 ?_
    refine l_scr C (by omega) (by omega) dL_law_29 ?_
    refine l_bipush C dL_law_30 (by decide +kernel) ?_
    refine l_iand63 C dL_law_32 ?_
    refine k_all C hM h (by omega) (by omega) (fun M2 hM2 h2 => ?_) _ (by omega)
    refine l_iinc3 C dL_law_1422 rfl ?_
    refine l_goto C 18 dL_law_1425 (by decide) ?_
    rw [show ((i : Int) + 6) = ((i + 6 : Nat) : Int) by omega]
    exact ih (i + 6) M2 hM2 h2 (by omega) (by omega)
theorem k_start (C : LCx E p s m meth c b L xs) : VLaw E p e s m below meth c b 0 [some (.ref b), none, none, none] [] 0 hp 0 0 := by
  refine l_new C [.null, .null, .null, .null, .null, .null, .null, .null, .null, .null, xi 0] xc_X9 wK_L_7 wN_X9 wI_X9 df_X9 (by decide) (by decide) dL_law_0 ?_
  refine l_dup C dL_law_3 rfl ?_
  refine l_callI0 C rfl rfl (i_X9 E va_eq) ci_X9_init wM_L_9 rfl rfl (Nat.le_of_ble_eq_true rfl) (by decide) (by decide) (by decide) dL_law_4 (fun v1 n1 hp1 hq1 => ?_)
  obtain ⟨rfl, rfl, hl1, ho1⟩ := hq1
  show VLaw E p e s m below meth c b 7 [some (.ref b), none, none, none] [xr E 0] 201 hp1 _ _
  refine l_ast1 C dL_law_7 rfl ?_
  refine l_new C [.null, .null, .null, xi 0, xi 0, .null, xi 0, xi 0, xi 0, xi 0, xi 0, xi 0, xi 0, .null, .null, .null, xi 0, .null, .null, .null, xi 0, xi 0, .null, .null, .null, .null, .null, .null, .null, xi 0, .null] xc_X10 wK_L_10 wN_X10 wI_X10 df_X10 (by decide) (by decide) dL_law_8 ?_
  refine l_dup C dL_law_11 rfl ?_
  refine l_callI0 C rfl rfl (i_X10 E va_eq (fun a ha => (va_ne (by omega)).trans (hl1 a (by omega) ha))) ci_X10_init wM_L_12 rfl rfl (Nat.le_of_ble_eq_true rfl) (by decide) (by decide) (by decide) dL_law_12 (fun v2 n2 hp2 hq2 => ?_)
  obtain ⟨rfl, rfl, hl2⟩ := hq2
  show VLaw E p e s m below meth c b 15 [some (.ref b), some (xr E 0), none, none] [xr E 201] 220 hp2 _ _
  refine l_ast2 C dL_law_15 rfl ?_
  refine l_iconst C dL_law_16 ?_
  refine l_ist3 C dL_law_17 rfl ?_
  refine l_cg (hp' := xC E (mI 8)) (fun a ha => (hl2 a ha).symm) ?_
  exact k_loop C (L + 1) 0 (mI 8) (InR_mI 8) Rl_start (by omega) (by omega)
end BODY
